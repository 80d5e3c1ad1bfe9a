/-! ===== the run: the class: a frame begins, whole ===== -/
theorem h_begin (n : Nat) {Q : PO} {pc : Nat} {ls : ALs} {st : List AV} {σ : HS} {a b : Nat} : am_T (kX9_begin S1) MM Q pc ls st σ a b ↔ (kX9_begin S1 pc).2 MM Q (am_run (kX9_begin S1) MM Q n) ls st σ a b := am_go (gX9_begin S1) MM_mo n
def bgX (σ : HS) (b : Nat) (len al : Int32) : HS := sI (sI (sI (sI (sQ σ 1008 0 (some (10, b))) 1009 0 (gI σ 1111 b)) 1010 0 (gI σ 1004 0)) 1011 0 (gI σ 1004 0 + len - 1)) 1012 0 (if al = 1 then gI σ 1004 0 + len - 9 else 2147483647)
theorem c_begin {x m : HS} {b h : Nat} (hS : STc x m) (hN : v_nod x m) (ha : v_wai x m) (h6 : v_w6 x m) (hb : bsN m (gN x 10) = some b) (hh : gI m 37 b = nI h) (hq : gQ x 1101 b = some (3, h)) (hh2 : h < gN x 3) {Q : PO} (hQ : ∀ σ2, frm PFX (spW x b) σ2 → Q none (bgX σ2 b (nI (FL m b).length) (alN (gI m 34) h (gN x 3)))) : MM 69 [rW] x Q := by
  have hbl := bsN_lt m hb
  obtain ⟨-, ⟨k, k1, k2⟩, -⟩ := hS.2.2.1.2.2.2.2.2.2 b hbl
  rw [eX9_begin 12]
  simp only [am_run_s, bt, lf, am_in, am_ar, am_fit, am_ld, am_ct, Nat.reduceLT, Nat.reduceEqDiff, reduceIte, Nat.reduceAdd, Nat.reduceLeDiff, Nat.reduceSub, Bool.false_eq_true, if_true, if_false, ite_true, ite_false, List.length_cons, List.length_nil, Nat.zero_add, Nat.add_zero, and_true, true_and, true_or, or_true, and_self, Nat.le_refl, Nat.lt_irrefl, gI_sI, gL_sL, gQ_sQ, gI_sJ, gI_sL, gI_sQ, gL_sI, gL_sQ, gL_sJ, gQ_sI, gQ_sL, gQ_sJ, gN_sI, gN_sL, gN_sQ, gN_sJ, E_b2_0, E_cV_a, E_cV_b, E_c_0, E_getI_0, E_getR_0, E_jmp_0, E_jnull_0, E_jnull_1, E_jz_0, E_kk, E_ldR_a, E_ldR_b, E_putI_0, E_putR_0, E_rV_0, E_stR_0, am_cc, am_nl, am_ok, am_pop, am_rt, am_set, cC_1, cC_10, cC_9, rQ_1101, rR_1001, sN_1008, kX9_begin, kX9_begin_0, kX9_begin_1, am_run_z]
  refine c_first hS.1 hS.2.2.1.1 hS.2.2.1.2.2.1 ha hS.2.2.1.2.1 h6 ?_
  rw [hb]
  simp only [am_run_s, bt, lf, am_in, am_ar, am_fit, am_ld, am_ct, Nat.reduceLT, Nat.reduceEqDiff, reduceIte, Nat.reduceAdd, Nat.reduceLeDiff, Nat.reduceSub, Bool.false_eq_true, if_true, if_false, ite_true, ite_false, List.length_cons, List.length_nil, Nat.zero_add, Nat.add_zero, and_true, true_and, true_or, or_true, and_self, Nat.le_refl, Nat.lt_irrefl, gI_sI, gL_sL, gQ_sQ, gI_sJ, gI_sL, gI_sQ, gL_sI, gL_sQ, gL_sJ, gQ_sI, gQ_sL, gQ_sJ, gN_sI, gN_sL, gN_sQ, gN_sJ, E_b2_0, E_cV_a, E_cV_b, E_c_0, E_getI_0, E_getR_0, E_jmp_0, E_jnull_0, E_jnull_1, E_jz_0, E_kk, E_ldR_a, E_ldR_b, E_putI_0, E_putR_0, E_rV_0, E_stR_0, am_cc, am_nl, am_ok, am_pop, am_rt, am_set, cC_1, cC_10, cC_9, rQ_1101, rR_1001, sN_1008, kX9_begin, kX9_begin_0, kX9_begin_1, am_run_z, oW, Option.map_some]
  rw [s_stopW b x _ hbl]
  simp only [am_run_s, bt, lf, am_in, am_ar, am_fit, am_ld, am_ct, Nat.reduceLT, Nat.reduceEqDiff, reduceIte, Nat.reduceAdd, Nat.reduceLeDiff, Nat.reduceSub, Bool.false_eq_true, if_true, if_false, ite_true, ite_false, List.length_cons, List.length_nil, Nat.zero_add, Nat.add_zero, and_true, true_and, true_or, or_true, and_self, Nat.le_refl, Nat.lt_irrefl, gI_sI, gL_sL, gQ_sQ, gI_sJ, gI_sL, gI_sQ, gL_sI, gL_sQ, gL_sJ, gQ_sI, gQ_sL, gQ_sJ, gN_sI, gN_sL, gN_sQ, gN_sJ, E_b2_0, E_cV_a, E_cV_b, E_c_0, E_getI_0, E_getR_0, E_jmp_0, E_jnull_0, E_jnull_1, E_jz_0, E_kk, E_ldR_a, E_ldR_b, E_putI_0, E_putR_0, E_rV_0, E_stR_0, am_cc, am_nl, am_ok, am_pop, am_rt, am_set, cC_1, cC_10, cC_9, rQ_1101, rR_1001, sN_1008, kX9_begin, kX9_begin_0, kX9_begin_1, am_run_z]
  have f1 : frm (inL [1013, 1110]) x (spW x b) := by
    unfold spW
    by_cases q : gI x 1110 b = 0
    · rw [if_pos q]; exact frm.rf.si rfl
    · rw [if_neg q]; exact (frm.rf.si rfl).si rfl
  have hbl1 : b < gN (spW x b) 10 := by rw [f1.gn]; exact hbl
  have hkx : gI (spW x b) 1104 b = nI k := by rw [f1.gi rfl, (hS.2.2.1.1 b hbl).2.2.2.1]; exact k1
  refine c_build hbl1 k2 hkx (hS.2.2.2.2.2.2.2.2.cg f1.x rfl) (fun σ2 f2 r2 => ?_)
  simp only [am_run_s, bt, lf, am_in, am_ar, am_fit, am_ld, am_ct, Nat.reduceLT, Nat.reduceEqDiff, reduceIte, Nat.reduceAdd, Nat.reduceLeDiff, Nat.reduceSub, Bool.false_eq_true, if_true, if_false, ite_true, ite_false, List.length_cons, List.length_nil, Nat.zero_add, Nat.add_zero, and_true, true_and, true_or, or_true, and_self, Nat.le_refl, Nat.lt_irrefl, gI_sI, gL_sL, gQ_sQ, gI_sJ, gI_sL, gI_sQ, gL_sI, gL_sQ, gL_sJ, gQ_sI, gQ_sL, gQ_sJ, gN_sI, gN_sL, gN_sQ, gN_sJ, E_b2_0, E_cV_a, E_cV_b, E_c_0, E_getI_0, E_getR_0, E_jmp_0, E_jnull_0, E_jnull_1, E_jz_0, E_kk, E_ldR_a, E_ldR_b, E_putI_0, E_putR_0, E_rV_0, E_stR_0, am_cc, am_nl, am_ok, am_pop, am_rt, am_set, cC_1, cC_10, cC_9, rQ_1101, rR_1001, sN_1008, kX9_begin, kX9_begin_0, kX9_begin_1, am_run_z]
  have hQ := hQ σ2 f2
  have e1 : gI σ2 201 0 = nI (FL m b).length := by
    rw [r2.1]
    unfold FL plW
    rw [k1, nI_clamp (by omega), f1.gi (f := 1102) rfl, f1.gl, (hS.2.2.1.2.2.1.1 b hbl).1, hS.2.2.1.2.2.2.2.2.1.1 b hbl]
  have g2 : ∀ f i, PFX f = false → inL [1013, 1110] f = false → gI σ2 f i = gI x f i := fun f i y z => (f2.gi y).trans (f1.gi z)
  have hbl2 : b < gN σ2 10 := by rw [f2.gn]; exact hbl1
  have hn2 : gN σ2 3 = gN x 3 := by rw [f2.gn, f1.gn]
  have hq2 : gQ σ2 1101 b = some (3, h) := by rw [f2.gq, f1.gq]; exact hq
  have hh3 : h < gN σ2 3 := by rw [hn2]; exact hh2
  have n1 : gI σ2 702 0 = nI (gN x 3) := by rw [g2 _ _ rfl rfl]; exact hS.1.2.2.1
  have n2 : ∀ i, i < gN x 3 → gQ σ2 90 i = some (3, i) := fun i hi => by rw [f2.gq, f1.gq]; exact (hN i hi).1
  have n3 : ∀ i, i < gN x 3 → gI σ2 401 i = gI m 34 i := fun i hi => by rw [g2 _ _ rfl rfl]; exact (hN i hi).2.2.1
  unfold bgX at hQ
  have k10 : ¬ (1 : Int32) = 0 := by decide
  rcases alN_b (gI m 34) h (gN x 3) with q | q
  · rw [q, if_neg (by decide)] at hQ
    rw [h_begin 29]
    simp only [am_run_s, bt, lf, am_in, am_ar, am_fit, am_ld, am_ct, Nat.reduceLT, Nat.reduceEqDiff, reduceIte, Nat.reduceAdd, Nat.reduceLeDiff, Nat.reduceSub, Bool.false_eq_true, if_true, if_false, ite_true, ite_false, List.length_cons, List.length_nil, Nat.zero_add, Nat.add_zero, and_true, true_and, true_or, or_true, and_self, Nat.le_refl, Nat.lt_irrefl, gI_sI, gL_sL, gQ_sQ, gI_sJ, gI_sL, gI_sQ, gL_sI, gL_sQ, gL_sJ, gQ_sI, gQ_sL, gQ_sJ, gN_sI, gN_sL, gN_sQ, gN_sJ, E_b2_0, E_cV_a, E_cV_b, E_c_0, E_getI_0, E_getR_0, E_jmp_0, E_jnull_0, E_jnull_1, E_jz_0, E_kk, E_ldR_a, E_ldR_b, E_putI_0, E_putR_0, E_rV_0, E_stR_0, am_cc, am_nl, am_ok, am_pop, am_rt, am_set, cC_1, cC_10, cC_9, rQ_1101, rR_1001, sN_1008, kX9_begin, kX9_begin_0, kX9_begin_1, am_v, cC_10, hbl2, hq2, e1, hh3]
    refine c_alone (c := gI m 34) (n := gN x 3) (by simp only [gI_sI, gL_sL, gQ_sQ, gI_sJ, gI_sL, gI_sQ, gL_sI, gL_sQ, gL_sJ, gQ_sI, gQ_sL, gQ_sJ, gN_sI, gN_sL, gN_sQ, gN_sJ, Nat.reduceLT, Nat.reduceEqDiff, reduceIte, Nat.reduceAdd, Nat.reduceLeDiff, Nat.reduceSub, Bool.false_eq_true, if_true, if_false, ite_true, ite_false, List.length_cons, List.length_nil, Nat.zero_add, Nat.add_zero, and_true, true_and, true_or, or_true, and_self, Nat.le_refl, Nat.lt_irrefl]; exact hn2) hS.1.1 (by simp only [gI_sI, gL_sL, gQ_sQ, gI_sJ, gI_sL, gI_sQ, gL_sI, gL_sQ, gL_sJ, gQ_sI, gQ_sL, gQ_sJ, gN_sI, gN_sL, gN_sQ, gN_sJ, Nat.reduceLT, Nat.reduceEqDiff, reduceIte, Nat.reduceAdd, Nat.reduceLeDiff, Nat.reduceSub, Bool.false_eq_true, if_true, if_false, ite_true, ite_false, List.length_cons, List.length_nil, Nat.zero_add, Nat.add_zero, and_true, true_and, true_or, or_true, and_self, Nat.le_refl, Nat.lt_irrefl]; exact n1) (fun i hi => by simp only [gI_sI, gL_sL, gQ_sQ, gI_sJ, gI_sL, gI_sQ, gL_sI, gL_sQ, gL_sJ, gQ_sI, gQ_sL, gQ_sJ, gN_sI, gN_sL, gN_sQ, gN_sJ, Nat.reduceLT, Nat.reduceEqDiff, reduceIte, Nat.reduceAdd, Nat.reduceLeDiff, Nat.reduceSub, Bool.false_eq_true, if_true, if_false, ite_true, ite_false, List.length_cons, List.length_nil, Nat.zero_add, Nat.add_zero, and_true, true_and, true_or, or_true, and_self, Nat.le_refl, Nat.lt_irrefl]; exact n2 i hi) (fun i hi => by simp only [gI_sI, gL_sL, gQ_sQ, gI_sJ, gI_sL, gI_sQ, gL_sI, gL_sQ, gL_sJ, gQ_sI, gQ_sL, gQ_sJ, gN_sI, gN_sL, gN_sQ, gN_sJ, Nat.reduceLT, Nat.reduceEqDiff, reduceIte, Nat.reduceAdd, Nat.reduceLeDiff, Nat.reduceSub, Bool.false_eq_true, if_true, if_false, ite_true, ite_false, List.length_cons, List.length_nil, Nat.zero_add, Nat.add_zero, and_true, true_and, true_or, or_true, and_self, Nat.le_refl, Nat.lt_irrefl]; exact n3 i hi) hh2 ?_
    rw [q]
    simp only [am_run_s, bt, lf, am_in, am_ar, am_fit, am_ld, am_ct, Nat.reduceLT, Nat.reduceEqDiff, reduceIte, Nat.reduceAdd, Nat.reduceLeDiff, Nat.reduceSub, Bool.false_eq_true, if_true, if_false, ite_true, ite_false, List.length_cons, List.length_nil, Nat.zero_add, Nat.add_zero, and_true, true_and, true_or, or_true, and_self, Nat.le_refl, Nat.lt_irrefl, gI_sI, gL_sL, gQ_sQ, gI_sJ, gI_sL, gI_sQ, gL_sI, gL_sQ, gL_sJ, gQ_sI, gQ_sL, gQ_sJ, gN_sI, gN_sL, gN_sQ, gN_sJ, E_b2_0, E_cV_a, E_cV_b, E_c_0, E_getI_0, E_getR_0, E_jmp_0, E_jnull_0, E_jnull_1, E_jz_0, E_kk, E_ldR_a, E_ldR_b, E_putI_0, E_putR_0, E_rV_0, E_stR_0, am_cc, am_nl, am_ok, am_pop, am_rt, am_set, cC_1, cC_10, cC_9, rQ_1101, rR_1001, sN_1008, kX9_begin, kX9_begin_0, kX9_begin_1, e1]
    exact hQ
  · rw [q, if_pos rfl] at hQ
    rw [h_begin 37]
    simp only [am_run_s, bt, lf, am_in, am_ar, am_fit, am_ld, am_ct, Nat.reduceLT, Nat.reduceEqDiff, reduceIte, Nat.reduceAdd, Nat.reduceLeDiff, Nat.reduceSub, Bool.false_eq_true, if_true, if_false, ite_true, ite_false, List.length_cons, List.length_nil, Nat.zero_add, Nat.add_zero, and_true, true_and, true_or, or_true, and_self, Nat.le_refl, Nat.lt_irrefl, gI_sI, gL_sL, gQ_sQ, gI_sJ, gI_sL, gI_sQ, gL_sI, gL_sQ, gL_sJ, gQ_sI, gQ_sL, gQ_sJ, gN_sI, gN_sL, gN_sQ, gN_sJ, E_b2_0, E_cV_a, E_cV_b, E_c_0, E_getI_0, E_getR_0, E_jmp_0, E_jnull_0, E_jnull_1, E_jz_0, E_kk, E_ldR_a, E_ldR_b, E_putI_0, E_putR_0, E_rV_0, E_stR_0, am_cc, am_nl, am_ok, am_pop, am_rt, am_set, cC_1, cC_10, cC_9, rQ_1101, rR_1001, sN_1008, kX9_begin, kX9_begin_0, kX9_begin_1, am_v, cC_10, hbl2, hq2, e1, hh3]
    refine c_alone (c := gI m 34) (n := gN x 3) (by simp only [gI_sI, gL_sL, gQ_sQ, gI_sJ, gI_sL, gI_sQ, gL_sI, gL_sQ, gL_sJ, gQ_sI, gQ_sL, gQ_sJ, gN_sI, gN_sL, gN_sQ, gN_sJ, Nat.reduceLT, Nat.reduceEqDiff, reduceIte, Nat.reduceAdd, Nat.reduceLeDiff, Nat.reduceSub, Bool.false_eq_true, if_true, if_false, ite_true, ite_false, List.length_cons, List.length_nil, Nat.zero_add, Nat.add_zero, and_true, true_and, true_or, or_true, and_self, Nat.le_refl, Nat.lt_irrefl]; exact hn2) hS.1.1 (by simp only [gI_sI, gL_sL, gQ_sQ, gI_sJ, gI_sL, gI_sQ, gL_sI, gL_sQ, gL_sJ, gQ_sI, gQ_sL, gQ_sJ, gN_sI, gN_sL, gN_sQ, gN_sJ, Nat.reduceLT, Nat.reduceEqDiff, reduceIte, Nat.reduceAdd, Nat.reduceLeDiff, Nat.reduceSub, Bool.false_eq_true, if_true, if_false, ite_true, ite_false, List.length_cons, List.length_nil, Nat.zero_add, Nat.add_zero, and_true, true_and, true_or, or_true, and_self, Nat.le_refl, Nat.lt_irrefl]; exact n1) (fun i hi => by simp only [gI_sI, gL_sL, gQ_sQ, gI_sJ, gI_sL, gI_sQ, gL_sI, gL_sQ, gL_sJ, gQ_sI, gQ_sL, gQ_sJ, gN_sI, gN_sL, gN_sQ, gN_sJ, Nat.reduceLT, Nat.reduceEqDiff, reduceIte, Nat.reduceAdd, Nat.reduceLeDiff, Nat.reduceSub, Bool.false_eq_true, if_true, if_false, ite_true, ite_false, List.length_cons, List.length_nil, Nat.zero_add, Nat.add_zero, and_true, true_and, true_or, or_true, and_self, Nat.le_refl, Nat.lt_irrefl]; exact n2 i hi) (fun i hi => by simp only [gI_sI, gL_sL, gQ_sQ, gI_sJ, gI_sL, gI_sQ, gL_sI, gL_sQ, gL_sJ, gQ_sI, gQ_sL, gQ_sJ, gN_sI, gN_sL, gN_sQ, gN_sJ, Nat.reduceLT, Nat.reduceEqDiff, reduceIte, Nat.reduceAdd, Nat.reduceLeDiff, Nat.reduceSub, Bool.false_eq_true, if_true, if_false, ite_true, ite_false, List.length_cons, List.length_nil, Nat.zero_add, Nat.add_zero, and_true, true_and, true_or, or_true, and_self, Nat.le_refl, Nat.lt_irrefl]; exact n3 i hi) hh2 ?_
    rw [q]
    simp only [am_run_s, bt, lf, am_in, am_ar, am_fit, am_ld, am_ct, Nat.reduceLT, Nat.reduceEqDiff, reduceIte, Nat.reduceAdd, Nat.reduceLeDiff, Nat.reduceSub, Bool.false_eq_true, if_true, if_false, ite_true, ite_false, List.length_cons, List.length_nil, Nat.zero_add, Nat.add_zero, and_true, true_and, true_or, or_true, and_self, Nat.le_refl, Nat.lt_irrefl, gI_sI, gL_sL, gQ_sQ, gI_sJ, gI_sL, gI_sQ, gL_sI, gL_sQ, gL_sJ, gQ_sI, gQ_sL, gQ_sJ, gN_sI, gN_sL, gN_sQ, gN_sJ, E_b2_0, E_cV_a, E_cV_b, E_c_0, E_getI_0, E_getR_0, E_jmp_0, E_jnull_0, E_jnull_1, E_jz_0, E_kk, E_ldR_a, E_ldR_b, E_putI_0, E_putR_0, E_rV_0, E_stR_0, am_cc, am_nl, am_ok, am_pop, am_rt, am_set, cC_1, cC_10, cC_9, rQ_1101, rR_1001, sN_1008, kX9_begin, kX9_begin_0, kX9_begin_1, e1, k10]
    exact hQ
def PB3 (f : Nat) : Bool := PFX f || inL [1013, 1110, 1009, 1010, 1011, 1012] f
theorem PB3_f (f : Nat) (h : PB3 f = false) : PFX f = false := by
  unfold PB3 at h
  rw [Bool.or_eq_false_iff] at h
  exact h.1
theorem PXR_B3 (f : Nat) (h : PXR f = false) : PB3 f = false := by
  unfold PXR at h
  rw [Bool.or_eq_false_iff] at h
  unfold PB3
  rw [Bool.or_eq_false_iff]
  exact ⟨h.1, inL_mo rfl f h.2⟩
def PBG : Nat → Bool := inL [1344, 1345, 1346, 1347, 72, 1350]
theorem bgM_f (m : HS) (b h n : Nat) : frm PBG m (bgM m b h n) := (((((frm.rf.si rfl).si rfl).si rfl).si rfl).si rfl).si rfl
theorem bgM_g (m : HS) (b h n : Nat) : frm PZR m (bgM m b h n) := (((((frm.rf.si rfl).si rfl).si rfl).si rfl).si rfl).si rfl
theorem sub_9 (a : Int32) : a - 9 = a - 1 - 8 := by
  rw [Int32.sub_eq_add_neg, Int32.sub_eq_add_neg, Int32.sub_eq_add_neg, Int32.add_assoc]
  rfl
theorem nI_m1' (n : Nat) (h : 0 < n) : nI n - 1 = nI (n - 1) := by
  obtain ⟨k, rfl⟩ : ∃ k, n = k + 1 := ⟨n - 1, by omega⟩
  exact nI_m1 k
theorem ph3 {K : Nat} (hK : K ≤ 512) {σ m : HS} (hS : STc σ m) (hD : DY K σ m) (hC : v_ca2 σ m) (hO : v_soo σ) {Q : PO} (hX : ∀ σ' m', frx PXR σ σ' → frm PZR m m' → gI m' 1342 0 = gI m 1342 0 → Rp (kX12_goes S1) 52 (lsG (gN σ 3)) m 74 (lsG (gN σ 3)) m' → STc σ' m' → DY K σ' m' → v_ca2 σ' m' → v_soo σ' → am_T (kX9_passTick S1) MM Q 55 [some rW] [] σ' 0 0) : am_T (kX9_passTick S1) MM Q 26 [some rW] [] σ 0 0 := by
  have hD' := hD
  obtain ⟨d1, d2, d3, d4, d5, d6, d7, d8, d9, d10⟩ := hD
  obtain ⟨w1, w2, w3, w4, w5, w6⟩ := d7
  obtain ⟨t, t1, t2, t3⟩ := d5
  have w4' : gI σ 1013 0 = nI (wts m (gN σ 10)) := w4
  have w6' : v_w6 σ m := w6
  have hle : wts m (gN σ 10) ≤ gN σ 10 := cntP_le _
  have h24 := hS.1.2.1
  have h10 := hS.1.1
  have h1m : ((-1 : Int32) < 0) = True := by decide
  rcases d8 with ⟨c1, c2⟩ | ⟨w, h, a1, a2, a3, -⟩
  · have hu : gI m 1344 0 < 0 := by rw [c2]; decide
    by_cases q0 : wts m (gN σ 10) = 0
    · have hb : bsN m (gN σ 10) = none := bsN_n (fun i hi => by
        rcases (d3.1 i hi).2.1 with z | z
        · exact z
        · exact absurd z (cntP_z q0 i hi))
      rw [q0] at w4'
      have rp : Rp (kX12_goes S1) 52 (lsG (gN σ 3)) m 74 (lsG (gN σ 3)) m := by
        by_cases z : gI m 1342 0 < gI m 1343 0
        · exact go_b0 (Or.inr z)
        · exact go_b1 hu z (r_none hS.1.2.2.2.2.2 h24 hS.wf hb)
      rw [h_pass 5]
      simp only [am_run_s, bt, lf, am_in, am_ar, am_fit, am_ld, am_ct, Nat.reduceLT, Nat.reduceEqDiff, reduceIte, Nat.reduceAdd, Nat.reduceLeDiff, Nat.reduceSub, Bool.false_eq_true, if_true, if_false, ite_true, ite_false, List.length_cons, List.length_nil, Nat.zero_add, Nat.add_zero, and_true, true_and, true_or, or_true, and_self, Nat.le_refl, Nat.lt_irrefl, gI_sI, gL_sL, gQ_sQ, gI_sJ, gI_sL, gI_sQ, gL_sI, gL_sQ, gL_sJ, gQ_sI, gQ_sL, gQ_sJ, gN_sI, gN_sL, gN_sQ, gN_sJ, E_b2_0, E_cV_a, E_cV_b, E_c_0, E_dup_0, E_dup_1, E_getI_0, E_getR_0, E_je_0, E_jl_0, E_jmp_0, E_jnull_0, E_jnull_1, E_jp_0, E_jz_0, E_kk, E_ldR_a, E_ldR_b, E_putI_0, E_rV_0, am_cc, am_pop, am_rt, cC_4, cC_9, rQ_1008, rR_1002, kX9_passTick, kX9_passTick_0, kX9_passTick_1, am_run_z, c1, w4', nI_z0]
      exact hX σ m frx.rf frm.rf rfl rp hS hD' hC hO
    have hp : 0 < nI (wts m (gN σ 10)) := nI_gt0 (by omega) (by omega)
    by_cases q1 : gI σ 1004 0 < gI σ 1005 0
    · rw [h_pass 10]
      simp only [am_run_s, bt, lf, am_in, am_ar, am_fit, am_ld, am_ct, Nat.reduceLT, Nat.reduceEqDiff, reduceIte, Nat.reduceAdd, Nat.reduceLeDiff, Nat.reduceSub, Bool.false_eq_true, if_true, if_false, ite_true, ite_false, List.length_cons, List.length_nil, Nat.zero_add, Nat.add_zero, and_true, true_and, true_or, or_true, and_self, Nat.le_refl, Nat.lt_irrefl, gI_sI, gL_sL, gQ_sQ, gI_sJ, gI_sL, gI_sQ, gL_sI, gL_sQ, gL_sJ, gQ_sI, gQ_sL, gQ_sJ, gN_sI, gN_sL, gN_sQ, gN_sJ, E_b2_0, E_cV_a, E_cV_b, E_c_0, E_dup_0, E_dup_1, E_getI_0, E_getR_0, E_je_0, E_jl_0, E_jmp_0, E_jnull_0, E_jnull_1, E_jp_0, E_jz_0, E_kk, E_ldR_a, E_ldR_b, E_putI_0, E_rV_0, am_cc, am_pop, am_rt, cC_4, cC_9, rQ_1008, rR_1002, kX9_passTick, kX9_passTick_0, kX9_passTick_1, am_run_z, c1, w4', hp, q1]
      refine hX σ m frx.rf frm.rf rfl (go_b0 (Or.inr ?_)) hS hD' hC hO
      rw [t2, ← w1, ← t1]; exact q1
    · cases hb : bsN m (gN σ 10) with
      | none =>
        exfalso
        have : ∀ n, n ≤ gN σ 10 → bsN m n = none → ∀ i, i < n → gI m 72 i = 0 := by
          intro n
          induction n with
          | zero => intro _ _ i hi; exact absurd hi (by omega)
          | succ n ih =>
            intro hn he i hi
            rw [bsN_s] at he
            by_cases q : ¬ gI m 72 n = 0 ∧ gI m 34 (gI m 37 n).toNatClampNeg < 256
            · rw [if_pos q] at he
              cases e2 : bsN m n with
              | none => rw [e2] at he; cases he
              | some c =>
                rw [e2] at he
                dsimp only at he
                split at he <;> cases he
            · rw [if_neg q] at he
              by_cases e : i = n
              · subst e
                obtain ⟨h, y1, y2, y3⟩ := hS.2.2.1.2.1 i (by omega)
                by_cases z : gI m 72 i = 0
                · exact z
                · refine absurd ⟨z, ?_⟩ q
                  rw [y3, nI_clamp (by omega)]
                  exact Decidable.not_not.mp (fun y => z (w6 i (by omega) h y3 (by omega) y))
              · exact ih (by omega) he i (by omega)
        have h0 := this _ (Nat.le_refl _) hb
        refine q0 ?_
        have e0 : wts m (gN σ 10) = cntP (fun _ => False) (fun _ => inferInstance) (gN σ 10) := cntP_congr (fun i hi => by
          rw [h0 i hi]
          exact ⟨fun z => absurd z (by decide), fun z => z.elim⟩)
        have e1 : ∀ n, cntP (fun _ => False) (fun _ => inferInstance) n = 0 := by
          intro n
          induction n with
          | zero => exact cntP_0 _ _
          | succ n ih => rw [cntP_s, ih, if_neg (fun z => z)]
        rw [e0, e1]
      | some b =>
        have hbl := bsN_lt m hb
        obtain ⟨h, y1, y2, y3⟩ := hS.2.2.1.2.1 b hbl
        obtain ⟨hw0, hon⟩ := bsN_w hb
        rw [y3, nI_clamp (by omega)] at hon
        obtain ⟨-, ⟨kk, k1, k2⟩, -⟩ := hS.2.2.1.2.2.2.2.2.2 b hbl
        have rp : Rp (kX12_goes S1) 52 (lsG (gN σ 3)) m 74 (lsG (gN σ 3)) (bgM m b h (gN σ 3)) := go_b1 hu (by rw [t2, ← w1, ← t1]; exact q1) (r_begins hS.1.2.2.2.2.2 h24 hS.1.2.2.2.1 h10 hS.wf hb k1 k2 y3 (by omega))
        obtain ⟨b1, b2, b3⟩ := d3.1 b hbl
        have hw1 : gI m 72 b = 1 := b2.resolve_left hw0
        rw [h_pass 12]
        simp only [am_run_s, bt, lf, am_in, am_ar, am_fit, am_ld, am_ct, Nat.reduceLT, Nat.reduceEqDiff, reduceIte, Nat.reduceAdd, Nat.reduceLeDiff, Nat.reduceSub, Bool.false_eq_true, if_true, if_false, ite_true, ite_false, List.length_cons, List.length_nil, Nat.zero_add, Nat.add_zero, and_true, true_and, true_or, or_true, and_self, Nat.le_refl, Nat.lt_irrefl, gI_sI, gL_sL, gQ_sQ, gI_sJ, gI_sL, gI_sQ, gL_sI, gL_sQ, gL_sJ, gQ_sI, gQ_sL, gQ_sJ, gN_sI, gN_sL, gN_sQ, gN_sJ, E_b2_0, E_cV_a, E_cV_b, E_c_0, E_dup_0, E_dup_1, E_getI_0, E_getR_0, E_je_0, E_jl_0, E_jmp_0, E_jnull_0, E_jnull_1, E_jp_0, E_jz_0, E_kk, E_ldR_a, E_ldR_b, E_putI_0, E_rV_0, am_cc, am_pop, am_rt, cC_4, cC_9, rQ_1008, rR_1002, kX9_passTick, kX9_passTick_0, kX9_passTick_1, am_run_z, c1, w4', hp, q1]
        refine c_begin hS d1 d3 w6' hb y3 y2 y1 (fun σ2 f2 => ?_)
        simp only [am_run_s, bt, lf, am_in, am_ar, am_fit, am_ld, am_ct, Nat.reduceLT, Nat.reduceEqDiff, reduceIte, Nat.reduceAdd, Nat.reduceLeDiff, Nat.reduceSub, Bool.false_eq_true, if_true, if_false, ite_true, ite_false, List.length_cons, List.length_nil, Nat.zero_add, Nat.add_zero, and_true, true_and, true_or, or_true, and_self, Nat.le_refl, Nat.lt_irrefl, gI_sI, gL_sL, gQ_sQ, gI_sJ, gI_sL, gI_sQ, gL_sI, gL_sQ, gL_sJ, gQ_sI, gQ_sL, gQ_sJ, gN_sI, gN_sL, gN_sQ, gN_sJ, E_b2_0, E_cV_a, E_cV_b, E_c_0, E_dup_0, E_dup_1, E_getI_0, E_getR_0, E_je_0, E_jl_0, E_jmp_0, E_jnull_0, E_jnull_1, E_jp_0, E_jz_0, E_kk, E_ldR_a, E_ldR_b, E_putI_0, E_rV_0, am_cc, am_pop, am_rt, cC_4, cC_9, rQ_1008, rR_1002, kX9_passTick, kX9_passTick_0, kX9_passTick_1, am_run_z]
        have hwx : ¬ gI σ 1110 b = 0 := by rw [b1]; exact hw0
        have es : spW σ b = sI (sI σ 1013 0 (gI σ 1013 0 - 1)) 1110 b 0 := by
          unfold spW; rw [if_neg hwx]
        have f1 : frm PB3 σ (spW σ b) := by rw [es]; exact (frm.rf.si rfl).si rfl
        have f3 : frm PB3 σ σ2 := f1.tr (f2.mo PB3_f)
        have e4 : gI σ2 1110 = gI (spW σ b) 1110 := funext (fun i => f2.gi rfl)
        have e5 : gI σ2 1013 0 = gI (spW σ b) 1013 0 := f2.gi rfl
        have e6 : gI σ2 1111 = gI σ 1111 := funext (fun i => f3.gi rfl)
        have e7 : gI σ2 1004 0 = gI σ 1004 0 := f3.gi rfl
        have fx : frx PB3 σ (bgX σ2 b (nI (FL m b).length) (alN (gI m 34) h (gN σ 3))) := ((((f3.x.sq).si rfl).si rfl).si rfl).si rfl
        have fX := fx.mo PXR_B3
        have g := bgM_f m b h (gN σ 3)
        have gX := bgM_g m b h (gN σ 3)
        have gn : gN (bgX σ2 b (nI (FL m b).length) (alN (gI m 34) h (gN σ 3))) 10 = gN σ 10 := fx.gn 10
        have ew : ∀ i, gI (bgX σ2 b (nI (FL m b).length) (alN (gI m 34) h (gN σ 3))) 1110 i = if i = b then 0 else gI σ 1110 i := by
          intro i
          have : gI (bgX σ2 b (nI (FL m b).length) (alN (gI m 34) h (gN σ 3))) 1110 i = gI σ2 1110 i := rfl
          rw [this, e4, es]
          simp only [gI_sI, gL_sL, gQ_sQ, gI_sJ, gI_sL, gI_sQ, gL_sI, gL_sQ, gL_sJ, gQ_sI, gQ_sL, gQ_sJ, gN_sI, gN_sL, gN_sQ, gN_sJ, Nat.reduceLT, Nat.reduceEqDiff, reduceIte, Nat.reduceAdd, Nat.reduceLeDiff, Nat.reduceSub, Bool.false_eq_true, if_true, if_false, ite_true, ite_false, List.length_cons, List.length_nil, Nat.zero_add, Nat.add_zero, and_true, true_and, true_or, or_true, and_self, Nat.le_refl, Nat.lt_irrefl]
        have em : ∀ i, gI (bgM m b h (gN σ 3)) 72 i = if i = b then 0 else gI m 72 i := by
          intro i
          unfold bgM bg0
          simp only [gI_sI, gL_sL, gQ_sQ, gI_sJ, gI_sL, gI_sQ, gL_sI, gL_sQ, gL_sJ, gQ_sI, gQ_sL, gQ_sJ, gN_sI, gN_sL, gN_sQ, gN_sJ, Nat.reduceLT, Nat.reduceEqDiff, reduceIte, Nat.reduceAdd, Nat.reduceLeDiff, Nat.reduceSub, Bool.false_eq_true, if_true, if_false, ite_true, ite_false, List.length_cons, List.length_nil, Nat.zero_add, Nat.add_zero, and_true, true_and, true_or, or_true, and_self, Nat.le_refl, Nat.lt_irrefl]
        have ec : wts m (gN σ 10) = wts (bgM m b h (gN σ 3)) (gN σ 10) + 1 := by
          refine cntP_fl hbl hw1 ?_ (fun i hi e => ?_)
          · rw [em, if_pos rfl]; decide
          · rw [em, if_neg e]
        refine hX _ _ fX gX (g.gi rfl) rp (hS.cg fX gX) ⟨d1.cg fx g rfl rfl, d2.cg fx g rfl rfl, ⟨fun i hi => ?_, fun i hi => ?_⟩, d4.cg fx g rfl rfl, ⟨t, by rw [fx.gi rfl]; exact t1, by rw [g.gi rfl]; exact t2, t3⟩, d6.cg fx g rfl rfl, ⟨?_, ?_, ?_, ?_, ?_, ?_⟩, Or.inr ⟨b, h, ?_, ?_, ?_, ?_, ?_, ?_, ?_, ?_, ?_, ?_, ?_⟩, d9.cg fx g rfl rfl, d10.cg fx g rfl rfl⟩ (hC.cg fx g rfl rfl) (hO.cg fx rfl)
        · rw [gn] at hi
          obtain ⟨z1, z2, z3⟩ := d3.1 i hi
          rw [ew, em]
          by_cases e : i = b
          · rw [if_pos e, if_pos e]
            exact ⟨rfl, Or.inl rfl, fun z => absurd z (by decide)⟩
          · rw [if_neg e, if_neg e]
            refine ⟨z1, z2, fun z => ?_⟩
            have y := z3 z
            rw [fx.gi rfl, g.gi rfl]
            exact y
        · rw [gn] at hi
          rw [em, if_neg (by omega)]
          exact d3.2 i hi
        · rw [fx.gi rfl, g.gi rfl]; exact w1
        · rw [fx.gi rfl, g.gi rfl]; exact w2
        · rw [fx.gi rfl, g.gi rfl]; exact w3
        · rw [gn]
          have : gI (bgX σ2 b (nI (FL m b).length) (alN (gI m 34) h (gN σ 3))) 1013 0 = gI σ2 1013 0 := rfl
          rw [this, e5, es]
          simp only [gI_sI, gL_sL, gQ_sQ, gI_sJ, gI_sL, gI_sQ, gL_sI, gL_sQ, gL_sJ, gQ_sI, gQ_sL, gQ_sJ, gN_sI, gN_sL, gN_sQ, gN_sJ, Nat.reduceLT, Nat.reduceEqDiff, reduceIte, Nat.reduceAdd, Nat.reduceLeDiff, Nat.reduceSub, Bool.false_eq_true, if_true, if_false, ite_true, ite_false, List.length_cons, List.length_nil, Nat.zero_add, Nat.add_zero, and_true, true_and, true_or, or_true, and_self, Nat.le_refl, Nat.lt_irrefl]
          rw [w4', ec, nI_m1]
          rfl
        · have e : gI (bgM m b h (gN σ 3)) 34 = gI m 34 := funext (fun i => g.gi rfl)
          rw [fx.gi rfl, e, fx.gn]; exact w5
        · intro i hi h' z1 z2 z3
          rw [gn] at hi
          rw [g.gi rfl] at z1 z3
          rw [em]
          by_cases e : i = b
          · rw [if_pos e]
          · rw [if_neg e]; exact w6 i hi h' z1 z2 z3
        · rw [gn]; exact hbl
        · unfold bgX; simp only [gI_sI, gL_sL, gQ_sQ, gI_sJ, gI_sL, gI_sQ, gL_sI, gL_sQ, gL_sJ, gQ_sI, gQ_sL, gQ_sJ, gN_sI, gN_sL, gN_sQ, gN_sJ, Nat.reduceLT, Nat.reduceEqDiff, reduceIte, Nat.reduceAdd, Nat.reduceLeDiff, Nat.reduceSub, Bool.false_eq_true, if_true, if_false, ite_true, ite_false, List.length_cons, List.length_nil, Nat.zero_add, Nat.add_zero, and_true, true_and, true_or, or_true, and_self, Nat.le_refl, Nat.lt_irrefl]
        · unfold bgM bg0; simp only [gI_sI, gL_sL, gQ_sQ, gI_sJ, gI_sL, gI_sQ, gL_sI, gL_sQ, gL_sJ, gQ_sI, gQ_sL, gQ_sJ, gN_sI, gN_sL, gN_sQ, gN_sJ, Nat.reduceLT, Nat.reduceEqDiff, reduceIte, Nat.reduceAdd, Nat.reduceLeDiff, Nat.reduceSub, Bool.false_eq_true, if_true, if_false, ite_true, ite_false, List.length_cons, List.length_nil, Nat.zero_add, Nat.add_zero, and_true, true_and, true_or, or_true, and_self, Nat.le_refl, Nat.lt_irrefl]
        · unfold bgX bgM bg0; simp only [gI_sI, gL_sL, gQ_sQ, gI_sJ, gI_sL, gI_sQ, gL_sI, gL_sQ, gL_sJ, gQ_sI, gQ_sL, gQ_sJ, gN_sI, gN_sL, gN_sQ, gN_sJ, Nat.reduceLT, Nat.reduceEqDiff, reduceIte, Nat.reduceAdd, Nat.reduceLeDiff, Nat.reduceSub, Bool.false_eq_true, if_true, if_false, ite_true, ite_false, List.length_cons, List.length_nil, Nat.zero_add, Nat.add_zero, and_true, true_and, true_or, or_true, and_self, Nat.le_refl, Nat.lt_irrefl]; rw [e6]; exact b3 hw1
        · unfold bgX bgM bg0; simp only [gI_sI, gL_sL, gQ_sQ, gI_sJ, gI_sL, gI_sQ, gL_sI, gL_sQ, gL_sJ, gQ_sI, gQ_sL, gQ_sJ, gN_sI, gN_sL, gN_sQ, gN_sJ, Nat.reduceLT, Nat.reduceEqDiff, reduceIte, Nat.reduceAdd, Nat.reduceLeDiff, Nat.reduceSub, Bool.false_eq_true, if_true, if_false, ite_true, ite_false, List.length_cons, List.length_nil, Nat.zero_add, Nat.add_zero, and_true, true_and, true_or, or_true, and_self, Nat.le_refl, Nat.lt_irrefl]; rw [e7, t1, t2]
        · unfold bgX bgM bg0; simp only [gI_sI, gL_sL, gQ_sQ, gI_sJ, gI_sL, gI_sQ, gL_sI, gL_sQ, gL_sJ, gQ_sI, gQ_sL, gQ_sJ, gN_sI, gN_sL, gN_sQ, gN_sJ, Nat.reduceLT, Nat.reduceEqDiff, reduceIte, Nat.reduceAdd, Nat.reduceLeDiff, Nat.reduceSub, Bool.false_eq_true, if_true, if_false, ite_true, ite_false, List.length_cons, List.length_nil, Nat.zero_add, Nat.add_zero, and_true, true_and, true_or, or_true, and_self, Nat.le_refl, Nat.lt_irrefl]; rw [e7, t1, t2]
        · unfold bgM bg0; simp only [gI_sI, gL_sL, gQ_sQ, gI_sJ, gI_sL, gI_sQ, gL_sI, gL_sQ, gL_sJ, gQ_sI, gQ_sL, gQ_sJ, gN_sI, gN_sL, gN_sQ, gN_sJ, Nat.reduceLT, Nat.reduceEqDiff, reduceIte, Nat.reduceAdd, Nat.reduceLeDiff, Nat.reduceSub, Bool.false_eq_true, if_true, if_false, ite_true, ite_false, List.length_cons, List.length_nil, Nat.zero_add, Nat.add_zero, and_true, true_and, true_or, or_true, and_self, Nat.le_refl, Nat.lt_irrefl]; exact alN_b _ _ _
        · unfold bgX bgM bg0; simp only [gI_sI, gL_sL, gQ_sQ, gI_sJ, gI_sL, gI_sQ, gL_sI, gL_sQ, gL_sJ, gQ_sI, gQ_sL, gQ_sJ, gN_sI, gN_sL, gN_sQ, gN_sJ, Nat.reduceLT, Nat.reduceEqDiff, reduceIte, Nat.reduceAdd, Nat.reduceLeDiff, Nat.reduceSub, Bool.false_eq_true, if_true, if_false, ite_true, ite_false, List.length_cons, List.length_nil, Nat.zero_add, Nat.add_zero, and_true, true_and, true_or, or_true, and_self, Nat.le_refl, Nat.lt_irrefl]; rw [e7, t1, t2, sub_9]
        · rw [g.gi rfl]; exact y3
        · omega
        · rw [g.gi rfl]; exact hon
  · have hu : ¬ gI m 1344 0 < 0 := by rw [a3]; exact nI_pos (by omega)
    rw [h_pass 2]
    simp only [am_run_s, bt, lf, am_in, am_ar, am_fit, am_ld, am_ct, Nat.reduceLT, Nat.reduceEqDiff, reduceIte, Nat.reduceAdd, Nat.reduceLeDiff, Nat.reduceSub, Bool.false_eq_true, if_true, if_false, ite_true, ite_false, List.length_cons, List.length_nil, Nat.zero_add, Nat.add_zero, and_true, true_and, true_or, or_true, and_self, Nat.le_refl, Nat.lt_irrefl, gI_sI, gL_sL, gQ_sQ, gI_sJ, gI_sL, gI_sQ, gL_sI, gL_sQ, gL_sJ, gQ_sI, gQ_sL, gQ_sJ, gN_sI, gN_sL, gN_sQ, gN_sJ, E_b2_0, E_cV_a, E_cV_b, E_c_0, E_dup_0, E_dup_1, E_getI_0, E_getR_0, E_je_0, E_jl_0, E_jmp_0, E_jnull_0, E_jnull_1, E_jp_0, E_jz_0, E_kk, E_ldR_a, E_ldR_b, E_putI_0, E_rV_0, am_cc, am_pop, am_rt, cC_4, cC_9, rQ_1008, rR_1002, kX9_passTick, kX9_passTick_0, kX9_passTick_1, am_run_z, a2]
    exact hX σ m frx.rf frm.rf rfl (go_b0 (Or.inl hu)) hS hD' hC hO
