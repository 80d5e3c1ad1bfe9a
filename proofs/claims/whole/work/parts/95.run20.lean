/-! ===== the run: the class: the log, silence, blame ===== -/
def PLX : Nat → Bool := inL [304, 305, 26, 27, 28, 29]
theorem nts_w (m : HS) (tm : Int32) (i : Nat) : gI (nts m tm) 55 i = shf (gI m 55) (gI m 1344 0) i := by
  unfold nts; simp only [gI_sI, gL_sL, gQ_sQ, gI_sJ, gI_sL, gI_sQ, gL_sI, gL_sQ, gL_sJ, gQ_sI, gQ_sL, gQ_sJ, gN_sI, gN_sL, gN_sQ, gN_sJ, Nat.reduceLT, Nat.reduceEqDiff, reduceIte, Nat.reduceAdd, Nat.reduceLeDiff, Nat.reduceSub, Bool.false_eq_true, if_true, if_false, ite_true, ite_false, List.length_cons, List.length_nil, Nat.zero_add, Nat.add_zero, and_true, true_and, true_or, or_true, and_self, Nat.le_refl, Nat.lt_irrefl]
theorem nts_b (m : HS) (tm : Int32) (i : Nat) : gI (nts m tm) 56 i = shf (gI m 56) (gI m 1345 0) i := by
  unfold nts; simp only [gI_sI, gL_sL, gQ_sQ, gI_sJ, gI_sL, gI_sQ, gL_sI, gL_sQ, gL_sJ, gQ_sI, gQ_sL, gQ_sJ, gN_sI, gN_sL, gN_sQ, gN_sJ, Nat.reduceLT, Nat.reduceEqDiff, reduceIte, Nat.reduceAdd, Nat.reduceLeDiff, Nat.reduceSub, Bool.false_eq_true, if_true, if_false, ite_true, ite_false, List.length_cons, List.length_nil, Nat.zero_add, Nat.add_zero, and_true, true_and, true_or, or_true, and_self, Nat.le_refl, Nat.lt_irrefl]
theorem nts_e (m : HS) (tm : Int32) (i : Nat) : gI (nts m tm) 57 i = shf (gI m 57) (gI m 1342 0) i := by
  unfold nts; simp only [gI_sI, gL_sL, gQ_sQ, gI_sJ, gI_sL, gI_sQ, gL_sI, gL_sQ, gL_sJ, gQ_sI, gQ_sL, gQ_sJ, gN_sI, gN_sL, gN_sQ, gN_sJ, Nat.reduceLT, Nat.reduceEqDiff, reduceIte, Nat.reduceAdd, Nat.reduceLeDiff, Nat.reduceSub, Bool.false_eq_true, if_true, if_false, ite_true, ite_false, List.length_cons, List.length_nil, Nat.zero_add, Nat.add_zero, and_true, true_and, true_or, or_true, and_self, Nat.le_refl, Nat.lt_irrefl]
theorem nts_t (m : HS) (tm : Int32) (i : Nat) : gI (nts m tm) 58 i = shf (gI m 58) tm i := by
  unfold nts; simp only [gI_sI, gL_sL, gQ_sQ, gI_sJ, gI_sL, gI_sQ, gL_sI, gL_sQ, gL_sJ, gQ_sI, gQ_sL, gQ_sJ, gN_sI, gN_sL, gN_sQ, gN_sJ, Nat.reduceLT, Nat.reduceEqDiff, reduceIte, Nat.reduceAdd, Nat.reduceLeDiff, Nat.reduceSub, Bool.false_eq_true, if_true, if_false, ite_true, ite_false, List.length_cons, List.length_nil, Nat.zero_add, Nat.add_zero, and_true, true_and, true_or, or_true, and_self, Nat.le_refl, Nat.lt_irrefl]
theorem nts_l (m : HS) (tm : Int32) : gI (nts m tm) 1357 0 = if gI m 1357 0 < 40 then gI m 1357 0 + 1 else gI m 1357 0 := by
  unfold nts; simp only [gI_sI, gL_sL, gQ_sQ, gI_sJ, gI_sL, gI_sQ, gL_sI, gL_sQ, gL_sJ, gQ_sI, gQ_sL, gQ_sJ, gN_sI, gN_sL, gN_sQ, gN_sJ, Nat.reduceLT, Nat.reduceEqDiff, reduceIte, Nat.reduceAdd, Nat.reduceLeDiff, Nat.reduceSub, Bool.false_eq_true, if_true, if_false, ite_true, ite_false, List.length_cons, List.length_nil, Nat.zero_add, Nat.add_zero, and_true, true_and, true_or, or_true, and_self, Nat.le_refl, Nat.lt_irrefl]
theorem ring_0 {nx : Nat} (h : nx < 40) : ((nx + 1) % 40 + 79 - 0) % 40 = nx := by omega
theorem ring_s {nx i : Nat} (h : nx < 40) (hi : i < 39) : ((nx + 1) % 40 + 79 - (i + 1)) % 40 = (nx + 79 - i) % 40 ∧ ¬ (nx + 79 - i) % 40 = nx := by omega
theorem ring_v {g g' : Nat → Int32} {G : Nat → Int32} {nx : Nat} {v : Int32} (hnx : nx < 40) (hg : ∀ i, g' i = if i = nx then v else g i) {kp : Nat} (hG : ∀ i, i < kp → g ((nx + 79 - i) % 40) = G i) (i : Nat) (hi : i < kp + 1) (hi2 : i < 40) : g' (((nx + 1) % 40 + 79 - i) % 40) = shf G v i := by
  unfold shf
  rw [hg]
  cases i with
  | zero => rw [ring_0 hnx, if_pos rfl, if_pos rfl]
  | succ i =>
    obtain ⟨e1, e2⟩ := ring_s hnx (show i < 39 by omega)
    rw [e1, if_neg e2, if_neg (by omega), if_pos (by omega)]
    exact hG i (by omega)
theorem c_logAdd {x m : HS} (h : v_log x m) {w b e tm : Int32} (hw : gI m 1344 0 = w) (hb : gI m 1345 0 = b) (he : gI m 1342 0 = e) {Q : PO} (hQ : ∀ x', frm PLX x x' → v_log x' (nts m tm) → Q none x') : MM 22 [.inr (.inr (some (2, 0))), .inl w, .inl b, .inl e, .inl tm] x Q := by
  obtain ⟨kp, nx, h1, h2, h3, h4, h5, h6⟩ := h
  have i3 : vp_in (nI nx) 40 := vp_in_nI (by omega) (by omega)
  have i4 : (nI nx).toNatClampNeg = nx := nI_clamp (by omega)
  have e40 : (40 : Int32) = nI 40 := by decide
  have n40 : ¬ (40 : Int32) = 0 := by decide
  have er : nI (nx + 1) - nI (nx + 1) / 40 * 40 = nI ((nx + 1) % 40) := by rw [e40]; exact pk_rem (by omega) (by omega) (by omega)
  rw [eX2_add 44]
  simp only [am_run_s, bt, lf, am_in, am_ar, am_fit, am_ld, am_ct, Nat.reduceLT, Nat.reduceEqDiff, reduceIte, Nat.reduceAdd, Nat.reduceLeDiff, Nat.reduceSub, Bool.false_eq_true, if_true, if_false, ite_true, ite_false, List.length_cons, List.length_nil, Nat.zero_add, Nat.add_zero, and_true, true_and, true_or, or_true, and_self, Nat.le_refl, Nat.lt_irrefl, gI_sI, gL_sL, gQ_sQ, gI_sJ, gI_sL, gI_sQ, gL_sI, gL_sQ, gL_sJ, gQ_sI, gQ_sL, gQ_sJ, gN_sI, gN_sL, gN_sQ, gN_sJ, E_b2_0, E_b2n_0, E_c_0, E_getI_0, E_getR_0, E_iast_0, E_ldI_a, E_ldI_b, E_ldR_a, E_ldR_b, E_min_0, E_putI_0, E_rV_0, aL_26, aL_27, aL_28, aL_29, cC_2, cC_26, cC_27, cC_28, cC_29, rR_300, rR_301, rR_302, rR_303, kX2_add, h3, h5, i3, i4, nI_1, n40, er, not_false_eq_true]
  apply hQ
  · exact (((((frm.rf.si rfl).si rfl).si rfl).si rfl).si rfl).si rfl
  · by_cases q : kp = 40
    · have hl : ¬ nI kp < 40 := by rw [q]; decide
      have hk : (40 : Int32) < nI (kp + 1) := by rw [q]; decide
      refine ⟨40, (nx + 1) % 40, by omega, by omega, ?_, ?_, ?_, fun i hi => ⟨?_, ?_, ?_, ?_⟩⟩
      · simp only [gI_sI, gL_sL, gQ_sQ, gI_sJ, gI_sL, gI_sQ, gL_sI, gL_sQ, gL_sJ, gQ_sI, gQ_sL, gQ_sJ, gN_sI, gN_sL, gN_sQ, gN_sJ, Nat.reduceLT, Nat.reduceEqDiff, reduceIte, Nat.reduceAdd, Nat.reduceLeDiff, Nat.reduceSub, Bool.false_eq_true, if_true, if_false, ite_true, ite_false, List.length_cons, List.length_nil, Nat.zero_add, Nat.add_zero, and_true, true_and, true_or, or_true, and_self, Nat.le_refl, Nat.lt_irrefl]; rw [if_pos hk]; exact e40
      · rw [nts_l, h4, if_neg hl, q]
      · simp only [gI_sI, gL_sL, gQ_sQ, gI_sJ, gI_sL, gI_sQ, gL_sI, gL_sQ, gL_sJ, gQ_sI, gQ_sL, gQ_sJ, gN_sI, gN_sL, gN_sQ, gN_sJ, Nat.reduceLT, Nat.reduceEqDiff, reduceIte, Nat.reduceAdd, Nat.reduceLeDiff, Nat.reduceSub, Bool.false_eq_true, if_true, if_false, ite_true, ite_false, List.length_cons, List.length_nil, Nat.zero_add, Nat.add_zero, and_true, true_and, true_or, or_true, and_self, Nat.le_refl, Nat.lt_irrefl]
      · rw [nts_w, hw]
        refine ring_v h2 (g := gI x 26) (fun j => ?_) (kp := kp) (fun j hj => (h6 j hj).1) i (by omega) (by omega)
        simp only [gI_sI, gL_sL, gQ_sQ, gI_sJ, gI_sL, gI_sQ, gL_sI, gL_sQ, gL_sJ, gQ_sI, gQ_sL, gQ_sJ, gN_sI, gN_sL, gN_sQ, gN_sJ, Nat.reduceLT, Nat.reduceEqDiff, reduceIte, Nat.reduceAdd, Nat.reduceLeDiff, Nat.reduceSub, Bool.false_eq_true, if_true, if_false, ite_true, ite_false, List.length_cons, List.length_nil, Nat.zero_add, Nat.add_zero, and_true, true_and, true_or, or_true, and_self, Nat.le_refl, Nat.lt_irrefl]
      · rw [nts_b, hb]
        refine ring_v h2 (g := gI x 27) (fun j => ?_) (kp := kp) (fun j hj => (h6 j hj).2.1) i (by omega) (by omega)
        simp only [gI_sI, gL_sL, gQ_sQ, gI_sJ, gI_sL, gI_sQ, gL_sI, gL_sQ, gL_sJ, gQ_sI, gQ_sL, gQ_sJ, gN_sI, gN_sL, gN_sQ, gN_sJ, Nat.reduceLT, Nat.reduceEqDiff, reduceIte, Nat.reduceAdd, Nat.reduceLeDiff, Nat.reduceSub, Bool.false_eq_true, if_true, if_false, ite_true, ite_false, List.length_cons, List.length_nil, Nat.zero_add, Nat.add_zero, and_true, true_and, true_or, or_true, and_self, Nat.le_refl, Nat.lt_irrefl]
      · rw [nts_e, he]
        refine ring_v h2 (g := gI x 28) (fun j => ?_) (kp := kp) (fun j hj => (h6 j hj).2.2.1) i (by omega) (by omega)
        simp only [gI_sI, gL_sL, gQ_sQ, gI_sJ, gI_sL, gI_sQ, gL_sI, gL_sQ, gL_sJ, gQ_sI, gQ_sL, gQ_sJ, gN_sI, gN_sL, gN_sQ, gN_sJ, Nat.reduceLT, Nat.reduceEqDiff, reduceIte, Nat.reduceAdd, Nat.reduceLeDiff, Nat.reduceSub, Bool.false_eq_true, if_true, if_false, ite_true, ite_false, List.length_cons, List.length_nil, Nat.zero_add, Nat.add_zero, and_true, true_and, true_or, or_true, and_self, Nat.le_refl, Nat.lt_irrefl]
      · rw [nts_t]
        refine ring_v h2 (g := gI x 29) (fun j => ?_) (kp := kp) (fun j hj => (h6 j hj).2.2.2) i (by omega) (by omega)
        simp only [gI_sI, gL_sL, gQ_sQ, gI_sJ, gI_sL, gI_sQ, gL_sI, gL_sQ, gL_sJ, gQ_sI, gQ_sL, gQ_sJ, gN_sI, gN_sL, gN_sQ, gN_sJ, Nat.reduceLT, Nat.reduceEqDiff, reduceIte, Nat.reduceAdd, Nat.reduceLeDiff, Nat.reduceSub, Bool.false_eq_true, if_true, if_false, ite_true, ite_false, List.length_cons, List.length_nil, Nat.zero_add, Nat.add_zero, and_true, true_and, true_or, or_true, and_self, Nat.le_refl, Nat.lt_irrefl]
    · have hl : nI kp < 40 := by rw [e40]; exact nI_lt (by omega) (by omega)
      have hk : ¬ (40 : Int32) < nI (kp + 1) := by rw [e40]; exact nI_nlt (by omega) (by omega)
      refine ⟨kp + 1, (nx + 1) % 40, by omega, by omega, ?_, ?_, ?_, fun i hi => ⟨?_, ?_, ?_, ?_⟩⟩
      · simp only [gI_sI, gL_sL, gQ_sQ, gI_sJ, gI_sL, gI_sQ, gL_sI, gL_sQ, gL_sJ, gQ_sI, gQ_sL, gQ_sJ, gN_sI, gN_sL, gN_sQ, gN_sJ, Nat.reduceLT, Nat.reduceEqDiff, reduceIte, Nat.reduceAdd, Nat.reduceLeDiff, Nat.reduceSub, Bool.false_eq_true, if_true, if_false, ite_true, ite_false, List.length_cons, List.length_nil, Nat.zero_add, Nat.add_zero, and_true, true_and, true_or, or_true, and_self, Nat.le_refl, Nat.lt_irrefl]; rw [if_neg hk]
      · rw [nts_l, h4, if_pos hl, nI_1]
      · simp only [gI_sI, gL_sL, gQ_sQ, gI_sJ, gI_sL, gI_sQ, gL_sI, gL_sQ, gL_sJ, gQ_sI, gQ_sL, gQ_sJ, gN_sI, gN_sL, gN_sQ, gN_sJ, Nat.reduceLT, Nat.reduceEqDiff, reduceIte, Nat.reduceAdd, Nat.reduceLeDiff, Nat.reduceSub, Bool.false_eq_true, if_true, if_false, ite_true, ite_false, List.length_cons, List.length_nil, Nat.zero_add, Nat.add_zero, and_true, true_and, true_or, or_true, and_self, Nat.le_refl, Nat.lt_irrefl]
      · rw [nts_w, hw]
        refine ring_v h2 (g := gI x 26) (fun j => ?_) (kp := kp) (fun j hj => (h6 j hj).1) i (by omega) (by omega)
        simp only [gI_sI, gL_sL, gQ_sQ, gI_sJ, gI_sL, gI_sQ, gL_sI, gL_sQ, gL_sJ, gQ_sI, gQ_sL, gQ_sJ, gN_sI, gN_sL, gN_sQ, gN_sJ, Nat.reduceLT, Nat.reduceEqDiff, reduceIte, Nat.reduceAdd, Nat.reduceLeDiff, Nat.reduceSub, Bool.false_eq_true, if_true, if_false, ite_true, ite_false, List.length_cons, List.length_nil, Nat.zero_add, Nat.add_zero, and_true, true_and, true_or, or_true, and_self, Nat.le_refl, Nat.lt_irrefl]
      · rw [nts_b, hb]
        refine ring_v h2 (g := gI x 27) (fun j => ?_) (kp := kp) (fun j hj => (h6 j hj).2.1) i (by omega) (by omega)
        simp only [gI_sI, gL_sL, gQ_sQ, gI_sJ, gI_sL, gI_sQ, gL_sI, gL_sQ, gL_sJ, gQ_sI, gQ_sL, gQ_sJ, gN_sI, gN_sL, gN_sQ, gN_sJ, Nat.reduceLT, Nat.reduceEqDiff, reduceIte, Nat.reduceAdd, Nat.reduceLeDiff, Nat.reduceSub, Bool.false_eq_true, if_true, if_false, ite_true, ite_false, List.length_cons, List.length_nil, Nat.zero_add, Nat.add_zero, and_true, true_and, true_or, or_true, and_self, Nat.le_refl, Nat.lt_irrefl]
      · rw [nts_e, he]
        refine ring_v h2 (g := gI x 28) (fun j => ?_) (kp := kp) (fun j hj => (h6 j hj).2.2.1) i (by omega) (by omega)
        simp only [gI_sI, gL_sL, gQ_sQ, gI_sJ, gI_sL, gI_sQ, gL_sI, gL_sQ, gL_sJ, gQ_sI, gQ_sL, gQ_sJ, gN_sI, gN_sL, gN_sQ, gN_sJ, Nat.reduceLT, Nat.reduceEqDiff, reduceIte, Nat.reduceAdd, Nat.reduceLeDiff, Nat.reduceSub, Bool.false_eq_true, if_true, if_false, ite_true, ite_false, List.length_cons, List.length_nil, Nat.zero_add, Nat.add_zero, and_true, true_and, true_or, or_true, and_self, Nat.le_refl, Nat.lt_irrefl]
      · rw [nts_t]
        refine ring_v h2 (g := gI x 29) (fun j => ?_) (kp := kp) (fun j hj => (h6 j hj).2.2.2) i (by omega) (by omega)
        simp only [gI_sI, gL_sL, gQ_sQ, gI_sJ, gI_sL, gI_sQ, gL_sI, gL_sQ, gL_sJ, gQ_sI, gQ_sL, gQ_sJ, gN_sI, gN_sL, gN_sQ, gN_sJ, Nat.reduceLT, Nat.reduceEqDiff, reduceIte, Nat.reduceAdd, Nat.reduceLeDiff, Nat.reduceSub, Bool.false_eq_true, if_true, if_false, ite_true, ite_false, List.length_cons, List.length_nil, Nat.zero_add, Nat.add_zero, and_true, true_and, true_or, or_true, and_self, Nat.le_refl, Nat.lt_irrefl]
/-- the first j words of node n wait no more -/
def slJ (m : HS) (n j : Nat) : HS := sJ m 72 (fun w => if w < j ∧ gI m 37 w = nI n then 0 else gI m 72 w)
theorem slJ_w (m : HS) (n j w : Nat) : gI (slJ m n j) 72 w = if w < j ∧ gI m 37 w = nI n then 0 else gI m 72 w := by
  unfold slJ; simp only [gI_sI, gL_sL, gQ_sQ, gI_sJ, gI_sL, gI_sQ, gL_sI, gL_sQ, gL_sJ, gQ_sI, gQ_sL, gQ_sJ, gN_sI, gN_sL, gN_sQ, gN_sJ, Nat.reduceLT, Nat.reduceEqDiff, reduceIte, Nat.reduceAdd, Nat.reduceLeDiff, Nat.reduceSub, Bool.false_eq_true, if_true, if_false, ite_true, ite_false, List.length_cons, List.length_nil, Nat.zero_add, Nat.add_zero, and_true, true_and, true_or, or_true, and_self, Nat.le_refl, Nat.lt_irrefl]
theorem sil_w (m : HS) (n nw w : Nat) : gI (sil m n nw) 72 w = if w < nw ∧ gI m 37 w = nI n then 0 else gI m 72 w := by
  unfold sil; simp only [gI_sI, gL_sL, gQ_sQ, gI_sJ, gI_sL, gI_sQ, gL_sI, gL_sQ, gL_sJ, gQ_sI, gQ_sL, gQ_sJ, gN_sI, gN_sL, gN_sQ, gN_sJ, Nat.reduceLT, Nat.reduceEqDiff, reduceIte, Nat.reduceAdd, Nat.reduceLeDiff, Nat.reduceSub, Bool.false_eq_true, if_true, if_false, ite_true, ite_false, List.length_cons, List.length_nil, Nat.zero_add, Nat.add_zero, and_true, true_and, true_or, or_true, and_self, Nat.le_refl, Nat.lt_irrefl]
def PSW : Nat → Bool := inL [1110, 1013]
theorem l_silence {x m : HS} {n : Nat} (hc : v_cnt x m) (hw : v_wrd x m) (hh : v_hom x m) (hn : n < gN x 3) (hb : ∀ k, k < gN x 10 → am_b (gI m 72 k)) {Q : PO} (hQ : ∀ x', frm PSW x x' → (∀ k, k < gN x 10 → gI x' 1110 k = gI (slJ m n (gN x 10)) 72 k) → gI x' 1013 0 = nI (wts (slJ m n (gN x 10)) (gN x 10)) → Q none x') :
    ∀ (r j : Nat) (x1 : HS), j + r = gN x 10 → frm PSW x x1 → (∀ k, k < gN x 10 → gI x1 1110 k = gI (slJ m n j) 72 k) → gI x1 1013 0 = nI (wts (slJ m n j) (gN x 10)) → am_T (kX9_silence S1) MM Q 20 [some rW, some (.inr (.inr (some (3, n)))), some (.inl (nI j))] [] x1 0 0 := by
  intro r
  have h24 := hc.2.1
  have h10 := hc.1
  induction r with
  | zero =>
    intro j x1 hj f1 k1 o1
    have e : j = gN x 10 := by omega
    subst e
    have c0 : gI x1 703 0 = nI (gN x 10) := by rw [f1.gi rfl]; exact hc.2.2.2.2.1
    have h0 : ¬ nI (gN x 10) < nI (gN x 10) := nI_nlt (by omega) (by omega)
    rw [hX9_silence 5]
    simp only [am_run_s, bt, lf, am_in, am_ar, am_fit, am_ld, am_ct, Nat.reduceLT, Nat.reduceEqDiff, reduceIte, Nat.reduceAdd, Nat.reduceLeDiff, Nat.reduceSub, Bool.false_eq_true, if_true, if_false, ite_true, ite_false, List.length_cons, List.length_nil, Nat.zero_add, Nat.add_zero, and_true, true_and, true_or, or_true, and_self, Nat.le_refl, Nat.lt_irrefl, gI_sI, gL_sL, gQ_sQ, gI_sJ, gI_sL, gI_sQ, gL_sI, gL_sQ, gL_sJ, gQ_sI, gQ_sL, gQ_sJ, gN_sI, gN_sL, gN_sQ, gN_sJ, E_aald_0, E_b2_0, E_cV_a, E_cV_b, E_c_0, E_dup_0, E_dup_1, E_getI_0, E_getR_0, E_inc_a, E_inc_b, E_jl_0, E_jmp_0, E_jsame_0, E_kk, E_ldI_a, E_ldI_b, E_ldR_a, E_ldR_b, E_putI_0, E_rV_0, E_stI_0, aL_91, am_cc, am_nl, am_ok, am_pop, am_rt, am_set, cC_10, cC_3, cC_6, cC_9, cC_91, rQ_1101, rQ_91, rR_1000, rR_701, sN_91, kX9_silence, c0, h0]
    exact hQ x1 f1 k1 o1
  | succ r ih =>
    intro j x1 hj f1 k1 o1
    have hlt : j < gN x 10 := by omega
    have c0 : gI x1 703 0 = nI (gN x 10) := by rw [f1.gi rfl]; exact hc.2.2.2.2.1
    have h2 := nI_t hlt (by omega)
    have h3 : vp_in (nI j) 24 := vp_in_nI (by omega) (by omega)
    have h4 : (nI j).toNatClampNeg = j := nI_clamp (by omega)
    have h5 : gQ x1 91 j = some (10, j) := by rw [f1.gq]; exact (hw j hlt).1
    have h6 : j < gN x1 10 := by rw [f1.gn]; exact hlt
    obtain ⟨h, y1, y2, y3⟩ := hh j hlt
    have h7 : gQ x1 1101 j = some (3, h) := by rw [f1.gq]; exact y2
    have h8 : h < gN x1 3 := by rw [f1.gn]; exact y1
    have h9 : n < gN x1 3 := by rw [f1.gn]; exact hn
    have kj := k1 j hlt
    rw [slJ_w, if_neg (by omega)] at kj
    by_cases e : h = n
    · have e' : ((some (3, h) : Option (Nat × Nat)) = some (3, n)) = True := eq_true (by rw [e])
      have en : gI m 37 j = nI n := by rw [y3, e]
      have ew : ∀ w, gI (slJ m n (j + 1)) 72 w = if w = j then 0 else gI (slJ m n j) 72 w := by
        intro w
        rw [slJ_w, slJ_w]
        by_cases z : w = j
        · rw [if_pos z, if_pos ⟨by omega, by rw [z]; exact en⟩]
        · rw [if_neg z]
          by_cases y : w < j ∧ gI m 37 w = nI n
          · rw [if_pos y, if_pos ⟨by omega, y.2⟩]
          · rw [if_neg y, if_neg (fun u => y ⟨by omega, u.2⟩)]
      rw [hX9_silence 22]
      simp only [am_run_s, bt, lf, am_in, am_ar, am_fit, am_ld, am_ct, Nat.reduceLT, Nat.reduceEqDiff, reduceIte, Nat.reduceAdd, Nat.reduceLeDiff, Nat.reduceSub, Bool.false_eq_true, if_true, if_false, ite_true, ite_false, List.length_cons, List.length_nil, Nat.zero_add, Nat.add_zero, and_true, true_and, true_or, or_true, and_self, Nat.le_refl, Nat.lt_irrefl, gI_sI, gL_sL, gQ_sQ, gI_sJ, gI_sL, gI_sQ, gL_sI, gL_sQ, gL_sJ, gQ_sI, gQ_sL, gQ_sJ, gN_sI, gN_sL, gN_sQ, gN_sJ, E_aald_0, E_b2_0, E_cV_a, E_cV_b, E_c_0, E_dup_0, E_dup_1, E_getI_0, E_getR_0, E_inc_a, E_inc_b, E_jl_0, E_jmp_0, E_jsame_0, E_kk, E_ldI_a, E_ldI_b, E_ldR_a, E_ldR_b, E_putI_0, E_rV_0, E_stI_0, aL_91, am_cc, am_nl, am_ok, am_pop, am_rt, am_set, cC_10, cC_3, cC_6, cC_9, cC_91, rQ_1101, rQ_91, rR_1000, rR_701, sN_91, kX9_silence, c0, h2, h3, h4, h5, h6, h7, vi_3 h8, vi_3 h9, e']
      rw [s_stopW j x1 _ h6]
      simp only [am_run_s, bt, lf, am_in, am_ar, am_fit, am_ld, am_ct, Nat.reduceLT, Nat.reduceEqDiff, reduceIte, Nat.reduceAdd, Nat.reduceLeDiff, Nat.reduceSub, Bool.false_eq_true, if_true, if_false, ite_true, ite_false, List.length_cons, List.length_nil, Nat.zero_add, Nat.add_zero, and_true, true_and, true_or, or_true, and_self, Nat.le_refl, Nat.lt_irrefl, gI_sI, gL_sL, gQ_sQ, gI_sJ, gI_sL, gI_sQ, gL_sI, gL_sQ, gL_sJ, gQ_sI, gQ_sL, gQ_sJ, gN_sI, gN_sL, gN_sQ, gN_sJ, E_aald_0, E_b2_0, E_cV_a, E_cV_b, E_c_0, E_dup_0, E_dup_1, E_getI_0, E_getR_0, E_inc_a, E_inc_b, E_jl_0, E_jmp_0, E_jsame_0, E_kk, E_ldI_a, E_ldI_b, E_ldR_a, E_ldR_b, E_putI_0, E_rV_0, E_stI_0, aL_91, am_cc, am_nl, am_ok, am_pop, am_rt, am_set, cC_10, cC_3, cC_6, cC_9, cC_91, rQ_1101, rQ_91, rR_1000, rR_701, sN_91, kX9_silence, nI_1]
      unfold spW
      rcases hb j hlt with q | q
      · rw [q] at kj
        rw [if_pos kj]
        refine ih (j + 1) _ (by omega) (f1.si rfl) (fun k hk => ?_) ?_
        · rw [ew]
          simp only [gI_sI, gL_sL, gQ_sQ, gI_sJ, gI_sL, gI_sQ, gL_sI, gL_sQ, gL_sJ, gQ_sI, gQ_sL, gQ_sJ, gN_sI, gN_sL, gN_sQ, gN_sJ, Nat.reduceLT, Nat.reduceEqDiff, reduceIte, Nat.reduceAdd, Nat.reduceLeDiff, Nat.reduceSub, Bool.false_eq_true, if_true, if_false, ite_true, ite_false, List.length_cons, List.length_nil, Nat.zero_add, Nat.add_zero, and_true, true_and, true_or, or_true, and_self, Nat.le_refl, Nat.lt_irrefl]
          by_cases z : k = j
          · rw [if_pos z, if_pos z]
          · rw [if_neg z, if_neg z]; exact k1 k hk
        · simp only [gI_sI, gL_sL, gQ_sQ, gI_sJ, gI_sL, gI_sQ, gL_sI, gL_sQ, gL_sJ, gQ_sI, gQ_sL, gQ_sJ, gN_sI, gN_sL, gN_sQ, gN_sJ, Nat.reduceLT, Nat.reduceEqDiff, reduceIte, Nat.reduceAdd, Nat.reduceLeDiff, Nat.reduceSub, Bool.false_eq_true, if_true, if_false, ite_true, ite_false, List.length_cons, List.length_nil, Nat.zero_add, Nat.add_zero, and_true, true_and, true_or, or_true, and_self, Nat.le_refl, Nat.lt_irrefl]
          rw [o1]
          congr 1
          refine cntP_congr (fun k hk => ?_)
          rw [ew]
          by_cases z : k = j
          · rw [if_pos z, z, slJ_w, if_neg (by omega), q]
          · rw [if_neg z]
      · rw [q] at kj
        rw [if_neg (by rw [kj]; decide)]
        have ec : wts (slJ m n j) (gN x 10) = wts (slJ m n (j + 1)) (gN x 10) + 1 := by
          refine cntP_fl hlt ?_ ?_ (fun k hk z => ?_)
          · rw [slJ_w, if_neg (by omega)]; exact q
          · rw [ew, if_pos rfl]; decide
          · rw [ew, if_neg z]
        refine ih (j + 1) _ (by omega) ((f1.si rfl).si rfl) (fun k hk => ?_) ?_
        · rw [ew]
          simp only [gI_sI, gL_sL, gQ_sQ, gI_sJ, gI_sL, gI_sQ, gL_sI, gL_sQ, gL_sJ, gQ_sI, gQ_sL, gQ_sJ, gN_sI, gN_sL, gN_sQ, gN_sJ, Nat.reduceLT, Nat.reduceEqDiff, reduceIte, Nat.reduceAdd, Nat.reduceLeDiff, Nat.reduceSub, Bool.false_eq_true, if_true, if_false, ite_true, ite_false, List.length_cons, List.length_nil, Nat.zero_add, Nat.add_zero, and_true, true_and, true_or, or_true, and_self, Nat.le_refl, Nat.lt_irrefl]
          by_cases z : k = j
          · rw [if_pos z, if_pos z]
          · rw [if_neg z, if_neg z]; exact k1 k hk
        · simp only [gI_sI, gL_sL, gQ_sQ, gI_sJ, gI_sL, gI_sQ, gL_sI, gL_sQ, gL_sJ, gQ_sI, gQ_sL, gQ_sJ, gN_sI, gN_sL, gN_sQ, gN_sJ, Nat.reduceLT, Nat.reduceEqDiff, reduceIte, Nat.reduceAdd, Nat.reduceLeDiff, Nat.reduceSub, Bool.false_eq_true, if_true, if_false, ite_true, ite_false, List.length_cons, List.length_nil, Nat.zero_add, Nat.add_zero, and_true, true_and, true_or, or_true, and_self, Nat.le_refl, Nat.lt_irrefl]
          rw [o1, ec, nI_m1]
    · have e' : ((some (3, h) : Option (Nat × Nat)) = some (3, n)) = False := eq_false (fun z => e (by injection z with z; injection z))
      have en : ¬ gI m 37 j = nI n := by
        rw [y3]
        exact fun z => e ((nI_eq (by omega) (by omega)).mp z)
      have ew : ∀ w, gI (slJ m n (j + 1)) 72 w = gI (slJ m n j) 72 w := by
        intro w
        rw [slJ_w, slJ_w]
        by_cases y : w < j ∧ gI m 37 w = nI n
        · rw [if_pos y, if_pos ⟨by omega, y.2⟩]
        · rw [if_neg y, if_neg (fun u => y ⟨by
            rcases Nat.lt_or_ge w j with z | z
            · exact z
            · exact absurd u.2 (by rw [show w = j by omega]; exact en), u.2⟩)]
      rw [hX9_silence 16]
      simp only [am_run_s, bt, lf, am_in, am_ar, am_fit, am_ld, am_ct, Nat.reduceLT, Nat.reduceEqDiff, reduceIte, Nat.reduceAdd, Nat.reduceLeDiff, Nat.reduceSub, Bool.false_eq_true, if_true, if_false, ite_true, ite_false, List.length_cons, List.length_nil, Nat.zero_add, Nat.add_zero, and_true, true_and, true_or, or_true, and_self, Nat.le_refl, Nat.lt_irrefl, gI_sI, gL_sL, gQ_sQ, gI_sJ, gI_sL, gI_sQ, gL_sI, gL_sQ, gL_sJ, gQ_sI, gQ_sL, gQ_sJ, gN_sI, gN_sL, gN_sQ, gN_sJ, E_aald_0, E_b2_0, E_cV_a, E_cV_b, E_c_0, E_dup_0, E_dup_1, E_getI_0, E_getR_0, E_inc_a, E_inc_b, E_jl_0, E_jmp_0, E_jsame_0, E_kk, E_ldI_a, E_ldI_b, E_ldR_a, E_ldR_b, E_putI_0, E_rV_0, E_stI_0, aL_91, am_cc, am_nl, am_ok, am_pop, am_rt, am_set, cC_10, cC_3, cC_6, cC_9, cC_91, rQ_1101, rQ_91, rR_1000, rR_701, sN_91, kX9_silence, c0, h2, h3, h4, h5, h6, h7, vi_3 h8, vi_3 h9, e', nI_1]
      refine ih (j + 1) x1 (by omega) f1 (fun k hk => by rw [ew]; exact k1 k hk) ?_
      rw [o1]
      congr 1
      refine cntP_congr (fun k hk => by rw [ew])
theorem c_silence {x m : HS} {n : Nat} (hc : v_cnt x m) (hw : v_wrd x m) (hh : v_hom x m) (hn : n < gN x 3) (hb : ∀ k, k < gN x 10 → gI x 1110 k = gI m 72 k ∧ am_b (gI m 72 k)) (hW : gI x 1013 0 = nI (wts m (gN x 10))) {Q : PO} (hQ : ∀ x', frm PSW (sI (sI x 402 n (gI x 1004 0)) 1014 0 (gI x 1014 0 + 1)) x' → (∀ k, k < gN x 10 → gI x' 1110 k = gI (sil m n (gN x 10)) 72 k) → gI x' 1013 0 = nI (wts (sil m n (gN x 10)) (gN x 10)) → Q none x') : MM 74 [rW, .inr (.inr (some (3, n)))] x Q := by
  rw [eX9_silence 12]
  simp only [am_run_s, bt, lf, am_in, am_ar, am_fit, am_ld, am_ct, Nat.reduceLT, Nat.reduceEqDiff, reduceIte, Nat.reduceAdd, Nat.reduceLeDiff, Nat.reduceSub, Bool.false_eq_true, if_true, if_false, ite_true, ite_false, List.length_cons, List.length_nil, Nat.zero_add, Nat.add_zero, and_true, true_and, true_or, or_true, and_self, Nat.le_refl, Nat.lt_irrefl, gI_sI, gL_sL, gQ_sQ, gI_sJ, gI_sL, gI_sQ, gL_sI, gL_sQ, gL_sJ, gQ_sI, gQ_sL, gQ_sJ, gN_sI, gN_sL, gN_sQ, gN_sJ, E_aald_0, E_b2_0, E_cV_a, E_cV_b, E_c_0, E_dup_0, E_dup_1, E_getI_0, E_getR_0, E_inc_a, E_inc_b, E_jl_0, E_jmp_0, E_jsame_0, E_kk, E_ldI_a, E_ldI_b, E_ldR_a, E_ldR_b, E_putI_0, E_rV_0, E_stI_0, aL_91, am_cc, am_nl, am_ok, am_pop, am_rt, am_set, cC_10, cC_3, cC_6, cC_9, cC_91, rQ_1101, rQ_91, rR_1000, rR_701, sN_91, kX9_silence, hn]
  have e0 : wts (slJ m n 0) (gN x 10) = wts m (gN x 10) := cntP_congr (fun k hk => by rw [slJ_w, if_neg (by omega)])
  have e1 : wts (slJ m n (gN x 10)) (gN x 10) = wts (sil m n (gN x 10)) (gN x 10) := cntP_congr (fun k hk => by rw [slJ_w, sil_w])
  refine l_silence (x := sI (sI x 402 n (gI x 1004 0)) 1014 0 (gI x 1014 0 + 1)) (m := m) hc hw hh hn (fun k hk => (hb k hk).2) (fun x' f k o => hQ x' f (fun w hw => ?_) ?_) (gN x 10) 0 _ (by simp only [gI_sI, gL_sL, gQ_sQ, gI_sJ, gI_sL, gI_sQ, gL_sI, gL_sQ, gL_sJ, gQ_sI, gQ_sL, gQ_sJ, gN_sI, gN_sL, gN_sQ, gN_sJ, Nat.reduceLT, Nat.reduceEqDiff, reduceIte, Nat.reduceAdd, Nat.reduceLeDiff, Nat.reduceSub, Bool.false_eq_true, if_true, if_false, ite_true, ite_false, List.length_cons, List.length_nil, Nat.zero_add, Nat.add_zero, and_true, true_and, true_or, or_true, and_self, Nat.le_refl, Nat.lt_irrefl]) frm.rf (fun k hk => ?_) ?_
  · rw [k w hw]
    simp only [gI_sI, gL_sL, gQ_sQ, gI_sJ, gI_sL, gI_sQ, gL_sI, gL_sQ, gL_sJ, gQ_sI, gQ_sL, gQ_sJ, gN_sI, gN_sL, gN_sQ, gN_sJ, Nat.reduceLT, Nat.reduceEqDiff, reduceIte, Nat.reduceAdd, Nat.reduceLeDiff, Nat.reduceSub, Bool.false_eq_true, if_true, if_false, ite_true, ite_false, List.length_cons, List.length_nil, Nat.zero_add, Nat.add_zero, and_true, true_and, true_or, or_true, and_self, Nat.le_refl, Nat.lt_irrefl]
    rw [slJ_w, sil_w]
  · rw [o]
    simp only [gI_sI, gL_sL, gQ_sQ, gI_sJ, gI_sL, gI_sQ, gL_sI, gL_sQ, gL_sJ, gQ_sI, gQ_sL, gQ_sJ, gN_sI, gN_sL, gN_sQ, gN_sJ, Nat.reduceLT, Nat.reduceEqDiff, reduceIte, Nat.reduceAdd, Nat.reduceLeDiff, Nat.reduceSub, Bool.false_eq_true, if_true, if_false, ite_true, ite_false, List.length_cons, List.length_nil, Nat.zero_add, Nat.add_zero, and_true, true_and, true_or, or_true, and_self, Nat.le_refl, Nat.lt_irrefl]
    rw [e1]
  · rw [slJ_w, if_neg (by omega)]
    exact (hb k hk).1
  · simp only [gI_sI, gL_sL, gQ_sQ, gI_sJ, gI_sL, gI_sQ, gL_sI, gL_sQ, gL_sJ, gQ_sI, gQ_sL, gQ_sJ, gN_sI, gN_sL, gN_sQ, gN_sJ, Nat.reduceLT, Nat.reduceEqDiff, reduceIte, Nat.reduceAdd, Nat.reduceLeDiff, Nat.reduceSub, Bool.false_eq_true, if_true, if_false, ite_true, ite_false, List.length_cons, List.length_nil, Nat.zero_add, Nat.add_zero, and_true, true_and, true_or, or_true, and_self, Nat.le_refl, Nat.lt_irrefl]
    rw [e0]; exact hW
