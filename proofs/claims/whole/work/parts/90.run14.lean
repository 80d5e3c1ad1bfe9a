/-! ===== the run: the class: a word comes ===== -/
abbrev rO (w : Nat) : AV := .inr (.inr (some (10, w)))
theorem s_twl (i : Nat) (σ : HS) (Q : PO) (h : i < gN σ 10) : MM 79 [rO i] σ Q ↔ Q (some (.inl (gI σ 1106 i + gI σ 1115 i * gI σ 1105 i))) σ := by
  rw [eX10_timeWithoutLate 9]
  simp only [am_run_s, bt, lf, am_in, am_ar, am_fit, am_ld, am_ct, Nat.reduceLT, Nat.reduceEqDiff, reduceIte, Nat.reduceAdd, Nat.reduceLeDiff, Nat.reduceSub, Bool.false_eq_true, if_true, if_false, ite_true, ite_false, List.length_cons, List.length_nil, Nat.zero_add, Nat.add_zero, and_true, true_and, true_or, or_true, and_self, Nat.le_refl, Nat.lt_irrefl, gI_sI, gL_sL, gQ_sQ, gI_sJ, gI_sL, gI_sQ, gL_sI, gL_sQ, gL_sJ, gQ_sI, gQ_sL, gQ_sJ, gN_sI, gN_sL, gN_sQ, gN_sJ, E_b2_0, E_getI_0, E_ldR_a, E_ldR_b, E_rI_0, cC_10, kX10_timeWithoutLate, h]
theorem s_rem (a d : Int32) (σ : HS) (Q : PO) (h : 0 < d) (h0 : ¬ d = 0) : MM 134 [.inl a, .inl d] σ Q ↔ Q (some (.inl (a - a / d * d))) σ := by
  rw [eX11_remainder 7]
  simp only [am_run_s, bt, lf, am_in, am_ar, am_fit, am_ld, am_ct, Nat.reduceLT, Nat.reduceEqDiff, reduceIte, Nat.reduceAdd, Nat.reduceLeDiff, Nat.reduceSub, Bool.false_eq_true, if_true, if_false, ite_true, ite_false, List.length_cons, List.length_nil, Nat.zero_add, Nat.add_zero, and_true, true_and, true_or, or_true, and_self, Nat.le_refl, Nat.lt_irrefl, gI_sI, gL_sL, gQ_sQ, gI_sJ, gI_sL, gI_sQ, gL_sI, gL_sQ, gL_sJ, gQ_sI, gQ_sL, gQ_sJ, gN_sI, gN_sL, gN_sQ, gN_sJ, E_b2n_0, E_c_0, E_jmp_0, E_jp_0, E_ldI_a, E_ldI_b, E_rI_0, kX11_remainder, h, h0, not_false_eq_true]
theorem s_due (i l : Nat) (σ : HS) (Q : PO) (h : i < gN σ 10) (hl : gI σ 1107 i = nI l) (hl2 : l ≤ 1000) : MM 80 [rO i] σ Q ↔ Q (some (.inl (dueX σ i))) σ := by
  have e1 : nI l + 1 = nI (l + 1) := nI_1 l
  have h1 : 0 < nI (l + 1) := nI_gt0 (by omega) (by omega)
  have h2 : ¬ nI (l + 1) = 0 := fun z => absurd ((nI_eq (by omega) (by omega)).mp (z.trans zI)) (by omega)
  unfold dueX
  rw [hl, e1, eX10_dueTick 16]
  by_cases q : gI σ 1103 i = 0 ∨ gI σ 1103 i = 1
  · rw [if_pos q]
    simp only [am_run_s, bt, lf, am_in, am_ar, am_fit, am_ld, am_ct, Nat.reduceLT, Nat.reduceEqDiff, reduceIte, Nat.reduceAdd, Nat.reduceLeDiff, Nat.reduceSub, Bool.false_eq_true, if_true, if_false, ite_true, ite_false, List.length_cons, List.length_nil, Nat.zero_add, Nat.add_zero, and_true, true_and, true_or, or_true, and_self, Nat.le_refl, Nat.lt_irrefl, gI_sI, gL_sL, gQ_sQ, gI_sJ, gI_sL, gI_sQ, gL_sI, gL_sQ, gL_sJ, gQ_sI, gQ_sL, gQ_sJ, gN_sI, gN_sL, gN_sQ, gN_sJ, E_b2_0, E_cS_a, E_cS_b, E_cV_a, E_cV_b, E_c_0, E_getI_0, E_jmp_0, E_jz_0, E_kk, E_ldR_a, E_ldR_b, E_rI_0, am_cc, am_pop, am_rt, cC_10, kX10_dueTick, ↓s_comesBy i σ _ h, bI_z, q, ↓s_twl i σ _ h, h, hl, e1, ↓s_rem _ _ _ _ h1 h2, not_true_eq_false, not_false_eq_true]
  · rw [if_neg q]
    by_cases z : gI σ 1116 i = 0
    · rw [if_pos z]
      simp only [am_run_s, bt, lf, am_in, am_ar, am_fit, am_ld, am_ct, Nat.reduceLT, Nat.reduceEqDiff, reduceIte, Nat.reduceAdd, Nat.reduceLeDiff, Nat.reduceSub, Bool.false_eq_true, if_true, if_false, ite_true, ite_false, List.length_cons, List.length_nil, Nat.zero_add, Nat.add_zero, and_true, true_and, true_or, or_true, and_self, Nat.le_refl, Nat.lt_irrefl, gI_sI, gL_sL, gQ_sQ, gI_sJ, gI_sL, gI_sQ, gL_sI, gL_sQ, gL_sJ, gQ_sI, gQ_sL, gQ_sJ, gN_sI, gN_sL, gN_sQ, gN_sJ, E_b2_0, E_cS_a, E_cS_b, E_cV_a, E_cV_b, E_c_0, E_getI_0, E_jmp_0, E_jz_0, E_kk, E_ldR_a, E_ldR_b, E_rI_0, am_cc, am_pop, am_rt, cC_10, kX10_dueTick, ↓s_comesBy i σ _ h, bI_z, q, h, z, not_true_eq_false, not_false_eq_true]
    · rw [if_neg z]
      simp only [am_run_s, bt, lf, am_in, am_ar, am_fit, am_ld, am_ct, Nat.reduceLT, Nat.reduceEqDiff, reduceIte, Nat.reduceAdd, Nat.reduceLeDiff, Nat.reduceSub, Bool.false_eq_true, if_true, if_false, ite_true, ite_false, List.length_cons, List.length_nil, Nat.zero_add, Nat.add_zero, and_true, true_and, true_or, or_true, and_self, Nat.le_refl, Nat.lt_irrefl, gI_sI, gL_sL, gQ_sQ, gI_sJ, gI_sL, gI_sQ, gL_sI, gL_sQ, gL_sJ, gQ_sI, gQ_sL, gQ_sJ, gN_sI, gN_sL, gN_sQ, gN_sJ, E_b2_0, E_cS_a, E_cS_b, E_cV_a, E_cV_b, E_c_0, E_getI_0, E_jmp_0, E_jz_0, E_kk, E_ldR_a, E_ldR_b, E_rI_0, am_cc, am_pop, am_rt, cC_10, kX10_dueTick, ↓s_comesBy i σ _ h, bI_z, q, h, z, not_true_eq_false, not_false_eq_true]
def stW (σ : HS) (w : Nat) (fr : Int32) : HS := sI (sI (if gI σ 1110 w = 0 then sI σ 1013 0 (gI σ 1013 0 + 1) else σ) 1110 w 1) 1111 w fr
theorem s_startW (w : Nat) (fr : Int32) (σ : HS) (Q : PO) (h : w < gN σ 10) : MM 67 [rW, rO w, .inl fr] σ Q ↔ Q none (stW σ w fr) := by
  unfold stW
  rw [eX9_startWaiting 16]
  by_cases q : gI σ 1110 w = 0
  · rw [if_pos q]
    simp only [am_run_s, bt, lf, am_in, am_ar, am_fit, am_ld, am_ct, Nat.reduceLT, Nat.reduceEqDiff, reduceIte, Nat.reduceAdd, Nat.reduceLeDiff, Nat.reduceSub, Bool.false_eq_true, if_true, if_false, ite_true, ite_false, List.length_cons, List.length_nil, Nat.zero_add, Nat.add_zero, and_true, true_and, true_or, or_true, and_self, Nat.le_refl, Nat.lt_irrefl, gI_sI, gL_sL, gQ_sQ, gI_sJ, gI_sL, gI_sQ, gL_sI, gL_sQ, gL_sJ, gQ_sI, gQ_sL, gQ_sJ, gN_sI, gN_sL, gN_sQ, gN_sJ, E_b2_0, E_c_0, E_dup_0, E_dup_1, E_getI_0, E_jz_0, E_ldI_a, E_ldI_b, E_ldR_a, E_ldR_b, E_putI_0, E_putZ_0, E_rV_0, cC_10, cC_9, kX9_startWaiting, h, q, am_b1]
  · rw [if_neg q]
    simp only [am_run_s, bt, lf, am_in, am_ar, am_fit, am_ld, am_ct, Nat.reduceLT, Nat.reduceEqDiff, reduceIte, Nat.reduceAdd, Nat.reduceLeDiff, Nat.reduceSub, Bool.false_eq_true, if_true, if_false, ite_true, ite_false, List.length_cons, List.length_nil, Nat.zero_add, Nat.add_zero, and_true, true_and, true_or, or_true, and_self, Nat.le_refl, Nat.lt_irrefl, gI_sI, gL_sL, gQ_sQ, gI_sJ, gI_sL, gI_sQ, gL_sI, gL_sQ, gL_sJ, gQ_sI, gQ_sL, gQ_sJ, gN_sI, gN_sL, gN_sQ, gN_sJ, E_b2_0, E_c_0, E_dup_0, E_dup_1, E_getI_0, E_jz_0, E_ldI_a, E_ldI_b, E_ldR_a, E_ldR_b, E_putI_0, E_putZ_0, E_rV_0, cC_10, cC_9, kX9_startWaiting, h, q, am_b1]
def cmX (σ : HS) (w : Nat) (fr : Int32) : HS := if gI σ 1110 w = 0 then sI (sI (sI σ 1013 0 (gI σ 1013 0 + 1)) 1110 w 1) 1111 w fr else sI (sI (sI σ 1113 w (gI σ 1113 w + 1)) 1110 w 1) 1111 w fr
def PCX : Nat → Bool := inL [1013, 1110, 1111, 1113]
theorem cmX_f (σ : HS) (w : Nat) (fr : Int32) : frm PCX σ (cmX σ w fr) := by
  unfold cmX
  split
  · exact ((frm.rf.si rfl).si rfl).si rfl
  · exact ((frm.rf.si rfl).si rfl).si rfl
def PC1 : Nat → Bool := inL [50, 72, 45]
theorem cm1_f1 (m : HS) (w : Nat) (fr : Int32) : frm PC1 m (cm1 m w fr) := by
  unfold cm1
  by_cases q : gI m 72 w = 0
  · rw [if_pos q]; exact (frm.rf.si rfl).si rfl
  · rw [if_neg q]; exact ((frm.rf.si rfl).si rfl).si rfl
theorem cmX_w (σ : HS) (w : Nat) (fr : Int32) (i : Nat) : gI (cmX σ w fr) 1110 i = if i = w then 1 else gI σ 1110 i := by
  unfold cmX; split <;> simp only [gI_sI, gL_sL, gQ_sQ, gI_sJ, gI_sL, gI_sQ, gL_sI, gL_sQ, gL_sJ, gQ_sI, gQ_sL, gQ_sJ, gN_sI, gN_sL, gN_sQ, gN_sJ, Nat.reduceLT, Nat.reduceEqDiff, reduceIte, Nat.reduceAdd, Nat.reduceLeDiff, Nat.reduceSub, Bool.false_eq_true, if_true, if_false, ite_true, ite_false, List.length_cons, List.length_nil, Nat.zero_add, Nat.add_zero, and_true, true_and, true_or, or_true, and_self, Nat.le_refl, Nat.lt_irrefl]
theorem cmX_c (σ : HS) (w : Nat) (fr : Int32) (i : Nat) : gI (cmX σ w fr) 1111 i = if i = w then fr else gI σ 1111 i := by
  unfold cmX; split <;> simp only [gI_sI, gL_sL, gQ_sQ, gI_sJ, gI_sL, gI_sQ, gL_sI, gL_sQ, gL_sJ, gQ_sI, gQ_sL, gQ_sJ, gN_sI, gN_sL, gN_sQ, gN_sJ, Nat.reduceLT, Nat.reduceEqDiff, reduceIte, Nat.reduceAdd, Nat.reduceLeDiff, Nat.reduceSub, Bool.false_eq_true, if_true, if_false, ite_true, ite_false, List.length_cons, List.length_nil, Nat.zero_add, Nat.add_zero, and_true, true_and, true_or, or_true, and_self, Nat.le_refl, Nat.lt_irrefl]
theorem cm1_w (m : HS) (w : Nat) (fr : Int32) (i : Nat) : gI (cm1 m w fr) 72 i = if i = w then 1 else gI m 72 i := by
  unfold cm1
  by_cases q : gI m 72 w = 0
  · rw [if_pos q]; simp only [gI_sI, gL_sL, gQ_sQ, gI_sJ, gI_sL, gI_sQ, gL_sI, gL_sQ, gL_sJ, gQ_sI, gQ_sL, gQ_sJ, gN_sI, gN_sL, gN_sQ, gN_sJ, Nat.reduceLT, Nat.reduceEqDiff, reduceIte, Nat.reduceAdd, Nat.reduceLeDiff, Nat.reduceSub, Bool.false_eq_true, if_true, if_false, ite_true, ite_false, List.length_cons, List.length_nil, Nat.zero_add, Nat.add_zero, and_true, true_and, true_or, or_true, and_self, Nat.le_refl, Nat.lt_irrefl]
  · rw [if_neg q]; simp only [gI_sI, gL_sL, gQ_sQ, gI_sJ, gI_sL, gI_sQ, gL_sI, gL_sQ, gL_sJ, gQ_sI, gQ_sL, gQ_sJ, gN_sI, gN_sL, gN_sQ, gN_sJ, Nat.reduceLT, Nat.reduceEqDiff, reduceIte, Nat.reduceAdd, Nat.reduceLeDiff, Nat.reduceSub, Bool.false_eq_true, if_true, if_false, ite_true, ite_false, List.length_cons, List.length_nil, Nat.zero_add, Nat.add_zero, and_true, true_and, true_or, or_true, and_self, Nat.le_refl, Nat.lt_irrefl]
theorem cm1_s (m : HS) (w : Nat) (fr : Int32) (i : Nat) : gI (cm1 m w fr) 45 i = if i = w then fr else gI m 45 i := by
  unfold cm1
  by_cases q : gI m 72 w = 0
  · rw [if_pos q]; simp only [gI_sI, gL_sL, gQ_sQ, gI_sJ, gI_sL, gI_sQ, gL_sI, gL_sQ, gL_sJ, gQ_sI, gQ_sL, gQ_sJ, gN_sI, gN_sL, gN_sQ, gN_sJ, Nat.reduceLT, Nat.reduceEqDiff, reduceIte, Nat.reduceAdd, Nat.reduceLeDiff, Nat.reduceSub, Bool.false_eq_true, if_true, if_false, ite_true, ite_false, List.length_cons, List.length_nil, Nat.zero_add, Nat.add_zero, and_true, true_and, true_or, or_true, and_self, Nat.le_refl, Nat.lt_irrefl]
  · rw [if_neg q]; simp only [gI_sI, gL_sL, gQ_sQ, gI_sJ, gI_sL, gI_sQ, gL_sI, gL_sQ, gL_sJ, gQ_sI, gQ_sL, gQ_sJ, gN_sI, gN_sL, gN_sQ, gN_sJ, Nat.reduceLT, Nat.reduceEqDiff, reduceIte, Nat.reduceAdd, Nat.reduceLeDiff, Nat.reduceSub, Bool.false_eq_true, if_true, if_false, ite_true, ite_false, List.length_cons, List.length_nil, Nat.zero_add, Nat.add_zero, and_true, true_and, true_or, or_true, and_self, Nat.le_refl, Nat.lt_irrefl]
theorem cmX_l {σ m : HS} {w : Nat} (fr : Int32) (hw : gI σ 1110 w = gI m 72 w) (i : Nat) (hi : gI σ 1113 i = gI m 50 i) : gI (cmX σ w fr) 1113 i = gI (cm1 m w fr) 50 i := by
  unfold cmX cm1
  rw [hw]
  by_cases q : gI m 72 w = 0
  · rw [if_pos q, if_pos q]; simp only [gI_sI, gL_sL, gQ_sQ, gI_sJ, gI_sL, gI_sQ, gL_sI, gL_sQ, gL_sJ, gQ_sI, gQ_sL, gQ_sJ, gN_sI, gN_sL, gN_sQ, gN_sJ, Nat.reduceLT, Nat.reduceEqDiff, reduceIte, Nat.reduceAdd, Nat.reduceLeDiff, Nat.reduceSub, Bool.false_eq_true, if_true, if_false, ite_true, ite_false, List.length_cons, List.length_nil, Nat.zero_add, Nat.add_zero, and_true, true_and, true_or, or_true, and_self, Nat.le_refl, Nat.lt_irrefl]; exact hi
  · rw [if_neg q, if_neg q]; simp only [gI_sI, gL_sL, gQ_sQ, gI_sJ, gI_sL, gI_sQ, gL_sI, gL_sQ, gL_sJ, gQ_sI, gQ_sL, gQ_sJ, gN_sI, gN_sL, gN_sQ, gN_sJ, Nat.reduceLT, Nat.reduceEqDiff, reduceIte, Nat.reduceAdd, Nat.reduceLeDiff, Nat.reduceSub, Bool.false_eq_true, if_true, if_false, ite_true, ite_false, List.length_cons, List.length_nil, Nat.zero_add, Nat.add_zero, and_true, true_and, true_or, or_true, and_self, Nat.le_refl, Nat.lt_irrefl]
    by_cases e : i = w
    · rw [if_pos e, if_pos e, ← e, hi]
    · rw [if_neg e, if_neg e]; exact hi
theorem cm1_l (m : HS) (w : Nat) (fr : Int32) {i : Nat} (hi : i ≠ w) : gI (cm1 m w fr) 50 i = gI m 50 i := by
  unfold cm1
  by_cases q : gI m 72 w = 0
  · rw [if_pos q]; simp only [gI_sI, gL_sL, gQ_sQ, gI_sJ, gI_sL, gI_sQ, gL_sI, gL_sQ, gL_sJ, gQ_sI, gQ_sL, gQ_sJ, gN_sI, gN_sL, gN_sQ, gN_sJ, Nat.reduceLT, Nat.reduceEqDiff, reduceIte, Nat.reduceAdd, Nat.reduceLeDiff, Nat.reduceSub, Bool.false_eq_true, if_true, if_false, ite_true, ite_false, List.length_cons, List.length_nil, Nat.zero_add, Nat.add_zero, and_true, true_and, true_or, or_true, and_self, Nat.le_refl, Nat.lt_irrefl]
  · rw [if_neg q]; simp only [gI_sI, gL_sL, gQ_sQ, gI_sJ, gI_sL, gI_sQ, gL_sI, gL_sQ, gL_sJ, gQ_sI, gQ_sL, gQ_sJ, gN_sI, gN_sL, gN_sQ, gN_sJ, Nat.reduceLT, Nat.reduceEqDiff, reduceIte, Nat.reduceAdd, Nat.reduceLeDiff, Nat.reduceSub, Bool.false_eq_true, if_true, if_false, ite_true, ite_false, List.length_cons, List.length_nil, Nat.zero_add, Nat.add_zero, and_true, true_and, true_or, or_true, and_self, Nat.le_refl, Nat.lt_irrefl]; rw [if_neg hi]
/-- how many words wait -/
def wts (m : HS) (nw : Nat) : Nat := cntP (fun i => gI m 72 i = 1) (fun _ => inferInstance) nw
def v_w6 (x m : HS) : Prop := ∀ i : Nat, i < gN x 10 → ∀ h : Nat, gI m 37 i = nI h → h < 10 → ¬ gI m 34 h < 256 → gI m 72 i = 0
def WV (x m : HS) : Prop := v_wai x m ∧ v_tal x m ∧ v_nxt x m ∧ gI x 1013 0 = nI (wts m (gN x 10)) ∧ v_w6 x m
theorem come_st {σ m : HS} {w h : Nat} {fr : Int32} (hV : WV σ m) (hw : w < gN σ 10) (hh : gI m 37 w = nI h) (hh2 : h < 10) (hk : gI m 34 h < 256) : WV (cmX σ w fr) (cm1 m w fr) := by
  obtain ⟨⟨a1, a2⟩, ⟨b1, b2⟩, c, d, d6⟩ := hV
  obtain ⟨e1, e2, e3⟩ := a1 w hw
  have fX := cmX_f σ w fr
  have fM := cm1_f1 m w fr
  have gn : gN (cmX σ w fr) 10 = gN σ 10 := fX.gn 10
  refine ⟨⟨fun i hi => ?_, fun i hi => ?_⟩, ⟨fun i hi => ?_, fun i hi => ?_⟩, c.cg fX.x fM rfl rfl, ?_, fun i hi h' q1 q2 q3 => ?_⟩
  · rw [gn] at hi
    rw [cmX_w, cm1_w, cmX_c, cm1_s]
    by_cases e : i = w
    · rw [if_pos e, if_pos e, if_pos e, if_pos e]
      exact ⟨rfl, Or.inr rfl, fun _ => rfl⟩
    · rw [if_neg e, if_neg e, if_neg e, if_neg e]
      exact a1 i hi
  · rw [gn] at hi
    rw [cm1_w, if_neg (by omega)]
    exact a2 i hi
  · rw [gn] at hi
    obtain ⟨t1, t2, t3⟩ := b1 i hi
    exact ⟨by rw [fX.gi rfl, fM.gi rfl]; exact t1, cmX_l fr e1 i t2, by rw [fX.gi rfl, fM.gi rfl]; exact t3⟩
  · rw [gn] at hi
    obtain ⟨t1, t2⟩ := b2 i hi
    exact ⟨by rw [fM.gi rfl]; exact t1, by rw [cm1_l m w fr (by omega)]; exact t2⟩
  · rw [gn]
    rcases e2 with q | q
    · have q' := e1.trans q
      have ec : wts (cm1 m w fr) (gN σ 10) = wts m (gN σ 10) + 1 := by
        refine cntP_fl hw ?_ ?_ (fun i hi e => ?_)
        · rw [cm1_w, if_pos rfl]
        · rw [q]; decide
        · rw [cm1_w, if_neg e]
      rw [ec]
      unfold cmX
      rw [if_pos q']
      simp only [gI_sI, gL_sL, gQ_sQ, gI_sJ, gI_sL, gI_sQ, gL_sI, gL_sQ, gL_sJ, gQ_sI, gQ_sL, gQ_sJ, gN_sI, gN_sL, gN_sQ, gN_sJ, Nat.reduceLT, Nat.reduceEqDiff, reduceIte, Nat.reduceAdd, Nat.reduceLeDiff, Nat.reduceSub, Bool.false_eq_true, if_true, if_false, ite_true, ite_false, List.length_cons, List.length_nil, Nat.zero_add, Nat.add_zero, and_true, true_and, true_or, or_true, and_self, Nat.le_refl, Nat.lt_irrefl]
      rw [d, nI_1]
    · have q' : ¬ gI σ 1110 w = 0 := by rw [e1, q]; decide
      have ec : wts (cm1 m w fr) (gN σ 10) = wts m (gN σ 10) := by
        refine cntP_congr (fun i hi => ?_)
        rw [cm1_w]
        by_cases e : i = w
        · rw [if_pos e, e, q]
        · rw [if_neg e]
      rw [ec]
      unfold cmX
      rw [if_neg q']
      simp only [gI_sI, gL_sL, gQ_sQ, gI_sJ, gI_sL, gI_sQ, gL_sI, gL_sQ, gL_sJ, gQ_sI, gQ_sL, gQ_sJ, gN_sI, gN_sL, gN_sQ, gN_sJ, Nat.reduceLT, Nat.reduceEqDiff, reduceIte, Nat.reduceAdd, Nat.reduceLeDiff, Nat.reduceSub, Bool.false_eq_true, if_true, if_false, ite_true, ite_false, List.length_cons, List.length_nil, Nat.zero_add, Nat.add_zero, and_true, true_and, true_or, or_true, and_self, Nat.le_refl, Nat.lt_irrefl]
      exact d
  · rw [gn] at hi
    rw [fM.gi rfl] at q1 q3
    rw [cm1_w]
    by_cases e : i = w
    · exfalso
      rw [e, hh] at q1
      have : h = h' := (nI_eq (by omega) (by omega)).mp q1
      rw [← this] at q3
      exact q3 hk
    · rw [if_neg e]
      exact d6 i hi h' q1 q2 q3
def lc1 (σ : HS) (w : Nat) : HS := sI (@ite _ (gI σ 1103 w = 0 ∨ gI σ 1103 w = 1) inferInstance (sI σ 1115 w (gI σ 1115 w + 1)) σ) 1116 w 0
def lcF (σ : HS) (w : Nat) : Int32 := @ite _ (gI σ 1103 w = 0 ∨ gI σ 1103 w = 1) inferInstance (gI σ 1106 w + gI σ 1115 w * gI σ 1105 w) (gI σ 1004 0)
theorem c_letCome {σ : HS} {w h : Nat} (hw : w < gN σ 10) (hq : gQ σ 1101 w = some (3, h)) (hh : h < gN σ 3) {Q : PO} (hQ : Q none (if gI σ 401 h < 256 then cmX (lc1 σ w) w (lcF σ w) else lc1 σ w)) : MM 66 [rW, rO w] σ Q := by
  unfold lcF lc1 cmX at hQ
  have hhT : h < gN (sI (sI σ 1115 w (gI σ 1115 w + 1)) 1116 w 0) 3 := hh
  have hhC : h < gN (sI σ 1116 w 0) 3 := hh
  rw [eX9_letCome 36]
  by_cases k : gI σ 1103 w = 0 ∨ gI σ 1103 w = 1
  · rw [if_pos k, if_pos k] at hQ
    by_cases z : gI σ 401 h < 256
    · rw [if_pos z] at hQ
      by_cases y : gI σ 1110 w = 0
      · rw [if_pos (show gI (sI (sI σ 1115 w (gI σ 1115 w + 1)) 1116 w 0) 1110 w = 0 from y)] at hQ
        simp only [am_run_s, bt, lf, am_in, am_ar, am_fit, am_ld, am_ct, Nat.reduceLT, Nat.reduceEqDiff, reduceIte, Nat.reduceAdd, Nat.reduceLeDiff, Nat.reduceSub, Bool.false_eq_true, if_true, if_false, ite_true, ite_false, List.length_cons, List.length_nil, Nat.zero_add, Nat.add_zero, and_true, true_and, true_or, or_true, and_self, Nat.le_refl, Nat.lt_irrefl, gI_sI, gL_sL, gQ_sQ, gI_sJ, gI_sL, gI_sQ, gL_sI, gL_sQ, gL_sJ, gQ_sI, gQ_sL, gQ_sJ, gN_sI, gN_sL, gN_sQ, gN_sJ, E_b2_0, E_cV_a, E_cV_b, E_c_0, E_dup_0, E_dup_1, E_getI_0, E_getR_0, E_jz_0, E_kk, E_ldI_a, E_ldI_b, E_ldR_a, E_ldR_b, E_putI_0, E_putZ_0, E_rV_0, E_stI_0, am_cc, am_nl, am_ok, am_pop, am_rt, am_set, cC_10, cC_3, cC_9, rQ_1101, kX9_letCome, ↓s_comesBy w σ _ hw, bI_z, k, ↓s_twl w σ _ hw, hw, am_b0, hq, hh, ↓s_nodeIsOff h _ _ hhT, z, y, not_true_eq_false, not_false_eq_true]
        refine (s_startW w _ _ _ ?_).mpr ?_
        · exact hw
        simp only [am_run_s, bt, lf, am_in, am_ar, am_fit, am_ld, am_ct, Nat.reduceLT, Nat.reduceEqDiff, reduceIte, Nat.reduceAdd, Nat.reduceLeDiff, Nat.reduceSub, Bool.false_eq_true, if_true, if_false, ite_true, ite_false, List.length_cons, List.length_nil, Nat.zero_add, Nat.add_zero, and_true, true_and, true_or, or_true, and_self, Nat.le_refl, Nat.lt_irrefl, gI_sI, gL_sL, gQ_sQ, gI_sJ, gI_sL, gI_sQ, gL_sI, gL_sQ, gL_sJ, gQ_sI, gQ_sL, gQ_sJ, gN_sI, gN_sL, gN_sQ, gN_sJ, E_b2_0, E_cV_a, E_cV_b, E_c_0, E_dup_0, E_dup_1, E_getI_0, E_getR_0, E_jz_0, E_kk, E_ldI_a, E_ldI_b, E_ldR_a, E_ldR_b, E_putI_0, E_putZ_0, E_rV_0, E_stI_0, am_cc, am_nl, am_ok, am_pop, am_rt, am_set, cC_10, cC_3, cC_9, rQ_1101, kX9_letCome]
        unfold stW
        rw [if_pos (show gI (sI (sI σ 1115 w (gI σ 1115 w + 1)) 1116 w 0) 1110 w = 0 from y)]
        exact hQ
      · rw [if_neg (show ¬ gI (sI (sI σ 1115 w (gI σ 1115 w + 1)) 1116 w 0) 1110 w = 0 from y)] at hQ
        simp only [am_run_s, bt, lf, am_in, am_ar, am_fit, am_ld, am_ct, Nat.reduceLT, Nat.reduceEqDiff, reduceIte, Nat.reduceAdd, Nat.reduceLeDiff, Nat.reduceSub, Bool.false_eq_true, if_true, if_false, ite_true, ite_false, List.length_cons, List.length_nil, Nat.zero_add, Nat.add_zero, and_true, true_and, true_or, or_true, and_self, Nat.le_refl, Nat.lt_irrefl, gI_sI, gL_sL, gQ_sQ, gI_sJ, gI_sL, gI_sQ, gL_sI, gL_sQ, gL_sJ, gQ_sI, gQ_sL, gQ_sJ, gN_sI, gN_sL, gN_sQ, gN_sJ, E_b2_0, E_cV_a, E_cV_b, E_c_0, E_dup_0, E_dup_1, E_getI_0, E_getR_0, E_jz_0, E_kk, E_ldI_a, E_ldI_b, E_ldR_a, E_ldR_b, E_putI_0, E_putZ_0, E_rV_0, E_stI_0, am_cc, am_nl, am_ok, am_pop, am_rt, am_set, cC_10, cC_3, cC_9, rQ_1101, kX9_letCome, ↓s_comesBy w σ _ hw, bI_z, k, ↓s_twl w σ _ hw, hw, am_b0, hq, hh, ↓s_nodeIsOff h _ _ hhT, z, y, not_true_eq_false, not_false_eq_true]
        refine (s_startW w _ _ _ ?_).mpr ?_
        · exact hw
        simp only [am_run_s, bt, lf, am_in, am_ar, am_fit, am_ld, am_ct, Nat.reduceLT, Nat.reduceEqDiff, reduceIte, Nat.reduceAdd, Nat.reduceLeDiff, Nat.reduceSub, Bool.false_eq_true, if_true, if_false, ite_true, ite_false, List.length_cons, List.length_nil, Nat.zero_add, Nat.add_zero, and_true, true_and, true_or, or_true, and_self, Nat.le_refl, Nat.lt_irrefl, gI_sI, gL_sL, gQ_sQ, gI_sJ, gI_sL, gI_sQ, gL_sI, gL_sQ, gL_sJ, gQ_sI, gQ_sL, gQ_sJ, gN_sI, gN_sL, gN_sQ, gN_sJ, E_b2_0, E_cV_a, E_cV_b, E_c_0, E_dup_0, E_dup_1, E_getI_0, E_getR_0, E_jz_0, E_kk, E_ldI_a, E_ldI_b, E_ldR_a, E_ldR_b, E_putI_0, E_putZ_0, E_rV_0, E_stI_0, am_cc, am_nl, am_ok, am_pop, am_rt, am_set, cC_10, cC_3, cC_9, rQ_1101, kX9_letCome]
        unfold stW
        rw [if_neg (show ¬ gI (sI (sI (sI σ 1115 w (gI σ 1115 w + 1)) 1116 w 0) 1113 w (gI σ 1113 w + 1)) 1110 w = 0 from y)]
        exact hQ
    · rw [if_neg z] at hQ
      simp only [am_run_s, bt, lf, am_in, am_ar, am_fit, am_ld, am_ct, Nat.reduceLT, Nat.reduceEqDiff, reduceIte, Nat.reduceAdd, Nat.reduceLeDiff, Nat.reduceSub, Bool.false_eq_true, if_true, if_false, ite_true, ite_false, List.length_cons, List.length_nil, Nat.zero_add, Nat.add_zero, and_true, true_and, true_or, or_true, and_self, Nat.le_refl, Nat.lt_irrefl, gI_sI, gL_sL, gQ_sQ, gI_sJ, gI_sL, gI_sQ, gL_sI, gL_sQ, gL_sJ, gQ_sI, gQ_sL, gQ_sJ, gN_sI, gN_sL, gN_sQ, gN_sJ, E_b2_0, E_cV_a, E_cV_b, E_c_0, E_dup_0, E_dup_1, E_getI_0, E_getR_0, E_jz_0, E_kk, E_ldI_a, E_ldI_b, E_ldR_a, E_ldR_b, E_putI_0, E_putZ_0, E_rV_0, E_stI_0, am_cc, am_nl, am_ok, am_pop, am_rt, am_set, cC_10, cC_3, cC_9, rQ_1101, kX9_letCome, ↓s_comesBy w σ _ hw, bI_z, k, ↓s_twl w σ _ hw, hw, am_b0, hq, hh, ↓s_nodeIsOff h _ _ hhT, z, not_true_eq_false, not_false_eq_true]
      exact hQ
  · rw [if_neg k, if_neg k] at hQ
    by_cases z : gI σ 401 h < 256
    · rw [if_pos z] at hQ
      by_cases y : gI σ 1110 w = 0
      · rw [if_pos (show gI (sI σ 1116 w 0) 1110 w = 0 from y)] at hQ
        simp only [am_run_s, bt, lf, am_in, am_ar, am_fit, am_ld, am_ct, Nat.reduceLT, Nat.reduceEqDiff, reduceIte, Nat.reduceAdd, Nat.reduceLeDiff, Nat.reduceSub, Bool.false_eq_true, if_true, if_false, ite_true, ite_false, List.length_cons, List.length_nil, Nat.zero_add, Nat.add_zero, and_true, true_and, true_or, or_true, and_self, Nat.le_refl, Nat.lt_irrefl, gI_sI, gL_sL, gQ_sQ, gI_sJ, gI_sL, gI_sQ, gL_sI, gL_sQ, gL_sJ, gQ_sI, gQ_sL, gQ_sJ, gN_sI, gN_sL, gN_sQ, gN_sJ, E_b2_0, E_cV_a, E_cV_b, E_c_0, E_dup_0, E_dup_1, E_getI_0, E_getR_0, E_jz_0, E_kk, E_ldI_a, E_ldI_b, E_ldR_a, E_ldR_b, E_putI_0, E_putZ_0, E_rV_0, E_stI_0, am_cc, am_nl, am_ok, am_pop, am_rt, am_set, cC_10, cC_3, cC_9, rQ_1101, kX9_letCome, ↓s_comesBy w σ _ hw, bI_z, k, hw, am_b0, hq, hh, ↓s_nodeIsOff h _ _ hhC, z, y, not_true_eq_false, not_false_eq_true]
        refine (s_startW w _ _ _ ?_).mpr ?_
        · exact hw
        simp only [am_run_s, bt, lf, am_in, am_ar, am_fit, am_ld, am_ct, Nat.reduceLT, Nat.reduceEqDiff, reduceIte, Nat.reduceAdd, Nat.reduceLeDiff, Nat.reduceSub, Bool.false_eq_true, if_true, if_false, ite_true, ite_false, List.length_cons, List.length_nil, Nat.zero_add, Nat.add_zero, and_true, true_and, true_or, or_true, and_self, Nat.le_refl, Nat.lt_irrefl, gI_sI, gL_sL, gQ_sQ, gI_sJ, gI_sL, gI_sQ, gL_sI, gL_sQ, gL_sJ, gQ_sI, gQ_sL, gQ_sJ, gN_sI, gN_sL, gN_sQ, gN_sJ, E_b2_0, E_cV_a, E_cV_b, E_c_0, E_dup_0, E_dup_1, E_getI_0, E_getR_0, E_jz_0, E_kk, E_ldI_a, E_ldI_b, E_ldR_a, E_ldR_b, E_putI_0, E_putZ_0, E_rV_0, E_stI_0, am_cc, am_nl, am_ok, am_pop, am_rt, am_set, cC_10, cC_3, cC_9, rQ_1101, kX9_letCome]
        unfold stW
        rw [if_pos (show gI (sI σ 1116 w 0) 1110 w = 0 from y)]
        exact hQ
      · rw [if_neg (show ¬ gI (sI σ 1116 w 0) 1110 w = 0 from y)] at hQ
        simp only [am_run_s, bt, lf, am_in, am_ar, am_fit, am_ld, am_ct, Nat.reduceLT, Nat.reduceEqDiff, reduceIte, Nat.reduceAdd, Nat.reduceLeDiff, Nat.reduceSub, Bool.false_eq_true, if_true, if_false, ite_true, ite_false, List.length_cons, List.length_nil, Nat.zero_add, Nat.add_zero, and_true, true_and, true_or, or_true, and_self, Nat.le_refl, Nat.lt_irrefl, gI_sI, gL_sL, gQ_sQ, gI_sJ, gI_sL, gI_sQ, gL_sI, gL_sQ, gL_sJ, gQ_sI, gQ_sL, gQ_sJ, gN_sI, gN_sL, gN_sQ, gN_sJ, E_b2_0, E_cV_a, E_cV_b, E_c_0, E_dup_0, E_dup_1, E_getI_0, E_getR_0, E_jz_0, E_kk, E_ldI_a, E_ldI_b, E_ldR_a, E_ldR_b, E_putI_0, E_putZ_0, E_rV_0, E_stI_0, am_cc, am_nl, am_ok, am_pop, am_rt, am_set, cC_10, cC_3, cC_9, rQ_1101, kX9_letCome, ↓s_comesBy w σ _ hw, bI_z, k, hw, am_b0, hq, hh, ↓s_nodeIsOff h _ _ hhC, z, y, not_true_eq_false, not_false_eq_true]
        refine (s_startW w _ _ _ ?_).mpr ?_
        · exact hw
        simp only [am_run_s, bt, lf, am_in, am_ar, am_fit, am_ld, am_ct, Nat.reduceLT, Nat.reduceEqDiff, reduceIte, Nat.reduceAdd, Nat.reduceLeDiff, Nat.reduceSub, Bool.false_eq_true, if_true, if_false, ite_true, ite_false, List.length_cons, List.length_nil, Nat.zero_add, Nat.add_zero, and_true, true_and, true_or, or_true, and_self, Nat.le_refl, Nat.lt_irrefl, gI_sI, gL_sL, gQ_sQ, gI_sJ, gI_sL, gI_sQ, gL_sI, gL_sQ, gL_sJ, gQ_sI, gQ_sL, gQ_sJ, gN_sI, gN_sL, gN_sQ, gN_sJ, E_b2_0, E_cV_a, E_cV_b, E_c_0, E_dup_0, E_dup_1, E_getI_0, E_getR_0, E_jz_0, E_kk, E_ldI_a, E_ldI_b, E_ldR_a, E_ldR_b, E_putI_0, E_putZ_0, E_rV_0, E_stI_0, am_cc, am_nl, am_ok, am_pop, am_rt, am_set, cC_10, cC_3, cC_9, rQ_1101, kX9_letCome]
        unfold stW
        rw [if_neg (show ¬ gI (sI (sI σ 1116 w 0) 1113 w (gI σ 1113 w + 1)) 1110 w = 0 from y)]
        exact hQ
    · rw [if_neg z] at hQ
      simp only [am_run_s, bt, lf, am_in, am_ar, am_fit, am_ld, am_ct, Nat.reduceLT, Nat.reduceEqDiff, reduceIte, Nat.reduceAdd, Nat.reduceLeDiff, Nat.reduceSub, Bool.false_eq_true, if_true, if_false, ite_true, ite_false, List.length_cons, List.length_nil, Nat.zero_add, Nat.add_zero, and_true, true_and, true_or, or_true, and_self, Nat.le_refl, Nat.lt_irrefl, gI_sI, gL_sL, gQ_sQ, gI_sJ, gI_sL, gI_sQ, gL_sI, gL_sQ, gL_sJ, gQ_sI, gQ_sL, gQ_sJ, gN_sI, gN_sL, gN_sQ, gN_sJ, E_b2_0, E_cV_a, E_cV_b, E_c_0, E_dup_0, E_dup_1, E_getI_0, E_getR_0, E_jz_0, E_kk, E_ldI_a, E_ldI_b, E_ldR_a, E_ldR_b, E_putI_0, E_putZ_0, E_rV_0, E_stI_0, am_cc, am_nl, am_ok, am_pop, am_rt, am_set, cC_10, cC_3, cC_9, rQ_1101, kX9_letCome, ↓s_comesBy w σ _ hw, bI_z, k, hw, am_b0, hq, hh, ↓s_nodeIsOff h _ _ hhC, z, not_true_eq_false, not_false_eq_true]
      exact hQ
