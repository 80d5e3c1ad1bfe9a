/-! ===== the run: the class: a frame fails ===== -/
theorem BV.cg {P R : Nat → Bool} {x m x' m' : HS} (h : BV x m) (f : frx P x x') (g : frm R m m') (hp : (P 400 || (P 401 || (P 402 || (P 403 || (P 1110 || (P 1111 || (P 1013 || (P 1014 || false)))))))) = false) (hr : (R 34 || (R 35 || (R 36 || (R 72 || (R 45 || (R 37 || false)))))) = false) : BV x' m' := by
  obtain ⟨a, b, c, d, e, k⟩ := h
  simp only [Bool.or_eq_false_iff] at hp hr
  obtain ⟨p1, p2, p3, p4, p5, p6, p7, p8, -⟩ := hp
  obtain ⟨r1, r2, r3, r4, r5, r6, -⟩ := hr
  have e1 : gI m' 34 = gI m 34 := funext (fun i => g.gi r1)
  have e2 : gI m' 72 = gI m 72 := funext (fun i => g.gi r4)
  have e3 : gI m' 37 = gI m 37 := funext (fun i => g.gi r6)
  refine ⟨a.cg f g ?_ ?_, b.cg f g ?_ ?_, c.cg f g ?_ ?_, ?_, ?_, ?_⟩
  · simp only [p1, p2, p3, p4, Bool.or_false]
  · simp only [r1, r2, r3, Bool.or_false]
  · rfl
  · simp only [r1, r2, r3, Bool.or_false]
  · simp only [p5, p6, Bool.or_false]
  · simp only [r4, r5, Bool.or_false]
  · unfold wts at d ⊢
    rw [f.gi p7, e2, f.gn]; exact d
  · unfold offs at e ⊢
    rw [f.gi p8, e1, f.gn]; exact e
  · unfold v_w6 at k ⊢
    rw [e1, e2, e3, f.gn]; exact k
theorem h_fail (n : Nat) {Q : PO} {pc : Nat} {ls : ALs} {st : List AV} {σ : HS} {a b : Nat} : am_T (kX9_fail S1) MM Q pc ls st σ a b ↔ (kX9_fail S1 pc).2 MM Q (am_run (kX9_fail S1) MM Q n) ls st σ a b := am_go (gX9_fail S1) MM_mo n
def PF1 : Nat → Bool := inL [1007, 403, 304, 305, 26, 27, 28, 29]
def PM1 (f : Nat) : Bool := PNT f || inL [1349, 36] f
theorem PM1_n (f : Nat) (h : PM1 f = false) : PNT f = false := by
  unfold PM1 at h
  rw [Bool.or_eq_false_iff] at h
  exact h.1
def PFA : Nat → Bool := inL [1007, 403, 304, 305, 26, 27, 28, 29, 1113, 1110, 1111, 1013, 1005, 401, 402, 1014]
theorem WV.cg {P R : Nat → Bool} {x m x' m' : HS} (h : WV x m) (f : frx P x x') (g : frm R m m') (hp : (P 1110 || (P 1111 || (P 1112 || (P 1113 || (P 1114 || (P 1115 || (P 1013 || false))))))) = false) (hr : (R 72 || (R 45 || (R 49 || (R 50 || (R 51 || (R 46 || (R 39 || (R 42 || (R 41 || (R 1342 || (R 34 || (R 37 || false)))))))))))) = false) : WV x' m' := by
  obtain ⟨a, b, c, d, k⟩ := h
  simp only [Bool.or_eq_false_iff] at hp hr
  obtain ⟨p1, p2, p3, p4, p5, p6, p7, -⟩ := hp
  obtain ⟨r1, r2, r3, r4, r5, r6, r7, r8, r9, r10, r11, r12, -⟩ := hr
  have e1 : gI m' 34 = gI m 34 := funext (fun i => g.gi r11)
  have e2 : gI m' 72 = gI m 72 := funext (fun i => g.gi r1)
  have e3 : gI m' 37 = gI m 37 := funext (fun i => g.gi r12)
  refine ⟨a.cg f g ?_ ?_, b.cg f g ?_ ?_, c.cg f g ?_ ?_, ?_, ?_⟩
  · simp only [p1, p2, Bool.or_false]
  · simp only [r1, r2, Bool.or_false]
  · simp only [p3, p4, p5, Bool.or_false]
  · simp only [r3, r4, r5, Bool.or_false]
  · simp only [p6, Bool.or_false]
  · simp only [r6, r7, r8, r9, r10, Bool.or_false]
  · unfold wts at d ⊢
    rw [f.gi p7, e2, f.gn]; exact d
  · unfold v_w6 at k ⊢
    rw [e1, e2, e3, f.gn]; exact k
theorem c_fail {x m : HS} {w h t : Nat} (hS : STc x m) (hB : BV x m) (hV : WV x m) (hL : v_log x m) (hu : gI m 1344 0 = nI w) (hw : w < gN x 10) (hq : gQ x 1101 w = some (3, h)) (hh : h < gN x 3) (hn : gI m 37 w = nI h) (hca : gI x 1009 0 = gI m 1347 0) (hbe : gI x 1010 0 = gI m 1345 0) (htx : gI x 1004 0 = nI t) (ht : gI m 1342 0 = nI t) (hon : gI m 34 h < 256) (hfa : gI x 1007 0 = gI m 1349 0) {Q : PO} (hQ : ∀ x', frx PFA x x' → gQ x' 1008 0 = none → frm PZR m (failM m w h (gN x 3) (gN x 10)) → BV x' (failM m w h (gN x 3) (gN x 10)) → v_tal x' (failM m w h (gN x 3) (gN x 10)) → v_log x' (failM m w h (gN x 3) (gN x 10)) → gI x' 1005 0 = gI (failM m w h (gN x 3) (gN x 10)) 1343 0 → gI x' 1007 0 = gI (failM m w h (gN x 3) (gN x 10)) 1349 0 → Q none x') : MM 72 [rW, rO w] x Q := by
  have h10 := hS.1.1
  have h24 := hS.1.2.1
  have hnum := (hS.2.2.1.1 w hw).2.1
  obtain ⟨-, -, n1, -, n2⟩ := hB.1 h hh
  rw [eX9_fail 23]
  simp only [am_run_s, bt, lf, am_in, am_ar, am_fit, am_ld, am_ct, Nat.reduceLT, Nat.reduceEqDiff, reduceIte, Nat.reduceAdd, Nat.reduceLeDiff, Nat.reduceSub, Bool.false_eq_true, if_true, if_false, ite_true, ite_false, List.length_cons, List.length_nil, Nat.zero_add, Nat.add_zero, and_true, true_and, true_or, or_true, and_self, Nat.le_refl, Nat.lt_irrefl, gI_sI, gL_sL, gQ_sQ, gI_sJ, gI_sL, gI_sQ, gL_sI, gL_sQ, gL_sJ, gQ_sI, gQ_sL, gQ_sJ, gN_sI, gN_sL, gN_sQ, gN_sJ, E_b2_0, E_cV_a, E_cV_b, E_c_0, E_dup_0, E_dup_1, E_getI_0, E_getR_0, E_jmp_0, E_jz_0, E_kk, E_ldR_a, E_ldR_b, E_putI_0, E_putR_0, E_rV_0, am_cc, am_pop, am_rt, cC_10, cC_2, cC_3, cC_9, rQ_1101, rR_1003, sN_1008, kX9_fail, kX9_fail_0, kX9_fail_1, am_run_z, hw, hq, hh, hnum, htx]
  have f1 : frm PF1 x (sI (sI x 1007 0 (gI x 1007 0 + 1)) 403 h (gI x 403 h + 1)) := (frm.rf.si rfl).si rfl
  have v1 : ∀ j, gI (sI (sI x 1007 0 (gI x 1007 0 + 1)) 403 h (gI x 403 h + 1)) 403 j = if j = h then gI x 403 h + 1 else gI x 403 j := by
    intro j; simp only [gI_sI, gL_sL, gQ_sQ, gI_sJ, gI_sL, gI_sQ, gL_sI, gL_sQ, gL_sJ, gQ_sI, gQ_sL, gQ_sJ, gN_sI, gN_sL, gN_sQ, gN_sJ, Nat.reduceLT, Nat.reduceEqDiff, reduceIte, Nat.reduceAdd, Nat.reduceLeDiff, Nat.reduceSub, Bool.false_eq_true, if_true, if_false, ite_true, ite_false, List.length_cons, List.length_nil, Nat.zero_add, Nat.add_zero, and_true, true_and, true_or, or_true, and_self, Nat.le_refl, Nat.lt_irrefl]
  have v2 : gI (sI (sI x 1007 0 (gI x 1007 0 + 1)) 403 h (gI x 403 h + 1)) 1007 0 = gI x 1007 0 + 1 := by simp only [gI_sI, gL_sL, gQ_sQ, gI_sJ, gI_sL, gI_sQ, gL_sI, gL_sQ, gL_sJ, gQ_sI, gQ_sL, gQ_sJ, gN_sI, gN_sL, gN_sQ, gN_sJ, Nat.reduceLT, Nat.reduceEqDiff, reduceIte, Nat.reduceAdd, Nat.reduceLeDiff, Nat.reduceSub, Bool.false_eq_true, if_true, if_false, ite_true, ite_false, List.length_cons, List.length_nil, Nat.zero_add, Nat.add_zero, and_true, true_and, true_or, or_true, and_self, Nat.le_refl, Nat.lt_irrefl]
  have hL1 : v_log (sI (sI x 1007 0 (gI x 1007 0 + 1)) 403 h (gI x 403 h + 1)) m := hL
  generalize sI (sI x 1007 0 (gI x 1007 0 + 1)) 403 h (gI x 403 h + 1) = x1 at f1 v1 v2 hL1 ⊢
  have hbe1 : gI x 1010 0 = gI m 1345 0 := hbe
  rw [hbe1]
  refine c_logAdd hL1 hu rfl ht (fun x2 f2 hL2 => ?_)
  simp only [am_run_s, bt, lf, am_in, am_ar, am_fit, am_ld, am_ct, Nat.reduceLT, Nat.reduceEqDiff, reduceIte, Nat.reduceAdd, Nat.reduceLeDiff, Nat.reduceSub, Bool.false_eq_true, if_true, if_false, ite_true, ite_false, List.length_cons, List.length_nil, Nat.zero_add, Nat.add_zero, and_true, true_and, true_or, or_true, and_self, Nat.le_refl, Nat.lt_irrefl, gI_sI, gL_sL, gQ_sQ, gI_sJ, gI_sL, gI_sQ, gL_sI, gL_sQ, gL_sJ, gQ_sI, gQ_sL, gQ_sJ, gN_sI, gN_sL, gN_sQ, gN_sJ, E_b2_0, E_cV_a, E_cV_b, E_c_0, E_dup_0, E_dup_1, E_getI_0, E_getR_0, E_jmp_0, E_jz_0, E_kk, E_ldR_a, E_ldR_b, E_putI_0, E_putR_0, E_rV_0, am_cc, am_pop, am_rt, cC_10, cC_2, cC_3, cC_9, rQ_1101, rR_1003, sN_1008, kX9_fail, kX9_fail_0, kX9_fail_1, am_run_z]
  -- the ghost so far
  have ga : frm PM1 m (fl_a (nts m (-1)) h) := (((nts_f m (-1)).mo PM1_n).si rfl).si rfl
  have gaR : frm PZR m (fl_a (nts m (-1)) h) := (((nts_f m (-1)).mo PZR_nt).si rfl).si rfl
  have e1 : ∀ j, gI (fl_a (nts m (-1)) h) 36 j = if j = h then gI m 36 h + 1 else gI m 36 j := by
    intro j
    have z : ∀ i, gI (nts m (-1)) 36 i = gI m 36 i := fun i => (nts_f m (-1)).gi rfl
    unfold fl_a
    simp only [gI_sI, gL_sL, gQ_sQ, gI_sJ, gI_sL, gI_sQ, gL_sI, gL_sQ, gL_sJ, gQ_sI, gQ_sL, gQ_sJ, gN_sI, gN_sL, gN_sQ, gN_sJ, Nat.reduceLT, Nat.reduceEqDiff, reduceIte, Nat.reduceAdd, Nat.reduceLeDiff, Nat.reduceSub, Bool.false_eq_true, if_true, if_false, ite_true, ite_false, List.length_cons, List.length_nil, Nat.zero_add, Nat.add_zero, and_true, true_and, true_or, or_true, and_self, Nat.le_refl, Nat.lt_irrefl]
    rw [z, z]
  have e2 : gI (fl_a (nts m (-1)) h) 1349 0 = gI m 1349 0 + 1 := by
    have z : gI (nts m (-1)) 1349 0 = gI m 1349 0 := (nts_f m (-1)).gi rfl
    unfold fl_a
    simp only [gI_sI, gL_sL, gQ_sQ, gI_sJ, gI_sL, gI_sQ, gL_sI, gL_sQ, gL_sJ, gQ_sI, gQ_sL, gQ_sJ, gN_sI, gN_sL, gN_sQ, gN_sJ, Nat.reduceLT, Nat.reduceEqDiff, reduceIte, Nat.reduceAdd, Nat.reduceLeDiff, Nat.reduceSub, Bool.false_eq_true, if_true, if_false, ite_true, ite_false, List.length_cons, List.length_nil, Nat.zero_add, Nat.add_zero, and_true, true_and, true_or, or_true, and_self, Nat.le_refl, Nat.lt_irrefl]
    rw [z]
  have hL3 : v_log x2 (fl_a (nts m (-1)) h) := hL2
  have f12 : frm PF1 x x2 := f1.tr (f2.mo (inL_mo rfl))
  unfold failM at hQ
  generalize fl_a (nts m (-1)) h = mb at hQ ga gaR e1 e2 hL3
  have hV2 : WV x2 mb := hV.cg f12.x ga rfl rfl
  have k1 : ∀ j, gI x2 403 j = if j = h then gI x 403 h + 1 else gI x 403 j := fun j => by rw [f2.gi rfl]; exact v1 j
  have k2 : gI x2 1007 0 = gI mb 1349 0 := by rw [f2.gi rfl, v2, e2, hfa]
  have hB2 : BV x2 mb := by
    obtain ⟨a, ⟨b1, b2⟩, c, d, e, k⟩ := hB
    have ec : gI mb 34 = gI m 34 := funext (fun i => ga.gi rfl)
    refine ⟨fun j hj => ?_, ⟨fun j => by rw [ec]; exact b1 j, fun j hj => ?_⟩, hV2.1, hV2.2.2.2.1, ?_, hV2.2.2.2.2⟩
    · rw [f12.gn] at hj
      obtain ⟨z1, z2, z3, z4, z5⟩ := a j hj
      refine ⟨by rw [f12.gq]; exact z1, by rw [f12.gi rfl]; exact z2, by rw [f12.gi rfl, ga.gi rfl]; exact z3, by rw [f12.gi rfl, ga.gi rfl]; exact z4, ?_⟩
      rw [k1, e1]
      by_cases y : j = h
      · rw [if_pos y, if_pos y, n2]
      · rw [if_neg y, if_neg y]; exact z5
    · rw [f12.gn] at hj
      obtain ⟨z1, z2, z3⟩ := b2 j hj
      rw [e1, if_neg (by omega), ga.gi rfl, ga.gi rfl]
      exact ⟨z1, z2, z3⟩
    · unfold offs at e ⊢
      rw [f12.gi rfl, ec, f12.gn]; exact e
  have hw2 : w < gN x2 10 := by rw [f12.gn]; exact hw
  have hq2 : gQ x2 1101 w = some (3, h) := by rw [f12.gq]; exact hq
  have t2 : gI x2 1004 0 = nI t := by rw [f12.gi rfl]; exact htx
  have c2 : gI x2 1009 0 = gI mb 1347 0 := by rw [f12.gi rfl, ga.gi rfl]; exact hca
  have hn2 : gI mb 37 w = nI h := by rw [ga.gi rfl]; exact hn
  have ho2 : gI mb 34 h < 256 := by rw [ga.gi rfl]; exact hon
  have tb : gI mb 1342 0 = nI t := by rw [ga.gi rfl]; exact ht
  -- the end, from a state x3 that goes with mc
  have rest : ∀ x3 mc : HS, fl_b mb w = mc → frm PFA x2 x3 → frm PZR mb mc → BV x3 mc → v_tal x3 mc → v_log x3 mc → gI mc 1349 0 = gI mb 1349 0 → gI x3 1007 0 = gI x2 1007 0 → gI mc 1342 0 = nI t → ∀ Q' : PO, (∀ x', Q none x' → Q' none x') → MM 73 [rW, .inr (.inr (some (3, h)))] (sI (sQ x3 1008 0 none) 1005 0 (nI t + 18)) Q' := by
    intro x3 mc ec f3 g3 hB3 hT3 hL4 y1 y2 y3 Q' hi
    rw [ec] at hQ
    have fx4 : frx PFA x (sI (sQ x3 1008 0 none) 1005 0 (nI t + 18)) := ((((f12.mo (inL_mo rfl)).tr f3).x).sq).si rfl
    have fz : frx (inL [1005]) x3 (sI (sQ x3 1008 0 none) 1005 0 (nI t + 18)) := (frx.rf.sq).si rfl
    have gR := gaR.tr g3
    have hS4 : STc (sI (sQ x3 1008 0 none) 1005 0 (nI t + 18)) mc := hS.cg (fx4.mo (PXR_l rfl)) gR
    have q4 : gQ (sI (sQ x3 1008 0 none) 1005 0 (nI t + 18)) 1008 0 = none := by simp only [gI_sI, gL_sL, gQ_sQ, gI_sJ, gI_sL, gI_sQ, gL_sI, gL_sQ, gL_sJ, gQ_sI, gQ_sL, gQ_sJ, gN_sI, gN_sL, gN_sQ, gN_sJ, Nat.reduceLT, Nat.reduceEqDiff, reduceIte, Nat.reduceAdd, Nat.reduceLeDiff, Nat.reduceSub, Bool.false_eq_true, if_true, if_false, ite_true, ite_false, List.length_cons, List.length_nil, Nat.zero_add, Nat.add_zero, and_true, true_and, true_or, or_true, and_self, Nat.le_refl, Nat.lt_irrefl]
    have r4 : gI (sI (sQ x3 1008 0 none) 1005 0 (nI t + 18)) 1005 0 = nI t + 18 := by simp only [gI_sI, gL_sL, gQ_sQ, gI_sJ, gI_sL, gI_sQ, gL_sI, gL_sQ, gL_sJ, gQ_sI, gQ_sL, gQ_sJ, gN_sI, gN_sL, gN_sQ, gN_sJ, Nat.reduceLT, Nat.reduceEqDiff, reduceIte, Nat.reduceAdd, Nat.reduceLeDiff, Nat.reduceSub, Bool.false_eq_true, if_true, if_false, ite_true, ite_false, List.length_cons, List.length_nil, Nat.zero_add, Nat.add_zero, and_true, true_and, true_or, or_true, and_self, Nat.le_refl, Nat.lt_irrefl]
    have t4 : gI (sI (sQ x3 1008 0 none) 1005 0 (nI t + 18)) 1004 0 = gI mc 1342 0 := by rw [fx4.gi rfl, htx, y3]
    have hB4 := hB3.cg fz (frm.rf (P := inL [])) rfl rfl
    have hT4 := hT3.cg fz (frm.rf (P := inL [])) rfl rfl
    have hL5 := hL4.cg fz (frm.rf (P := inL [])) rfl rfl
    have u4 : gI (sI (sQ x3 1008 0 none) 1005 0 (nI t + 18)) 1007 0 = gI mb 1349 0 := by rw [fz.gi rfl, y2, k2]
    generalize sI (sQ x3 1008 0 none) 1005 0 (nI t + 18) = x4 at *
    have gn3 : gN x4 3 = gN x 3 := fx4.gn 3
    have gn10 : gN x4 10 = gN x 10 := fx4.gn 10
    refine c_blame hS4 t4 (by rw [gn3]; exact hh) hB4 (fun x5 f5 hB5 => hi x5 ?_)
    rw [gn3, gn10] at hB5
    have gb := blN_f (gN x 10) h mc (gN x 3)
    have gc : frm (inL [1344, 1343]) (blN (gN x 10) h mc (gN x 3)) (fl_c (blN (gN x 10) h mc (gN x 3))) := (frm.rf.si rfl).si rfl
    have gcR : frm PZR (blN (gN x 10) h mc (gN x 3)) (fl_c (blN (gN x 10) h mc (gN x 3))) := (frm.rf.si rfl).si rfl
    have ef : gI (fl_c (blN (gN x 10) h mc (gN x 3))) 1343 0 = gI (blN (gN x 10) h mc (gN x 3)) 1342 0 + 18 := by
      unfold fl_c
      simp only [gI_sI, gL_sL, gQ_sQ, gI_sJ, gI_sL, gI_sQ, gL_sI, gL_sQ, gL_sJ, gQ_sI, gQ_sL, gQ_sJ, gN_sI, gN_sL, gN_sQ, gN_sJ, Nat.reduceLT, Nat.reduceEqDiff, reduceIte, Nat.reduceAdd, Nat.reduceLeDiff, Nat.reduceSub, Bool.false_eq_true, if_true, if_false, ite_true, ite_false, List.length_cons, List.length_nil, Nat.zero_add, Nat.add_zero, and_true, true_and, true_or, or_true, and_self, Nat.le_refl, Nat.lt_irrefl]
    have hT5 := (hT4.cg f5.x gb rfl rfl).cg (frm.rf (P := inL [])).x gc rfl rfl
    have hL6 := (hL5.cg f5.x gb rfl rfl).cg (frm.rf (P := inL [])).x gc rfl rfl
    refine hQ x5 (fx4.tr (f5.x.mo (inL_mo rfl))) (by rw [f5.gq]; exact q4) ((gR.tr (gb.mo PZR_sl)).tr gcR) (hB5.cg (frm.rf (P := inL [])).x gc rfl rfl) hT5 hL6 ?_ ?_
    · rw [ef, gb.gi rfl, y3, f5.gi rfl, r4]
    · rw [gc.gi rfl, gb.gi rfl, f5.gi rfl, u4, y1]
  obtain ⟨b1, b2, b3⟩ := hV2.1.1 w hw2
  rcases b2 with q | q
  · have qx : gI x2 1110 w = 0 := b1.trans q
    have eb : fl_b mb w = cm1 mb w (gI mb 1347 0) := by
      unfold fl_b cm1
      rw [if_pos q, if_pos q]
    have es : stW x2 w (gI mb 1347 0) = cmX x2 w (gI mb 1347 0) := by
      unfold stW cmX
      rw [if_pos qx, if_pos qx]
    have hV3 := come_st (fr := gI mb 1347 0) hV2 hw2 hn2 (by omega) ho2
    have fX := cmX_f x2 w (gI mb 1347 0)
    have fM := cm1_f1 mb w (gI mb 1347 0)
    have fMR := cm1_f mb w (gI mb 1347 0)
    have hB3 : BV (cmX x2 w (gI mb 1347 0)) (cm1 mb w (gI mb 1347 0)) := by
      obtain ⟨a, b, c, d, e, k⟩ := hB2
      have ec : gI (cm1 mb w (gI mb 1347 0)) 34 = gI mb 34 := funext (fun i => fM.gi rfl)
      refine ⟨a.cg fX.x fM rfl rfl, b.cg fX.x fM rfl rfl, hV3.1, hV3.2.2.2.1, ?_, hV3.2.2.2.2⟩
      unfold offs at e ⊢
      rw [fX.gi rfl, ec, fX.gn]; exact e
    rw [h_fail 21]
    simp only [am_run_s, bt, lf, am_in, am_ar, am_fit, am_ld, am_ct, Nat.reduceLT, Nat.reduceEqDiff, reduceIte, Nat.reduceAdd, Nat.reduceLeDiff, Nat.reduceSub, Bool.false_eq_true, if_true, if_false, ite_true, ite_false, List.length_cons, List.length_nil, Nat.zero_add, Nat.add_zero, and_true, true_and, true_or, or_true, and_self, Nat.le_refl, Nat.lt_irrefl, gI_sI, gL_sL, gQ_sQ, gI_sJ, gI_sL, gI_sQ, gL_sI, gL_sQ, gL_sJ, gQ_sI, gQ_sL, gQ_sJ, gN_sI, gN_sL, gN_sQ, gN_sJ, E_b2_0, E_cV_a, E_cV_b, E_c_0, E_dup_0, E_dup_1, E_getI_0, E_getR_0, E_jmp_0, E_jz_0, E_kk, E_ldR_a, E_ldR_b, E_putI_0, E_putR_0, E_rV_0, am_cc, am_pop, am_rt, cC_10, cC_2, cC_3, cC_9, rQ_1101, rR_1003, sN_1008, kX9_fail, kX9_fail_0, kX9_fail_1, hw2, qx, c2]
    rw [s_startW w _ _ _ hw2, es]
    have hw3 : w < gN (cmX x2 w (gI mb 1347 0)) 10 := by rw [fX.gn]; exact hw2
    have hq3 : gQ (cmX x2 w (gI mb 1347 0)) 1101 w = some (3, h) := by rw [fX.gq]; exact hq2
    have t3 : gI (cmX x2 w (gI mb 1347 0)) 1004 0 = nI t := by rw [fX.gi rfl]; exact t2
    have R := rest (cmX x2 w (gI mb 1347 0)) _ eb (fX.mo (inL_mo rfl)) (fMR.mo PZR_cm) hB3 hV3.2.1 (hL3.cg fX.x fM rfl rfl) (fM.gi rfl) (fX.gi rfl) (by rw [fM.gi rfl]; exact tb)
    generalize cmX x2 w (gI mb 1347 0) = x3 at *
    simp only [am_run_s, bt, lf, am_in, am_ar, am_fit, am_ld, am_ct, Nat.reduceLT, Nat.reduceEqDiff, reduceIte, Nat.reduceAdd, Nat.reduceLeDiff, Nat.reduceSub, Bool.false_eq_true, if_true, if_false, ite_true, ite_false, List.length_cons, List.length_nil, Nat.zero_add, Nat.add_zero, and_true, true_and, true_or, or_true, and_self, Nat.le_refl, Nat.lt_irrefl, gI_sI, gL_sL, gQ_sQ, gI_sJ, gI_sL, gI_sQ, gL_sI, gL_sQ, gL_sJ, gQ_sI, gQ_sL, gQ_sJ, gN_sI, gN_sL, gN_sQ, gN_sJ, E_b2_0, E_cV_a, E_cV_b, E_c_0, E_dup_0, E_dup_1, E_getI_0, E_getR_0, E_jmp_0, E_jz_0, E_kk, E_ldR_a, E_ldR_b, E_putI_0, E_putR_0, E_rV_0, am_cc, am_pop, am_rt, cC_10, cC_2, cC_3, cC_9, rQ_1101, rR_1003, sN_1008, kX9_fail, kX9_fail_0, kX9_fail_1, am_v, hw3, hq3, t3]
    refine R _ (fun x' hx => ?_)
    simp only [am_run_s, bt, lf, am_in, am_ar, am_fit, am_ld, am_ct, Nat.reduceLT, Nat.reduceEqDiff, reduceIte, Nat.reduceAdd, Nat.reduceLeDiff, Nat.reduceSub, Bool.false_eq_true, if_true, if_false, ite_true, ite_false, List.length_cons, List.length_nil, Nat.zero_add, Nat.add_zero, and_true, true_and, true_or, or_true, and_self, Nat.le_refl, Nat.lt_irrefl, gI_sI, gL_sL, gQ_sQ, gI_sJ, gI_sL, gI_sQ, gL_sI, gL_sQ, gL_sJ, gQ_sI, gQ_sL, gQ_sJ, gN_sI, gN_sL, gN_sQ, gN_sJ, E_b2_0, E_cV_a, E_cV_b, E_c_0, E_dup_0, E_dup_1, E_getI_0, E_getR_0, E_jmp_0, E_jz_0, E_kk, E_ldR_a, E_ldR_b, E_putI_0, E_putR_0, E_rV_0, am_cc, am_pop, am_rt, cC_10, cC_2, cC_3, cC_9, rQ_1101, rR_1003, sN_1008, kX9_fail, kX9_fail_0, kX9_fail_1]
    exact hx
  · have qx : ¬ gI x2 1110 w = 0 := by rw [b1, q]; decide
    have qm : ¬ gI mb 72 w = 0 := by rw [q]; decide
    have eb : fl_b mb w = sI mb 50 w (gI mb 50 w + 1) := by
      unfold fl_b
      rw [if_neg qm]
    have fX : frm (inL [1113]) x2 (sI x2 1113 w (gI x2 1113 w + 1)) := frm.rf.si rfl
    have fM : frm (inL [50]) mb (sI mb 50 w (gI mb 50 w + 1)) := frm.rf.si rfl
    have fMR : frm PZR mb (sI mb 50 w (gI mb 50 w + 1)) := frm.rf.si rfl
    have hT3 : v_tal (sI x2 1113 w (gI x2 1113 w + 1)) (sI mb 50 w (gI mb 50 w + 1)) := by
      obtain ⟨z1, z2⟩ := hV2.2.1
      refine ⟨fun j hj => ?_, fun j hj => ?_⟩
      · obtain ⟨y1, y2, y3⟩ := z1 j hj
        refine ⟨y1, ?_, y3⟩
        simp only [gI_sI, gL_sL, gQ_sQ, gI_sJ, gI_sL, gI_sQ, gL_sI, gL_sQ, gL_sJ, gQ_sI, gQ_sL, gQ_sJ, gN_sI, gN_sL, gN_sQ, gN_sJ, Nat.reduceLT, Nat.reduceEqDiff, reduceIte, Nat.reduceAdd, Nat.reduceLeDiff, Nat.reduceSub, Bool.false_eq_true, if_true, if_false, ite_true, ite_false, List.length_cons, List.length_nil, Nat.zero_add, Nat.add_zero, and_true, true_and, true_or, or_true, and_self, Nat.le_refl, Nat.lt_irrefl]
        by_cases e : j = w
        · rw [if_pos e, if_pos e, ← e, y2]
        · rw [if_neg e, if_neg e]; exact y2
      · have hj' : gN x2 10 ≤ j := hj
        obtain ⟨y1, y2⟩ := z2 j hj
        refine ⟨y1, ?_⟩
        simp only [gI_sI, gL_sL, gQ_sQ, gI_sJ, gI_sL, gI_sQ, gL_sI, gL_sQ, gL_sJ, gQ_sI, gQ_sL, gQ_sJ, gN_sI, gN_sL, gN_sQ, gN_sJ, Nat.reduceLT, Nat.reduceEqDiff, reduceIte, Nat.reduceAdd, Nat.reduceLeDiff, Nat.reduceSub, Bool.false_eq_true, if_true, if_false, ite_true, ite_false, List.length_cons, List.length_nil, Nat.zero_add, Nat.add_zero, and_true, true_and, true_or, or_true, and_self, Nat.le_refl, Nat.lt_irrefl]
        rw [if_neg (by omega)]; exact y2
    have R := rest _ _ eb (fX.mo (inL_mo rfl)) fMR (hB2.cg fX.x fM rfl rfl) hT3 (hL3.cg fX.x fM rfl rfl) (fM.gi rfl) (fX.gi rfl) (by rw [fM.gi rfl]; exact tb)
    rw [h_fail 23]
    simp only [am_run_s, bt, lf, am_in, am_ar, am_fit, am_ld, am_ct, Nat.reduceLT, Nat.reduceEqDiff, reduceIte, Nat.reduceAdd, Nat.reduceLeDiff, Nat.reduceSub, Bool.false_eq_true, if_true, if_false, ite_true, ite_false, List.length_cons, List.length_nil, Nat.zero_add, Nat.add_zero, and_true, true_and, true_or, or_true, and_self, Nat.le_refl, Nat.lt_irrefl, gI_sI, gL_sL, gQ_sQ, gI_sJ, gI_sL, gI_sQ, gL_sI, gL_sQ, gL_sJ, gQ_sI, gQ_sL, gQ_sJ, gN_sI, gN_sL, gN_sQ, gN_sJ, E_b2_0, E_cV_a, E_cV_b, E_c_0, E_dup_0, E_dup_1, E_getI_0, E_getR_0, E_jmp_0, E_jz_0, E_kk, E_ldR_a, E_ldR_b, E_putI_0, E_putR_0, E_rV_0, am_cc, am_pop, am_rt, cC_10, cC_2, cC_3, cC_9, rQ_1101, rR_1003, sN_1008, kX9_fail, kX9_fail_0, kX9_fail_1, am_v, hw2, qx, hq2, t2]
    refine R _ (fun x' hx => ?_)
    simp only [am_run_s, bt, lf, am_in, am_ar, am_fit, am_ld, am_ct, Nat.reduceLT, Nat.reduceEqDiff, reduceIte, Nat.reduceAdd, Nat.reduceLeDiff, Nat.reduceSub, Bool.false_eq_true, if_true, if_false, ite_true, ite_false, List.length_cons, List.length_nil, Nat.zero_add, Nat.add_zero, and_true, true_and, true_or, or_true, and_self, Nat.le_refl, Nat.lt_irrefl, gI_sI, gL_sL, gQ_sQ, gI_sJ, gI_sL, gI_sQ, gL_sI, gL_sQ, gL_sJ, gQ_sI, gQ_sL, gQ_sJ, gN_sI, gN_sL, gN_sQ, gN_sJ, E_b2_0, E_cV_a, E_cV_b, E_c_0, E_dup_0, E_dup_1, E_getI_0, E_getR_0, E_jmp_0, E_jz_0, E_kk, E_ldR_a, E_ldR_b, E_putI_0, E_putR_0, E_rV_0, am_cc, am_pop, am_rt, cC_10, cC_2, cC_3, cC_9, rQ_1101, rR_1003, sN_1008, kX9_fail, kX9_fail_0, kX9_fail_1]
    exact hx
