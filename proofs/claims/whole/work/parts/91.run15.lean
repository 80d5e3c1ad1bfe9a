/-! ===== the run: the class: all words come ===== -/
def calW (x m : HS) (i : Nat) : Prop := am_b (gI x 1116 i) ∧ (gI m 39 i = 0 ∨ gI m 39 i = 1 → gI x 1116 i = 0) ∧ (gI m 39 i = 2 → gI x 1117 i = gI m 48 i ∧ (gI x 1116 i = 1 ↔ gI m 48 i = gI m 1342 0) ∧ ¬ gI m 1342 0 < gI m 48 i ∧ ¬ gI m 48 i < -1) ∧ (gI m 39 i = 3 → (gI x 1116 i = 1 ↔ gI m 47 i = gI m 1342 0) ∧ ¬ gI m 1342 0 < gI m 47 i)
/-- the same once the word has come in this tick -/
def ca2W (x m : HS) (i : Nat) : Prop := am_b (gI x 1116 i) ∧ (gI m 39 i = 0 ∨ gI m 39 i = 1 → gI x 1116 i = 0) ∧ (gI m 39 i = 2 → gI x 1117 i = gI m 48 i ∧ gI x 1116 i = 0 ∧ ¬ gI m 1342 0 < gI m 48 i ∧ ¬ gI m 48 i < -1) ∧ (gI m 39 i = 3 → (gI x 1116 i = 1 ↔ gI m 47 i = gI m 1342 0 + 1) ∧ ¬ gI m 1342 0 + 1 < gI m 47 i)
def v_ca2 (x m : HS) : Prop := ∀ i : Nat, i < gN x 10 → ca2W x m i
theorem calW.to {x m x' m' : HS} {i : Nat} (h : calW x m i) (e1 : gI x' 1116 i = gI x 1116 i) (e2 : gI x' 1117 i = gI x 1117 i) (e3 : gI m' 39 i = gI m 39 i) (e4 : gI m' 48 i = gI m 48 i) (e5 : gI m' 47 i = gI m 47 i) (e6 : gI m' 1342 0 = gI m 1342 0) : calW x' m' i := by
  unfold calW at h ⊢
  rw [e1, e2, e3, e4, e5, e6]
  exact h
theorem ca2W.to {x m x' m' : HS} {i : Nat} (h : ca2W x m i) (e1 : gI x' 1116 i = gI x 1116 i) (e2 : gI x' 1117 i = gI x 1117 i) (e3 : gI m' 39 i = gI m 39 i) (e4 : gI m' 48 i = gI m 48 i) (e5 : gI m' 47 i = gI m 47 i) (e6 : gI m' 1342 0 = gI m 1342 0) : ca2W x' m' i := by
  unfold ca2W at h ⊢
  rw [e1, e2, e3, e4, e5, e6]
  exact h
theorem dueX_to {x x' : HS} {i : Nat} (e1 : gI x' 1103 i = gI x 1103 i) (e2 : gI x' 1106 i = gI x 1106 i) (e3 : gI x' 1115 i = gI x 1115 i) (e4 : gI x' 1105 i = gI x 1105 i) (e5 : gI x' 1107 i = gI x 1107 i) (e6 : gI x' 1116 i = gI x 1116 i) : dueX x' i = dueX x i := by
  unfold dueX
  rw [e1, e2, e3, e4, e5, e6]
theorem lt_1 {a : Int32} {t : Nat} (ht : t < 2147483646) (h : ¬ nI t < a) : ¬ a = nI t + 1 ∧ ¬ nI t + 1 < a := by
  rw [nI_1]
  have e1 := nI_toInt (n := t) (by omega)
  have e2 := nI_toInt (n := t + 1) (by omega)
  rw [Int32.lt_iff_toInt_lt, e1] at h
  refine ⟨fun z => ?_, fun z => ?_⟩
  · rw [z, e2] at h
    omega
  · rw [Int32.lt_iff_toInt_lt, e2] at z
    omega
/-- a word that has come is as it is after this tick's coming -/
theorem calW.off {x m x' m' : HS} {i t : Nat} (h : calW x m i) (ht : gI m 1342 0 = nI t) (ht2 : t < 2147483646) (e1 : gI x' 1116 i = 0) (e2 : gI x' 1117 i = gI x 1117 i) (e3 : gI m' 39 i = gI m 39 i) (e4 : gI m' 48 i = gI m 48 i) (e5 : gI m' 47 i = gI m 47 i) (e6 : gI m' 1342 0 = gI m 1342 0) : ca2W x' m' i := by
  obtain ⟨a1, a2, a3, a4⟩ := h
  unfold ca2W
  rw [e1, e2, e3, e4, e5, e6]
  refine ⟨Or.inl rfl, fun _ => rfl, fun k => ?_, fun k => ?_⟩
  · obtain ⟨b1, b2, b3, b4⟩ := a3 k
    exact ⟨b1, rfl, b3, b4⟩
  · obtain ⟨b1, b2⟩ := a4 k
    rw [ht] at b2 ⊢
    obtain ⟨c1, c2⟩ := lt_1 ht2 b2
    exact ⟨⟨fun z => absurd z (by decide), fun z => absurd z c1⟩, c2⟩
theorem cmN_s (m : HS) (i : Nat) : cmN m (i + 1) = cmW (cmN m i) i := rfl
theorem cmN_e {m : HS} : ∀ {n : Nat}, (∀ i, i < n → cmW m i = m) → cmN m n = m
  | 0, _ => rfl
  | n + 1, h => by rw [cmN_s, cmN_e (n := n) (fun i hi => h i (by omega)), h n (by omega)]
theorem dueM_eq {x m : HS} (hw : v_wrd x m) (hl : v_lat x m) (hn : v_nxt x m) {i : Nat} (hi : i < gN x 10) (hq : gI m 39 i = 0 ∨ gI m 39 i = 1) : dueX x i = dueM m i := by
  unfold dueX dueM wldM
  obtain ⟨-, -, w1, -, w2, w3⟩ := hw i hi
  rw [w1, if_pos hq, w2, w3, (hl.1 i hi).1, (hn.1 i hi hq).1]
/-- not due: nothing comes, on either side -/
theorem cmW_no {x m : HS} (hw : v_wrd x m) (hl : v_lat x m) (hn : v_nxt x m) (hr : v_rng x m) {i t : Nat} (hi : i < gN x 10) (ht : gI m 1342 0 = nI t) (ht2 : t < 2147483646) (hc : calW x m i) (hd : nI t < dueX x i) : cmW m i = m ∧ gI x 1116 i = 0 := by
  obtain ⟨a1, a2, a3, a4⟩ := hc
  by_cases k : gI m 39 i = 0 ∨ gI m 39 i = 1
  · refine ⟨?_, a2 k⟩
    rw [dueM_eq hw hl hn hi k] at hd
    unfold cmW
    rw [if_pos k]
    unfold cmT
    rw [ht, if_pos hd]
  · have c0 : gI x 1116 i = 0 := by
      rcases a1 with z | z
      · exact z
      · exfalso
        unfold dueX at hd
        rw [(hw i hi).2.2.1, if_neg k, z, if_neg (by decide)] at hd
        exact nI_pos (n := t) (by omega) hd
    refine ⟨?_, c0⟩
    unfold cmW
    rw [if_neg k]
    refine if_neg ?_
    rintro (⟨z1, z2⟩ | ⟨z1, z2⟩)
    · have := (a4 z1).1.mpr z2
      rw [c0] at this
      exact absurd this (by decide)
    · have := (a3 z1).2.1.mpr z2
      rw [c0] at this
      exact absurd this (by decide)
def PLW : Nat → Bool := inL [1115, 1116, 1013, 1110, 1111, 1113]
theorem lc1_f (σ : HS) (w : Nat) : frm PLW σ (lc1 σ w) := by
  unfold lc1
  by_cases q : gI σ 1103 w = 0 ∨ gI σ 1103 w = 1
  · rw [if_pos q]; exact (frm.rf.si rfl).si rfl
  · rw [if_neg q]; exact frm.rf.si rfl
theorem PLW_X (f : Nat) (hf : PLW f = false) : PCX f = false := inL_mo rfl f hf
/-- the registers that the coming of word w leaves as they were, at another word -/
theorem lc1_o (σ : HS) {w i : Nat} (e : i ≠ w) : gI (lc1 σ w) 1115 i = gI σ 1115 i ∧ gI (lc1 σ w) 1116 i = gI σ 1116 i := by
  unfold lc1
  by_cases q : gI σ 1103 w = 0 ∨ gI σ 1103 w = 1
  · rw [if_pos q]; simp only [gI_sI, gL_sL, gQ_sQ, gI_sJ, gI_sL, gI_sQ, gL_sI, gL_sQ, gL_sJ, gQ_sI, gQ_sL, gQ_sJ, gN_sI, gN_sL, gN_sQ, gN_sJ, Nat.reduceLT, Nat.reduceEqDiff, reduceIte, Nat.reduceAdd, Nat.reduceLeDiff, Nat.reduceSub, Bool.false_eq_true, if_true, if_false, ite_true, ite_false, List.length_cons, List.length_nil, Nat.zero_add, Nat.add_zero, and_true, true_and, true_or, or_true, and_self, Nat.le_refl, Nat.lt_irrefl]; rw [if_neg e, if_neg e]; exact ⟨rfl, rfl⟩
  · rw [if_neg q]; simp only [gI_sI, gL_sL, gQ_sQ, gI_sJ, gI_sL, gI_sQ, gL_sI, gL_sQ, gL_sJ, gQ_sI, gQ_sL, gQ_sJ, gN_sI, gN_sL, gN_sQ, gN_sJ, Nat.reduceLT, Nat.reduceEqDiff, reduceIte, Nat.reduceAdd, Nat.reduceLeDiff, Nat.reduceSub, Bool.false_eq_true, if_true, if_false, ite_true, ite_false, List.length_cons, List.length_nil, Nat.zero_add, Nat.add_zero, and_true, true_and, true_or, or_true, and_self, Nat.le_refl, Nat.lt_irrefl]; rw [if_neg e]
theorem lc1_c (σ : HS) (w : Nat) : gI (lc1 σ w) 1116 w = 0 := by
  unfold lc1
  simp only [gI_sI, gL_sL, gQ_sQ, gI_sJ, gI_sL, gI_sQ, gL_sI, gL_sQ, gL_sJ, gQ_sI, gQ_sL, gQ_sJ, gN_sI, gN_sL, gN_sQ, gN_sJ, Nat.reduceLT, Nat.reduceEqDiff, reduceIte, Nat.reduceAdd, Nat.reduceLeDiff, Nat.reduceSub, Bool.false_eq_true, if_true, if_false, ite_true, ite_false, List.length_cons, List.length_nil, Nat.zero_add, Nat.add_zero, and_true, true_and, true_or, or_true, and_self, Nat.le_refl, Nat.lt_irrefl]
/-- due: the next time, by time -/
theorem WV.nx {x m : HS} (hV : WV x m) (hw : v_wrd x m) {i t : Nat} (hi : i < gN x 10) (ht : gI m 1342 0 = nI t) (ht2 : t ≤ 2560000) (hk : gI m 39 i = 0 ∨ gI m 39 i = 1) (hl : v_lat x m) (hd : ¬ nI t < dueX x i) : WV (lc1 x i) (nx1 m i) := by
  obtain ⟨a, b, c, d, e⟩ := hV
  obtain ⟨f0, n0, t0, l0, q1, q2, q3, q4, q5, q6, q7, q8, q9, q10, q11⟩ := dueX_val hw hl c hi hk
  have hmod : 7 * n0 % (l0 + 1) < l0 + 1 := Nat.mod_lt _ (by omega)
  have hkx : gI x 1103 i = 0 ∨ gI x 1103 i = 1 := by rw [(hw i hi).2.2.1]; exact hk
  have ex : lc1 x i = sI (sI x 1115 i (gI x 1115 i + 1)) 1116 i 0 := by
    unfold lc1; rw [if_pos hkx]
  have fx : frm (inL [1115, 1116]) x (lc1 x i) := by rw [ex]; exact (frm.rf.si rfl).si rfl
  have fm : frm (inL [46]) m (nx1 m i) := frm.rf.si rfl
  have gn := fx.gn 10
  rw [q11] at hd
  have hd2 : f0 + n0 * t0 + 7 * n0 % (l0 + 1) ≤ t := by
    rcases Nat.lt_or_ge t (f0 + n0 * t0 + 7 * n0 % (l0 + 1)) with z | z
    · exact absurd ((nI_ltI (by omega) (by omega)).mpr z) hd
    · exact z
  refine ⟨a.cg fx.x fm rfl rfl, b.cg fx.x fm rfl rfl, ⟨fun j hj hkj => ?_, fun j hj => ?_⟩, ?_, ?_⟩
  · rw [gn] at hj
    have hkj' : gI m 39 j = 0 ∨ gI m 39 j = 1 := hkj
    obtain ⟨p1, n, f, t', k, p2, p3, p4, p5, p6, p7, p8, p9, p10⟩ := c.1 j hj hkj'
    by_cases ej : j = i
    · subst ej
      have hn : n = n0 := (nI_eq (by
        have : n * 100 ≤ n * t' := Nat.mul_le_mul_left n p7
        rcases p10 with rfl | p10
        · omega
        · omega) (by omega)).mp (p2.symm.trans q2)
      subst hn
      have hf : f = f0 := (nI_eq (by omega) (by omega)).mp (p3.symm.trans q1)
      have htt : t' = t0 := (nI_eq (by omega) (by omega)).mp (p4.symm.trans q3)
      subst hf
      subst htt
      refine ⟨?_, n + 1, f, t', k, ?_, p3, p4, p5, p6, p7, p8, p9, Or.inr ?_⟩
      · rw [ex]
        unfold nx1
        simp only [gI_sI, gL_sL, gQ_sQ, gI_sJ, gI_sL, gI_sQ, gL_sI, gL_sQ, gL_sJ, gQ_sI, gQ_sL, gQ_sJ, gN_sI, gN_sL, gN_sQ, gN_sJ, Nat.reduceLT, Nat.reduceEqDiff, reduceIte, Nat.reduceAdd, Nat.reduceLeDiff, Nat.reduceSub, Bool.false_eq_true, if_true, if_false, ite_true, ite_false, List.length_cons, List.length_nil, Nat.zero_add, Nat.add_zero, and_true, true_and, true_or, or_true, and_self, Nat.le_refl, Nat.lt_irrefl]
        rw [p1]
      · unfold nx1
        simp only [gI_sI, gL_sL, gQ_sQ, gI_sJ, gI_sL, gI_sQ, gL_sI, gL_sQ, gL_sJ, gQ_sI, gQ_sL, gQ_sJ, gN_sI, gN_sL, gN_sQ, gN_sJ, Nat.reduceLT, Nat.reduceEqDiff, reduceIte, Nat.reduceAdd, Nat.reduceLeDiff, Nat.reduceSub, Bool.false_eq_true, if_true, if_false, ite_true, ite_false, List.length_cons, List.length_nil, Nat.zero_add, Nat.add_zero, and_true, true_and, true_or, or_true, and_self, Nat.le_refl, Nat.lt_irrefl]
        rw [p2, nI_1]
      · have hkt : k = t := (nI_eq (by omega) (by omega)).mp (p5.symm.trans ht)
        have : (n + 1) * t' = n * t' + t' := Nat.succ_mul n t'
        omega
    · refine ⟨?_, n, f, t', k, ?_, p3, p4, p5, p6, p7, p8, p9, p10⟩
      · rw [ex]
        unfold nx1
        simp only [gI_sI, gL_sL, gQ_sQ, gI_sJ, gI_sL, gI_sQ, gL_sI, gL_sQ, gL_sJ, gQ_sI, gQ_sL, gQ_sJ, gN_sI, gN_sL, gN_sQ, gN_sJ, Nat.reduceLT, Nat.reduceEqDiff, reduceIte, Nat.reduceAdd, Nat.reduceLeDiff, Nat.reduceSub, Bool.false_eq_true, if_true, if_false, ite_true, ite_false, List.length_cons, List.length_nil, Nat.zero_add, Nat.add_zero, and_true, true_and, true_or, or_true, and_self, Nat.le_refl, Nat.lt_irrefl]
        rw [if_neg ej, if_neg ej]; exact p1
      · unfold nx1
        simp only [gI_sI, gL_sL, gQ_sQ, gI_sJ, gI_sL, gI_sQ, gL_sI, gL_sQ, gL_sJ, gQ_sI, gQ_sL, gQ_sJ, gN_sI, gN_sL, gN_sQ, gN_sJ, Nat.reduceLT, Nat.reduceEqDiff, reduceIte, Nat.reduceAdd, Nat.reduceLeDiff, Nat.reduceSub, Bool.false_eq_true, if_true, if_false, ite_true, ite_false, List.length_cons, List.length_nil, Nat.zero_add, Nat.add_zero, and_true, true_and, true_or, or_true, and_self, Nat.le_refl, Nat.lt_irrefl]
        rw [if_neg ej]; exact p2
  · rw [gn] at hj
    unfold nx1
    simp only [gI_sI, gL_sL, gQ_sQ, gI_sJ, gI_sL, gI_sQ, gL_sI, gL_sQ, gL_sJ, gQ_sI, gQ_sL, gQ_sJ, gN_sI, gN_sL, gN_sQ, gN_sJ, Nat.reduceLT, Nat.reduceEqDiff, reduceIte, Nat.reduceAdd, Nat.reduceLeDiff, Nat.reduceSub, Bool.false_eq_true, if_true, if_false, ite_true, ite_false, List.length_cons, List.length_nil, Nat.zero_add, Nat.add_zero, and_true, true_and, true_or, or_true, and_self, Nat.le_refl, Nat.lt_irrefl]
    rw [if_neg (by omega)]
    exact c.2 j hj
  · rw [fx.gi rfl, gn]; exact d
  · intro j hj h y1 y2 y3
    rw [gn] at hj
    exact e j hj h y1 y2 y3
theorem WV.ca {x m : HS} (hV : WV x m) {i : Nat} (hk : ¬ (gI x 1103 i = 0 ∨ gI x 1103 i = 1)) : WV (lc1 x i) m := by
  obtain ⟨a, b, c, d, e⟩ := hV
  have ex : lc1 x i = sI x 1116 i 0 := by
    unfold lc1; rw [if_neg hk]
  rw [ex]
  exact ⟨a, b, c, d, e⟩
