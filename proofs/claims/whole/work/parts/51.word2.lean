/-! ===== word ===== -/
def wX (σ : HS) (w a : Nat) (r kq nq t f vX : Int32) : HS := sI (sI (sI (sQ (sI (sI (sI (sI (sI (sI (sI (sQ (sI (sI (sI (sO σ 10 w) 1114 w (-1)) 1117 w (-1)) 1100 w (nI w)) 1101 w (some (3, a))) 1102 w r) 1103 w kq) 1104 w nq) 1105 w t) 1106 w f) 1108 w t) 1115 w vX) 91 w (some (10, w))) 703 0 (nI (w + 1))) 1015 0 0) 106 0 0
def wM (x : HS) (w : Nat) (nd r kq nq t f vM : Int32) : HS := sI (sI (sI (sI (sI (sI (sI (sI (sI (sI (sI (sI (sI x 1314 0 (nI (w + 1))) 37 w nd) 38 w r) 39 w kq) 40 w nq) 41 w t) 42 w f) 44 w t) 51 w (-1)) 47 w (-1)) 48 w (-1)) 46 w vM) 1361 0 0
theorem nI_m1ne {n : Nat} (h : n < 2147483648) : ¬ nI n = -1 := by
  intro z
  have := nI_f h
  rw [z] at this
  exact absurd this (by decide)
theorem word_inv {k w a rr kc nc tt ff tk : Nat} {σ : HS} {r kq nq t f vX vM : Int32} (h : Inv k σ) (hk : k < 512) (hw : gN σ 10 = w) (h24 : w < 24) (ha : a < gN σ 3) (hr : r = nI rr) (hr2 : rr < 536872960) (hne : ∀ i, i < w → gI σ 38 i ≠ r) (hkq : kq = nI kc) (hkc : kc ≤ 3) (hnq : nq = nI nc) (hnc : nc ≤ 8) (ht : t = nI tt) (ht1 : 100 ≤ tt) (ht2 : tt ≤ 100000) (hf : f = nI ff) (hff : ff ≤ 100000) (htk : gI σ 1342 0 = nI tk) (htk3 : tk ≤ 2560000) (hvx : kc = 0 ∨ kc = 1 → vX = vM) (hvm : ∃ n : Nat, vM = nI n ∧ (n = 0 ∨ ff + n * tt ≤ tk + tt)) : Inv (k + 1) (wM (wX σ w a r kq nq t f vX) w (nI a) r kq nq t f vM) := by
  obtain ⟨tk', hx1, hx2, hx3⟩ := h.2.2.1.2.2.1
  have htk' : nI tk' = nI tk := by rw [← htk]; exact hx2.symm
  have z1 := h.2.1.2.2.2.1.2 w (by omega)
  have z2 := h.2.1.2.2.2.2.2.1.2 w (by omega)
  have z3 := h.2.2.1.1.2 w (by omega)
  have z4 := h.2.2.1.2.1.2 w (by omega)
  have c1 : v_wrd (wM (wX σ w a r kq nq t f vX) w (nI a) r kq nq t f vM) (wM (wX σ w a r kq nq t f vX) w (nI a) r kq nq t f vM) := by
    intro i hi
    have hi : i < w + 1 := hi
    simp only [gI_sI, gL_sL, gQ_sQ, gI_sJ, gI_sL, gI_sQ, gL_sI, gL_sQ, gL_sJ, gQ_sI, gQ_sL, gQ_sJ, gN_sI, gN_sL, gN_sQ, gN_sJ, Nat.reduceLT, Nat.reduceEqDiff, reduceIte, Nat.reduceAdd, Nat.reduceLeDiff, Nat.reduceSub, Bool.false_eq_true, if_true, if_false, ite_true, ite_false, List.length_cons, List.length_nil, Nat.zero_add, Nat.add_zero, and_true, true_and, true_or, or_true, and_self, Nat.le_refl, Nat.lt_irrefl, wM, wX, gI_sO, gQ_sO, gL_sO, gN_sO, Nat.reduceDiv]
    by_cases e : i = w
    · subst e; simp
    · simp only [e, reduceIte]
      exact h.2.1.1 i (by omega)
  have c2 : v_hom (wM (wX σ w a r kq nq t f vX) w (nI a) r kq nq t f vM) (wM (wX σ w a r kq nq t f vX) w (nI a) r kq nq t f vM) := by
    intro i hi
    have hi : i < w + 1 := hi
    simp only [gI_sI, gL_sL, gQ_sQ, gI_sJ, gI_sL, gI_sQ, gL_sI, gL_sQ, gL_sJ, gQ_sI, gQ_sL, gQ_sJ, gN_sI, gN_sL, gN_sQ, gN_sJ, Nat.reduceLT, Nat.reduceEqDiff, reduceIte, Nat.reduceAdd, Nat.reduceLeDiff, Nat.reduceSub, Bool.false_eq_true, if_true, if_false, ite_true, ite_false, List.length_cons, List.length_nil, Nat.zero_add, Nat.add_zero, and_true, true_and, true_or, or_true, and_self, Nat.le_refl, Nat.lt_irrefl, wM, wX, gI_sO, gQ_sO, gL_sO, gN_sO, Nat.reduceDiv]
    by_cases e : i = w
    · subst e; exact ⟨a, ha, by simp, by simp⟩
    · simp only [e, reduceIte]
      exact h.2.1.2.1 i (by omega)
  have c3 : v_rnk (wM (wX σ w a r kq nq t f vX) w (nI a) r kq nq t f vM) (wM (wX σ w a r kq nq t f vX) w (nI a) r kq nq t f vM) := by
    refine ⟨fun i hi => ?_, fun i j hi hj hij => ?_⟩
    · have hi : i < w + 1 := hi
      simp only [gI_sI, gL_sL, gQ_sQ, gI_sJ, gI_sL, gI_sQ, gL_sI, gL_sQ, gL_sJ, gQ_sI, gQ_sL, gQ_sJ, gN_sI, gN_sL, gN_sQ, gN_sJ, Nat.reduceLT, Nat.reduceEqDiff, reduceIte, Nat.reduceAdd, Nat.reduceLeDiff, Nat.reduceSub, Bool.false_eq_true, if_true, if_false, ite_true, ite_false, List.length_cons, List.length_nil, Nat.zero_add, Nat.add_zero, and_true, true_and, true_or, or_true, and_self, Nat.le_refl, Nat.lt_irrefl, wM, wX, gI_sO, gQ_sO, gL_sO, gN_sO, Nat.reduceDiv]
      by_cases e : i = w
      · subst e; exact ⟨by simp, rr, by simp [hr], hr2⟩
      · simp only [e, reduceIte]
        exact h.2.1.2.2.1.1 i (by omega)
    · have hi : i < w + 1 := hi
      have hj : j < w + 1 := hj
      simp only [gI_sI, gL_sL, gQ_sQ, gI_sJ, gI_sL, gI_sQ, gL_sI, gL_sQ, gL_sJ, gQ_sI, gQ_sL, gQ_sJ, gN_sI, gN_sL, gN_sQ, gN_sJ, Nat.reduceLT, Nat.reduceEqDiff, reduceIte, Nat.reduceAdd, Nat.reduceLeDiff, Nat.reduceSub, Bool.false_eq_true, if_true, if_false, ite_true, ite_false, List.length_cons, List.length_nil, Nat.zero_add, Nat.add_zero, and_true, true_and, true_or, or_true, and_self, Nat.le_refl, Nat.lt_irrefl, wM, wX, gI_sO, gQ_sO, gL_sO, gN_sO, Nat.reduceDiv]
      by_cases e : i = w
      · have e2 : ¬ j = w := by omega
        simp only [e, e2, reduceIte]
        exact fun z => hne j (by omega) z.symm
      · by_cases e2 : j = w
        · simp only [e, e2, reduceIte]
          exact hne i (by omega)
        · simp only [e, e2, reduceIte]
          exact h.2.1.2.2.1.2 i j (by omega) (by omega) hij
  have c4 : v_lat (wM (wX σ w a r kq nq t f vX) w (nI a) r kq nq t f vM) (wM (wX σ w a r kq nq t f vX) w (nI a) r kq nq t f vM) := by
    refine ⟨fun i hi => ?_, fun i hi => ?_⟩
    · have hi : i < w + 1 := hi
      simp only [gI_sI, gL_sL, gQ_sQ, gI_sJ, gI_sL, gI_sQ, gL_sI, gL_sQ, gL_sJ, gQ_sI, gQ_sL, gQ_sJ, gN_sI, gN_sL, gN_sQ, gN_sJ, Nat.reduceLT, Nat.reduceEqDiff, reduceIte, Nat.reduceAdd, Nat.reduceLeDiff, Nat.reduceSub, Bool.false_eq_true, if_true, if_false, ite_true, ite_false, List.length_cons, List.length_nil, Nat.zero_add, Nat.add_zero, and_true, true_and, true_or, or_true, and_self, Nat.le_refl, Nat.lt_irrefl, wM, wX, gI_sO, gQ_sO, gL_sO, gN_sO, Nat.reduceDiv]
      by_cases e : i = w
      · subst e; exact ⟨by simp [z1], 0, by rw [z1]; rfl, by omega, fun _ => rfl⟩
      · simp only [e, reduceIte]
        exact h.2.1.2.2.2.1.1 i (by omega)
    · have hi : w + 1 ≤ i := hi
      exact h.2.1.2.2.2.1.2 i (by omega)
  have c5 : v_due (wM (wX σ w a r kq nq t f vX) w (nI a) r kq nq t f vM) (wM (wX σ w a r kq nq t f vX) w (nI a) r kq nq t f vM) := by
    intro i hi
    have hi : i < w + 1 := hi
    simp only [gI_sI, gL_sL, gQ_sQ, gI_sJ, gI_sL, gI_sQ, gL_sI, gL_sQ, gL_sJ, gQ_sI, gQ_sL, gQ_sJ, gN_sI, gN_sL, gN_sQ, gN_sJ, Nat.reduceLT, Nat.reduceEqDiff, reduceIte, Nat.reduceAdd, Nat.reduceLeDiff, Nat.reduceSub, Bool.false_eq_true, if_true, if_false, ite_true, ite_false, List.length_cons, List.length_nil, Nat.zero_add, Nat.add_zero, and_true, true_and, true_or, or_true, and_self, Nat.le_refl, Nat.lt_irrefl, wM, wX, gI_sO, gQ_sO, gL_sO, gN_sO, Nat.reduceDiv]
    by_cases e : i = w
    · subst e; exact ⟨by simp, tt, by simp [ht], by omega, by omega⟩
    · simp only [e, reduceIte]
      exact h.2.1.2.2.2.2.1 i (by omega)
  have c6 : v_val (wM (wX σ w a r kq nq t f vX) w (nI a) r kq nq t f vM) (wM (wX σ w a r kq nq t f vX) w (nI a) r kq nq t f vM) := by
    refine ⟨fun i hi => ?_, fun i hi => ?_⟩
    · have hi : i < w + 1 := hi
      simp only [gI_sI, gL_sL, gQ_sQ, gI_sJ, gI_sL, gI_sQ, gL_sI, gL_sQ, gL_sJ, gQ_sI, gQ_sL, gQ_sJ, gN_sI, gN_sL, gN_sQ, gN_sJ, Nat.reduceLT, Nat.reduceEqDiff, reduceIte, Nat.reduceAdd, Nat.reduceLeDiff, Nat.reduceSub, Bool.false_eq_true, if_true, if_false, ite_true, ite_false, List.length_cons, List.length_nil, Nat.zero_add, Nat.add_zero, and_true, true_and, true_or, or_true, and_self, Nat.le_refl, Nat.lt_irrefl, wM, wX, gI_sO, gQ_sO, gL_sO, gN_sO, Nat.reduceDiv]
      by_cases e : i = w
      · subst e; simp [z2]
      · simp only [e, reduceIte]
        exact h.2.1.2.2.2.2.2.1.1 i (by omega)
    · have hi : w + 1 ≤ i := hi
      exact h.2.1.2.2.2.2.2.1.2 i (by omega)
  have c7 : v_rng (wM (wX σ w a r kq nq t f vX) w (nI a) r kq nq t f vM) (wM (wX σ w a r kq nq t f vX) w (nI a) r kq nq t f vM) := by
    intro i hi
    have hi : i < w + 1 := hi
    simp only [gI_sI, gL_sL, gQ_sQ, gI_sJ, gI_sL, gI_sQ, gL_sI, gL_sQ, gL_sJ, gQ_sI, gQ_sL, gQ_sJ, gN_sI, gN_sL, gN_sQ, gN_sJ, Nat.reduceLT, Nat.reduceEqDiff, reduceIte, Nat.reduceAdd, Nat.reduceLeDiff, Nat.reduceSub, Bool.false_eq_true, if_true, if_false, ite_true, ite_false, List.length_cons, List.length_nil, Nat.zero_add, Nat.add_zero, and_true, true_and, true_or, or_true, and_self, Nat.le_refl, Nat.lt_irrefl, wM, wX, gI_sO, gQ_sO, gL_sO, gN_sO, Nat.reduceDiv]
    by_cases e : i = w
    · subst e; exact ⟨⟨kc, by simp [hkq], hkc⟩, ⟨nc, by simp [hnq], hnc⟩, ⟨tt, by simp [ht], ht1, ht2⟩, ⟨ff, by simp [hf], hff⟩⟩
    · simp only [e, reduceIte]
      exact h.2.1.2.2.2.2.2.2 i (by omega)
  have d1 : v_wai (wM (wX σ w a r kq nq t f vX) w (nI a) r kq nq t f vM) (wM (wX σ w a r kq nq t f vX) w (nI a) r kq nq t f vM) := by
    refine ⟨fun i hi => ?_, fun i hi => ?_⟩
    · have hi : i < w + 1 := hi
      simp only [gI_sI, gL_sL, gQ_sQ, gI_sJ, gI_sL, gI_sQ, gL_sI, gL_sQ, gL_sJ, gQ_sI, gQ_sL, gQ_sJ, gN_sI, gN_sL, gN_sQ, gN_sJ, Nat.reduceLT, Nat.reduceEqDiff, reduceIte, Nat.reduceAdd, Nat.reduceLeDiff, Nat.reduceSub, Bool.false_eq_true, if_true, if_false, ite_true, ite_false, List.length_cons, List.length_nil, Nat.zero_add, Nat.add_zero, and_true, true_and, true_or, or_true, and_self, Nat.le_refl, Nat.lt_irrefl, wM, wX, gI_sO, gQ_sO, gL_sO, gN_sO, Nat.reduceDiv]
      by_cases e : i = w
      · subst e; refine ⟨by simp [z3], by rw [z3]; exact Or.inl rfl, fun z => ?_⟩
        rw [z3] at z; exact absurd z (by decide)
      · simp only [e, reduceIte]
        exact h.2.2.1.1.1 i (by omega)
    · have hi : w + 1 ≤ i := hi
      exact h.2.2.1.1.2 i (by omega)
  have d2 : v_tal (wM (wX σ w a r kq nq t f vX) w (nI a) r kq nq t f vM) (wM (wX σ w a r kq nq t f vX) w (nI a) r kq nq t f vM) := by
    refine ⟨fun i hi => ?_, fun i hi => ?_⟩
    · have hi : i < w + 1 := hi
      simp only [gI_sI, gL_sL, gQ_sQ, gI_sJ, gI_sL, gI_sQ, gL_sI, gL_sQ, gL_sJ, gQ_sI, gQ_sL, gQ_sJ, gN_sI, gN_sL, gN_sQ, gN_sJ, Nat.reduceLT, Nat.reduceEqDiff, reduceIte, Nat.reduceAdd, Nat.reduceLeDiff, Nat.reduceSub, Bool.false_eq_true, if_true, if_false, ite_true, ite_false, List.length_cons, List.length_nil, Nat.zero_add, Nat.add_zero, and_true, true_and, true_or, or_true, and_self, Nat.le_refl, Nat.lt_irrefl, wM, wX, gI_sO, gQ_sO, gL_sO, gN_sO, Nat.reduceDiv]
      by_cases e : i = w
      · subst e; simp [z4]
      · simp only [e, reduceIte]
        exact h.2.2.1.2.1.1 i (by omega)
    · have hi : w + 1 ≤ i := hi
      exact h.2.2.1.2.1.2 i (by omega)
  have d4 : v_nxt (wM (wX σ w a r kq nq t f vX) w (nI a) r kq nq t f vM) (wM (wX σ w a r kq nq t f vX) w (nI a) r kq nq t f vM) := by
    refine ⟨fun i hi hq => ?_, fun i hi => ?_⟩
    · have hi : i < w + 1 := hi
      simp only [gI_sI, gL_sL, gQ_sQ, gI_sJ, gI_sL, gI_sQ, gL_sI, gL_sQ, gL_sJ, gQ_sI, gQ_sL, gQ_sJ, gN_sI, gN_sL, gN_sQ, gN_sJ, Nat.reduceLT, Nat.reduceEqDiff, reduceIte, Nat.reduceAdd, Nat.reduceLeDiff, Nat.reduceSub, Bool.false_eq_true, if_true, if_false, ite_true, ite_false, List.length_cons, List.length_nil, Nat.zero_add, Nat.add_zero, and_true, true_and, true_or, or_true, and_self, Nat.le_refl, Nat.lt_irrefl, wM, wX, gI_sO, gQ_sO, gL_sO, gN_sO, Nat.reduceDiv] at hq ⊢
      by_cases e : i = w
      · subst e
        obtain ⟨n, hn, hn2⟩ := hvm
        have hkc2 : kc = 0 ∨ kc = 1 := by
          simp only [reduceIte, hkq] at hq
          rcases hq with q | q
          · exact Or.inl ((nI_eq (by omega) (by omega)).mp (q.trans (by decide : (0 : Int32) = nI 0)))
          · exact Or.inr ((nI_eq (by omega) (by omega)).mp (q.trans (by decide : (1 : Int32) = nI 1)))
        have hb : tk = tk' := (nI_eq (by omega) (by omega)).mp htk'.symm
        refine ⟨by simp [hvx hkc2], n, ff, tt, tk', by simp [hn], by simp [hf], by simp [ht], hx2, hff, ht1, ht2, by omega, ?_⟩
        rw [← hb]; exact hn2
      · simp only [e, reduceIte] at hq ⊢
        exact h.2.2.1.2.2.2.1.1 i (by omega) hq
    · have hi : w + 1 ≤ i := hi
      simp only [gI_sI, gL_sL, gQ_sQ, gI_sJ, gI_sL, gI_sQ, gL_sI, gL_sQ, gL_sJ, gQ_sI, gQ_sL, gQ_sJ, gN_sI, gN_sL, gN_sQ, gN_sJ, Nat.reduceLT, Nat.reduceEqDiff, reduceIte, Nat.reduceAdd, Nat.reduceLeDiff, Nat.reduceSub, Bool.false_eq_true, if_true, if_false, ite_true, ite_false, List.length_cons, List.length_nil, Nat.zero_add, Nat.add_zero, and_true, true_and, true_or, or_true, and_self, Nat.le_refl, Nat.lt_irrefl, wM, wX, gI_sO, gQ_sO, gL_sO, gN_sO, Nat.reduceDiv]
      simp only [show ¬ i = w by omega, reduceIte]
      exact h.2.2.1.2.2.2.1.2 i (by omega)
  have d5 : v_cal (wM (wX σ w a r kq nq t f vX) w (nI a) r kq nq t f vM) (wM (wX σ w a r kq nq t f vX) w (nI a) r kq nq t f vM) := by
    intro i hi
    have hi : i < w + 1 := hi
    simp only [gI_sI, gL_sL, gQ_sQ, gI_sJ, gI_sL, gI_sQ, gL_sI, gL_sQ, gL_sJ, gQ_sI, gQ_sL, gQ_sJ, gN_sI, gN_sL, gN_sQ, gN_sJ, Nat.reduceLT, Nat.reduceEqDiff, reduceIte, Nat.reduceAdd, Nat.reduceLeDiff, Nat.reduceSub, Bool.false_eq_true, if_true, if_false, ite_true, ite_false, List.length_cons, List.length_nil, Nat.zero_add, Nat.add_zero, and_true, true_and, true_or, or_true, and_self, Nat.le_refl, Nat.lt_irrefl, wM, wX, gI_sO, gQ_sO, gL_sO, gN_sO, Nat.reduceDiv]
    by_cases e : i = w
    · subst e
      simp only [reduceIte, hx2]
      have hn := nI_m1ne (n := tk') (by omega)
      have hp := nI_f (j := tk') (by omega)
      have hm : ¬ nI tk' < -1 := by
        intro z
        have e1 : (-1 : Int32).toInt = -1 := by decide
        rw [Int32.lt_iff_toInt_lt, e1, nI_toInt (by omega)] at z
        omega
      refine ⟨Or.inl rfl, fun _ => trivial, fun _ => ⟨trivial, ⟨fun z => absurd z (by decide), fun z => absurd z.symm hn⟩, hm, by decide⟩, fun _ => ⟨⟨fun z => absurd z (by decide), fun z => absurd z.symm hn⟩, hm⟩⟩
    · simp only [e, reduceIte]
      exact h.2.2.1.2.2.2.2.1 i (by omega)
  have d7 : v_wir (wM (wX σ w a r kq nq t f vX) w (nI a) r kq nq t f vM) (wM (wX σ w a r kq nq t f vX) w (nI a) r kq nq t f vM) := by
    have ho := h.2.2.1.2.2.2.2.2.2.1
    refine ⟨ho.1, ho.2.1, ho.2.2.1, ?_, ho.2.2.2.2.1, ?_⟩
    · have hq := ho.2.2.2.1
      rw [hw] at hq
      show gI σ 1013 0 = nI (cntP (fun i => gI σ 72 i = 1) (fun _ => inferInstance) (w + 1))
      rw [hq, cntP_s, if_neg (by rw [z3]; decide)]
      rfl
    · intro i hi hh
      have hi : i < w + 1 := hi
      simp only [gI_sI, gL_sL, gQ_sQ, gI_sJ, gI_sL, gI_sQ, gL_sI, gL_sQ, gL_sJ, gQ_sI, gQ_sL, gQ_sJ, gN_sI, gN_sL, gN_sQ, gN_sJ, Nat.reduceLT, Nat.reduceEqDiff, reduceIte, Nat.reduceAdd, Nat.reduceLeDiff, Nat.reduceSub, Bool.false_eq_true, if_true, if_false, ite_true, ite_false, List.length_cons, List.length_nil, Nat.zero_add, Nat.add_zero, and_true, true_and, true_or, or_true, and_self, Nat.le_refl, Nat.lt_irrefl, wM, wX, gI_sO, gQ_sO, gL_sO, gN_sO, Nat.reduceDiv]
      by_cases e : i = w
      · subst e
        intro _ _ _; exact z3
      · simp only [e, reduceIte]
        exact ho.2.2.2.2.2 i (by omega) hh
  have d8 : v_cur (wM (wX σ w a r kq nq t f vX) w (nI a) r kq nq t f vM) (wM (wX σ w a r kq nq t f vX) w (nI a) r kq nq t f vM) := by
    rcases h.2.2.1.2.2.2.2.2.2.2.1 with q | ⟨u, hh, q1, q2, q3, q4, q5, q6, q7, q8, q9, q10⟩
    · exact Or.inl q
    · refine Or.inr ⟨u, hh, by show u < w + 1; omega, q2, q3, q4, q5, q6, q7, q8, ?_, q10⟩
      simp only [gI_sI, gL_sL, gQ_sQ, gI_sJ, gI_sL, gI_sQ, gL_sI, gL_sQ, gL_sJ, gQ_sI, gQ_sL, gQ_sJ, gN_sI, gN_sL, gN_sQ, gN_sJ, Nat.reduceLT, Nat.reduceEqDiff, reduceIte, Nat.reduceAdd, Nat.reduceLeDiff, Nat.reduceSub, Bool.false_eq_true, if_true, if_false, ite_true, ite_false, List.length_cons, List.length_nil, Nat.zero_add, Nat.add_zero, and_true, true_and, true_or, or_true, and_self, Nat.le_refl, Nat.lt_irrefl, wM, wX, gI_sO, gQ_sO, gL_sO, gN_sO, Nat.reduceDiv]
      simp only [show ¬ u = w by omega, reduceIte]
      exact q9
  refine ⟨⟨⟨h.1.1.1, by show w + 1 ≤ 24; omega, h.1.1.2.2.1, h.1.1.2.2.2.1, rfl, rfl⟩, h.1.2.1, h.1.2.2.1, h.1.2.2.2⟩, ⟨c1, c2, c3, c4, c5, c6, c7⟩, ⟨d1, d2, h.2.2.1.2.2.1.up, d4, d5, v_soo.zero c1 c4 d4 c7 rfl, d7, d8, h.2.2.1.2.2.2.2.2.2.2.2⟩, h.2.2.2.1, h.2.2.2.2.1, h.2.2.2.2.2.1, ⟨rfl, Or.inl rfl, fun z => absurd z (by show ¬ (0 : Int32) = 1; decide)⟩, h.2.2.2.2.2.2.2.1, h.2.2.2.2.2.2.2.2⟩
