/-! ===== the run: the class: blame ===== -/
def BV (x m : HS) : Prop := v_nod x m ∧ v_nor x m ∧ v_wai x m ∧ gI x 1013 0 = nI (wts m (gN x 10)) ∧ gI x 1014 0 = nI (offs m (gN x 3)) ∧ v_w6 x m
/-- a count that grows and stays below -/
theorem BV.up {x m : HS} (h : BV x m) {i c : Nat} (hi : i < gN x 3) (hc : c < 256) (ho : gI m 34 i < 256) : BV (sI x 401 i (nI c)) (sI m 34 i (nI c)) := by
  obtain ⟨a, ⟨b1, b2⟩, c', d, e, f⟩ := h
  have hcl : nI c < 256 := by rw [show (256 : Int32) = nI 256 by decide]; exact nI_lt hc (by omega)
  refine ⟨fun j hj => ?_, ⟨fun j => ?_, fun j hj => ?_⟩, c', d, ?_, fun j hj h y1 y2 y3 => ?_⟩
  · obtain ⟨p1, p2, p3, p4, p5⟩ := a j hj
    refine ⟨p1, p2, ?_, p4, p5⟩
    simp only [gI_sI, gL_sL, gQ_sQ, gI_sJ, gI_sL, gI_sQ, gL_sI, gL_sQ, gL_sJ, gQ_sI, gQ_sL, gQ_sJ, gN_sI, gN_sL, gN_sQ, gN_sJ, Nat.reduceLT, Nat.reduceEqDiff, reduceIte, Nat.reduceAdd, Nat.reduceLeDiff, Nat.reduceSub, Bool.false_eq_true, if_true, if_false, ite_true, ite_false, List.length_cons, List.length_nil, Nat.zero_add, Nat.add_zero, and_true, true_and, true_or, or_true, and_self, Nat.le_refl, Nat.lt_irrefl]
    by_cases z : j = i
    · rw [if_pos z, if_pos z]
    · rw [if_neg z, if_neg z]; exact p3
  · simp only [gI_sI, gL_sL, gQ_sQ, gI_sJ, gI_sL, gI_sQ, gL_sI, gL_sQ, gL_sJ, gQ_sI, gQ_sL, gQ_sJ, gN_sI, gN_sL, gN_sQ, gN_sJ, Nat.reduceLT, Nat.reduceEqDiff, reduceIte, Nat.reduceAdd, Nat.reduceLeDiff, Nat.reduceSub, Bool.false_eq_true, if_true, if_false, ite_true, ite_false, List.length_cons, List.length_nil, Nat.zero_add, Nat.add_zero, and_true, true_and, true_or, or_true, and_self, Nat.le_refl, Nat.lt_irrefl]
    by_cases z : j = i
    · rw [if_pos z]; exact ⟨c, rfl, by omega⟩
    · rw [if_neg z]; exact b1 j
  · obtain ⟨p1, p2, p3⟩ := b2 j hj
    have hj' : gN x 3 ≤ j := hj
    refine ⟨?_, p2, p3⟩
    simp only [gI_sI, gL_sL, gQ_sQ, gI_sJ, gI_sL, gI_sQ, gL_sI, gL_sQ, gL_sJ, gQ_sI, gQ_sL, gQ_sJ, gN_sI, gN_sL, gN_sQ, gN_sJ, Nat.reduceLT, Nat.reduceEqDiff, reduceIte, Nat.reduceAdd, Nat.reduceLeDiff, Nat.reduceSub, Bool.false_eq_true, if_true, if_false, ite_true, ite_false, List.length_cons, List.length_nil, Nat.zero_add, Nat.add_zero, and_true, true_and, true_or, or_true, and_self, Nat.le_refl, Nat.lt_irrefl]
    rw [if_neg (by omega)]; exact p1
  · have : offs (sI m 34 i (nI c)) (gN x 3) = offs m (gN x 3) := by
      refine cntP_congr (fun j hj => ?_)
      simp only [gI_sI, gL_sL, gQ_sQ, gI_sJ, gI_sL, gI_sQ, gL_sI, gL_sQ, gL_sJ, gQ_sI, gQ_sL, gQ_sJ, gN_sI, gN_sL, gN_sQ, gN_sJ, Nat.reduceLT, Nat.reduceEqDiff, reduceIte, Nat.reduceAdd, Nat.reduceLeDiff, Nat.reduceSub, Bool.false_eq_true, if_true, if_false, ite_true, ite_false, List.length_cons, List.length_nil, Nat.zero_add, Nat.add_zero, and_true, true_and, true_or, or_true, and_self, Nat.le_refl, Nat.lt_irrefl]
      by_cases z : j = i
      · rw [if_pos z, z]
        exact ⟨fun y => absurd hcl y, fun y => absurd ho y⟩
      · rw [if_neg z]
    exact e.trans (by rw [← this]; rfl)
  · refine f j hj h y1 y2 (fun z => y3 ?_)
    simp only [gI_sI, gL_sL, gQ_sQ, gI_sJ, gI_sL, gI_sQ, gL_sI, gL_sQ, gL_sJ, gQ_sI, gQ_sL, gQ_sJ, gN_sI, gN_sL, gN_sQ, gN_sJ, Nat.reduceLT, Nat.reduceEqDiff, reduceIte, Nat.reduceAdd, Nat.reduceLeDiff, Nat.reduceSub, Bool.false_eq_true, if_true, if_false, ite_true, ite_false, List.length_cons, List.length_nil, Nat.zero_add, Nat.add_zero, and_true, true_and, true_or, or_true, and_self, Nat.le_refl, Nat.lt_irrefl]
    by_cases u : h = i
    · rw [if_pos u]; exact hcl
    · rw [if_neg u]; exact z
theorem BV.off {x m x' : HS} (h : BV x m) (hM : v_hom x m) {i c : Nat} (hi : i < gN x 3) (h10 : gN x 3 ≤ 10) (hc : 256 ≤ c) (hc2 : c ≤ 263) (ho : gI m 34 i < 256) (ht : gI x 1004 0 = gI m 1342 0) (f : frm PSW (sI (sI (sI x 401 i (nI c)) 402 i (gI x 1004 0)) 1014 0 (gI x 1014 0 + 1)) x') (k : ∀ k, k < gN x 10 → gI x' 1110 k = gI (sil (sI m 34 i (nI c)) i (gN x 10)) 72 k) (o : gI x' 1013 0 = nI (wts (sil (sI m 34 i (nI c)) i (gN x 10)) (gN x 10))) : BV x' (sil (sI m 34 i (nI c)) i (gN x 10)) := by
  obtain ⟨a, ⟨b1, b2⟩, c', d, e, g6⟩ := h
  have hcl : ¬ nI c < 256 := by rw [show (256 : Int32) = nI 256 by decide]; exact nI_nlt hc (by omega)
  have gn3 : gN x' 3 = gN x 3 := f.gn 3
  have gn10 : gN x' 10 = gN x 10 := f.gn 10
  have ec : ∀ j, gI (sil (sI m 34 i (nI c)) i (gN x 10)) 34 j = if j = i then nI c else gI m 34 j := by
    intro j; unfold sil; simp only [gI_sI, gL_sL, gQ_sQ, gI_sJ, gI_sL, gI_sQ, gL_sI, gL_sQ, gL_sJ, gQ_sI, gQ_sL, gQ_sJ, gN_sI, gN_sL, gN_sQ, gN_sJ, Nat.reduceLT, Nat.reduceEqDiff, reduceIte, Nat.reduceAdd, Nat.reduceLeDiff, Nat.reduceSub, Bool.false_eq_true, if_true, if_false, ite_true, ite_false, List.length_cons, List.length_nil, Nat.zero_add, Nat.add_zero, and_true, true_and, true_or, or_true, and_self, Nat.le_refl, Nat.lt_irrefl]
  have eo : ∀ j, gI (sil (sI m 34 i (nI c)) i (gN x 10)) 35 j = if j = i then gI m 1342 0 else gI m 35 j := by
    intro j; unfold sil; simp only [gI_sI, gL_sL, gQ_sQ, gI_sJ, gI_sL, gI_sQ, gL_sI, gL_sQ, gL_sJ, gQ_sI, gQ_sL, gQ_sJ, gN_sI, gN_sL, gN_sQ, gN_sJ, Nat.reduceLT, Nat.reduceEqDiff, reduceIte, Nat.reduceAdd, Nat.reduceLeDiff, Nat.reduceSub, Bool.false_eq_true, if_true, if_false, ite_true, ite_false, List.length_cons, List.length_nil, Nat.zero_add, Nat.add_zero, and_true, true_and, true_or, or_true, and_self, Nat.le_refl, Nat.lt_irrefl]
  have ew : ∀ j, gI (sil (sI m 34 i (nI c)) i (gN x 10)) 72 j = if j < gN x 10 ∧ gI m 37 j = nI i then 0 else gI m 72 j := by
    intro j; rw [sil_w]; rfl
  have g1 : frm (inL [34, 35, 72]) m (sil (sI m 34 i (nI c)) i (gN x 10)) := ((frm.rf.si rfl).si rfl).sj rfl
  have eX : ∀ j, gI x' 401 j = if j = i then nI c else gI x 401 j := by
    intro j; rw [f.gi rfl]; simp only [gI_sI, gL_sL, gQ_sQ, gI_sJ, gI_sL, gI_sQ, gL_sI, gL_sQ, gL_sJ, gQ_sI, gQ_sL, gQ_sJ, gN_sI, gN_sL, gN_sQ, gN_sJ, Nat.reduceLT, Nat.reduceEqDiff, reduceIte, Nat.reduceAdd, Nat.reduceLeDiff, Nat.reduceSub, Bool.false_eq_true, if_true, if_false, ite_true, ite_false, List.length_cons, List.length_nil, Nat.zero_add, Nat.add_zero, and_true, true_and, true_or, or_true, and_self, Nat.le_refl, Nat.lt_irrefl]
  have eY : ∀ j, gI x' 402 j = if j = i then gI x 1004 0 else gI x 402 j := by
    intro j; rw [f.gi rfl]; simp only [gI_sI, gL_sL, gQ_sQ, gI_sJ, gI_sL, gI_sQ, gL_sI, gL_sQ, gL_sJ, gQ_sI, gQ_sL, gQ_sJ, gN_sI, gN_sL, gN_sQ, gN_sJ, Nat.reduceLT, Nat.reduceEqDiff, reduceIte, Nat.reduceAdd, Nat.reduceLeDiff, Nat.reduceSub, Bool.false_eq_true, if_true, if_false, ite_true, ite_false, List.length_cons, List.length_nil, Nat.zero_add, Nat.add_zero, and_true, true_and, true_or, or_true, and_self, Nat.le_refl, Nat.lt_irrefl]
  refine ⟨fun j hj => ?_, ⟨fun j => ?_, fun j hj => ?_⟩, ⟨fun j hj => ?_, fun j hj => ?_⟩, ?_, ?_, fun j hj h y1 y2 y3 => ?_⟩
  · rw [gn3] at hj
    obtain ⟨p1, p2, p3, p4, p5⟩ := a j hj
    refine ⟨by rw [f.gq]; exact p1, by rw [f.gi rfl]; exact p2, ?_, ?_, by rw [f.gi rfl, g1.gi rfl]; exact p5⟩
    · rw [eX, ec]
      by_cases z : j = i
      · rw [if_pos z, if_pos z]
      · rw [if_neg z, if_neg z]; exact p3
    · rw [eY, eo]
      by_cases z : j = i
      · rw [if_pos z, if_pos z]; exact ht
      · rw [if_neg z, if_neg z]; exact p4
  · rw [ec]
    by_cases z : j = i
    · rw [if_pos z]; exact ⟨c, rfl, hc2⟩
    · rw [if_neg z]; exact b1 j
  · rw [gn3] at hj
    obtain ⟨p1, p2, p3⟩ := b2 j hj
    rw [ec, eo, if_neg (by omega), if_neg (by omega), g1.gi rfl]
    exact ⟨p1, p2, p3⟩
  · rw [gn10] at hj
    obtain ⟨p1, p2, p3⟩ := c'.1 j hj
    refine ⟨k j hj, ?_, fun z => ?_⟩
    · rw [ew]
      split
      · exact Or.inl rfl
      · exact p2
    · rw [ew] at z
      have hz : gI m 72 j = 1 := by
        split at z
        · exact absurd z (by decide)
        · exact z
      rw [f.gi rfl, g1.gi rfl]
      exact p3 hz
  · rw [gn10] at hj
    rw [ew, if_neg (by omega)]
    exact c'.2 j hj
  · rw [gn10]; exact o
  · rw [gn3, f.gi rfl]
    simp only [gI_sI, gL_sL, gQ_sQ, gI_sJ, gI_sL, gI_sQ, gL_sI, gL_sQ, gL_sJ, gQ_sI, gQ_sL, gQ_sJ, gN_sI, gN_sL, gN_sQ, gN_sJ, Nat.reduceLT, Nat.reduceEqDiff, reduceIte, Nat.reduceAdd, Nat.reduceLeDiff, Nat.reduceSub, Bool.false_eq_true, if_true, if_false, ite_true, ite_false, List.length_cons, List.length_nil, Nat.zero_add, Nat.add_zero, and_true, true_and, true_or, or_true, and_self, Nat.le_refl, Nat.lt_irrefl]
    have : offs (sil (sI m 34 i (nI c)) i (gN x 10)) (gN x 3) = offs m (gN x 3) + 1 := by
      refine cntP_fl hi ?_ (fun z => z ho) (fun j hj z => ?_)
      · rw [ec, if_pos rfl]; exact hcl
      · rw [ec, if_neg z]
    rw [e, this, nI_1]
  · rw [gn10] at hj
    rw [g1.gi rfl] at y1
    rw [ew]
    by_cases z : h = i
    · rw [if_pos ⟨hj, by rw [y1, z]⟩]
    · rw [if_neg (fun u => z ((nI_eq (by omega) (by omega)).mp (y1.symm.trans u.2)))]
      rw [ec, if_neg z] at y3
      exact g6 j hj h y1 y2 y3
def PBL : Nat → Bool := inL [401, 402, 1014, 1110, 1013]
theorem PBL_w (f : Nat) (h : PBL f = false) : PSW f = false := inL_mo rfl f h
theorem blN_s (nw h : Nat) (m : HS) (i : Nat) : blN nw h m (i + 1) = bl1 (blN nw h m i) i nw (if i = h then 8 else 1) := rfl
theorem l_blame {x m : HS} {h : Nat} (hS : STc x m) (ht : gI x 1004 0 = gI m 1342 0) (hh : h < gN x 3) {Q : PO} (hQ : ∀ x', frm PBL x x' → BV x' (blN (gN x 10) h m (gN x 3)) → Q none x') :
    ∀ (r i : Nat) (v : Option AV) (x1 : HS), i + r = gN x 3 → frm PBL x x1 → BV x1 (blN (gN x 10) h m i) → am_T (kX9_blame S1) MM Q 2 [some rW, some (.inr (.inr (some (3, h)))), some (.inl (nI i)), v] [] x1 0 0 := by
  intro r
  have h10 := hS.1.1
  induction r with
  | zero =>
    intro i v x1 hi f1 hB
    have e : i = gN x 3 := by omega
    have c0 : gI x1 702 0 = nI (gN x 3) := by rw [f1.gi rfl]; exact hS.1.2.2.1
    have h0 : ¬ nI i < nI (gN x 3) := nI_nlt (by omega) (by omega)
    rw [hX9_blame 5]
    simp only [am_run_s, bt, lf, am_in, am_ar, am_fit, am_ld, am_ct, Nat.reduceLT, Nat.reduceEqDiff, reduceIte, Nat.reduceAdd, Nat.reduceLeDiff, Nat.reduceSub, Bool.false_eq_true, if_true, if_false, ite_true, ite_false, List.length_cons, List.length_nil, Nat.zero_add, Nat.add_zero, and_true, true_and, true_or, or_true, and_self, Nat.le_refl, Nat.lt_irrefl, gI_sI, gL_sL, gQ_sQ, gI_sJ, gI_sL, gI_sQ, gL_sI, gL_sQ, gL_sJ, gQ_sI, gQ_sL, gQ_sJ, gN_sI, gN_sL, gN_sQ, gN_sJ, E_aald_0, E_b2_0, E_cV_a, E_cV_b, E_c_0, E_dup_0, E_dup_1, E_getI_0, E_getR_0, E_inc_a, E_inc_b, E_jl_0, E_jmp_0, E_jsame_0, E_jz_0, E_kk, E_ldI_a, E_ldI_b, E_ldR_a, E_ldR_b, E_putI_0, E_rV_0, E_stI_0, E_stR_0, aL_90, am_cc, am_nl, am_ok, am_pop, am_rt, am_set, cC_3, cC_6, cC_9, cC_90, rQ_90, rR_1000, rR_700, sN_90, kX9_blame, c0, h0]
    rw [e] at hB
    exact hQ x1 f1 hB
  | succ r ih =>
    intro i v x1 hi f1 hB
    have hlt : i < gN x 3 := by omega
    have c0 : gI x1 702 0 = nI (gN x 3) := by rw [f1.gi rfl]; exact hS.1.2.2.1
    have h2 := nI_t hlt (by omega)
    have h3 : vp_in (nI i) 10 := vp_in_nI (by omega) (by omega)
    have h4 : (nI i).toNatClampNeg = i := nI_clamp (by omega)
    have gn3 : gN x1 3 = gN x 3 := f1.gn 3
    have gn10 : gN x1 10 = gN x 10 := f1.gn 10
    have h6 : i < gN x1 3 := by rw [gn3]; exact hlt
    have h7 : h < gN x1 3 := by rw [gn3]; exact hh
    obtain ⟨p1, p2, p3, p4, p5⟩ := hB.1 i h6
    obtain ⟨c, q1, q2⟩ := hB.2.1.1 i
    have gm := blN_f (gN x 10) h m i
    have hS1 : STc x1 (blN (gN x 10) h m i) := hS.cg (f1.x.mo (PXR_l rfl)) (gm.mo PZR_sl)
    have ht1 : gI x1 1004 0 = gI (blN (gN x 10) h m i) 1342 0 := by rw [f1.gi rfl, gm.gi rfl]; exact ht
    have go := ih (i + 1)
    rw [blN_s] at go
    generalize blN (gN x 10) h m i = m1 at *
    have e256 : (256 : Int32) = nI 256 := by decide
    by_cases q : gI m1 34 i < 256
    case neg =>
      have e1 : bl1 m1 i (gN x 10) (if i = h then 8 else 1) = m1 := by unfold bl1; rw [if_neg q]
      rw [e1] at go
      rw [hX9_blame 16]
      simp only [am_run_s, bt, lf, am_in, am_ar, am_fit, am_ld, am_ct, Nat.reduceLT, Nat.reduceEqDiff, reduceIte, Nat.reduceAdd, Nat.reduceLeDiff, Nat.reduceSub, Bool.false_eq_true, if_true, if_false, ite_true, ite_false, List.length_cons, List.length_nil, Nat.zero_add, Nat.add_zero, and_true, true_and, true_or, or_true, and_self, Nat.le_refl, Nat.lt_irrefl, gI_sI, gL_sL, gQ_sQ, gI_sJ, gI_sL, gI_sQ, gL_sI, gL_sQ, gL_sJ, gQ_sI, gQ_sL, gQ_sJ, gN_sI, gN_sL, gN_sQ, gN_sJ, E_aald_0, E_b2_0, E_cV_a, E_cV_b, E_c_0, E_dup_0, E_dup_1, E_getI_0, E_getR_0, E_inc_a, E_inc_b, E_jl_0, E_jmp_0, E_jsame_0, E_jz_0, E_kk, E_ldI_a, E_ldI_b, E_ldR_a, E_ldR_b, E_putI_0, E_rV_0, E_stI_0, E_stR_0, aL_90, am_cc, am_nl, am_ok, am_pop, am_rt, am_set, cC_3, cC_6, cC_9, cC_90, rQ_90, rR_1000, rR_700, sN_90, kX9_blame, c0, h2, h3, h4, p1, h6, ↓s_nodeIsOff i x1 _ h6, bI_z, p3, q, not_true_eq_false, not_false_eq_true, nI_1]
      exact go _ x1 (by omega) f1 hB
    have hc256 : c < 256 := by
      rw [q1, e256] at q
      exact (nI_ltI (by omega) (by omega)).mp q
    have key : ∀ d : Nat, (d = 8 ∨ d = 1) → (if i = h then (8 : Int32) else 1) = nI d → gI m1 34 i + nI d = nI (c + d) → am_T (kX9_blame S1) MM Q 50 [some rW, some (.inr (.inr (some (3, h)))), some (.inl (nI i)), some (.inr (.inr (some (3, i))))] [] (sI x1 401 i (nI (c + d))) 0 0 := by
      intro d hd1 hd2 hd3
      rw [hd2] at go
      have h6' : i < gN (sI x1 401 i (nI (c + d))) 3 := h6
      by_cases z : nI (c + d) < 256
      · have e1 : bl1 m1 i (gN x 10) (nI d) = sI m1 34 i (nI (c + d)) := by
          unfold bl1; rw [if_pos q, hd3, if_pos z]
        rw [e1] at go
        have hcd : c + d < 256 := by
          rw [e256] at z
          exact (nI_ltI (by omega) (by omega)).mp z
        rw [hX9_blame 5]
        simp only [am_run_s, bt, lf, am_in, am_ar, am_fit, am_ld, am_ct, Nat.reduceLT, Nat.reduceEqDiff, reduceIte, Nat.reduceAdd, Nat.reduceLeDiff, Nat.reduceSub, Bool.false_eq_true, if_true, if_false, ite_true, ite_false, List.length_cons, List.length_nil, Nat.zero_add, Nat.add_zero, and_true, true_and, true_or, or_true, and_self, Nat.le_refl, Nat.lt_irrefl, gI_sI, gL_sL, gQ_sQ, gI_sJ, gI_sL, gI_sQ, gL_sI, gL_sQ, gL_sJ, gQ_sI, gQ_sL, gQ_sJ, gN_sI, gN_sL, gN_sQ, gN_sJ, E_aald_0, E_b2_0, E_cV_a, E_cV_b, E_c_0, E_dup_0, E_dup_1, E_getI_0, E_getR_0, E_inc_a, E_inc_b, E_jl_0, E_jmp_0, E_jsame_0, E_jz_0, E_kk, E_ldI_a, E_ldI_b, E_ldR_a, E_ldR_b, E_putI_0, E_rV_0, E_stI_0, E_stR_0, aL_90, am_cc, am_nl, am_ok, am_pop, am_rt, am_set, cC_3, cC_6, cC_9, cC_90, rQ_90, rR_1000, rR_700, sN_90, kX9_blame, h6, ↓s_nodeIsOff i _ _ h6', bI_z, z, not_true_eq_false, not_false_eq_true, nI_1]
        exact go _ _ (by omega) (f1.si rfl) (hB.up h6 hcd q)
      · have e1 : bl1 m1 i (gN x 10) (nI d) = sil (sI m1 34 i (nI (c + d))) i (gN x 10) := by
          unfold bl1; rw [if_pos q, hd3, if_neg z]
        rw [e1] at go
        have hcd : 256 ≤ c + d := by
          rcases Nat.lt_or_ge (c + d) 256 with y | y
          · exact absurd (by rw [e256]; exact nI_lt y (by omega)) z
          · exact y
        rw [hX9_blame 8]
        simp only [am_run_s, bt, lf, am_in, am_ar, am_fit, am_ld, am_ct, Nat.reduceLT, Nat.reduceEqDiff, reduceIte, Nat.reduceAdd, Nat.reduceLeDiff, Nat.reduceSub, Bool.false_eq_true, if_true, if_false, ite_true, ite_false, List.length_cons, List.length_nil, Nat.zero_add, Nat.add_zero, and_true, true_and, true_or, or_true, and_self, Nat.le_refl, Nat.lt_irrefl, gI_sI, gL_sL, gQ_sQ, gI_sJ, gI_sL, gI_sQ, gL_sI, gL_sQ, gL_sJ, gQ_sI, gQ_sL, gQ_sJ, gN_sI, gN_sL, gN_sQ, gN_sJ, E_aald_0, E_b2_0, E_cV_a, E_cV_b, E_c_0, E_dup_0, E_dup_1, E_getI_0, E_getR_0, E_inc_a, E_inc_b, E_jl_0, E_jmp_0, E_jsame_0, E_jz_0, E_kk, E_ldI_a, E_ldI_b, E_ldR_a, E_ldR_b, E_putI_0, E_rV_0, E_stI_0, E_stR_0, aL_90, am_cc, am_nl, am_ok, am_pop, am_rt, am_set, cC_3, cC_6, cC_9, cC_90, rQ_90, rR_1000, rR_700, sN_90, kX9_blame, h6, ↓s_nodeIsOff i _ _ h6', bI_z, z, not_true_eq_false, not_false_eq_true]
        refine c_silence (x := sI x1 401 i (nI (c + d))) (m := sI m1 34 i (nI (c + d))) hS1.1 hS1.2.2.1.1 hS1.2.2.1.2.1 h6' (fun k hk => ⟨(hB.2.2.1.1 k hk).1, (hB.2.2.1.1 k hk).2.1⟩) hB.2.2.2.1 (fun x' f k o => ?_)
        simp only [am_run_s, bt, lf, am_in, am_ar, am_fit, am_ld, am_ct, Nat.reduceLT, Nat.reduceEqDiff, reduceIte, Nat.reduceAdd, Nat.reduceLeDiff, Nat.reduceSub, Bool.false_eq_true, if_true, if_false, ite_true, ite_false, List.length_cons, List.length_nil, Nat.zero_add, Nat.add_zero, and_true, true_and, true_or, or_true, and_self, Nat.le_refl, Nat.lt_irrefl, gI_sI, gL_sL, gQ_sQ, gI_sJ, gI_sL, gI_sQ, gL_sI, gL_sQ, gL_sJ, gQ_sI, gQ_sL, gQ_sJ, gN_sI, gN_sL, gN_sQ, gN_sJ, E_aald_0, E_b2_0, E_cV_a, E_cV_b, E_c_0, E_dup_0, E_dup_1, E_getI_0, E_getR_0, E_inc_a, E_inc_b, E_jl_0, E_jmp_0, E_jsame_0, E_jz_0, E_kk, E_ldI_a, E_ldI_b, E_ldR_a, E_ldR_b, E_putI_0, E_rV_0, E_stI_0, E_stR_0, aL_90, am_cc, am_nl, am_ok, am_pop, am_rt, am_set, cC_3, cC_6, cC_9, cC_90, rQ_90, rR_1000, rR_700, sN_90, kX9_blame, nI_1]
        have hB2 := hB.off hS1.2.2.1.2.1 h6 (by omega) hcd (by omega) q ht1 f k o
        rw [gn10] at hB2
        exact go _ x' (by omega) ((((f1.si rfl).si rfl).si rfl).tr (f.mo PBL_w)) hB2
    by_cases e : i = h
    · have e' : ((some (3, i) : Option (Nat × Nat)) = some (3, h)) = True := eq_true (by rw [e])
      have k := key 8 (Or.inl rfl) (by rw [if_pos e]; decide) (by rw [q1, nI_add])
      have e8 : nI c + 8 = nI (c + 8) := by rw [show (8 : Int32) = nI 8 by decide, nI_add]
      rw [hX9_blame 23]
      simp only [am_run_s, bt, lf, am_in, am_ar, am_fit, am_ld, am_ct, Nat.reduceLT, Nat.reduceEqDiff, reduceIte, Nat.reduceAdd, Nat.reduceLeDiff, Nat.reduceSub, Bool.false_eq_true, if_true, if_false, ite_true, ite_false, List.length_cons, List.length_nil, Nat.zero_add, Nat.add_zero, and_true, true_and, true_or, or_true, and_self, Nat.le_refl, Nat.lt_irrefl, gI_sI, gL_sL, gQ_sQ, gI_sJ, gI_sL, gI_sQ, gL_sI, gL_sQ, gL_sJ, gQ_sI, gQ_sL, gQ_sJ, gN_sI, gN_sL, gN_sQ, gN_sJ, E_aald_0, E_b2_0, E_cV_a, E_cV_b, E_c_0, E_dup_0, E_dup_1, E_getI_0, E_getR_0, E_inc_a, E_inc_b, E_jl_0, E_jmp_0, E_jsame_0, E_jz_0, E_kk, E_ldI_a, E_ldI_b, E_ldR_a, E_ldR_b, E_putI_0, E_rV_0, E_stI_0, E_stR_0, aL_90, am_cc, am_nl, am_ok, am_pop, am_rt, am_set, cC_3, cC_6, cC_9, cC_90, rQ_90, rR_1000, rR_700, sN_90, kX9_blame, am_run_z, c0, h2, h3, h4, p1, h6, ↓s_nodeIsOff i x1 _ h6, bI_z, p3, q, vi_3 h6, vi_3 h7, e', not_true_eq_false, not_false_eq_true]
      rw [q1, e8]
      exact k
    · have e' : ((some (3, i) : Option (Nat × Nat)) = some (3, h)) = False := eq_false (fun z => e (by injection z with z; injection z))
      have k := key 1 (Or.inr rfl) (by rw [if_neg e]; decide) (by rw [q1, nI_add])
      rw [hX9_blame 22]
      simp only [am_run_s, bt, lf, am_in, am_ar, am_fit, am_ld, am_ct, Nat.reduceLT, Nat.reduceEqDiff, reduceIte, Nat.reduceAdd, Nat.reduceLeDiff, Nat.reduceSub, Bool.false_eq_true, if_true, if_false, ite_true, ite_false, List.length_cons, List.length_nil, Nat.zero_add, Nat.add_zero, and_true, true_and, true_or, or_true, and_self, Nat.le_refl, Nat.lt_irrefl, gI_sI, gL_sL, gQ_sQ, gI_sJ, gI_sL, gI_sQ, gL_sI, gL_sQ, gL_sJ, gQ_sI, gQ_sL, gQ_sJ, gN_sI, gN_sL, gN_sQ, gN_sJ, E_aald_0, E_b2_0, E_cV_a, E_cV_b, E_c_0, E_dup_0, E_dup_1, E_getI_0, E_getR_0, E_inc_a, E_inc_b, E_jl_0, E_jmp_0, E_jsame_0, E_jz_0, E_kk, E_ldI_a, E_ldI_b, E_ldR_a, E_ldR_b, E_putI_0, E_rV_0, E_stI_0, E_stR_0, aL_90, am_cc, am_nl, am_ok, am_pop, am_rt, am_set, cC_3, cC_6, cC_9, cC_90, rQ_90, rR_1000, rR_700, sN_90, kX9_blame, am_run_z, c0, h2, h3, h4, p1, h6, ↓s_nodeIsOff i x1 _ h6, bI_z, p3, q, vi_3 h6, vi_3 h7, e', not_true_eq_false, not_false_eq_true]
      rw [q1, nI_1]
      exact k
theorem c_blame {x m : HS} {h : Nat} (hS : STc x m) (ht : gI x 1004 0 = gI m 1342 0) (hh : h < gN x 3) (hB : BV x m) {Q : PO} (hQ : ∀ x', frm PBL x x' → BV x' (blN (gN x 10) h m (gN x 3)) → Q none x') : MM 73 [rW, .inr (.inr (some (3, h)))] x Q := by
  rw [eX9_blame 2]
  simp only [am_run_s, bt, lf, am_in, am_ar, am_fit, am_ld, am_ct, Nat.reduceLT, Nat.reduceEqDiff, reduceIte, Nat.reduceAdd, Nat.reduceLeDiff, Nat.reduceSub, Bool.false_eq_true, if_true, if_false, ite_true, ite_false, List.length_cons, List.length_nil, Nat.zero_add, Nat.add_zero, and_true, true_and, true_or, or_true, and_self, Nat.le_refl, Nat.lt_irrefl, gI_sI, gL_sL, gQ_sQ, gI_sJ, gI_sL, gI_sQ, gL_sI, gL_sQ, gL_sJ, gQ_sI, gQ_sL, gQ_sJ, gN_sI, gN_sL, gN_sQ, gN_sJ, E_aald_0, E_b2_0, E_cV_a, E_cV_b, E_c_0, E_dup_0, E_dup_1, E_getI_0, E_getR_0, E_inc_a, E_inc_b, E_jl_0, E_jmp_0, E_jsame_0, E_jz_0, E_kk, E_ldI_a, E_ldI_b, E_ldR_a, E_ldR_b, E_putI_0, E_rV_0, E_stI_0, E_stR_0, aL_90, am_cc, am_nl, am_ok, am_pop, am_rt, am_set, cC_3, cC_6, cC_9, cC_90, rQ_90, rR_1000, rR_700, sN_90, kX9_blame]
  exact l_blame hS ht hh hQ (gN x 3) 0 _ x (by omega) frm.rf hB
