/-! ===== the run: the end of a tick; a tick as a whole ===== -/
def P5X : Nat → Bool := inL [501, 30, 1004]
def P5M : Nat → Bool := inL [1342, 54, 1352]
theorem ph5 {K t c : Nat} (hK : K ≤ 512) {σ m : HS} (hS : STc σ m) (hD : DY K σ m) (hC : v_ca2 σ m) (hO : v_soo σ) (ht : gI m 1342 0 = nI t) (hb : t + 1 ≤ 5000 * K) (hc : gI m 1352 0 = nI c) (h60 : c ≤ 60) {Q : PO} (hQ : ∀ σ', frx PXR σ σ' → frm PZR m (fgM (tkM m) c) → STc σ' (fgM (tkM m) c) → DY K σ' (fgM (tkM m) c) → v_cal σ' (fgM (tkM m) c) → v_soo σ' → gI (fgM (tkM m) c) 1342 0 = nI (t + 1) → Q none σ') : am_T (kX9_passTick S1) MM Q 117 [some rW] [] σ 0 0 := by
  obtain ⟨d1, d2, d3, d4, d5, d6, d7, d8, d9, d10⟩ := hD
  obtain ⟨t', t1, t2, t3⟩ := d5
  have e : t' = t := (nI_eq (by omega) (by omega)).mp (t2.symm.trans ht)
  subst e
  have em : fgM (tkM m) c = sI (sJ (tkM m) 54 (fgN (gI m 54) (nI (t' + 1)) c).2) 1352 0 (nI (fgN (gI m 54) (nI (t' + 1)) c).1) := by
    unfold fgM
    have e1 : gI (tkM m) 1342 0 = nI (t' + 1) := by
      unfold tkM
      simp only [gI_sI, gL_sL, gQ_sQ, gI_sJ, gI_sL, gI_sQ, gL_sI, gL_sQ, gL_sJ, gQ_sI, gQ_sL, gQ_sJ, gN_sI, gN_sL, gN_sQ, gN_sJ, Nat.reduceLT, Nat.reduceEqDiff, reduceIte, Nat.reduceAdd, Nat.reduceLeDiff, Nat.reduceSub, Bool.false_eq_true, if_true, if_false, ite_true, ite_false, List.length_cons, List.length_nil, Nat.zero_add, Nat.add_zero, and_true, true_and, true_or, or_true, and_self, Nat.le_refl, Nat.lt_irrefl]
      rw [t2, nI_1]
    have e2 : gI (tkM m) 54 = gI m 54 := rfl
    rw [e1, e2]
  have et : gI (fgM (tkM m) c) 1342 0 = nI (t' + 1) := by
    rw [em]
    unfold tkM
    simp only [gI_sI, gL_sL, gQ_sQ, gI_sJ, gI_sL, gI_sQ, gL_sI, gL_sQ, gL_sJ, gQ_sI, gQ_sL, gQ_sJ, gN_sI, gN_sL, gN_sQ, gN_sJ, Nat.reduceLT, Nat.reduceEqDiff, reduceIte, Nat.reduceAdd, Nat.reduceLeDiff, Nat.reduceSub, Bool.false_eq_true, if_true, if_false, ite_true, ite_false, List.length_cons, List.length_nil, Nat.zero_add, Nat.add_zero, and_true, true_and, true_or, or_true, and_self, Nat.le_refl, Nat.lt_irrefl]
    rw [t2, nI_1]
  have g : frm P5M m (fgM (tkM m) c) := ((frm.rf.si rfl).sj rfl).si rfl
  have gR : frm PZR m (fgM (tkM m) c) := ((frm.rf.si rfl).sj rfl).si rfl
  have ed : ∀ i, gI (fgM (tkM m) c) 54 i = (fgN (gI m 54) (nI (t' + 1)) c).2 i := by
    intro i; rw [em]; simp only [gI_sI, gL_sL, gQ_sQ, gI_sJ, gI_sL, gI_sQ, gL_sI, gL_sQ, gL_sJ, gQ_sI, gQ_sL, gQ_sJ, gN_sI, gN_sL, gN_sQ, gN_sJ, Nat.reduceLT, Nat.reduceEqDiff, reduceIte, Nat.reduceAdd, Nat.reduceLeDiff, Nat.reduceSub, Bool.false_eq_true, if_true, if_false, ite_true, ite_false, List.length_cons, List.length_nil, Nat.zero_add, Nat.add_zero, and_true, true_and, true_or, or_true, and_self, Nat.le_refl, Nat.lt_irrefl]
  have ec : gI (fgM (tkM m) c) 1352 0 = nI (fgN (gI m 54) (nI (t' + 1)) c).1 := by
    rw [em]; simp only [gI_sI, gL_sL, gQ_sQ, gI_sJ, gI_sL, gI_sQ, gL_sI, gL_sQ, gL_sJ, gQ_sI, gQ_sL, gQ_sJ, gN_sI, gN_sL, gN_sQ, gN_sJ, Nat.reduceLT, Nat.reduceEqDiff, reduceIte, Nat.reduceAdd, Nat.reduceLeDiff, Nat.reduceSub, Bool.false_eq_true, if_true, if_false, ite_true, ite_false, List.length_cons, List.length_nil, Nat.zero_add, Nat.add_zero, and_true, true_and, true_or, or_true, and_self, Nat.le_refl, Nat.lt_irrefl]
  generalize fgM (tkM m) c = m' at *
  rw [h_pass 11]
  simp only [am_run_s, bt, lf, am_in, am_ar, am_fit, am_ld, am_ct, Nat.reduceLT, Nat.reduceEqDiff, reduceIte, Nat.reduceAdd, Nat.reduceLeDiff, Nat.reduceSub, Bool.false_eq_true, if_true, if_false, ite_true, ite_false, List.length_cons, List.length_nil, Nat.zero_add, Nat.add_zero, and_true, true_and, true_or, or_true, and_self, Nat.le_refl, Nat.lt_irrefl, gI_sI, gL_sL, gQ_sQ, gI_sJ, gI_sL, gI_sQ, gL_sI, gL_sQ, gL_sJ, gQ_sI, gQ_sL, gQ_sJ, gN_sI, gN_sL, gN_sQ, gN_sJ, E_b2_0, E_cV_a, E_cV_b, E_c_0, E_dup_0, E_dup_1, E_getI_0, E_getR_0, E_je_0, E_jl_0, E_jmp_0, E_jnull_0, E_jnull_1, E_jp_0, E_jz_0, E_kk, E_ldR_a, E_ldR_b, E_putI_0, E_rV_0, am_cc, am_pop, am_rt, cC_4, cC_9, rQ_1008, rR_1002, kX9_passTick, kX9_passTick_0, kX9_passTick_1, t1]
  refine c_forget d9 t1 (by omega) hc h60 (fun x1 f1 hx => ?_)
  have tx : gI x1 1004 0 = nI t' := by rw [f1.gi rfl]; exact t1
  simp only [am_run_s, bt, lf, am_in, am_ar, am_fit, am_ld, am_ct, Nat.reduceLT, Nat.reduceEqDiff, reduceIte, Nat.reduceAdd, Nat.reduceLeDiff, Nat.reduceSub, Bool.false_eq_true, if_true, if_false, ite_true, ite_false, List.length_cons, List.length_nil, Nat.zero_add, Nat.add_zero, and_true, true_and, true_or, or_true, and_self, Nat.le_refl, Nat.lt_irrefl, gI_sI, gL_sL, gQ_sQ, gI_sJ, gI_sL, gI_sQ, gL_sI, gL_sQ, gL_sJ, gQ_sI, gQ_sL, gQ_sJ, gN_sI, gN_sL, gN_sQ, gN_sJ, E_b2_0, E_cV_a, E_cV_b, E_c_0, E_dup_0, E_dup_1, E_getI_0, E_getR_0, E_je_0, E_jl_0, E_jmp_0, E_jnull_0, E_jnull_1, E_jp_0, E_jz_0, E_kk, E_ldR_a, E_ldR_b, E_putI_0, E_rV_0, am_cc, am_pop, am_rt, cC_4, cC_9, rQ_1008, rR_1002, kX9_passTick, kX9_passTick_0, kX9_passTick_1, tx, nI_1]
  have f : frm P5X σ (sI x1 1004 0 (nI (t' + 1))) := (f1.mo (inL_mo rfl)).si rfl
  have fX : frx PXR σ (sI x1 1004 0 (nI (t' + 1))) := f.x.mo (PXR_l rfl)
  have tX : gI (sI x1 1004 0 (nI (t' + 1))) 1004 0 = nI (t' + 1) := by simp only [gI_sI, gL_sL, gQ_sQ, gI_sJ, gI_sL, gI_sQ, gL_sI, gL_sQ, gL_sJ, gQ_sI, gQ_sL, gQ_sJ, gN_sI, gN_sL, gN_sQ, gN_sJ, Nat.reduceLT, Nat.reduceEqDiff, reduceIte, Nat.reduceAdd, Nat.reduceLeDiff, Nat.reduceSub, Bool.false_eq_true, if_true, if_false, ite_true, ite_false, List.length_cons, List.length_nil, Nat.zero_add, Nat.add_zero, and_true, true_and, true_or, or_true, and_self, Nat.le_refl, Nat.lt_irrefl]
  have hx' : ∃ c', c' ≤ 60 ∧ gI (sI x1 1004 0 (nI (t' + 1))) 501 0 = nI c' ∧ (fgN (gI m 54) (nI (t' + 1)) c).1 = c' ∧ (∀ j, j < c' → ¬ gI (sI x1 1004 0 (nI (t' + 1))) 30 j < nI (t' + 1)) ∧ (∀ i j, i < j → j < c' → gI (sI x1 1004 0 (nI (t' + 1))) 30 i < gI (sI x1 1004 0 (nI (t' + 1))) 30 j) ∧ (∀ j, j < c' → ∃ i, i < c' ∧ (fgN (gI m 54) (nI (t' + 1)) c).2 i = gI (sI x1 1004 0 (nI (t' + 1))) 30 j) ∧ ∀ i, i < c' → ∃ j, j < c' ∧ gI (sI x1 1004 0 (nI (t' + 1))) 30 j = (fgN (gI m 54) (nI (t' + 1)) c).2 i := hx
  generalize sI x1 1004 0 (nI (t' + 1)) = x' at *
  obtain ⟨c', n1, n2, n3, n4, n5, n6, n7⟩ := hx'
  have gn : gN x' 10 = gN σ 10 := f.gn 10
  refine hQ x' fX gR (hS.cg fX gR) ⟨d1.cg f.x g rfl rfl, d2.cg f.x g rfl rfl, d3.cg f.x g rfl rfl, d4.cg f.x g rfl rfl, ⟨t' + 1, tX, et, hb⟩, ⟨fun i hi hk => ?_, fun i hi => ?_⟩, d7.cg f.x g rfl rfl, d8.cg f.x g rfl rfl (f.gq _ _), ⟨c', n1, n2, by rw [ec, n3], fun j hj => by rw [tX]; exact n4 j hj, n5, fun j hj => ?_, fun i hi => ?_⟩, d10.cg f.x g rfl rfl⟩ (fun i hi => ?_) (hO.cg f.x rfl) et
  · rw [gn] at hi
    rw [g.gi rfl] at hk
    obtain ⟨p1, n, ff, tt, k, p2, p3, p4, p5, p6, p7, p8, p9, p10⟩ := d6.1 i hi hk
    have ek : k = t' := (nI_eq (by omega) (by omega)).mp (p5.symm.trans t2)
    subst ek
    refine ⟨by rw [f.gi rfl, g.gi rfl]; exact p1, n, ff, tt, k + 1, by rw [g.gi rfl]; exact p2, by rw [g.gi rfl]; exact p3, by rw [g.gi rfl]; exact p4, et, p6, p7, p8, by omega, ?_⟩
    rcases p10 with z | z
    · exact Or.inl z
    · exact Or.inr (by omega)
  · rw [gn] at hi
    rw [g.gi rfl]; exact d6.2 i hi
  · obtain ⟨i, i1, i2⟩ := n6 j hj
    exact ⟨i, i1, by rw [ed]; exact i2⟩
  · obtain ⟨j, j1, j2⟩ := n7 i hi
    exact ⟨j, j1, by rw [ed]; exact j2⟩
  · rw [gn] at hi
    obtain ⟨a1, a2, a3, a4⟩ := hC i hi
    rw [et, f.gi rfl, f.gi rfl, g.gi rfl, g.gi rfl, g.gi rfl]
    refine ⟨a1, a2, fun k => ?_, fun k => ?_⟩
    · obtain ⟨b1, b2, b3, b4⟩ := a3 k
      rw [t2] at b3
      obtain ⟨z1, z2⟩ := lt_1 (by omega) b3
      rw [nI_1] at z1 z2
      exact ⟨b1, ⟨fun y => absurd (b2.symm.trans y) (by decide), fun y => absurd y z1⟩, z2, b4⟩
    · have := a4 k
      rw [t2, nI_1] at this
      exact this
theorem c_tick {K t : Nat} (hK : K ≤ 512) {σ m : HS} (hS : STc σ m) (hD : DY K σ m) (hC : v_cal σ m) (hO : v_soo σ) (ht : gI m 1342 0 = nI t) (hb : t + 1 ≤ 5000 * K) {Q : PO} (hQ : ∀ σ' m', Rg 188 [] m m' → frx PXR σ σ' → frm PZR m m' → STc σ' m' → DY K σ' m' → v_cal σ' m' → v_soo σ' → gI m' 1342 0 = nI (t + 1) → Q none σ') : MM 63 [rW] σ Q := by
  rw [eX9_passTick 0]
  simp only [am_run_z, am_in, am_ar, am_fit]
  refine ph1 hS hD hC hO (fun σ1 f1 g1 hS1 hD1 hC1 hO1 => ?_)
  have rp1 := go_a (m := m) hS.1.2.2.2.1 hS.1.1
  have n1 : gN σ1 3 = gN σ 3 := f1.gn 3
  have t1 : gI (wkN m (gN σ 3)) 1342 0 = nI t := by rw [(wkN_f m (gN σ 3)).gi rfl]; exact ht
  have rp2 := go_c (n := gN σ 3) (rg_all hS1 hD1.2.2.2.2.2.1 t1 (by omega))
  have rp12 := rp1.tr rp2
  generalize wkN m (gN σ 3) = m1 at *
  refine ph2 hK hS1 hD1 hC1 hO1 (fun σ2 f2 hS2 hD2 hC2 hO2 => ?_)
  have n2 : gN σ2 3 = gN σ 3 := by rw [f2.gn]; exact n1
  have g2 := cmN_f m1 (gN σ1 10)
  have t2 : gI (cmN m1 (gN σ1 10)) 1342 0 = nI t := by rw [g2.gi rfl]; exact t1
  have g12 := g1.tr (g2.mo PZR_cm)
  generalize cmN m1 (gN σ1 10) = m2 at *
  refine ph3 hK hS2 hD2 hC2 hO2 (fun σ3 m3 f3 g3 e3 rp3 hS3 hD3 hC3 hO3 => ?_)
  rw [n2] at rp3
  have n3 : gN σ3 3 = gN σ 3 := by rw [f3.gn]; exact n2
  refine ph4 hK hS3 hD3 hC3 hO3 (fun σ4 m4 f4 g4 e4 rp4 hS4 hD4 hC4 hO4 => ?_)
  rw [n3] at rp4
  obtain ⟨c, c1, -, c2, -⟩ := hD4.2.2.2.2.2.2.2.2.1
  have rp := (rp12.tr rp3).tr rp4
  refine ph5 hK hS4 hD4 hC4 hO4 (by rw [e4, e3]; exact t2) hb c2 c1 (fun σ5 f5 g5 hS5 hD5 hC5 hO5 t5 => ?_)
  exact hQ σ5 _ (r_goes rp c2 c1) ((((f1.tr f2).tr f3).tr f4).tr f5) (((g12.tr g3).tr g4).tr g5) hS5 hD5 hC5 hO5 t5
