/-! ===== the run: the class: the loop over the words that come ===== -/
theorem come_all {x m : HS} {i h t : Nat} (hw : v_wrd x m) (hl : v_lat x m) (hr : v_rng x m) (hV : WV x m) (hi : i < gN x 10) (hc : calW x m i) (hh : gI m 37 i = nI h) (hh2 : h < 10) (hk : gI x 401 h = gI m 34 h) (htx : gI x 1004 0 = nI t) (ht : gI m 1342 0 = nI t) (ht2 : t ≤ 2560000) (hd : ¬ nI t < dueX x i) {σ2 : HS} (e2 : σ2 = if gI x 401 h < 256 then cmX (lc1 x i) i (lcF x i) else lc1 x i) : frm PLW x σ2 ∧ WV σ2 (cmW m i) ∧ gI σ2 1116 i = 0 ∧ ∀ j, j ≠ i → gI σ2 1115 j = gI x 1115 j ∧ gI σ2 1116 j = gI x 1116 j := by
  have f1 := lc1_f x i
  have f2 := cmX_f (lc1 x i) i (lcF x i)
  have h4 : (nI h).toNatClampNeg = h := nI_clamp (by omega)
  rw [hk] at e2
  refine ⟨?_, ?_, ?_, fun j hj => ?_⟩
  · subst e2
    split
    · exact f1.tr (f2.mo PLW_X)
    · exact f1
  · by_cases q : gI m 39 i = 0 ∨ gI m 39 i = 1
    · have hV1 := hV.nx hw hi ht ht2 q hl hd
      have qx : gI x 1103 i = 0 ∨ gI x 1103 i = 1 := by rw [(hw i hi).2.2.1]; exact q
      have eF : lcF x i = wldM m i := by
        unfold lcF wldM
        obtain ⟨-, -, w1, -, w2, w3⟩ := hw i hi
        rw [if_pos qx, w2, w3, (hV.2.2.1.1 i hi q).1]
      rw [dueM_eq hw hl hV.2.2.1 hi q, ← ht] at hd
      have eW : cmW m i = if gI m 34 h < 256 then cm1 (nx1 m i) i (wldM m i) else nx1 m i := by
        unfold cmW
        rw [if_pos q]
        unfold cmT
        rw [if_neg hd, hh, h4]
      rw [eW, e2, eF]
      by_cases z : gI m 34 h < 256
      · rw [if_pos z, if_pos z]
        exact come_st hV1 (by rw [f1.gn]; exact hi) hh hh2 z
      · rw [if_neg z, if_neg z]
        exact hV1
    · have qx : ¬ (gI x 1103 i = 0 ∨ gI x 1103 i = 1) := by rw [(hw i hi).2.2.1]; exact q
      have hV1 := hV.ca qx
      have eF : lcF x i = gI m 1342 0 := by
        unfold lcF
        rw [if_neg qx, htx, ht]
      obtain ⟨a1, a2, a3, a4⟩ := hc
      have c1 : gI x 1116 i = 1 := by
        rcases a1 with z | z
        · exfalso
          unfold dueX at hd
          rw [if_neg qx, if_pos z] at hd
          refine hd ?_
          rw [show (2147483647 : Int32) = nI 2147483647 by decide]
          exact nI_lt (by omega) (by omega)
        · exact z
      have hcond : (gI m 39 i = 3 ∧ gI m 47 i = gI m 1342 0) ∨ (gI m 39 i = 2 ∧ gI m 48 i = gI m 1342 0) := by
        obtain ⟨⟨kd, k1, k2⟩, -⟩ := hr i hi
        rcases (show kd = 0 ∨ kd = 1 ∨ kd = 2 ∨ kd = 3 by omega) with rfl | rfl | rfl | rfl
        · exact absurd (Or.inl k1) q
        · exact absurd (Or.inr k1) q
        · exact Or.inr ⟨k1, (a3 k1).2.1.mp c1⟩
        · exact Or.inl ⟨k1, (a4 k1).1.mp c1⟩
      have eW : cmW m i = if gI m 34 h < 256 then cm1 m i (gI m 1342 0) else m := by
        unfold cmW
        rw [if_neg q, if_pos hcond]
        unfold cmA
        rw [hh, h4]
      rw [eW, e2, eF]
      by_cases z : gI m 34 h < 256
      · rw [if_pos z, if_pos z]
        exact come_st hV1 (by rw [f1.gn]; exact hi) hh hh2 z
      · rw [if_neg z, if_neg z]
        exact hV1
  · subst e2
    split
    · rw [f2.gi rfl]; exact lc1_c x i
    · exact lc1_c x i
  · subst e2
    split
    · rw [f2.gi rfl, f2.gi rfl]; exact lc1_o x hj
    · exact lc1_o x hj
def HL (i : Nat) (x m : HS) (nx : Int32) : Prop := WV x m ∧ (∀ j, j < i → ca2W x m j) ∧ (∀ j, i ≤ j → j < gN x 10 → calW x m j) ∧ ∀ j, j < i → ¬ dueX x j < nx
theorem min_le (d nx : Int32) : ¬ d < (if d < nx then d else nx) ∧ ∀ e : Int32, ¬ e < nx → ¬ e < (if d < nx then d else nx) := by
  by_cases q : d < nx
  · rw [if_pos q]
    refine ⟨i32_irr d, fun e he z => he ?_⟩
    rw [Int32.lt_iff_toInt_lt] at *
    omega
  · rw [if_neg q]
    exact ⟨q, fun e he => he⟩
theorem l_lwc {σ0 m0 : HS} {t : Nat} (hS : STc σ0 m0) (hN : v_nod σ0 m0) (htx : gI σ0 1004 0 = nI t) (ht : gI m0 1342 0 = nI t) (ht2 : t ≤ 2560000) {Q : PO} (hQ : ∀ σ' nx, frm PLW σ0 σ' → HL (gN σ0 10) σ' (cmN m0 (gN σ0 10)) nx → Q none (sI σ' 1015 0 nx)) :
    ∀ (r i : Nat) (v : Option AV) (nx : Int32) (σ1 : HS), i + r = gN σ0 10 → frm PLW σ0 σ1 → HL i σ1 (cmN m0 i) nx → am_T (kX9_letWordsCome S1) MM Q 5 [some rW, some (.inl nx), some (.inl (nI i)), v] [] σ1 0 0 := by
  intro r
  have h24 : gN σ0 10 ≤ 24 := hS.1.2.1
  induction r with
  | zero =>
    intro i v nx σ1 hi f1 hL
    have e : i = gN σ0 10 := by omega
    have c0 : gI σ1 703 0 = nI (gN σ0 10) := by rw [f1.gi rfl]; exact hS.1.2.2.2.2.1
    have h0 : ¬ nI i < nI (gN σ0 10) := nI_nlt (by omega) (by omega)
    rw [hX9_letWordsCome 8]
    simp only [am_run_s, bt, lf, am_in, am_ar, am_fit, am_ld, am_ct, Nat.reduceLT, Nat.reduceEqDiff, reduceIte, Nat.reduceAdd, Nat.reduceLeDiff, Nat.reduceSub, Bool.false_eq_true, if_true, if_false, ite_true, ite_false, List.length_cons, List.length_nil, Nat.zero_add, Nat.add_zero, and_true, true_and, true_or, or_true, and_self, Nat.le_refl, Nat.lt_irrefl, gI_sI, gL_sL, gQ_sQ, gI_sJ, gI_sL, gI_sQ, gL_sI, gL_sQ, gL_sJ, gQ_sI, gQ_sL, gQ_sJ, gN_sI, gN_sL, gN_sQ, gN_sJ, E_aald_0, E_cV_a, E_cV_b, E_c_0, E_getI_0, E_getR_0, E_inc_a, E_inc_b, E_jg_0, E_jl_0, E_jmp_0, E_kk, E_ldI_a, E_ldI_b, E_ldR_a, E_ldR_b, E_min_0, E_putI_0, E_rV_0, E_stI_0, E_stR_0, aL_91, am_cc, am_nl, am_ok, am_pop, am_rt, am_set, cC_10, cC_6, cC_9, cC_91, rQ_91, rR_1000, rR_701, sN_91, kX9_letWordsCome, c0, h0]
    rw [e] at hL
    exact hQ σ1 nx f1 hL
  | succ r ih =>
    intro i v nx σ1 hi f1 hL
    obtain ⟨hV, l2, l3, l4⟩ := hL
    have gm := cmN_f m0 i
    have hS1 : STc σ1 (cmN m0 i) := hS.cg (f1.x.mo (PXR_l rfl)) (gm.mo PZR_cm)
    have gn := f1.gn
    have hlt : i < gN σ1 10 := by rw [gn]; omega
    obtain ⟨h, hh1, hh2, hh3⟩ := hS1.2.2.1.2.1 i hlt
    have h10 : gN σ1 3 ≤ 10 := hS1.1.1
    obtain ⟨-, l0, l5, l6, -⟩ := hS1.2.2.1.2.2.2.1.1 i hlt
    have hlate : gI σ1 1107 i = nI l0 := by rw [(hS1.2.2.1.2.2.2.1.1 i hlt).1]; exact l5
    have hk : gI σ1 401 h = gI (cmN m0 i) 34 h := by
      rw [f1.gi rfl, gm.gi rfl]
      exact (hN h (by rw [← gn]; exact hh1)).2.2.1
    have c0 : gI σ1 703 0 = nI (gN σ0 10) := by rw [f1.gi rfl]; exact hS.1.2.2.2.2.1
    have h2 := nI_t (show i < gN σ0 10 by omega) (by omega)
    have h3 : vp_in (nI i) 24 := vp_in_nI (by omega) (by omega)
    have h4 : (nI i).toNatClampNeg = i := nI_clamp (by omega)
    have hq := (hS1.2.2.1.1 i hlt).1
    have c1 : gI σ1 1004 0 = nI t := by rw [f1.gi rfl]; exact htx
    have c2 : gI (cmN m0 i) 1342 0 = nI t := by rw [gm.gi rfl]; exact ht
    have hcw := l3 i (Nat.le_refl _) hlt
    have go := ih (i + 1)
    rw [cmN_s] at go
    generalize cmN m0 i = m1 at *
    by_cases q : nI t < dueX σ1 i
    · obtain ⟨e1, e2⟩ := cmW_no hS1.2.2.1.1 hS1.2.2.1.2.2.2.1 hV.2.2.1 hS1.2.2.1.2.2.2.2.2.2 hlt c2 (by omega) hcw q
      rw [e1] at go
      rw [hX9_letWordsCome 23]
      simp only [am_run_s, bt, lf, am_in, am_ar, am_fit, am_ld, am_ct, Nat.reduceLT, Nat.reduceEqDiff, reduceIte, Nat.reduceAdd, Nat.reduceLeDiff, Nat.reduceSub, Bool.false_eq_true, if_true, if_false, ite_true, ite_false, List.length_cons, List.length_nil, Nat.zero_add, Nat.add_zero, and_true, true_and, true_or, or_true, and_self, Nat.le_refl, Nat.lt_irrefl, gI_sI, gL_sL, gQ_sQ, gI_sJ, gI_sL, gI_sQ, gL_sI, gL_sQ, gL_sJ, gQ_sI, gQ_sL, gQ_sJ, gN_sI, gN_sL, gN_sQ, gN_sJ, E_aald_0, E_cV_a, E_cV_b, E_c_0, E_getI_0, E_getR_0, E_inc_a, E_inc_b, E_jg_0, E_jl_0, E_jmp_0, E_kk, E_ldI_a, E_ldI_b, E_ldR_a, E_ldR_b, E_min_0, E_putI_0, E_rV_0, E_stI_0, E_stR_0, aL_91, am_cc, am_nl, am_ok, am_pop, am_rt, am_set, cC_10, cC_6, cC_9, cC_91, rQ_91, rR_1000, rR_701, sN_91, kX9_letWordsCome, c0, h2, h3, h4, hq, hlt, ↓s_due i l0 σ1 _ hlt hlate l6, c1, q, nI_1]
      obtain ⟨z1, z2⟩ := min_le (dueX σ1 i) nx
      refine go _ _ σ1 (by omega) f1 ⟨hV, fun j hj => ?_, fun j hj hj2 => l3 j (by omega) hj2, fun j hj => ?_⟩
      · by_cases e : j = i
        · subst e; exact hcw.off c2 (by omega) e2 rfl rfl rfl rfl rfl
        · exact l2 j (by omega)
      · by_cases e : j = i
        · subst e; exact z1
        · exact z2 _ (l4 j (by omega))
    · rw [hX9_letWordsCome 26]
      simp only [am_run_s, bt, lf, am_in, am_ar, am_fit, am_ld, am_ct, Nat.reduceLT, Nat.reduceEqDiff, reduceIte, Nat.reduceAdd, Nat.reduceLeDiff, Nat.reduceSub, Bool.false_eq_true, if_true, if_false, ite_true, ite_false, List.length_cons, List.length_nil, Nat.zero_add, Nat.add_zero, and_true, true_and, true_or, or_true, and_self, Nat.le_refl, Nat.lt_irrefl, gI_sI, gL_sL, gQ_sQ, gI_sJ, gI_sL, gI_sQ, gL_sI, gL_sQ, gL_sJ, gQ_sI, gQ_sL, gQ_sJ, gN_sI, gN_sL, gN_sQ, gN_sJ, E_aald_0, E_cV_a, E_cV_b, E_c_0, E_getI_0, E_getR_0, E_inc_a, E_inc_b, E_jg_0, E_jl_0, E_jmp_0, E_kk, E_ldI_a, E_ldI_b, E_ldR_a, E_ldR_b, E_min_0, E_putI_0, E_rV_0, E_stI_0, E_stR_0, aL_91, am_cc, am_nl, am_ok, am_pop, am_rt, am_set, cC_10, cC_6, cC_9, cC_91, rQ_91, rR_1000, rR_701, sN_91, kX9_letWordsCome, c0, h2, h3, h4, hq, hlt, ↓s_due i l0 σ1 _ hlt hlate l6, c1, q]
      refine c_letCome hlt hh2 hh1 ?_
      have ca := come_all hS1.2.2.1.1 hS1.2.2.1.2.2.2.1 hS1.2.2.1.2.2.2.2.2.2 hV hlt hcw hh3 (by omega) hk c1 c2 ht2 q rfl
      generalize (if gI σ1 401 h < 256 then cmX (lc1 σ1 i) i (lcF σ1 i) else lc1 σ1 i) = σ2 at ca ⊢
      obtain ⟨f2, hV2, k2, o2⟩ := ca
      have gm2 := cmW_f m1 i
      have hlt2 : i < gN σ2 10 := by rw [f2.gn]; exact hlt
      have hlate2 : gI σ2 1107 i = nI l0 := by rw [f2.gi rfl]; exact hlate
      simp only [am_run_s, bt, lf, am_in, am_ar, am_fit, am_ld, am_ct, Nat.reduceLT, Nat.reduceEqDiff, reduceIte, Nat.reduceAdd, Nat.reduceLeDiff, Nat.reduceSub, Bool.false_eq_true, if_true, if_false, ite_true, ite_false, List.length_cons, List.length_nil, Nat.zero_add, Nat.add_zero, and_true, true_and, true_or, or_true, and_self, Nat.le_refl, Nat.lt_irrefl, gI_sI, gL_sL, gQ_sQ, gI_sJ, gI_sL, gI_sQ, gL_sI, gL_sQ, gL_sJ, gQ_sI, gQ_sL, gQ_sJ, gN_sI, gN_sL, gN_sQ, gN_sJ, E_aald_0, E_cV_a, E_cV_b, E_c_0, E_getI_0, E_getR_0, E_inc_a, E_inc_b, E_jg_0, E_jl_0, E_jmp_0, E_kk, E_ldI_a, E_ldI_b, E_ldR_a, E_ldR_b, E_min_0, E_putI_0, E_rV_0, E_stI_0, E_stR_0, aL_91, am_cc, am_nl, am_ok, am_pop, am_rt, am_set, cC_10, cC_6, cC_9, cC_91, rQ_91, rR_1000, rR_701, sN_91, kX9_letWordsCome, hlt2, ↓s_due i l0 σ2 _ hlt2 hlate2 l6, nI_1]
      obtain ⟨z1, z2⟩ := min_le (dueX σ2 i) nx
      refine go _ _ σ2 (by omega) (f1.tr f2) ⟨hV2, fun j hj => ?_, fun j hj hj2 => ?_, fun j hj => ?_⟩
      · by_cases e : j = i
        · subst e; exact hcw.off c2 (by omega) k2 (f2.gi rfl) (gm2.gi rfl) (gm2.gi rfl) (gm2.gi rfl) (gm2.gi rfl)
        · exact (l2 j (by omega)).to (o2 j e).2 (f2.gi rfl) (gm2.gi rfl) (gm2.gi rfl) (gm2.gi rfl) (gm2.gi rfl)
      · rw [f2.gn] at hj2
        exact (l3 j (by omega) hj2).to (o2 j (by omega)).2 (f2.gi rfl) (gm2.gi rfl) (gm2.gi rfl) (gm2.gi rfl) (gm2.gi rfl)
      · by_cases e : j = i
        · subst e; exact z1
        · rw [dueX_to (x := σ1) (f2.gi rfl) (f2.gi rfl) (o2 j e).1 (f2.gi rfl) (f2.gi rfl) (o2 j e).2]
          exact z2 _ (l4 j (by omega))
def PL2 : Nat → Bool := inL [1115, 1116, 1013, 1110, 1111, 1113, 1015]
theorem ph2 {K : Nat} (hK : K ≤ 512) {σ m : HS} (hS : STc σ m) (hD : DY K σ m) (hC : v_cal σ m) (hO : v_soo σ) {Q : PO} (hX : ∀ σ', frx PXR σ σ' → STc σ' (cmN m (gN σ 10)) → DY K σ' (cmN m (gN σ 10)) → v_ca2 σ' (cmN m (gN σ 10)) → v_soo σ' → am_T (kX9_passTick S1) MM Q 26 [some rW] [] σ' 0 0) : am_T (kX9_passTick S1) MM Q 11 [some rW] [] σ 0 0 := by
  obtain ⟨d1, d2, d3, d4, d5, d6, d7, d8, d9, d10⟩ := hD
  obtain ⟨w1, w2, w3, w4, w5, w6⟩ := d7
  obtain ⟨t, t1, t2, t3⟩ := d5
  by_cases q : gI σ 1004 0 < gI σ 1015 0
  · have hno : ∀ i, i < gN σ 10 → cmW m i = m ∧ gI σ 1116 i = 0 := by
      intro i hi
      refine cmW_no hS.2.2.1.1 hS.2.2.1.2.2.2.1 d6 hS.2.2.1.2.2.2.2.2.2 hi t2 (by omega) (hC i hi) ?_
      have := hO i hi
      rw [t1] at q
      rw [Int32.lt_iff_toInt_lt] at *
      omega
    rw [cmN_e (fun i hi => (hno i hi).1)] at hX
    rw [h_pass 4]
    simp only [am_run_s, bt, lf, am_in, am_ar, am_fit, am_ld, am_ct, Nat.reduceLT, Nat.reduceEqDiff, reduceIte, Nat.reduceAdd, Nat.reduceLeDiff, Nat.reduceSub, Bool.false_eq_true, if_true, if_false, ite_true, ite_false, List.length_cons, List.length_nil, Nat.zero_add, Nat.add_zero, and_true, true_and, true_or, or_true, and_self, Nat.le_refl, Nat.lt_irrefl, gI_sI, gL_sL, gQ_sQ, gI_sJ, gI_sL, gI_sQ, gL_sI, gL_sQ, gL_sJ, gQ_sI, gQ_sL, gQ_sJ, gN_sI, gN_sL, gN_sQ, gN_sJ, E_b2_0, E_cV_a, E_cV_b, E_c_0, E_dup_0, E_dup_1, E_getI_0, E_getR_0, E_je_0, E_jl_0, E_jmp_0, E_jnull_0, E_jnull_1, E_jp_0, E_jz_0, E_kk, E_ldR_a, E_ldR_b, E_putI_0, E_rV_0, am_cc, am_pop, am_rt, cC_4, cC_9, rQ_1008, rR_1002, kX9_passTick, kX9_passTick_0, kX9_passTick_1, am_run_z, q]
    refine hX σ frx.rf hS ⟨d1, d2, d3, d4, ⟨t, t1, t2, t3⟩, d6, ⟨w1, w2, w3, w4, w5, w6⟩, d8, d9, d10⟩ (fun i hi => ?_) hO
    exact calW.off (hC i hi) t2 (by omega) (hno i hi).2 rfl rfl rfl rfl rfl
  · rw [h_pass 6]
    simp only [am_run_s, bt, lf, am_in, am_ar, am_fit, am_ld, am_ct, Nat.reduceLT, Nat.reduceEqDiff, reduceIte, Nat.reduceAdd, Nat.reduceLeDiff, Nat.reduceSub, Bool.false_eq_true, if_true, if_false, ite_true, ite_false, List.length_cons, List.length_nil, Nat.zero_add, Nat.add_zero, and_true, true_and, true_or, or_true, and_self, Nat.le_refl, Nat.lt_irrefl, gI_sI, gL_sL, gQ_sQ, gI_sJ, gI_sL, gI_sQ, gL_sI, gL_sQ, gL_sJ, gQ_sI, gQ_sL, gQ_sJ, gN_sI, gN_sL, gN_sQ, gN_sJ, E_b2_0, E_cV_a, E_cV_b, E_c_0, E_dup_0, E_dup_1, E_getI_0, E_getR_0, E_je_0, E_jl_0, E_jmp_0, E_jnull_0, E_jnull_1, E_jp_0, E_jz_0, E_kk, E_ldR_a, E_ldR_b, E_putI_0, E_rV_0, am_cc, am_pop, am_rt, cC_4, cC_9, rQ_1008, rR_1002, kX9_passTick, kX9_passTick_0, kX9_passTick_1, am_run_z, q]
    rw [eX9_letWordsCome 4]
    simp only [am_run_s, bt, lf, am_in, am_ar, am_fit, am_ld, am_ct, Nat.reduceLT, Nat.reduceEqDiff, reduceIte, Nat.reduceAdd, Nat.reduceLeDiff, Nat.reduceSub, Bool.false_eq_true, if_true, if_false, ite_true, ite_false, List.length_cons, List.length_nil, Nat.zero_add, Nat.add_zero, and_true, true_and, true_or, or_true, and_self, Nat.le_refl, Nat.lt_irrefl, gI_sI, gL_sL, gQ_sQ, gI_sJ, gI_sL, gI_sQ, gL_sI, gL_sQ, gL_sJ, gQ_sI, gQ_sL, gQ_sJ, gN_sI, gN_sL, gN_sQ, gN_sJ, E_aald_0, E_cV_a, E_cV_b, E_c_0, E_getI_0, E_getR_0, E_inc_a, E_inc_b, E_jg_0, E_jl_0, E_jmp_0, E_kk, E_ldI_a, E_ldI_b, E_ldR_a, E_ldR_b, E_min_0, E_putI_0, E_rV_0, E_stI_0, E_stR_0, aL_91, am_cc, am_nl, am_ok, am_pop, am_rt, am_set, cC_10, cC_6, cC_9, cC_91, rQ_91, rR_1000, rR_701, sN_91, kX9_letWordsCome]
    refine l_lwc hS d1 t1 t2 (by omega) (fun σ1 nx f1 hL => ?_) (gN σ 10) 0 _ _ σ (by omega) frm.rf ⟨⟨d3, d4, d6, w4, w6⟩, fun j hj => absurd hj (by omega), fun j _ hj => hC j hj, fun j hj => absurd hj (by omega)⟩
    simp only [am_run_s, bt, lf, am_in, am_ar, am_fit, am_ld, am_ct, Nat.reduceLT, Nat.reduceEqDiff, reduceIte, Nat.reduceAdd, Nat.reduceLeDiff, Nat.reduceSub, Bool.false_eq_true, if_true, if_false, ite_true, ite_false, List.length_cons, List.length_nil, Nat.zero_add, Nat.add_zero, and_true, true_and, true_or, or_true, and_self, Nat.le_refl, Nat.lt_irrefl, gI_sI, gL_sL, gQ_sQ, gI_sJ, gI_sL, gI_sQ, gL_sI, gL_sQ, gL_sJ, gQ_sI, gQ_sL, gQ_sJ, gN_sI, gN_sL, gN_sQ, gN_sJ, E_b2_0, E_cV_a, E_cV_b, E_c_0, E_dup_0, E_dup_1, E_getI_0, E_getR_0, E_je_0, E_jl_0, E_jmp_0, E_jnull_0, E_jnull_1, E_jp_0, E_jz_0, E_kk, E_ldR_a, E_ldR_b, E_putI_0, E_rV_0, am_cc, am_pop, am_rt, cC_4, cC_9, rQ_1008, rR_1002, kX9_passTick, kX9_passTick_0, kX9_passTick_1, am_run_z]
    obtain ⟨⟨v1, v2, v3, v4, v5⟩, l2, l3, l4⟩ := hL
    have g := cmN_f m (gN σ 10)
    have f0 : frm PL2 σ σ1 := f1.mo (inL_mo rfl)
    have f : frm PL2 σ (sI σ1 1015 0 nx) := f0.si rfl
    have fx : frx PXR σ (sI σ1 1015 0 nx) := f.x.mo (PXR_l rfl)
    generalize cmN m (gN σ 10) = m' at *
    have gn : gN σ1 10 = gN σ 10 := f0.gn 10
    refine hX _ fx (hS.cg fx (g.mo PZR_cm)) ⟨d1.cg f.x g rfl rfl, d2.cg f.x g rfl rfl, v1, v2, ⟨t, by rw [f.gi rfl]; exact t1, by rw [g.gi rfl]; exact t2, t3⟩, v3, ⟨?_, ?_, ?_, ?_, ?_, ?_⟩, d8.cg f.x g rfl rfl (f.gq _ _), d9.cg f.x g rfl rfl, d10.cg f.x g rfl rfl⟩ ?_ ?_
    · rw [f.gi rfl, g.gi rfl]; exact w1
    · rw [f.gi rfl, g.gi rfl]; exact w2
    · rw [f.gi rfl, g.gi rfl]; exact w3
    · exact v4
    · have e : gI m' 34 = gI m 34 := funext (fun i => g.gi rfl)
      rw [f.gi rfl, e, f.gn]; exact w5
    · exact v5
    · intro i hi
      have hi : i < gN σ1 10 := hi
      rw [gn] at hi
      exact l2 i hi
    · intro i hi
      have hi : i < gN σ1 10 := hi
      rw [gn] at hi
      have e : dueX (sI σ1 1015 0 nx) i = dueX σ1 i := rfl
      rw [e]
      simp only [gI_sI, gL_sL, gQ_sQ, gI_sJ, gI_sL, gI_sQ, gL_sI, gL_sQ, gL_sJ, gQ_sI, gQ_sL, gQ_sJ, gN_sI, gN_sL, gN_sQ, gN_sJ, Nat.reduceLT, Nat.reduceEqDiff, reduceIte, Nat.reduceAdd, Nat.reduceLeDiff, Nat.reduceSub, Bool.false_eq_true, if_true, if_false, ite_true, ite_false, List.length_cons, List.length_nil, Nat.zero_add, Nat.add_zero, and_true, true_and, true_or, or_true, and_self, Nat.le_refl, Nat.lt_irrefl]
      exact l4 i hi
/-! the reference's coming, in terms of the invariant -/
theorem cmW_o (m : HS) {w j : Nat} (e : j ≠ w) : gI (cmW m w) 46 j = gI m 46 j := by
  have e1 : gI (nx1 m w) 46 j = gI m 46 j := by
    unfold nx1; simp only [gI_sI, gL_sL, gQ_sQ, gI_sJ, gI_sL, gI_sQ, gL_sI, gL_sQ, gL_sJ, gQ_sI, gQ_sL, gQ_sJ, gN_sI, gN_sL, gN_sQ, gN_sJ, Nat.reduceLT, Nat.reduceEqDiff, reduceIte, Nat.reduceAdd, Nat.reduceLeDiff, Nat.reduceSub, Bool.false_eq_true, if_true, if_false, ite_true, ite_false, List.length_cons, List.length_nil, Nat.zero_add, Nat.add_zero, and_true, true_and, true_or, or_true, and_self, Nat.le_refl, Nat.lt_irrefl]; rw [if_neg e]
  unfold cmW
  split
  · unfold cmT
    by_cases q : gI m 1342 0 < dueM m w
    · rw [if_pos q]
    · rw [if_neg q]
      by_cases z : gI m 34 (gI m 37 w).toNatClampNeg < 256
      · rw [if_pos z, (cm1_f1 _ _ _).gi rfl]; exact e1
      · rw [if_neg z]; exact e1
  · split
    · unfold cmA
      by_cases z : gI m 34 (gI m 37 w).toNatClampNeg < 256
      · rw [if_pos z, (cm1_f1 _ _ _).gi rfl]
      · rw [if_neg z]
    · rfl
theorem cmN_o (m : HS) {j : Nat} : ∀ i, i ≤ j → gI (cmN m i) 46 j = gI m 46 j
  | 0, _ => rfl
  | i + 1, hi => by rw [cmN_s, cmW_o _ (by omega), cmN_o m i (by omega)]
theorem STc.wf {x m : HS} (hS : STc x m) : ∀ w, w < gN x 10 → WF m w := by
  intro w hw
  obtain ⟨h, h1, h2, h3⟩ := hS.2.2.1.2.1 w hw
  obtain ⟨-, l, l1, l2, l3⟩ := hS.2.2.1.2.2.2.1.1 w hw
  obtain ⟨⟨kd, k1, k2⟩, -, ⟨tt, t1, t2, t3⟩, ⟨ff, f1, f2⟩⟩ := hS.2.2.1.2.2.2.2.2.2 w hw
  have := hS.1.1
  refine ⟨h, kd, ff, tt, l, h3, by omega, k1, k2, f1, f2, t1, t2, t3, l1, l2, fun z => l3 ?_⟩
  rw [k1]
  intro y
  exact z ((nI_eq (by omega) (by omega)).mp (y.trans one'))
theorem rg_all {x m : HS} {t : Nat} (hS : STc x m) (hn : v_nxt x m) (ht : gI m 1342 0 = nI t) (ht2 : t ≤ 2560000) : Rg 182 [] m (cmN m (gN x 10)) := by
  refine r_allCome hS.1.2.2.2.2.2 hS.1.2.1 hS.wf (fun w hw => ?_)
  have g := cmN_f m w
  intro hk
  rw [g.gi rfl] at hk
  obtain ⟨-, n, f, t', k, p2, p3, p4, p5, p6, p7, p8, p9, p10⟩ := hn.1 w hw hk
  have hnt : n * 100 ≤ n * t' := Nat.mul_le_mul_left n p7
  refine ⟨n, k, by rw [cmN_o m w (Nat.le_refl _)]; exact p2, ?_, by rw [g.gi rfl]; exact p5, p9, fun f2 t2 y1 y2 y3 y4 => ?_⟩
  · rcases p10 with rfl | p10
    · omega
    · omega
  · rw [g.gi rfl] at y1 y2
    have e1 : f = f2 := (nI_eq (by omega) (by omega)).mp (p3.symm.trans y1)
    have e2 : t' = t2 := (nI_eq (by omega) (by omega)).mp (p4.symm.trans y2)
    subst e1
    subst e2
    rcases p10 with rfl | p10
    · omega
    · omega
