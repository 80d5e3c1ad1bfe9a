/-! ===== the run: the class: the frame under way ===== -/
def PFG (f : Nat) : Bool := PNT f || (PSL f || inL [1349, 36, 45, 50, 1344, 1343] f)
theorem PFG_n (f : Nat) (h : PFG f = false) : PNT f = false := by
  unfold PFG at h
  simp only [Bool.or_eq_false_iff] at h
  exact h.1
theorem PFG_s (f : Nat) (h : PFG f = false) : PSL f = false := by
  unfold PFG at h
  simp only [Bool.or_eq_false_iff] at h
  exact h.2.1
theorem failM_f (m : HS) (w h n nw : Nat) : frm PFG m (failM m w h n nw) := by
  unfold failM
  have f1 : frm PFG m (fl_a (nts m (-1)) h) := (((nts_f m (-1)).mo PFG_n).si rfl).si rfl
  have f2 : frm PFG m (fl_b (fl_a (nts m (-1)) h) w) := by
    unfold fl_b
    split
    · exact (f1.si rfl).si rfl
    · exact f1.si rfl
  exact ((f2.tr ((blN_f nw h _ n).mo PFG_s)).si rfl).si rfl
def PHG (f : Nat) : Bool := PNT f || (PHC f || (PHA f || inL [1348, 49, 51, 1344, 1343] f))
theorem PHG_n (f : Nat) (h : PHG f = false) : PNT f = false := by
  unfold PHG at h
  simp only [Bool.or_eq_false_iff] at h
  exact h.1
theorem PHG_c (f : Nat) (h : PHG f = false) : PHC f = false := by
  unfold PHG at h
  simp only [Bool.or_eq_false_iff] at h
  exact h.2.1
theorem PHG_a (f : Nat) (h : PHG f = false) : PHA f = false := by
  unfold PHG at h
  simp only [Bool.or_eq_false_iff] at h
  exact h.2.2.1
theorem heardM_f (m : HS) (w n nw : Nat) : frm PHG m (heardM m w n nw) := by
  unfold heardM
  generalize gI m 1342 0 - gI m 1347 0 = tm
  have f1 : frm PHG m (hd_a (nts m tm) w) := (((nts_f m tm).mo PHG_n).si rfl).si rfl
  have f2 : frm PHG m (hd_b (hd_a (nts m tm) w) w tm) := by
    unfold hd_b
    split
    · exact f1.si rfl
    · exact f1
  exact (((f2.tr ((hcN_f _ n).mo PHG_c)).tr ((haN_f w _ nw).mo PHG_a)).si rfl).si rfl
theorem s_isFirst (t : Int32) (σ : HS) (Q : PO) : MM 30 [.inr (.inr (some (4, 0))), .inl t] σ Q ↔ Q (some (.inl (bI (0 < gI σ 501 0 ∧ gI σ 30 0 = t) inferInstance))) σ := by
  have h3 : vp_in 0 60 := (vp_in_nI (by omega) (by omega) : vp_in (nI 0) 60)
  have h4 : (0 : Int32).toNatClampNeg = 0 := by decide
  rw [eX4_isFirst 12]
  simp only [am_run_s, bt, lf, am_in, am_ar, am_fit, am_ld, am_ct, Nat.reduceLT, Nat.reduceEqDiff, reduceIte, Nat.reduceAdd, Nat.reduceLeDiff, Nat.reduceSub, Bool.false_eq_true, if_true, if_false, ite_true, ite_false, List.length_cons, List.length_nil, Nat.zero_add, Nat.add_zero, and_true, true_and, true_or, or_true, and_self, Nat.le_refl, Nat.lt_irrefl, gI_sI, gL_sL, gQ_sQ, gI_sJ, gI_sL, gI_sQ, gL_sI, gL_sQ, gL_sJ, gQ_sI, gQ_sL, gQ_sJ, gN_sI, gN_sL, gN_sQ, gN_sJ, E_c_0, E_getI_0, E_getR_0, E_iald_0, E_je_0, E_jmp_0, E_jp_0, E_ldI_a, E_ldI_b, E_ldR_a, E_ldR_b, E_rZ_0, aL_30, cC_30, cC_4, rR_500, kX4_isFirst, h3, h4, am_b0, am_b1]
  by_cases h1 : 0 < gI σ 501 0 <;> by_cases h2 : gI σ 30 0 = t <;> simp [bI, h1, h2]
theorem v_noi.first {x m : HS} (h : v_noi x m) {t c : Nat} (htx : gI x 1004 0 = nI t) (ht : gI m 1342 0 = nI t) (hc : gI m 1352 0 = nI c) (h60 : c ≤ 60) : (0 < gI x 501 0 ∧ gI x 30 0 = nI t) ↔ Dst m c := by
  obtain ⟨c', a1, a2, a3, a4, a5, a6, a7⟩ := h
  have e : c' = c := (nI_eq (by omega) (by omega)).mp (a3.symm.trans hc)
  subst e
  unfold Dst
  rw [a2, ht]
  constructor
  · rintro ⟨z1, z2⟩
    have hp : 0 < c' := by
      rcases Nat.eq_zero_or_pos c' with y | y
      · rw [y] at z1; exact absurd z1 nI_z0
      · exact y
    obtain ⟨i, i1, i2⟩ := a6 0 hp
    exact ⟨i, i1, i2.trans z2⟩
  · rintro ⟨i, i1, i2⟩
    obtain ⟨j, j1, j2⟩ := a7 i i1
    refine ⟨nI_gt0 (by omega) (by omega), ?_⟩
    rcases Nat.eq_zero_or_pos j with y | y
    · rw [y] at j2; exact j2.trans i2
    · exfalso
      have := a5 0 j y j1
      rw [j2, i2, ← htx] at this
      exact a4 0 (by omega) this
theorem ph4 {K : Nat} (hK : K ≤ 512) {σ m : HS} (hS : STc σ m) (hD : DY K σ m) (hC : v_ca2 σ m) (hO : v_soo σ) {Q : PO} (hX : ∀ σ' m', frx PXR σ σ' → frm PZR m m' → gI m' 1342 0 = gI m 1342 0 → Rp (kX12_goes S1) 74 (lsG (gN σ 3)) m 135 (lsG (gN σ 3)) m' → STc σ' m' → DY K σ' m' → v_ca2 σ' m' → v_soo σ' → am_T (kX9_passTick S1) MM Q 117 [some rW] [] σ' 0 0) : am_T (kX9_passTick S1) MM Q 55 [some rW] [] σ 0 0 := by
  have hD' := hD
  obtain ⟨d1, d2, d3, d4, d5, d6, d7, d8, d9, d10⟩ := hD
  obtain ⟨w1, w2, w3, w4, w5, w6⟩ := d7
  obtain ⟨t, t1, t2, t3⟩ := d5
  have h24 := hS.1.2.1
  have h10 := hS.1.1
  rcases d8 with ⟨c1, c2⟩ | ⟨w, h, a1, a2, a3, a4, a5, a6, a7, a8, a9, a10, a11⟩
  · have hu : gI m 1344 0 < 0 := by rw [c2]; decide
    rw [h_pass 2]
    simp only [am_run_s, bt, lf, am_in, am_ar, am_fit, am_ld, am_ct, Nat.reduceLT, Nat.reduceEqDiff, reduceIte, Nat.reduceAdd, Nat.reduceLeDiff, Nat.reduceSub, Bool.false_eq_true, if_true, if_false, ite_true, ite_false, List.length_cons, List.length_nil, Nat.zero_add, Nat.add_zero, and_true, true_and, true_or, or_true, and_self, Nat.le_refl, Nat.lt_irrefl, gI_sI, gL_sL, gQ_sQ, gI_sJ, gI_sL, gI_sQ, gL_sI, gL_sQ, gL_sJ, gQ_sI, gQ_sL, gQ_sJ, gN_sI, gN_sL, gN_sQ, gN_sJ, E_b2_0, E_cV_a, E_cV_b, E_c_0, E_dup_0, E_dup_1, E_getI_0, E_getR_0, E_je_0, E_jl_0, E_jmp_0, E_jnull_0, E_jnull_1, E_jp_0, E_jz_0, E_kk, E_ldR_a, E_ldR_b, E_putI_0, E_rV_0, am_cc, am_pop, am_rt, cC_4, cC_9, rQ_1008, rR_1002, kX9_passTick, kX9_passTick_0, kX9_passTick_1, am_run_z, c1]
    exact hX σ m frx.rf frm.rf rfl (go_e0 hu) hS hD' hC hO
  have hu : ¬ gI m 1344 0 < 0 := by rw [a3]; exact nI_pos (by omega)
  have hBV : BV σ m := ⟨d1, d2, d3, w4, w5, w6⟩
  have hWV : WV σ m := ⟨d3, d4, d6, w4, w6⟩
  obtain ⟨cc, n1, n2, n3, -⟩ := id d9
  have hfi := d9.first t1 t2 n3 n1
  obtain ⟨h', y1, y2, y3⟩ := hS.2.2.1.2.1 w a1
  have eh : h' = h := (nI_eq (by omega) (by omega)).mp (y3.symm.trans a9)
  subst eh
  have htm : ¬ nI t = 2147483647 := by
    rw [show (2147483647 : Int32) = nI 2147483647 by decide]
    exact fun z => absurd ((nI_eq (by omega) (by omega)).mp z) (by omega)
  have hun : (nI t = gI σ 1012 0) ↔ (¬ gI m 1350 0 = 0 ∧ gI m 1342 0 = gI m 1346 0 - 8) := by
    rw [a8, t2]
    rcases a7 with z | z
    · rw [z, if_neg (by decide)]
      exact ⟨fun y => absurd y htm, fun y => absurd rfl y.1⟩
    · rw [z, if_pos rfl]
      exact ⟨fun y => ⟨by decide, y⟩, fun y => y.2⟩
  -- it fails
  have doF : (Dst m cc ∨ (¬ gI m 1350 0 = 0 ∧ gI m 1342 0 = gI m 1346 0 - 8)) → ∀ Q' : PO, (∀ σ', am_T (kX9_passTick S1) MM Q 117 [some rW] [] σ' 0 0 → Q' none σ') → MM 72 [rW, rO w] σ Q' := by
    intro hd Q' hi
    refine c_fail hS hBV hWV d10 a3 a1 y2 y1 a9 a4 a5 t1 t2 a11 w3 (fun x' f q g hB hT hL e1 e2 => hi x' ?_)
    have gf := failM_f m w h' (gN σ 3) (gN σ 10)
    have rp := go_e1 (n := gN σ 3) hu n3 n1 hd (r_fails a3 (by omega) hS.1.2.2.2.1 h10 a9 a10 h24 hS.1.2.2.2.2.2)
    have eu : gI (failM m w h' (gN σ 3) (gN σ 10)) 1344 0 = -1 := by
      unfold failM fl_c
      simp only [gI_sI, gL_sL, gQ_sQ, gI_sJ, gI_sL, gI_sQ, gL_sI, gL_sQ, gL_sJ, gQ_sI, gQ_sL, gQ_sJ, gN_sI, gN_sL, gN_sQ, gN_sJ, Nat.reduceLT, Nat.reduceEqDiff, reduceIte, Nat.reduceAdd, Nat.reduceLeDiff, Nat.reduceSub, Bool.false_eq_true, if_true, if_false, ite_true, ite_false, List.length_cons, List.length_nil, Nat.zero_add, Nat.add_zero, and_true, true_and, true_or, or_true, and_self, Nat.le_refl, Nat.lt_irrefl]
    have fX : frx PXR σ x' := f.mo (PXR_l rfl)
    generalize failM m w h' (gN σ 3) (gN σ 10) = m' at *
    obtain ⟨b1, b2, b3, b4, b5, b6⟩ := hB
    exact hX x' m' fX g (gf.gi rfl) rp (hS.cg fX g) ⟨b1, b2, b3, hT, ⟨t, by rw [f.gi rfl]; exact t1, by rw [gf.gi rfl]; exact t2, t3⟩, d6.cg f gf rfl rfl, ⟨e1, by rw [f.gi rfl, gf.gi rfl]; exact w2, e2, b4, b5, b6⟩, Or.inl ⟨q, eu⟩, d9.cg f gf rfl rfl, hL⟩ (hC.cg f gf rfl rfl) (hO.cg f rfl)
  by_cases q1 : nI t = gI σ 1012 0
  · rw [h_pass 12]
    simp only [am_run_s, bt, lf, am_in, am_ar, am_fit, am_ld, am_ct, Nat.reduceLT, Nat.reduceEqDiff, reduceIte, Nat.reduceAdd, Nat.reduceLeDiff, Nat.reduceSub, Bool.false_eq_true, if_true, if_false, ite_true, ite_false, List.length_cons, List.length_nil, Nat.zero_add, Nat.add_zero, and_true, true_and, true_or, or_true, and_self, Nat.le_refl, Nat.lt_irrefl, gI_sI, gL_sL, gQ_sQ, gI_sJ, gI_sL, gI_sQ, gL_sI, gL_sQ, gL_sJ, gQ_sI, gQ_sL, gQ_sJ, gN_sI, gN_sL, gN_sQ, gN_sJ, E_b2_0, E_cV_a, E_cV_b, E_c_0, E_dup_0, E_dup_1, E_getI_0, E_getR_0, E_je_0, E_jl_0, E_jmp_0, E_jnull_0, E_jnull_1, E_jp_0, E_jz_0, E_kk, E_ldR_a, E_ldR_b, E_putI_0, E_rV_0, am_cc, am_pop, am_rt, cC_4, cC_9, rQ_1008, rR_1002, kX9_passTick, kX9_passTick_0, kX9_passTick_1, am_run_z, a2, t1, ← q1, a1]
    refine doF (Or.inr (hun.mp q1)) _ (fun σ' h => ?_)
    simp only [am_run_s, bt, lf, am_in, am_ar, am_fit, am_ld, am_ct, Nat.reduceLT, Nat.reduceEqDiff, reduceIte, Nat.reduceAdd, Nat.reduceLeDiff, Nat.reduceSub, Bool.false_eq_true, if_true, if_false, ite_true, ite_false, List.length_cons, List.length_nil, Nat.zero_add, Nat.add_zero, and_true, true_and, true_or, or_true, and_self, Nat.le_refl, Nat.lt_irrefl, gI_sI, gL_sL, gQ_sQ, gI_sJ, gI_sL, gI_sQ, gL_sI, gL_sQ, gL_sJ, gQ_sI, gQ_sL, gQ_sJ, gN_sI, gN_sL, gN_sQ, gN_sJ, E_b2_0, E_cV_a, E_cV_b, E_c_0, E_dup_0, E_dup_1, E_getI_0, E_getR_0, E_je_0, E_jl_0, E_jmp_0, E_jnull_0, E_jnull_1, E_jp_0, E_jz_0, E_kk, E_ldR_a, E_ldR_b, E_putI_0, E_rV_0, am_cc, am_pop, am_rt, cC_4, cC_9, rQ_1008, rR_1002, kX9_passTick, kX9_passTick_0, kX9_passTick_1, am_run_z]
    exact h
  by_cases q2 : 0 < gI σ 501 0 ∧ gI σ 30 0 = nI t
  · rw [h_pass 18]
    simp only [am_run_s, bt, lf, am_in, am_ar, am_fit, am_ld, am_ct, Nat.reduceLT, Nat.reduceEqDiff, reduceIte, Nat.reduceAdd, Nat.reduceLeDiff, Nat.reduceSub, Bool.false_eq_true, if_true, if_false, ite_true, ite_false, List.length_cons, List.length_nil, Nat.zero_add, Nat.add_zero, and_true, true_and, true_or, or_true, and_self, Nat.le_refl, Nat.lt_irrefl, gI_sI, gL_sL, gQ_sQ, gI_sJ, gI_sL, gI_sQ, gL_sI, gL_sQ, gL_sJ, gQ_sI, gQ_sL, gQ_sJ, gN_sI, gN_sL, gN_sQ, gN_sJ, E_b2_0, E_cV_a, E_cV_b, E_c_0, E_dup_0, E_dup_1, E_getI_0, E_getR_0, E_je_0, E_jl_0, E_jmp_0, E_jnull_0, E_jnull_1, E_jp_0, E_jz_0, E_kk, E_ldR_a, E_ldR_b, E_putI_0, E_rV_0, am_cc, am_pop, am_rt, cC_4, cC_9, rQ_1008, rR_1002, kX9_passTick, kX9_passTick_0, kX9_passTick_1, am_run_z, a2, t1, q1, ↓s_isFirst, bI_z, q2, and_self, not_true_eq_false, not_false_eq_true, a1]
    refine doF (Or.inl (hfi.mp q2)) _ (fun σ' h => ?_)
    simp only [am_run_s, bt, lf, am_in, am_ar, am_fit, am_ld, am_ct, Nat.reduceLT, Nat.reduceEqDiff, reduceIte, Nat.reduceAdd, Nat.reduceLeDiff, Nat.reduceSub, Bool.false_eq_true, if_true, if_false, ite_true, ite_false, List.length_cons, List.length_nil, Nat.zero_add, Nat.add_zero, and_true, true_and, true_or, or_true, and_self, Nat.le_refl, Nat.lt_irrefl, gI_sI, gL_sL, gQ_sQ, gI_sJ, gI_sL, gI_sQ, gL_sI, gL_sQ, gL_sJ, gQ_sI, gQ_sL, gQ_sJ, gN_sI, gN_sL, gN_sQ, gN_sJ, E_b2_0, E_cV_a, E_cV_b, E_c_0, E_dup_0, E_dup_1, E_getI_0, E_getR_0, E_je_0, E_jl_0, E_jmp_0, E_jnull_0, E_jnull_1, E_jp_0, E_jz_0, E_kk, E_ldR_a, E_ldR_b, E_putI_0, E_rV_0, am_cc, am_pop, am_rt, cC_4, cC_9, rQ_1008, rR_1002, kX9_passTick, kX9_passTick_0, kX9_passTick_1, am_run_z]
    exact h
  have nd : ¬ Dst m cc := fun z => q2 (hfi.mpr z)
  have na : gI m 1350 0 = 0 ∨ ¬ gI m 1342 0 = gI m 1346 0 - 8 := by
    by_cases z : gI m 1350 0 = 0
    · exact Or.inl z
    · exact Or.inr (fun y => q1 (hun.mpr ⟨z, y⟩))
  by_cases q3 : nI t = gI σ 1011 0
  · have he : gI m 1342 0 = gI m 1346 0 := by rw [t2, ← a6]; exact q3
    rw [h_pass 22]
    simp only [am_run_s, bt, lf, am_in, am_ar, am_fit, am_ld, am_ct, Nat.reduceLT, Nat.reduceEqDiff, reduceIte, Nat.reduceAdd, Nat.reduceLeDiff, Nat.reduceSub, Bool.false_eq_true, if_true, if_false, ite_true, ite_false, List.length_cons, List.length_nil, Nat.zero_add, Nat.add_zero, and_true, true_and, true_or, or_true, and_self, Nat.le_refl, Nat.lt_irrefl, gI_sI, gL_sL, gQ_sQ, gI_sJ, gI_sL, gI_sQ, gL_sI, gL_sQ, gL_sJ, gQ_sI, gQ_sL, gQ_sJ, gN_sI, gN_sL, gN_sQ, gN_sJ, E_b2_0, E_cV_a, E_cV_b, E_c_0, E_dup_0, E_dup_1, E_getI_0, E_getR_0, E_je_0, E_jl_0, E_jmp_0, E_jnull_0, E_jnull_1, E_jp_0, E_jz_0, E_kk, E_ldR_a, E_ldR_b, E_putI_0, E_rV_0, am_cc, am_pop, am_rt, cC_4, cC_9, rQ_1008, rR_1002, kX9_passTick, kX9_passTick_0, kX9_passTick_1, am_run_z, a2, t1, q1, ← q3, ↓s_isFirst, bI_z, q2, not_true_eq_false, not_false_eq_true, a1]
    refine c_hear hS hBV d4 d10 hC a3 a1 a4 a5 t1 t2 (by omega) w2 (fun x' f q g hB hT hL hC' hs e1 e2 => ?_)
    simp only [am_run_s, bt, lf, am_in, am_ar, am_fit, am_ld, am_ct, Nat.reduceLT, Nat.reduceEqDiff, reduceIte, Nat.reduceAdd, Nat.reduceLeDiff, Nat.reduceSub, Bool.false_eq_true, if_true, if_false, ite_true, ite_false, List.length_cons, List.length_nil, Nat.zero_add, Nat.add_zero, and_true, true_and, true_or, or_true, and_self, Nat.le_refl, Nat.lt_irrefl, gI_sI, gL_sL, gQ_sQ, gI_sJ, gI_sL, gI_sQ, gL_sI, gL_sQ, gL_sJ, gQ_sI, gQ_sL, gQ_sJ, gN_sI, gN_sL, gN_sQ, gN_sJ, E_b2_0, E_cV_a, E_cV_b, E_c_0, E_dup_0, E_dup_1, E_getI_0, E_getR_0, E_je_0, E_jl_0, E_jmp_0, E_jnull_0, E_jnull_1, E_jp_0, E_jz_0, E_kk, E_ldR_a, E_ldR_b, E_putI_0, E_rV_0, am_cc, am_pop, am_rt, cC_4, cC_9, rQ_1008, rR_1002, kX9_passTick, kX9_passTick_0, kX9_passTick_1, am_run_z]
    have gf := heardM_f m w (gN σ 3) (gN σ 10)
    have rp := go_e2 (n := gN σ 3) hu n3 n1 nd na he (r_heard a3 (by omega) hS.1.2.2.2.1 h10 h24 hS.1.2.2.2.2.2)
    have eu : gI (heardM m w (gN σ 3) (gN σ 10)) 1344 0 = -1 := by
      unfold heardM hd_c
      simp only [gI_sI, gL_sL, gQ_sQ, gI_sJ, gI_sL, gI_sQ, gL_sI, gL_sQ, gL_sJ, gQ_sI, gQ_sL, gQ_sJ, gN_sI, gN_sL, gN_sQ, gN_sJ, Nat.reduceLT, Nat.reduceEqDiff, reduceIte, Nat.reduceAdd, Nat.reduceLeDiff, Nat.reduceSub, Bool.false_eq_true, if_true, if_false, ite_true, ite_false, List.length_cons, List.length_nil, Nat.zero_add, Nat.add_zero, and_true, true_and, true_or, or_true, and_self, Nat.le_refl, Nat.lt_irrefl]
    have fX : frx PXR σ x' := f.mo (PXR_l rfl)
    generalize heardM m w (gN σ 3) (gN σ 10) = m' at *
    obtain ⟨b1, b2, b3, b4, b5, b6⟩ := hB
    have hS' := hS.cg fX g
    have hn' : v_nxt x' m' := d6.cg f gf rfl rfl
    exact hX x' m' fX g (gf.gi rfl) rp hS' ⟨b1, b2, b3, hT, ⟨t, by rw [f.gi rfl]; exact t1, by rw [gf.gi rfl]; exact t2, t3⟩, hn', ⟨e1, e2, by rw [f.gi rfl, gf.gi rfl]; exact w3, b4, b5, b6⟩, Or.inl ⟨q, eu⟩, d9.cg f gf rfl rfl, hL⟩ hC' (v_soo.zero hS'.2.2.1.1 hS'.2.2.1.2.2.2.1 hn' hS'.2.2.1.2.2.2.2.2.2 hs)
  · have he : ¬ gI m 1342 0 = gI m 1346 0 := by rw [t2, ← a6]; exact q3
    rw [h_pass 18]
    simp only [am_run_s, bt, lf, am_in, am_ar, am_fit, am_ld, am_ct, Nat.reduceLT, Nat.reduceEqDiff, reduceIte, Nat.reduceAdd, Nat.reduceLeDiff, Nat.reduceSub, Bool.false_eq_true, if_true, if_false, ite_true, ite_false, List.length_cons, List.length_nil, Nat.zero_add, Nat.add_zero, and_true, true_and, true_or, or_true, and_self, Nat.le_refl, Nat.lt_irrefl, gI_sI, gL_sL, gQ_sQ, gI_sJ, gI_sL, gI_sQ, gL_sI, gL_sQ, gL_sJ, gQ_sI, gQ_sL, gQ_sJ, gN_sI, gN_sL, gN_sQ, gN_sJ, E_b2_0, E_cV_a, E_cV_b, E_c_0, E_dup_0, E_dup_1, E_getI_0, E_getR_0, E_je_0, E_jl_0, E_jmp_0, E_jnull_0, E_jnull_1, E_jp_0, E_jz_0, E_kk, E_ldR_a, E_ldR_b, E_putI_0, E_rV_0, am_cc, am_pop, am_rt, cC_4, cC_9, rQ_1008, rR_1002, kX9_passTick, kX9_passTick_0, kX9_passTick_1, am_run_z, a2, t1, q1, q3, ↓s_isFirst, bI_z, q2, not_true_eq_false, not_false_eq_true]
    exact hX σ m frx.rf frm.rf rfl (go_e3 hu n3 n1 nd na he) hS hD' hC hO
