/-! ===== the run: the reference: a frame fails ===== -/
def PNT (f : Nat) : Bool := PLG f || Nat.beq f 1357
theorem frm.sj {P : Nat → Bool} {a b : HS} (h : frm P a b) {f : Nat} {g : Nat → Int32} (hf : P f = true) : frm P a (sJ b f g) := by
  refine ⟨h.1, h.2.1, fun f' i' hf' => ?_⟩
  have : ¬ f' = f := fun e => by rw [e, hf] at hf'; cases hf'
  show (if f' = f then _ else b.2.1 f' i') = _
  rw [if_neg this]
  exact h.2.2 f' i' hf'
theorem nts_f (m : HS) (tm : Int32) : frm PNT m (nts m tm) := ((((frm.rf.sj rfl).sj rfl).sj rfl).sj rfl).si rfl
def PSL (f : Nat) : Bool := Nat.beq f 72 || Nat.beq f 35 || Nat.beq f 34
theorem sil_f (m : HS) (n nw : Nat) : frm PSL m (sil m n nw) := (frm.rf.si rfl).sj rfl
theorem bl1_f (m : HS) (i nw : Nat) (d : Int32) : frm PSL m (bl1 m i nw d) := by
  unfold bl1
  by_cases q : gI m 34 i < 256
  · rw [if_pos q]
    have f1 : frm PSL m (sI m 34 i (gI m 34 i + d)) := frm.rf.si rfl
    by_cases z : gI m 34 i + d < 256
    · rw [if_pos z]; exact f1
    · rw [if_neg z]; exact f1.tr (sil_f _ _ _)
  · rw [if_neg q]; exact frm.rf
def blN (nw h : Nat) (m : HS) : Nat → HS
  | 0 => m
  | i + 1 => bl1 (blN nw h m i) i nw (if i = h then 8 else 1)
theorem blN_f (nw h : Nat) (m : HS) : ∀ i, frm PSL m (blN nw h m i)
  | 0 => frm.rf
  | i + 1 => (blN_f nw h m i).tr (bl1_f _ _ _ _)
theorem r_blN {m : HS} {w n h nw : Nat} (hw : w < 24) (hn : gI m 1313 0 = nI n) (h10 : n ≤ 10) (hh : gI m 37 w = nI h) (hh2 : h < 10) (h24 : nw ≤ 24) (hnw : gI m 1314 0 = nI nw) : ∀ i, i ≤ n → Rp (kX12_fails S1) 76 [some rM, some (.inl (nI w)), some (.inl (nI 0))] m 76 [some rM, some (.inl (nI w)), some (.inl (nI i))] (blN nw h m i)
  | 0, _ => Rp.rf
  | i + 1, hi => by
    have f := blN_f nw h m i
    exact (r_blN hw hn h10 hh hh2 h24 hnw i (by omega)).tr (r_blame hw (by rw [f.gi rfl]; exact hn) h10 (by omega) (by rw [f.gi rfl]; exact hh) hh2 h24 (by rw [f.gi rfl]; exact hnw))
def fl_a (m : HS) (h : Nat) : HS := sI (sI m 1349 0 (gI m 1349 0 + 1)) 36 h (gI m 36 h + 1)
def fl_b (m : HS) (w : Nat) : HS := if gI m 72 w = 0 then sI (sI m 72 w 1) 45 w (gI m 1347 0) else sI m 50 w (gI m 50 w + 1)
def fl_c (m : HS) : HS := sI (sI m 1344 0 (-1)) 1343 0 (gI m 1342 0 + 18)
def failM (m : HS) (w h n nw : Nat) : HS := fl_c (blN nw h (fl_b (fl_a (nts m (-1)) h) w) n)
theorem r_fails {m : HS} {w n h nw : Nat} (hu : gI m 1344 0 = nI w) (hw : w < 24) (hn : gI m 1313 0 = nI n) (h10 : n ≤ 10) (hh : gI m 37 w = nI h) (hh2 : h < 10) (h24 : nw ≤ 24) (hnw : gI m 1314 0 = nI nw) : Rg 185 [] m (failM m w h n nw) := by
  intro σ Q hm hQ
  have h3 : vp_in (nI h) 10 := vp_in_nI (by omega) (by omega)
  have h4 : (nI h).toNatClampNeg = h := nI_clamp (by omega)
  have h5 : vp_in (nI w) 24 := vp_in_nI (by omega) (by omega)
  have h6 : (nI w).toNatClampNeg = w := nI_clamp (by omega)
  have c0 : gI σ 1344 0 = nI w := by rw [hm.gi rfl]; exact hu
  unfold failM at hQ
  have fn := nts_f m (-1)
  rw [eX12_fails 6]
  simp only [am_run_s, bt, lf, am_in, am_ar, am_fit, am_ld, am_ct, Nat.reduceLT, Nat.reduceEqDiff, reduceIte, Nat.reduceAdd, Nat.reduceLeDiff, Nat.reduceSub, Bool.false_eq_true, if_true, if_false, ite_true, ite_false, List.length_cons, List.length_nil, Nat.zero_add, Nat.add_zero, and_true, true_and, true_or, or_true, and_self, Nat.le_refl, Nat.lt_irrefl, gI_sI, gL_sL, gQ_sQ, gI_sJ, gI_sL, gI_sQ, gL_sI, gL_sQ, gL_sJ, gQ_sI, gQ_sL, gQ_sJ, gN_sI, gN_sL, gN_sQ, gN_sJ, E_b2_0, E_bald_0, E_bast_0, E_cV_a, E_cV_b, E_c_0, E_dup2_0, E_dup_0, E_dup_1, E_getI_0, E_getR_0, E_iald_0, E_iast_0, E_inc_a, E_inc_b, E_je_0, E_jl_0, E_jmp_0, E_jz_0, E_kk, E_ldI_a, E_ldI_b, E_ldR_a, E_ldR_b, E_putI_0, E_rV_0, E_stI_0, aL_34, aL_36, aL_37, aL_45, aL_50, aL_72, am_cc, am_nl, am_ok, am_pop, am_rt, am_set, cC_12, cC_34, cC_36, cC_37, cC_45, cC_50, cC_72, rR_1301, rR_1303, rR_1304, rR_1315, rR_1316, rR_1321, kX12_fails, kX12_fails_0, kX12_fails_1, am_run_z, c0]
  refine r_notes m (-1) σ _ hm (fun σ1 m1 f1 => ?_)
  simp only [am_run_s, bt, lf, am_in, am_ar, am_fit, am_ld, am_ct, Nat.reduceLT, Nat.reduceEqDiff, reduceIte, Nat.reduceAdd, Nat.reduceLeDiff, Nat.reduceSub, Bool.false_eq_true, if_true, if_false, ite_true, ite_false, List.length_cons, List.length_nil, Nat.zero_add, Nat.add_zero, and_true, true_and, true_or, or_true, and_self, Nat.le_refl, Nat.lt_irrefl, gI_sI, gL_sL, gQ_sQ, gI_sJ, gI_sL, gI_sQ, gL_sI, gL_sQ, gL_sJ, gQ_sI, gQ_sL, gQ_sJ, gN_sI, gN_sL, gN_sQ, gN_sJ, E_b2_0, E_bald_0, E_bast_0, E_cV_a, E_cV_b, E_c_0, E_dup2_0, E_dup_0, E_dup_1, E_getI_0, E_getR_0, E_iald_0, E_iast_0, E_inc_a, E_inc_b, E_je_0, E_jl_0, E_jmp_0, E_jz_0, E_kk, E_ldI_a, E_ldI_b, E_ldR_a, E_ldR_b, E_putI_0, E_rV_0, E_stI_0, aL_34, aL_36, aL_37, aL_45, aL_50, aL_72, am_cc, am_nl, am_ok, am_pop, am_rt, am_set, cC_12, cC_34, cC_36, cC_37, cC_45, cC_50, cC_72, rR_1301, rR_1303, rR_1304, rR_1315, rR_1316, rR_1321, kX12_fails, kX12_fails_0, kX12_fails_1, am_run_z]
  have n1 : gI (nts m (-1)) 37 w = nI h := by rw [fn.gi rfl]; exact hh
  have n2 : gI (nts m (-1)) 1313 0 = nI n := by rw [fn.gi rfl]; exact hn
  have n3 : gI (nts m (-1)) 1314 0 = nI nw := by rw [fn.gi rfl]; exact hnw
  revert hQ m1 n1 n2 n3
  generalize nts m (-1) = ma
  intro hQ m1 n1 n2 n3
  have d1 : gI σ1 37 w = nI h := by rw [m1.gi rfl]; exact n1
  have d2 : gI σ1 1349 0 = gI ma 1349 0 := m1.gi rfl
  have d3 : gI σ1 36 h = gI ma 36 h := m1.gi rfl
  rw [hX12_fails 16]
  simp only [am_run_s, bt, lf, am_in, am_ar, am_fit, am_ld, am_ct, Nat.reduceLT, Nat.reduceEqDiff, reduceIte, Nat.reduceAdd, Nat.reduceLeDiff, Nat.reduceSub, Bool.false_eq_true, if_true, if_false, ite_true, ite_false, List.length_cons, List.length_nil, Nat.zero_add, Nat.add_zero, and_true, true_and, true_or, or_true, and_self, Nat.le_refl, Nat.lt_irrefl, gI_sI, gL_sL, gQ_sQ, gI_sJ, gI_sL, gI_sQ, gL_sI, gL_sQ, gL_sJ, gQ_sI, gQ_sL, gQ_sJ, gN_sI, gN_sL, gN_sQ, gN_sJ, E_b2_0, E_bald_0, E_bast_0, E_cV_a, E_cV_b, E_c_0, E_dup2_0, E_dup_0, E_dup_1, E_getI_0, E_getR_0, E_iald_0, E_iast_0, E_inc_a, E_inc_b, E_je_0, E_jl_0, E_jmp_0, E_jz_0, E_kk, E_ldI_a, E_ldI_b, E_ldR_a, E_ldR_b, E_putI_0, E_rV_0, E_stI_0, aL_34, aL_36, aL_37, aL_45, aL_50, aL_72, am_cc, am_nl, am_ok, am_pop, am_rt, am_set, cC_12, cC_34, cC_36, cC_37, cC_45, cC_50, cC_72, rR_1301, rR_1303, rR_1304, rR_1315, rR_1316, rR_1321, kX12_fails, kX12_fails_0, kX12_fails_1, am_run_z, h3, h4, h5, h6, d1, d2, d3]
  have m2 : AgM (sI (sI σ1 1349 0 (gI ma 1349 0 + 1)) 36 h (gI ma 36 h + 1)) (fl_a ma h) := (m1.si _ _ _).si _ _ _
  have f2 : frm PMA σ (sI (sI σ1 1349 0 (gI ma 1349 0 + 1)) 36 h (gI ma 36 h + 1)) := (f1.si rfl).si rfl
  have n1b : gI (fl_a ma h) 37 w = nI h := n1
  have n2b : gI (fl_a ma h) 1313 0 = nI n := n2
  have n3b : gI (fl_a ma h) 1314 0 = nI nw := n3
  revert hQ m2 f2 n1b n2b n3b
  generalize fl_a ma h = mb
  generalize sI (sI σ1 1349 0 (gI ma 1349 0 + 1)) 36 h (gI ma 36 h + 1) = σ2
  intro hQ m2 f2 n1b n2b n3b
  have d4 : gI σ2 72 w = gI mb 72 w := m2.gi rfl
  have d5 : gI σ2 50 w = gI mb 50 w := m2.gi rfl
  have d6 : gI σ2 1347 0 = gI mb 1347 0 := m2.gi rfl
  -- the loop and the end, from a state that agrees with mc
  have rest : ∀ (mc σ3 : HS), fl_b mb w = mc → AgM σ3 mc → frm PMA σ σ3 → am_T (kX12_fails S1) MM Q 76 [some rM, some (.inl (nI w)), some (.inl (nI 0))] [] σ3 0 0 := by
    intro mc σ3 ec m3 f3
    rw [ec] at hQ
    have e1 : gI mc 1313 0 = nI n := by
      rw [← ec]; unfold fl_b; split <;> exact n2b
    have e2 : gI mc 37 w = nI h := by
      rw [← ec]; unfold fl_b; split <;> exact n1b
    have e3 : gI mc 1314 0 = nI nw := by
      rw [← ec]; unfold fl_b; split <;> exact n3b
    refine r_blN hw e1 h10 e2 hh2 h24 e3 n (Nat.le_refl _) σ3 Q m3 (fun σ4 m4 f4 => ?_)
    have e4 : gI σ4 1313 0 = nI n := by rw [m4.gi rfl, (blN_f nw h mc n).gi rfl]; exact e1
    have e5 : gI σ4 1342 0 = gI (blN nw h mc n) 1342 0 := m4.gi rfl
    have h0 : ¬ nI n < nI n := nI_nlt (by omega) (by omega)
    rw [hX12_fails 13]
    simp only [am_run_s, bt, lf, am_in, am_ar, am_fit, am_ld, am_ct, Nat.reduceLT, Nat.reduceEqDiff, reduceIte, Nat.reduceAdd, Nat.reduceLeDiff, Nat.reduceSub, Bool.false_eq_true, if_true, if_false, ite_true, ite_false, List.length_cons, List.length_nil, Nat.zero_add, Nat.add_zero, and_true, true_and, true_or, or_true, and_self, Nat.le_refl, Nat.lt_irrefl, gI_sI, gL_sL, gQ_sQ, gI_sJ, gI_sL, gI_sQ, gL_sI, gL_sQ, gL_sJ, gQ_sI, gQ_sL, gQ_sJ, gN_sI, gN_sL, gN_sQ, gN_sJ, E_b2_0, E_bald_0, E_bast_0, E_cV_a, E_cV_b, E_c_0, E_dup2_0, E_dup_0, E_dup_1, E_getI_0, E_getR_0, E_iald_0, E_iast_0, E_inc_a, E_inc_b, E_je_0, E_jl_0, E_jmp_0, E_jz_0, E_kk, E_ldI_a, E_ldI_b, E_ldR_a, E_ldR_b, E_putI_0, E_rV_0, E_stI_0, aL_34, aL_36, aL_37, aL_45, aL_50, aL_72, am_cc, am_nl, am_ok, am_pop, am_rt, am_set, cC_12, cC_34, cC_36, cC_37, cC_45, cC_50, cC_72, rR_1301, rR_1303, rR_1304, rR_1315, rR_1316, rR_1321, kX12_fails, kX12_fails_0, kX12_fails_1, e4, h0, e5]
    exact hQ _ ((m4.si _ _ _).si _ _ _) (((f3.tr f4).si rfl).si rfl)
  by_cases q : gI mb 72 w = 0
  · rw [hX12_fails 17]
    simp only [am_run_s, bt, lf, am_in, am_ar, am_fit, am_ld, am_ct, Nat.reduceLT, Nat.reduceEqDiff, reduceIte, Nat.reduceAdd, Nat.reduceLeDiff, Nat.reduceSub, Bool.false_eq_true, if_true, if_false, ite_true, ite_false, List.length_cons, List.length_nil, Nat.zero_add, Nat.add_zero, and_true, true_and, true_or, or_true, and_self, Nat.le_refl, Nat.lt_irrefl, gI_sI, gL_sL, gQ_sQ, gI_sJ, gI_sL, gI_sQ, gL_sI, gL_sQ, gL_sJ, gQ_sI, gQ_sL, gQ_sJ, gN_sI, gN_sL, gN_sQ, gN_sJ, E_b2_0, E_bald_0, E_bast_0, E_cV_a, E_cV_b, E_c_0, E_dup2_0, E_dup_0, E_dup_1, E_getI_0, E_getR_0, E_iald_0, E_iast_0, E_inc_a, E_inc_b, E_je_0, E_jl_0, E_jmp_0, E_jz_0, E_kk, E_ldI_a, E_ldI_b, E_ldR_a, E_ldR_b, E_putI_0, E_rV_0, E_stI_0, aL_34, aL_36, aL_37, aL_45, aL_50, aL_72, am_cc, am_nl, am_ok, am_pop, am_rt, am_set, cC_12, cC_34, cC_36, cC_37, cC_45, cC_50, cC_72, rR_1301, rR_1303, rR_1304, rR_1315, rR_1316, rR_1321, kX12_fails, kX12_fails_0, kX12_fails_1, h5, h6, d4, d6, q, am_b1]
    refine rest _ _ (by unfold fl_b; rw [if_pos q]) ((m2.si _ _ _).si _ _ _) ((f2.si rfl).si rfl)
  · rw [hX12_fails 15]
    simp only [am_run_s, bt, lf, am_in, am_ar, am_fit, am_ld, am_ct, Nat.reduceLT, Nat.reduceEqDiff, reduceIte, Nat.reduceAdd, Nat.reduceLeDiff, Nat.reduceSub, Bool.false_eq_true, if_true, if_false, ite_true, ite_false, List.length_cons, List.length_nil, Nat.zero_add, Nat.add_zero, and_true, true_and, true_or, or_true, and_self, Nat.le_refl, Nat.lt_irrefl, gI_sI, gL_sL, gQ_sQ, gI_sJ, gI_sL, gI_sQ, gL_sI, gL_sQ, gL_sJ, gQ_sI, gQ_sL, gQ_sJ, gN_sI, gN_sL, gN_sQ, gN_sJ, E_b2_0, E_bald_0, E_bast_0, E_cV_a, E_cV_b, E_c_0, E_dup2_0, E_dup_0, E_dup_1, E_getI_0, E_getR_0, E_iald_0, E_iast_0, E_inc_a, E_inc_b, E_je_0, E_jl_0, E_jmp_0, E_jz_0, E_kk, E_ldI_a, E_ldI_b, E_ldR_a, E_ldR_b, E_putI_0, E_rV_0, E_stI_0, aL_34, aL_36, aL_37, aL_45, aL_50, aL_72, am_cc, am_nl, am_ok, am_pop, am_rt, am_set, cC_12, cC_34, cC_36, cC_37, cC_45, cC_50, cC_72, rR_1301, rR_1303, rR_1304, rR_1315, rR_1316, rR_1321, kX12_fails, kX12_fails_0, kX12_fails_1, h5, h6, d4, d5, q]
    refine rest _ _ (by unfold fl_b; rw [if_neg q]) (m2.si _ _ _) (f2.si rfl)
