/-! ===== the run: the reference: a frame begins ===== -/
theorem r_bsN {m : HS} {nw : Nat} (hnw : gI m 1314 0 = nI nw) (h24 : nw ≤ 24) (wf : ∀ w, w < nw → WF m w) : ∀ i, i ≤ nw → Rp (kX12_begins S1) 4 [some rM, some (.inl (-1)), some (.inl (nI 0))] m 4 [some rM, some (.inl (onat (bsN m i))), some (.inl (nI i))] m
  | 0, _ => Rp.rf
  | i + 1, hi => (r_bsN hnw h24 wf i (by omega)).tr (r_best hnw h24 (by omega) (wf i (by omega)))
theorem AgM.sii {σ m : HS} {f i : Nat} {v : Int32} (h : AgM σ (sI m f i v)) (v' : Int32) : AgM (sI σ f i v') (sI m f i v') := by
  refine ⟨fun f' hf' i' => ?_, h.2⟩
  have := h.1 f' hf' i'
  rw [gI_sI] at this
  rw [gI_sI, gI_sI]
  by_cases e : f' = f
  · rw [if_pos e] at this ⊢
    rw [if_pos e]
    by_cases e2 : i' = i
    · rw [if_pos e2, if_pos e2]
    · rw [if_neg e2] at this ⊢
      rw [if_neg e2]
      exact this
  · rw [if_neg e] at this ⊢
    rw [if_neg e]
    exact this
/-- none but h is not OFF among the first i -/
def alN (c : Nat → Int32) (h : Nat) : Nat → Int32
  | 0 => 1
  | i + 1 => if alN c h i = 1 ∧ (i = h ∨ ¬ c i < 256) then 1 else 0
theorem alN_b (c : Nat → Int32) (h : Nat) : ∀ i, alN c h i = 0 ∨ alN c h i = 1
  | 0 => Or.inr rfl
  | i + 1 => by
    unfold alN
    by_cases q : alN c h i = 1 ∧ (i = h ∨ ¬ c i < 256)
    · rw [if_pos q]; exact Or.inr rfl
    · rw [if_neg q]; exact Or.inl rfl
theorem alN_s (c : Nat → Int32) (h i : Nat) : alN c h (i + 1) = if alN c h i = 1 ∧ (i = h ∨ ¬ c i < 256) then 1 else 0 := rfl
theorem r_al1 {m : HS} {c : Nat → Int32} {b h n i : Nat} (hc : ∀ i, gI m 34 i = c i) (hn : gI m 1313 0 = nI n) (h10 : n ≤ 10) (hi : i < n) (hb : b < 24) (hh : gI m 37 b = nI h) (hh2 : h < 10) : Rp (kX12_begins S1) 117 [some rM, some (.inl (nI b)), some (.inl (nI i))] (sI m 1350 0 (alN c h i)) 117 [some rM, some (.inl (nI b)), some (.inl (nI (i + 1)))] (sI m 1350 0 (alN c h (i + 1))) := by
  intro σ Q hm hX
  rw [alN_s] at hX
  have c0 : gI σ 1313 0 = nI n := by rw [hm.gi rfl]; exact hn
  have c1 : gI σ 1350 0 = alN c h i := by rw [hm.gi rfl]; simp only [gI_sI, gL_sL, gQ_sQ, gI_sJ, gI_sL, gI_sQ, gL_sI, gL_sQ, gL_sJ, gQ_sI, gQ_sL, gQ_sJ, gN_sI, gN_sL, gN_sQ, gN_sJ, Nat.reduceLT, Nat.reduceEqDiff, reduceIte, Nat.reduceAdd, Nat.reduceLeDiff, Nat.reduceSub, Bool.false_eq_true, if_true, if_false, ite_true, ite_false, List.length_cons, List.length_nil, Nat.zero_add, Nat.add_zero, and_true, true_and, true_or, or_true, and_self, Nat.le_refl, Nat.lt_irrefl]
  have c2 : gI σ 37 b = nI h := by rw [hm.gi rfl]; exact hh
  have c3 : gI σ 34 i = c i := by rw [hm.gi rfl]; exact hc i
  have h2 := nI_t hi (by omega)
  have h3 : vp_in (nI b) 24 := vp_in_nI (by omega) (by omega)
  have h4 : (nI b).toNatClampNeg = b := nI_clamp (by omega)
  have k10 : ¬ (1 : Int32) = 0 := by decide
  rcases alN_b c h i with q | q
  · have nq : ¬ (alN c h i = 1 ∧ (i = h ∨ ¬ c i < 256)) := fun z => absurd (q.symm.trans z.1) (by decide)
    rw [if_neg nq] at hX
    rw [hX12_begins 12]
    simp only [am_run_s, bt, lf, am_in, am_ar, am_fit, am_ld, am_ct, Nat.reduceLT, Nat.reduceEqDiff, reduceIte, Nat.reduceAdd, Nat.reduceLeDiff, Nat.reduceSub, Bool.false_eq_true, if_true, if_false, ite_true, ite_false, List.length_cons, List.length_nil, Nat.zero_add, Nat.add_zero, and_true, true_and, true_or, or_true, and_self, Nat.le_refl, Nat.lt_irrefl, gI_sI, gL_sL, gQ_sQ, gI_sJ, gI_sL, gI_sQ, gL_sI, gL_sQ, gL_sJ, gQ_sI, gQ_sL, gQ_sJ, gN_sI, gN_sL, gN_sQ, gN_sJ, E_b2_0, E_bald_0, E_bast_0, E_cV_a, E_cV_b, E_c_0, E_getI_0, E_getR_0, E_iald_0, E_inc_a, E_inc_b, E_je_0, E_jl_0, E_jmp_0, E_jn_0, E_jz_0, E_kk, E_ldI_a, E_ldI_b, E_ldR_a, E_ldR_b, E_putI_0, E_putZ_0, E_rV_0, E_stI_0, aL_37, aL_45, aL_72, am_cc, am_nl, am_ok, am_pop, am_rt, am_set, cC_12, cC_37, cC_45, cC_72, rR_1304, rR_1315, rR_1316, kX12_begins, kX12_begins_0, kX12_begins_1, c0, h2, c1, q, am_b0, nI_1]
    exact hX _ (hm.sii _) (frm.rf.si rfl)
  · by_cases e : i = h
    · rw [if_pos ⟨q, Or.inl e⟩] at hX
      have e' : (nI i = nI h) = True := eq_true (by rw [e])
      rw [hX12_begins 19]
      simp only [am_run_s, bt, lf, am_in, am_ar, am_fit, am_ld, am_ct, Nat.reduceLT, Nat.reduceEqDiff, reduceIte, Nat.reduceAdd, Nat.reduceLeDiff, Nat.reduceSub, Bool.false_eq_true, if_true, if_false, ite_true, ite_false, List.length_cons, List.length_nil, Nat.zero_add, Nat.add_zero, and_true, true_and, true_or, or_true, and_self, Nat.le_refl, Nat.lt_irrefl, gI_sI, gL_sL, gQ_sQ, gI_sJ, gI_sL, gI_sQ, gL_sI, gL_sQ, gL_sJ, gQ_sI, gQ_sL, gQ_sJ, gN_sI, gN_sL, gN_sQ, gN_sJ, E_b2_0, E_bald_0, E_bast_0, E_cV_a, E_cV_b, E_c_0, E_getI_0, E_getR_0, E_iald_0, E_inc_a, E_inc_b, E_je_0, E_jl_0, E_jmp_0, E_jn_0, E_jz_0, E_kk, E_ldI_a, E_ldI_b, E_ldR_a, E_ldR_b, E_putI_0, E_putZ_0, E_rV_0, E_stI_0, aL_37, aL_45, aL_72, am_cc, am_nl, am_ok, am_pop, am_rt, am_set, cC_12, cC_37, cC_45, cC_72, rR_1304, rR_1315, rR_1316, kX12_begins, kX12_begins_0, kX12_begins_1, c0, h2, h3, h4, c1, c2, q, k10, e', am_b1, nI_1]
      exact hX _ (hm.sii _) (frm.rf.si rfl)
    · have e' : (nI i = nI h) = False := eq_false (fun y => e ((nI_eq (by omega) (by omega)).mp y))
      by_cases z : c i < 256
      · have nq : ¬ (alN c h i = 1 ∧ (i = h ∨ ¬ c i < 256)) := fun y => y.2.elim e (fun y => y z)
        rw [if_neg nq] at hX
        rw [hX12_begins 22]
        simp only [am_run_s, bt, lf, am_in, am_ar, am_fit, am_ld, am_ct, Nat.reduceLT, Nat.reduceEqDiff, reduceIte, Nat.reduceAdd, Nat.reduceLeDiff, Nat.reduceSub, Bool.false_eq_true, if_true, if_false, ite_true, ite_false, List.length_cons, List.length_nil, Nat.zero_add, Nat.add_zero, and_true, true_and, true_or, or_true, and_self, Nat.le_refl, Nat.lt_irrefl, gI_sI, gL_sL, gQ_sQ, gI_sJ, gI_sL, gI_sQ, gL_sI, gL_sQ, gL_sJ, gQ_sI, gQ_sL, gQ_sJ, gN_sI, gN_sL, gN_sQ, gN_sJ, E_b2_0, E_bald_0, E_bast_0, E_cV_a, E_cV_b, E_c_0, E_getI_0, E_getR_0, E_iald_0, E_inc_a, E_inc_b, E_je_0, E_jl_0, E_jmp_0, E_jn_0, E_jz_0, E_kk, E_ldI_a, E_ldI_b, E_ldR_a, E_ldR_b, E_putI_0, E_putZ_0, E_rV_0, E_stI_0, aL_37, aL_45, aL_72, am_cc, am_nl, am_ok, am_pop, am_rt, am_set, cC_12, cC_37, cC_45, cC_72, rR_1304, rR_1315, rR_1316, kX12_begins, kX12_begins_0, kX12_begins_1, c0, h2, h3, h4, c1, c2, q, k10, e', ↓s_MisOff i σ _ (show i < 10 by omega), bI_z, c3, z, not_true_eq_false, not_false_eq_true, am_b0, nI_1]
        exact hX _ (hm.sii _) (frm.rf.si rfl)
      · rw [if_pos ⟨q, Or.inr z⟩] at hX
        rw [hX12_begins 23]
        simp only [am_run_s, bt, lf, am_in, am_ar, am_fit, am_ld, am_ct, Nat.reduceLT, Nat.reduceEqDiff, reduceIte, Nat.reduceAdd, Nat.reduceLeDiff, Nat.reduceSub, Bool.false_eq_true, if_true, if_false, ite_true, ite_false, List.length_cons, List.length_nil, Nat.zero_add, Nat.add_zero, and_true, true_and, true_or, or_true, and_self, Nat.le_refl, Nat.lt_irrefl, gI_sI, gL_sL, gQ_sQ, gI_sJ, gI_sL, gI_sQ, gL_sI, gL_sQ, gL_sJ, gQ_sI, gQ_sL, gQ_sJ, gN_sI, gN_sL, gN_sQ, gN_sJ, E_b2_0, E_bald_0, E_bast_0, E_cV_a, E_cV_b, E_c_0, E_getI_0, E_getR_0, E_iald_0, E_inc_a, E_inc_b, E_je_0, E_jl_0, E_jmp_0, E_jn_0, E_jz_0, E_kk, E_ldI_a, E_ldI_b, E_ldR_a, E_ldR_b, E_putI_0, E_putZ_0, E_rV_0, E_stI_0, aL_37, aL_45, aL_72, am_cc, am_nl, am_ok, am_pop, am_rt, am_set, cC_12, cC_37, cC_45, cC_72, rR_1304, rR_1315, rR_1316, kX12_begins, kX12_begins_0, kX12_begins_1, c0, h2, h3, h4, c1, c2, q, k10, e', ↓s_MisOff i σ _ (show i < 10 by omega), bI_z, c3, z, not_true_eq_false, not_false_eq_true, am_b1, nI_1]
        exact hX _ (hm.sii _) (frm.rf.si rfl)
theorem r_alN {m : HS} {c : Nat → Int32} {b h n : Nat} (hc : ∀ i, gI m 34 i = c i) (hn : gI m 1313 0 = nI n) (h10 : n ≤ 10) (hb : b < 24) (hh : gI m 37 b = nI h) (hh2 : h < 10) : ∀ i, i ≤ n → Rp (kX12_begins S1) 117 [some rM, some (.inl (nI b)), some (.inl (nI 0))] (sI m 1350 0 (alN c h 0)) 117 [some rM, some (.inl (nI b)), some (.inl (nI i))] (sI m 1350 0 (alN c h i))
  | 0, _ => Rp.rf
  | i + 1, hi => (r_alN hc hn h10 hb hh hh2 i (by omega)).tr (r_al1 hc hn h10 (by omega) hb hh hh2)
def bg0 (m : HS) (b : Nat) : HS := sI (sI (sI (sI (sI m 1344 0 (nI b)) 1345 0 (gI m 1342 0)) 1346 0 (gI m 1342 0 + nI (FL m b).length - 1)) 1347 0 (gI m 45 b)) 72 b 0
def bgM (m : HS) (b h n : Nat) : HS := sI (bg0 m b) 1350 0 (alN (gI m 34) h n)
theorem frm.PA {a b : HS} (h : frm PFM a b) : frm PMA a b := h.mo (fun f hf => by
  cases e : PFM f with
  | false => rfl
  | true =>
    exfalso
    unfold PFM at e
    unfold PMA at hf
    simp only [Bool.or_eq_true, Bool.and_eq_true, Nat.ble_eq] at e
    rcases e with ⟨e1, e2⟩ | e1
    · have h1 : (Nat.ble 1300 f && Nat.ble f 1399) = true := by
        simp only [Bool.and_eq_true, Nat.ble_eq]; omega
      rw [h1, Bool.or_true] at hf
      cases hf
    · have := Nat.eq_of_beq_eq_true e1
      subst this
      revert hf; decide)
theorem r_none {m : HS} {nw : Nat} (hnw : gI m 1314 0 = nI nw) (h24 : nw ≤ 24) (wf : ∀ w, w < nw → WF m w) (hb : bsN m nw = none) : Rg 183 [] m m := by
  intro σ Q hm hQ
  rw [eX12_begins 4]
  simp only [am_run_s, bt, lf, am_in, am_ar, am_fit, am_ld, am_ct, Nat.reduceLT, Nat.reduceEqDiff, reduceIte, Nat.reduceAdd, Nat.reduceLeDiff, Nat.reduceSub, Bool.false_eq_true, if_true, if_false, ite_true, ite_false, List.length_cons, List.length_nil, Nat.zero_add, Nat.add_zero, and_true, true_and, true_or, or_true, and_self, Nat.le_refl, Nat.lt_irrefl, gI_sI, gL_sL, gQ_sQ, gI_sJ, gI_sL, gI_sQ, gL_sI, gL_sQ, gL_sJ, gQ_sI, gQ_sL, gQ_sJ, gN_sI, gN_sL, gN_sQ, gN_sJ, E_b2_0, E_bald_0, E_bast_0, E_cV_a, E_cV_b, E_c_0, E_getI_0, E_getR_0, E_iald_0, E_inc_a, E_inc_b, E_je_0, E_jl_0, E_jmp_0, E_jn_0, E_jz_0, E_kk, E_ldI_a, E_ldI_b, E_ldR_a, E_ldR_b, E_putI_0, E_putZ_0, E_rV_0, E_stI_0, aL_37, aL_45, aL_72, am_cc, am_nl, am_ok, am_pop, am_rt, am_set, cC_12, cC_37, cC_45, cC_72, rR_1304, rR_1315, rR_1316, kX12_begins, kX12_begins_0, kX12_begins_1]
  refine r_bsN hnw h24 wf nw (Nat.le_refl _) σ Q hm (fun σ1 m1 f1 => ?_)
  have c0 : gI σ1 1314 0 = nI nw := by rw [m1.gi rfl]; exact hnw
  have h0 : ¬ nI nw < nI nw := nI_nlt (by omega) (by omega)
  have nm : ((-1 : Int32) < 0) = True := by decide
  rw [hX12_begins 6]
  simp only [am_run_s, bt, lf, am_in, am_ar, am_fit, am_ld, am_ct, Nat.reduceLT, Nat.reduceEqDiff, reduceIte, Nat.reduceAdd, Nat.reduceLeDiff, Nat.reduceSub, Bool.false_eq_true, if_true, if_false, ite_true, ite_false, List.length_cons, List.length_nil, Nat.zero_add, Nat.add_zero, and_true, true_and, true_or, or_true, and_self, Nat.le_refl, Nat.lt_irrefl, gI_sI, gL_sL, gQ_sQ, gI_sJ, gI_sL, gI_sQ, gL_sI, gL_sQ, gL_sJ, gQ_sI, gQ_sL, gQ_sJ, gN_sI, gN_sL, gN_sQ, gN_sJ, E_b2_0, E_bald_0, E_bast_0, E_cV_a, E_cV_b, E_c_0, E_getI_0, E_getR_0, E_iald_0, E_inc_a, E_inc_b, E_je_0, E_jl_0, E_jmp_0, E_jn_0, E_jz_0, E_kk, E_ldI_a, E_ldI_b, E_ldR_a, E_ldR_b, E_putI_0, E_putZ_0, E_rV_0, E_stI_0, aL_37, aL_45, aL_72, am_cc, am_nl, am_ok, am_pop, am_rt, am_set, cC_12, cC_37, cC_45, cC_72, rR_1304, rR_1315, rR_1316, kX12_begins, kX12_begins_0, kX12_begins_1, c0, h0, hb, show onat none = -1 from rfl, nm]
  exact hQ σ1 m1 f1
theorem r_begins {m : HS} {n nw b h k : Nat} (hnw : gI m 1314 0 = nI nw) (h24 : nw ≤ 24) (hn : gI m 1313 0 = nI n) (h10 : n ≤ 10) (wf : ∀ w, w < nw → WF m w) (hb : bsN m nw = some b) (hk : gI m 40 b = nI k) (hk8 : k ≤ 8) (hh : gI m 37 b = nI h) (hh2 : h < 10) : Rg 183 [] m (bgM m b h n) := by
  intro σ Q hm hQ
  have hbl := bsN_lt m hb
  have h3 : vp_in (nI b) 24 := vp_in_nI (by omega) (by omega)
  have h4 : (nI b).toNatClampNeg = b := nI_clamp (by omega)
  have hbp := nI_f (j := b) (by omega)
  rw [eX12_begins 4]
  simp only [am_run_s, bt, lf, am_in, am_ar, am_fit, am_ld, am_ct, Nat.reduceLT, Nat.reduceEqDiff, reduceIte, Nat.reduceAdd, Nat.reduceLeDiff, Nat.reduceSub, Bool.false_eq_true, if_true, if_false, ite_true, ite_false, List.length_cons, List.length_nil, Nat.zero_add, Nat.add_zero, and_true, true_and, true_or, or_true, and_self, Nat.le_refl, Nat.lt_irrefl, gI_sI, gL_sL, gQ_sQ, gI_sJ, gI_sL, gI_sQ, gL_sI, gL_sQ, gL_sJ, gQ_sI, gQ_sL, gQ_sJ, gN_sI, gN_sL, gN_sQ, gN_sJ, E_b2_0, E_bald_0, E_bast_0, E_cV_a, E_cV_b, E_c_0, E_getI_0, E_getR_0, E_iald_0, E_inc_a, E_inc_b, E_je_0, E_jl_0, E_jmp_0, E_jn_0, E_jz_0, E_kk, E_ldI_a, E_ldI_b, E_ldR_a, E_ldR_b, E_putI_0, E_putZ_0, E_rV_0, E_stI_0, aL_37, aL_45, aL_72, am_cc, am_nl, am_ok, am_pop, am_rt, am_set, cC_12, cC_37, cC_45, cC_72, rR_1304, rR_1315, rR_1316, kX12_begins, kX12_begins_0, kX12_begins_1]
  refine r_bsN hnw h24 wf nw (Nat.le_refl _) σ Q hm (fun σ1 m1 f1 => ?_)
  have c0 : gI σ1 1314 0 = nI nw := by rw [m1.gi rfl]; exact hnw
  have h0 : ¬ nI nw < nI nw := nI_nlt (by omega) (by omega)
  rw [hX12_begins 8]
  simp only [am_run_s, bt, lf, am_in, am_ar, am_fit, am_ld, am_ct, Nat.reduceLT, Nat.reduceEqDiff, reduceIte, Nat.reduceAdd, Nat.reduceLeDiff, Nat.reduceSub, Bool.false_eq_true, if_true, if_false, ite_true, ite_false, List.length_cons, List.length_nil, Nat.zero_add, Nat.add_zero, and_true, true_and, true_or, or_true, and_self, Nat.le_refl, Nat.lt_irrefl, gI_sI, gL_sL, gQ_sQ, gI_sJ, gI_sL, gI_sQ, gL_sI, gL_sQ, gL_sJ, gQ_sI, gQ_sL, gQ_sJ, gN_sI, gN_sL, gN_sQ, gN_sJ, E_b2_0, E_bald_0, E_bast_0, E_cV_a, E_cV_b, E_c_0, E_getI_0, E_getR_0, E_iald_0, E_inc_a, E_inc_b, E_je_0, E_jl_0, E_jmp_0, E_jn_0, E_jz_0, E_kk, E_ldI_a, E_ldI_b, E_ldR_a, E_ldR_b, E_putI_0, E_putZ_0, E_rV_0, E_stI_0, aL_37, aL_45, aL_72, am_cc, am_nl, am_ok, am_pop, am_rt, am_set, cC_12, cC_37, cC_45, cC_72, rR_1304, rR_1315, rR_1316, kX12_begins, kX12_begins_0, kX12_begins_1, am_run_z, c0, h0, hb, show onat (some b) = nI b from rfl, hbp]
  refine c_buildM (by omega) hk8 (by rw [m1.gi rfl]; exact hk) (fun σ2 f2 r2 => ?_)
  simp only [am_run_s, bt, lf, am_in, am_ar, am_fit, am_ld, am_ct, Nat.reduceLT, Nat.reduceEqDiff, reduceIte, Nat.reduceAdd, Nat.reduceLeDiff, Nat.reduceSub, Bool.false_eq_true, if_true, if_false, ite_true, ite_false, List.length_cons, List.length_nil, Nat.zero_add, Nat.add_zero, and_true, true_and, true_or, or_true, and_self, Nat.le_refl, Nat.lt_irrefl, gI_sI, gL_sL, gQ_sQ, gI_sJ, gI_sL, gI_sQ, gL_sI, gL_sQ, gL_sJ, gQ_sI, gQ_sL, gQ_sJ, gN_sI, gN_sL, gN_sQ, gN_sJ, E_b2_0, E_bald_0, E_bast_0, E_cV_a, E_cV_b, E_c_0, E_getI_0, E_getR_0, E_iald_0, E_inc_a, E_inc_b, E_je_0, E_jl_0, E_jmp_0, E_jn_0, E_jz_0, E_kk, E_ldI_a, E_ldI_b, E_ldR_a, E_ldR_b, E_putI_0, E_putZ_0, E_rV_0, E_stI_0, aL_37, aL_45, aL_72, am_cc, am_nl, am_ok, am_pop, am_rt, am_set, cC_12, cC_37, cC_45, cC_72, rR_1304, rR_1315, rR_1316, kX12_begins, kX12_begins_0, kX12_begins_1, am_run_z]
  have m2 := m1.fm f2
  have g2 : frm PMA σ σ2 := f1.tr f2.PA
  have c1 : gI σ2 1324 0 = nI (FL m b).length := by
    rw [r2.1]
    unfold FL plW
    rw [hk, nI_clamp (by omega), ← fr_same _ _ _ hk8, m1.gi (f := 38) rfl, m1.2 b]
  have c2 : gI σ2 1342 0 = gI m 1342 0 := m2.gi rfl
  have c3 : gI σ2 45 b = gI m 45 b := m2.gi rfl
  rw [hX12_begins 32]
  simp only [am_run_s, bt, lf, am_in, am_ar, am_fit, am_ld, am_ct, Nat.reduceLT, Nat.reduceEqDiff, reduceIte, Nat.reduceAdd, Nat.reduceLeDiff, Nat.reduceSub, Bool.false_eq_true, if_true, if_false, ite_true, ite_false, List.length_cons, List.length_nil, Nat.zero_add, Nat.add_zero, and_true, true_and, true_or, or_true, and_self, Nat.le_refl, Nat.lt_irrefl, gI_sI, gL_sL, gQ_sQ, gI_sJ, gI_sL, gI_sQ, gL_sI, gL_sQ, gL_sJ, gQ_sI, gQ_sL, gQ_sJ, gN_sI, gN_sL, gN_sQ, gN_sJ, E_b2_0, E_bald_0, E_bast_0, E_cV_a, E_cV_b, E_c_0, E_getI_0, E_getR_0, E_iald_0, E_inc_a, E_inc_b, E_je_0, E_jl_0, E_jmp_0, E_jn_0, E_jz_0, E_kk, E_ldI_a, E_ldI_b, E_ldR_a, E_ldR_b, E_putI_0, E_putZ_0, E_rV_0, E_stI_0, aL_37, aL_45, aL_72, am_cc, am_nl, am_ok, am_pop, am_rt, am_set, cC_12, cC_37, cC_45, cC_72, rR_1304, rR_1315, rR_1316, kX12_begins, kX12_begins_0, kX12_begins_1, h3, h4, c1, c2, c3, am_b0, am_b1]
  have hm3 : AgM (sI (sI (sI (sI (sI (sI σ2 1344 0 (nI b)) 1345 0 (gI m 1342 0)) 1346 0 (gI m 1342 0 + nI (FL m b).length - 1)) 1347 0 (gI m 45 b)) 72 b 0) 1350 0 1) (sI (bg0 m b) 1350 0 (alN (gI m 34) h 0)) := (((((m2.si _ _ _).si _ _ _).si _ _ _).si _ _ _).si _ _ _).si _ _ _
  have g3 : frm PMA σ (sI (sI (sI (sI (sI (sI σ2 1344 0 (nI b)) 1345 0 (gI m 1342 0)) 1346 0 (gI m 1342 0 + nI (FL m b).length - 1)) 1347 0 (gI m 45 b)) 72 b 0) 1350 0 1) := (((((g2.si rfl).si rfl).si rfl).si rfl).si rfl).si rfl
  have b1 : gI (bg0 m b) 1313 0 = nI n := hn
  have b2 : gI (bg0 m b) 37 b = nI h := hh
  refine r_alN (m := bg0 m b) (c := gI m 34) (fun i => rfl) b1 h10 (by omega) b2 hh2 n (Nat.le_refl _) _ Q hm3 (fun σ4 m4 f4 => ?_)
  have c4 : gI σ4 1313 0 = nI n := by rw [m4.gi rfl]; exact hn
  have h1 : ¬ nI n < nI n := nI_nlt (by omega) (by omega)
  rw [hX12_begins 4]
  simp only [am_run_s, bt, lf, am_in, am_ar, am_fit, am_ld, am_ct, Nat.reduceLT, Nat.reduceEqDiff, reduceIte, Nat.reduceAdd, Nat.reduceLeDiff, Nat.reduceSub, Bool.false_eq_true, if_true, if_false, ite_true, ite_false, List.length_cons, List.length_nil, Nat.zero_add, Nat.add_zero, and_true, true_and, true_or, or_true, and_self, Nat.le_refl, Nat.lt_irrefl, gI_sI, gL_sL, gQ_sQ, gI_sJ, gI_sL, gI_sQ, gL_sI, gL_sQ, gL_sJ, gQ_sI, gQ_sL, gQ_sJ, gN_sI, gN_sL, gN_sQ, gN_sJ, E_b2_0, E_bald_0, E_bast_0, E_cV_a, E_cV_b, E_c_0, E_getI_0, E_getR_0, E_iald_0, E_inc_a, E_inc_b, E_je_0, E_jl_0, E_jmp_0, E_jn_0, E_jz_0, E_kk, E_ldI_a, E_ldI_b, E_ldR_a, E_ldR_b, E_putI_0, E_putZ_0, E_rV_0, E_stI_0, aL_37, aL_45, aL_72, am_cc, am_nl, am_ok, am_pop, am_rt, am_set, cC_12, cC_37, cC_45, cC_72, rR_1304, rR_1315, rR_1316, kX12_begins, kX12_begins_0, kX12_begins_1, c4, h1]
  exact hQ σ4 m4 (g3.tr f4)
