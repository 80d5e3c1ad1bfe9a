/-! ===== worst ===== -/
theorem cI_s : ∀ n : Fin 9, ∃ c : Fin 201, 40 ≤ c.1 ∧ (32 + 8 * nI n.1 + 0) + ((32 + 8 * nI n.1 + 0) - 1) / 4 + 13 = nI c.1 := by decide +kernel
theorem cI_l : ∀ n : Fin 9, ∃ c : Fin 201, 40 ≤ c.1 ∧ (32 + 8 * nI n.1 + 18) + ((32 + 8 * nI n.1 + 18) - 1) / 4 + 13 = nI c.1 := by decide +kernel
theorem cI_val {n : Nat} (h : n ≤ 8) (r : Int32) : ∃ c : Nat, cI (nI n) r = nI c ∧ 40 ≤ c ∧ c ≤ 200 := by
  unfold cI
  by_cases q : r < 2048
  · obtain ⟨c, c1, c2⟩ := cI_s ⟨n, by omega⟩
    rw [if_pos q]
    exact ⟨c.1, c2, c1, by have := c.2; omega⟩
  · obtain ⟨c, c1, c2⟩ := cI_l ⟨n, by omega⟩
    rw [if_neg q]
    exact ⟨c.1, c2, c1, by have := c.2; omega⟩
/-- what the desk looks at, of the reference's registers -/
def dOf (σ : HS) : DC := (gN σ 10, (fun k => (cI (gI σ 40 k) (gI σ 38 k)).toNatClampNeg), (fun k => (gI σ 41 k).toNatClampNeg), (fun k => (gI σ 43 k).toNatClampNeg), (gI σ 1359 0).toNatClampNeg)
theorem Inv.dd {k : Nat} {σ : HS} (h : Inv k σ) : DOK (dOf σ) ∧ DX σ (dOf σ) ∧ DM σ (dOf σ) := by
  obtain ⟨hw1, hw2, hw⟩ := h.wc
  obtain ⟨ae, e, ee, e0, e1⟩ := h.2.2.2.2.2.1
  have hc : ∀ j, j < gN σ 10 → ∃ c : Nat, cI (gI σ 40 j) (gI σ 38 j) = nI c ∧ 40 ≤ c ∧ c ≤ 200 := by
    intro j hj
    obtain ⟨-, ⟨n, hn, hn8⟩, -⟩ := h.2.1.2.2.2.2.2.2 j hj
    rw [hn]
    exact cI_val hn8 _
  have hE : (gI σ 1359 0).toNatClampNeg = e := by rw [ee, nI_clamp (by omega)]
  have hC2 : ∀ j, j < gN σ 10 → cI (gI σ 40 j) (gI σ 38 j) = nI (cI (gI σ 40 j) (gI σ 38 j)).toNatClampNeg := by
    intro j hj
    obtain ⟨c, c1, c2, c3⟩ := hc j hj
    rw [c1, nI_clamp (by omega)]
  have hT2 : ∀ j, j < gN σ 10 → gI σ 41 j = nI (gI σ 41 j).toNatClampNeg := by
    intro j hj
    obtain ⟨-, -, ⟨t, ht, ht1, ht2⟩, -⟩ := h.2.1.2.2.2.2.2.2 j hj
    rw [ht, nI_clamp (by omega)]
  have hJ2 : ∀ j, j < gN σ 10 → gI σ 43 j = nI (gI σ 43 j).toNatClampNeg := by
    intro j hj
    obtain ⟨-, l, hl, hl2, -⟩ := h.2.1.2.2.2.1.1 j hj
    rw [hl, nI_clamp (by omega)]
  refine ⟨⟨hw, fun j hj => ?_, fun j hj => ?_, fun j hj => ?_, ?_, ?_⟩, ⟨rfl, hw1, fun j hj => ?_, ?_⟩, ⟨hw2, fun j hj => ?_, ?_⟩⟩
  · obtain ⟨c, c1, c2, c3⟩ := hc j hj
    show 40 ≤ (cI (gI σ 40 j) (gI σ 38 j)).toNatClampNeg ∧ (cI (gI σ 40 j) (gI σ 38 j)).toNatClampNeg ≤ 200
    rw [c1, nI_clamp (by omega)]
    exact ⟨c2, c3⟩
  · obtain ⟨-, -, ⟨t, ht, ht1, ht2⟩, -⟩ := h.2.1.2.2.2.2.2.2 j hj
    show 100 ≤ (gI σ 41 j).toNatClampNeg ∧ (gI σ 41 j).toNatClampNeg ≤ 100000
    rw [ht, nI_clamp (by omega)]
    exact ⟨ht1, ht2⟩
  · obtain ⟨-, l, hl, hl2, -⟩ := h.2.1.2.2.2.1.1 j hj
    show (gI σ 43 j).toNatClampNeg ≤ 1000
    rw [hl, nI_clamp (by omega)]
    exact hl2
  · show (gI σ 1359 0).toNatClampNeg = 0 ∨ 100 ≤ (gI σ 1359 0).toNatClampNeg
    rw [hE]; exact e0
  · show (gI σ 1359 0).toNatClampNeg ≤ 1000000
    rw [hE]; exact e1
  · have q := h.2.1.1 j hj
    refine ⟨q.1, q.2.1, ?_, ?_, ?_⟩
    · rw [q.2.2.2.1, (h.2.1.2.2.1.1 j hj).1]; exact hC2 j hj
    · rw [q.2.2.2.2.1]; exact hT2 j hj
    · rw [(h.2.1.2.2.2.1.1 j hj).1]; exact hJ2 j hj
  · show gI σ 107 0 = nI (gI σ 1359 0).toNatClampNeg
    rw [ae, hE, ee]
  · exact ⟨hC2 j hj, hT2 j hj, hJ2 j hj⟩
  · show gI σ 1359 0 = nI (gI σ 1359 0).toNatClampNeg
    rw [hE, ee]
/-- HIGHER by ranks -/
def hR (σ : HS) (wd k : Nat) : Bool := decide (kI (gI σ 38 k) < kI (gI σ 38 wd))
theorem i32_irr (x : Int32) : ¬ x < x := by rw [Int32.lt_iff_toInt_lt]; omega
theorem hR_self (σ : HS) (wd : Nat) : hR σ wd wd = false := by
  unfold hR
  exact decide_eq_false (i32_irr _)
theorem bI_bb (p : Prop) (d : Decidable p) : bI p d = bb (@decide p d) := by
  unfold bI bb
  by_cases h : p
  · rw [if_pos h, if_pos (decide_eq_true h)]
  · rw [if_neg h, if_neg (by rw [decide_eq_false h]; decide)]
theorem bb_am (c : Bool) : am_b (bb c) = True := eq_true (bb_b c)
def PHX (f : Nat) : Bool := Nat.beq f 70 || PWG f
def PHM (f : Nat) : Bool := Nat.beq f 73
theorem Inv.hx {k : Nat} {σ σ' : HS} (h : Inv k σ) (hf : frm PHX σ σ') : Inv k σ' := by
  obtain ⟨J, rfl⟩ := hf.el
  exact h
theorem Inv.hm {k : Nat} {σ σ' : HS} (h : Inv k σ) (hf : frm PHM σ σ') : Inv k σ' := by
  obtain ⟨J, rfl⟩ := hf.el
  exact h
theorem PHX_W (f : Nat) (h : PHX f = false) : PWG f = false := by
  unfold PHX at h
  simp only [Bool.or_eq_false_iff] at h
  exact h.2
theorem dOf_x {σ σ' : HS} (f : frm PHX σ σ') : dOf σ' = dOf σ := by
  obtain ⟨J, rfl⟩ := f.el
  rfl
theorem hR_x {σ σ' : HS} (f : frm PHX σ σ') (wd : Nat) : hR σ' wd = hR σ wd := by
  obtain ⟨J, rfl⟩ := f.el
  rfl
theorem dOf_m {σ σ' : HS} (f : frm PHM σ σ') : dOf σ' = dOf σ := by
  obtain ⟨J, rfl⟩ := f.el
  rfl
theorem hR_m {σ σ' : HS} (f : frm PHM σ σ') (wd : Nat) : hR σ' wd = hR σ wd := by
  obtain ⟨J, rfl⟩ := f.el
  rfl
theorem l_wbr {kk : Nat} {wd : Nat} {Q : PO} : ∀ (r i : Nat) (σ : HS), Inv kk σ → wd < gN σ 10 → i + r = gN σ 10 → (∀ j, j < i → gI σ 70 j = bb (hR σ wd j)) → (∀ σ', frm PHX σ σ' → Q (some (.inl (wst (dOf σ) (hR σ wd) wd))) σ') →
    am_T (kX0_worstByRank S1) MM Q 2 [some (.inr (.inr (some (0, 0)))), some (.inr (.inr (some (10, wd)))), some (.inl (nI i))] [] σ 0 0 := by
  intro r
  induction r with
  | zero =>
    intro i σ h hwd hi hH hQ
    obtain ⟨hw1, hw2, hw⟩ := h.wc
    obtain ⟨ok, hx, hm⟩ := h.dd
    have e : i = gN σ 10 := by omega
    subst e
    rw [hX0_worstByRank 8]
    have h0 : ¬ nI (gN σ 10) < nI (gN σ 10) := nI_nlt (by omega) (by omega)
    simp only [am_run_s, bt, lf, am_in, am_ar, am_fit, am_ld, am_ct, Nat.reduceLT, Nat.reduceEqDiff, reduceIte, Nat.reduceAdd, Nat.reduceLeDiff, Nat.reduceSub, Bool.false_eq_true, if_true, if_false, ite_true, ite_false, List.length_cons, List.length_nil, Nat.zero_add, Nat.add_zero, and_true, true_and, true_or, or_true, and_self, Nat.le_refl, Nat.lt_irrefl, gI_sI, gL_sL, gQ_sQ, gI_sJ, gI_sL, gI_sQ, gL_sI, gL_sQ, gL_sJ, gQ_sI, gQ_sL, gQ_sJ, gN_sI, gN_sL, gN_sQ, gN_sJ, E_aald_0, E_bast_0, E_cV_a, E_cV_b, E_c_0, E_getI_0, E_getR_0, E_inc_a, E_inc_b, E_jl_0, E_jmp_0, E_kk, E_ldI_a, E_ldI_b, E_ldR_a, E_ldR_b, E_rI_0, E_stI_0, aL_70, aL_91, am_cc, am_nl, am_ok, am_pop, am_rt, am_set, cC_0, cC_10, cC_6, cC_70, cC_91, rQ_91, rR_100, rR_101, rR_701, sN_91, kX0_worstByRank, hw1, h0]
    refine c_wbh ok hwd hx hH (fun σ1 f1 => ?_)
    simp only [am_run_s, bt, lf, am_in, am_ar, am_fit, am_ld, am_ct, Nat.reduceLT, Nat.reduceEqDiff, reduceIte, Nat.reduceAdd, Nat.reduceLeDiff, Nat.reduceSub, Bool.false_eq_true, if_true, if_false, ite_true, ite_false, List.length_cons, List.length_nil, Nat.zero_add, Nat.add_zero, and_true, true_and, true_or, or_true, and_self, Nat.le_refl, Nat.lt_irrefl, gI_sI, gL_sL, gQ_sQ, gI_sJ, gI_sL, gI_sQ, gL_sI, gL_sQ, gL_sJ, gQ_sI, gQ_sL, gQ_sJ, gN_sI, gN_sL, gN_sQ, gN_sJ, E_aald_0, E_bast_0, E_cV_a, E_cV_b, E_c_0, E_getI_0, E_getR_0, E_inc_a, E_inc_b, E_jl_0, E_jmp_0, E_kk, E_ldI_a, E_ldI_b, E_ldR_a, E_ldR_b, E_rI_0, E_stI_0, aL_70, aL_91, am_cc, am_nl, am_ok, am_pop, am_rt, am_set, cC_0, cC_10, cC_6, cC_70, cC_91, rQ_91, rR_100, rR_101, rR_701, sN_91, kX0_worstByRank]
    exact hQ σ1 (f1.mo PHX_W)
  | succ r ih =>
    intro i σ h hwd hi hH hQ
    obtain ⟨hw1, hw2, hw⟩ := h.wc
    have hk : i < gN σ 10 := by omega
    have h2 := nI_t hk (by omega)
    have h3 : vp_in (nI i) 24 := vp_in_nI (by omega) (by omega)
    have h4 : (nI i).toNatClampNeg = i := nI_clamp (by omega)
    have hq := (h.2.1.1 i hk).1
    have ek : bI (kX (gI σ 1102 i) < kX (gI σ 1102 wd)) inferInstance = bb (hR σ wd i) := by
      rw [bI_bb]
      unfold hR
      congr 1
      rw [h.key hk, h.key hwd]
    rw [hX0_worstByRank 18]
    simp only [am_run_s, bt, lf, am_in, am_ar, am_fit, am_ld, am_ct, Nat.reduceLT, Nat.reduceEqDiff, reduceIte, Nat.reduceAdd, Nat.reduceLeDiff, Nat.reduceSub, Bool.false_eq_true, if_true, if_false, ite_true, ite_false, List.length_cons, List.length_nil, Nat.zero_add, Nat.add_zero, and_true, true_and, true_or, or_true, and_self, Nat.le_refl, Nat.lt_irrefl, gI_sI, gL_sL, gQ_sQ, gI_sJ, gI_sL, gI_sQ, gL_sI, gL_sQ, gL_sJ, gQ_sI, gQ_sL, gQ_sJ, gN_sI, gN_sL, gN_sQ, gN_sJ, E_aald_0, E_bast_0, E_cV_a, E_cV_b, E_c_0, E_getI_0, E_getR_0, E_inc_a, E_inc_b, E_jl_0, E_jmp_0, E_kk, E_ldI_a, E_ldI_b, E_ldR_a, E_ldR_b, E_rI_0, E_stI_0, aL_70, aL_91, am_cc, am_nl, am_ok, am_pop, am_rt, am_set, cC_0, cC_10, cC_6, cC_70, cC_91, rQ_91, rR_100, rR_101, rR_701, sN_91, kX0_worstByRank, hw1, h2, h3, h4, hq, hk, hwd, cC_10, ↓s_goesAhead, ek, bb_am, nI_1]
    have f0 : frm PHX σ (sI σ 70 i (bb (hR σ wd i))) := frm.rf.si rfl
    have e1 := hR_x f0 wd
    have e2 := dOf_x f0
    refine ih (i + 1) _ (h.hx f0) (by rw [f0.gn]; exact hwd) (by rw [f0.gn]; omega) (fun j hj => ?_) (fun σ' f1 => ?_)
    · rw [e1]
      simp only [gI_sI, gL_sL, gQ_sQ, gI_sJ, gI_sL, gI_sQ, gL_sI, gL_sQ, gL_sJ, gQ_sI, gQ_sL, gQ_sJ, gN_sI, gN_sL, gN_sQ, gN_sJ, Nat.reduceLT, Nat.reduceEqDiff, reduceIte, Nat.reduceAdd, Nat.reduceLeDiff, Nat.reduceSub, Bool.false_eq_true, if_true, if_false, ite_true, ite_false, List.length_cons, List.length_nil, Nat.zero_add, Nat.add_zero, and_true, true_and, true_or, or_true, and_self, Nat.le_refl, Nat.lt_irrefl]
      by_cases e : j = i
      · rw [if_pos e, e]
      · rw [if_neg e]; exact hH j (by omega)
    · rw [e1, e2]; exact hQ σ' (f0.tr f1)
theorem c_wbr {kk : Nat} {wd : Nat} {Q : PO} {σ : HS} (h : Inv kk σ) (hwd : wd < gN σ 10) (hQ : ∀ σ', frm PHX σ σ' → Q (some (.inl (wst (dOf σ) (hR σ wd) wd))) σ') : MM 2 [.inr (.inr (some (0, 0))), .inr (.inr (some (10, wd)))] σ Q := by
  rw [eX0_worstByRank 4]
  simp only [am_run_s, bt, lf, am_in, am_ar, am_fit, am_ld, am_ct, Nat.reduceLT, Nat.reduceEqDiff, reduceIte, Nat.reduceAdd, Nat.reduceLeDiff, Nat.reduceSub, Bool.false_eq_true, if_true, if_false, ite_true, ite_false, List.length_cons, List.length_nil, Nat.zero_add, Nat.add_zero, and_true, true_and, true_or, or_true, and_self, Nat.le_refl, Nat.lt_irrefl, gI_sI, gL_sL, gQ_sQ, gI_sJ, gI_sL, gI_sQ, gL_sI, gL_sQ, gL_sJ, gQ_sI, gQ_sL, gQ_sJ, gN_sI, gN_sL, gN_sQ, gN_sJ, E_aald_0, E_bast_0, E_cV_a, E_cV_b, E_c_0, E_getI_0, E_getR_0, E_inc_a, E_inc_b, E_jl_0, E_jmp_0, E_kk, E_ldI_a, E_ldI_b, E_ldR_a, E_ldR_b, E_rI_0, E_stI_0, aL_70, aL_91, am_cc, am_nl, am_ok, am_pop, am_rt, am_set, cC_0, cC_10, cC_6, cC_70, cC_91, rQ_91, rR_100, rR_101, rR_701, sN_91, kX0_worstByRank]
  exact l_wbr (gN σ 10) 0 σ h hwd (by omega) (fun _ z => absurd z (by omega)) hQ
