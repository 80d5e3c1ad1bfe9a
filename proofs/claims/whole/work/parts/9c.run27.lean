/-! ===== the run: both ===== -/
/-- r ticks of the reference -/
def Rr : Nat → HS → HS → Prop
  | 0, m, m' => m' = m
  | r + 1, m, m' => ∃ m1, Rg 188 [] m m1 ∧ Rr r m1 m'
abbrev lsXr (n i : Nat) (b : Int32) : ALs := [some rX, some (.inl (nI n)), some (.inl b), some (.inl (nI i))]
theorem l_runX {K n : Nat} {b : Int32} (hK : K ≤ 512) (hn : n ≤ 5000) {Q : PO} : ∀ (r i t : Nat) (σ m : HS), i + r = n → STc σ m → DY K σ m → v_cal σ m → v_soo σ → gI m 1342 0 = nI t → t + r ≤ 5000 * K → (∀ σ' m', Rr r m m' → frx PXR σ σ' → frm PZR m m' → STc σ' m' → DY K σ' m' → v_cal σ' m' → v_soo σ' → am_T (kX11_run S1) MM Q 57 (lsXr n n b) [] σ' 0 0) → am_T (kX11_run S1) MM Q 39 (lsXr n i b) [] σ 0 0 := by
  intro r
  induction r with
  | zero =>
    intro i t σ m hi hS hD hC hO ht hb hX
    have e : i = n := by omega
    subst e
    have h0 : ¬ nI i < nI i := nI_nlt (by omega) (by omega)
    rw [hX11_run 2]
    simp only [am_run_s, bt, lf, am_in, am_ar, am_fit, am_ld, am_ct, Nat.reduceLT, Nat.reduceEqDiff, reduceIte, Nat.reduceAdd, Nat.reduceLeDiff, Nat.reduceSub, Bool.false_eq_true, if_true, if_false, ite_true, ite_false, List.length_cons, List.length_nil, Nat.zero_add, Nat.add_zero, and_true, true_and, true_or, or_true, and_self, Nat.le_refl, Nat.lt_irrefl, gI_sI, gL_sL, gQ_sQ, gI_sJ, gI_sL, gI_sQ, gL_sI, gL_sQ, gL_sJ, gQ_sI, gQ_sL, gQ_sJ, gN_sI, gN_sL, gN_sQ, gN_sJ, E_b2_0, E_cS_a, E_cS_b, E_cV_a, E_cV_b, E_c_0, E_getI_0, E_getR_0, E_inc_a, E_inc_b, E_jl_0, E_jmp_0, E_jn_0, E_jz_0, E_kk, E_ldI_a, E_ldI_b, E_ldR_a, E_ldR_b, E_rI_0, E_stI_0, am_cc, am_nl, am_ok, am_pop, am_rt, am_set, cC_11, cC_9, rR_1204, kX11_run, am_run_z, h0]
    exact hX σ m rfl frx.rf frm.rf hS hD hC hO
  | succ r ih =>
    intro i t σ m hi hS hD hC hO ht hb hX
    have h2 := nI_t (show i < n by omega) (by omega)
    rw [hX11_run 8]
    simp only [am_run_s, bt, lf, am_in, am_ar, am_fit, am_ld, am_ct, Nat.reduceLT, Nat.reduceEqDiff, reduceIte, Nat.reduceAdd, Nat.reduceLeDiff, Nat.reduceSub, Bool.false_eq_true, if_true, if_false, ite_true, ite_false, List.length_cons, List.length_nil, Nat.zero_add, Nat.add_zero, and_true, true_and, true_or, or_true, and_self, Nat.le_refl, Nat.lt_irrefl, gI_sI, gL_sL, gQ_sQ, gI_sJ, gI_sL, gI_sQ, gL_sI, gL_sQ, gL_sJ, gQ_sI, gQ_sL, gQ_sJ, gN_sI, gN_sL, gN_sQ, gN_sJ, E_b2_0, E_cS_a, E_cS_b, E_cV_a, E_cV_b, E_c_0, E_getI_0, E_getR_0, E_inc_a, E_inc_b, E_jl_0, E_jmp_0, E_jn_0, E_jz_0, E_kk, E_ldI_a, E_ldI_b, E_ldR_a, E_ldR_b, E_rI_0, E_stI_0, am_cc, am_nl, am_ok, am_pop, am_rt, am_set, cC_11, cC_9, rR_1204, kX11_run, h2]
    refine c_tick hK hS hD hC hO ht (by omega) (fun σ1 m1 rg f1 g1 hS1 hD1 hC1 hO1 t1 => ?_)
    simp only [am_run_s, bt, lf, am_in, am_ar, am_fit, am_ld, am_ct, Nat.reduceLT, Nat.reduceEqDiff, reduceIte, Nat.reduceAdd, Nat.reduceLeDiff, Nat.reduceSub, Bool.false_eq_true, if_true, if_false, ite_true, ite_false, List.length_cons, List.length_nil, Nat.zero_add, Nat.add_zero, and_true, true_and, true_or, or_true, and_self, Nat.le_refl, Nat.lt_irrefl, gI_sI, gL_sL, gQ_sQ, gI_sJ, gI_sL, gI_sQ, gL_sI, gL_sQ, gL_sJ, gQ_sI, gQ_sL, gQ_sJ, gN_sI, gN_sL, gN_sQ, gN_sJ, E_b2_0, E_cS_a, E_cS_b, E_cV_a, E_cV_b, E_c_0, E_getI_0, E_getR_0, E_inc_a, E_inc_b, E_jl_0, E_jmp_0, E_jn_0, E_jz_0, E_kk, E_ldI_a, E_ldI_b, E_ldR_a, E_ldR_b, E_rI_0, E_stI_0, am_cc, am_nl, am_ok, am_pop, am_rt, am_set, cC_11, cC_9, rR_1204, kX11_run, nI_1]
    exact ih (i + 1) (t + 1) σ1 m1 (by omega) hS1 hD1 hC1 hO1 t1 (by omega) (fun σ' m' rr f g => hX σ' m' ⟨m1, rg, rr⟩ (f1.tr f) (g1.tr g))
abbrev lsMr (n i : Nat) (b : Int32) : ALs := [some rM, some (.inl (nI n)), some (.inl b), some (.inl (nI i))]
theorem l_runM {n : Nat} {b : Int32} (hn : n ≤ 5000) {m' : HS} {Q : PO} : ∀ (r i : Nat) (σ m : HS), i + r = n → AgM σ m → Rr r m m' → (∀ σ', AgM σ' m' → frm PMA σ σ' → am_T (kX12_run S1) MM Q 52 (lsMr n n b) [] σ' 0 0) → am_T (kX12_run S1) MM Q 37 (lsMr n i b) [] σ 0 0 := by
  intro r
  induction r with
  | zero =>
    intro i σ m hi hm hr hX
    have e : i = n := by omega
    subst e
    have h0 : ¬ nI i < nI i := nI_nlt (by omega) (by omega)
    rw [hX12_run 2]
    simp only [am_run_s, bt, lf, am_in, am_ar, am_fit, am_ld, am_ct, Nat.reduceLT, Nat.reduceEqDiff, reduceIte, Nat.reduceAdd, Nat.reduceLeDiff, Nat.reduceSub, Bool.false_eq_true, if_true, if_false, ite_true, ite_false, List.length_cons, List.length_nil, Nat.zero_add, Nat.add_zero, and_true, true_and, true_or, or_true, and_self, Nat.le_refl, Nat.lt_irrefl, gI_sI, gL_sL, gQ_sQ, gI_sJ, gI_sL, gI_sQ, gL_sI, gL_sQ, gL_sJ, gQ_sI, gQ_sL, gQ_sJ, gN_sI, gN_sL, gN_sQ, gN_sJ, E_b2_0, E_cS_a, E_cS_b, E_cV_a, E_cV_b, E_c_0, E_getI_0, E_i2l_0, E_inc_a, E_inc_b, E_jl_0, E_jmp_0, E_jn_0, E_jz_0, E_kk, E_ldI_a, E_ldI_b, E_ldR_a, E_ldR_b, E_rI_0, E_stI_0, am_cc, am_nl, am_ok, am_pop, am_rt, am_set, cC_12, kX12_run, am_run_z, h0]
    have hr : m' = m := hr
    rw [hr] at hX
    exact hX σ hm frm.rf
  | succ r ih =>
    intro i σ m hi hm hr hX
    obtain ⟨m1, rg, rr⟩ := hr
    have h2 := nI_t (show i < n by omega) (by omega)
    rw [hX12_run 7]
    simp only [am_run_s, bt, lf, am_in, am_ar, am_fit, am_ld, am_ct, Nat.reduceLT, Nat.reduceEqDiff, reduceIte, Nat.reduceAdd, Nat.reduceLeDiff, Nat.reduceSub, Bool.false_eq_true, if_true, if_false, ite_true, ite_false, List.length_cons, List.length_nil, Nat.zero_add, Nat.add_zero, and_true, true_and, true_or, or_true, and_self, Nat.le_refl, Nat.lt_irrefl, gI_sI, gL_sL, gQ_sQ, gI_sJ, gI_sL, gI_sQ, gL_sI, gL_sQ, gL_sJ, gQ_sI, gQ_sL, gQ_sJ, gN_sI, gN_sL, gN_sQ, gN_sJ, E_b2_0, E_cS_a, E_cS_b, E_cV_a, E_cV_b, E_c_0, E_getI_0, E_i2l_0, E_inc_a, E_inc_b, E_jl_0, E_jmp_0, E_jn_0, E_jz_0, E_kk, E_ldI_a, E_ldI_b, E_ldR_a, E_ldR_b, E_rI_0, E_stI_0, am_cc, am_nl, am_ok, am_pop, am_rt, am_set, cC_12, kX12_run, h2]
    refine rg σ _ hm (fun σ1 h1 f1 => ?_)
    simp only [am_run_s, bt, lf, am_in, am_ar, am_fit, am_ld, am_ct, Nat.reduceLT, Nat.reduceEqDiff, reduceIte, Nat.reduceAdd, Nat.reduceLeDiff, Nat.reduceSub, Bool.false_eq_true, if_true, if_false, ite_true, ite_false, List.length_cons, List.length_nil, Nat.zero_add, Nat.add_zero, and_true, true_and, true_or, or_true, and_self, Nat.le_refl, Nat.lt_irrefl, gI_sI, gL_sL, gQ_sQ, gI_sJ, gI_sL, gI_sQ, gL_sI, gL_sQ, gL_sJ, gQ_sI, gQ_sL, gQ_sJ, gN_sI, gN_sL, gN_sQ, gN_sJ, E_b2_0, E_cS_a, E_cS_b, E_cV_a, E_cV_b, E_c_0, E_getI_0, E_i2l_0, E_inc_a, E_inc_b, E_jl_0, E_jmp_0, E_jn_0, E_jz_0, E_kk, E_ldI_a, E_ldI_b, E_ldR_a, E_ldR_b, E_rI_0, E_stI_0, am_cc, am_nl, am_ok, am_pop, am_rt, am_set, cC_12, kX12_run, nI_1]
    exact ih (i + 1) σ1 m1 (by omega) h1 rr (fun σ' h' f' => hX σ' h' (f1.tr f'))
/-- the class's registers are none of the reference's -/
theorem PXR_M {f : Nat} (h : PMG f = true) : PXR f = false := by
  cases e : PXR f with
  | false => rfl
  | true =>
    exfalso
    unfold PXR at e
    rw [Bool.or_eq_true] at e
    rcases e with e | e
    · unfold PFX at e
      unfold PMG at h
      simp only [Bool.or_eq_true, Bool.and_eq_true, Nat.ble_eq, Bool.not_eq_true'] at e h
      rcases e with ⟨e1, e2⟩ | e1
      · rcases h with (⟨⟨h1, h2⟩, h3⟩ | h1) | ⟨⟨h1, h2⟩, h3⟩
        · omega
        · have := Nat.eq_of_beq_eq_true h1; omega
        · omega
      · have := Nat.eq_of_beq_eq_true e1
        rcases h with (⟨⟨h1, h2⟩, h3⟩ | h1) | ⟨⟨h1, h2⟩, h3⟩
        · omega
        · have := Nat.eq_of_beq_eq_true h1; omega
        · omega
    · unfold inL at e
      obtain ⟨g, g1, g2⟩ := List.any_eq_true.mp e
      have g3 := Nat.eq_of_beq_eq_true g2
      subst g3
      have all : (List.all [401, 402, 403, 1110, 1111, 1112, 1113, 1114, 1115, 1116, 1004, 1005, 1006, 1007, 1009, 1010, 1011, 1012, 1013, 1014, 1015, 501, 30, 304, 305, 26, 27, 28, 29] (fun g => !PMG g)) = true := by decide
      have := List.all_eq_true.mp all f g1
      rw [h] at this
      cases this
def PNG (f : Nat) : Bool := !PMG f
theorem Inv2.fin {K : Nat} {σ1 m1 σ2 : HS} (hS : STc σ1 m1) (hD : DY K σ1 m1) (hC : v_cal σ1 m1) (hO : v_soo σ1) (ha : AgM σ2 m1) (f : frm PMA σ1 σ2) (hl : m1.2.2.1 = σ2.2.2.1) : Inv K σ2 := by
  have hS1 : STc σ1 (σ2.1, m1.2.1, m1.2.2.1, σ2.2.2.2) := hS
  have hD1 : DY K σ1 (σ2.1, m1.2.1, m1.2.2.1, σ2.2.2.2) := hD
  have hC1 : v_cal σ1 (σ2.1, m1.2.1, m1.2.2.1, σ2.2.2.2) := hC
  have g : frm PNG (σ2.1, m1.2.1, m1.2.2.1, σ2.2.2.2) σ2 := ⟨rfl, by rw [hl], fun f i hf => ha.1 f (by unfold PNG at hf; cases e : PMG f with | true => rfl | false => rw [e] at hf; cases hf) i⟩
  generalize (σ2.1, m1.2.1, m1.2.2.1, σ2.2.2.2) = m2 at hS1 hD1 hC1 g
  have fx := f.x
  obtain ⟨h1, h2, ⟨b1, b2, b3, b4, b5, b6, b7⟩, d1, d2, d3, d4, d5, d6⟩ := hS1
  obtain ⟨e1, e2, e3, e4, e5, e6, e7, e8, e9, e10⟩ := hD1
  exact ⟨⟨h1.cg fx g rfl rfl, h2.cg fx g rfl rfl, e1.cg fx g rfl rfl, e2.cg fx g rfl rfl⟩, ⟨b1.cg fx g rfl rfl, b2.cg fx g rfl rfl, b3.cg fx g rfl rfl, b4.cg fx g rfl rfl, b5.cg fx g rfl rfl, b6.cg fx g rfl rfl, b7.cg fx g rfl rfl⟩, ⟨e3.cg fx g rfl rfl, e4.cg fx g rfl rfl, e5.cg fx g rfl rfl, e6.cg fx g rfl rfl, hC1.cg fx g rfl rfl, hO.cg fx rfl, e7.cg fx g rfl rfl, e8.cg fx g rfl rfl (f.gq _ _), e9.cg fx g rfl rfl, e10.cg fx g rfl rfl⟩, d1.cg fx g rfl rfl, d2.cg fx g rfl rfl, d3.cg fx g rfl rfl, d4.cg fx g rfl rfl, d5.cg fx g rfl rfl, d6.cg fx rfl⟩
theorem api_run (x : Int32) : apiI 111 189 [.inl x] := by
  intro k σ hk h
  by_cases q1 : x < 0
  · rw [eX11_run 6]
    simp only [am_run_s, bt, lf, am_in, am_ar, am_fit, am_ld, am_ct, Nat.reduceLT, Nat.reduceEqDiff, reduceIte, Nat.reduceAdd, Nat.reduceLeDiff, Nat.reduceSub, Bool.false_eq_true, if_true, if_false, ite_true, ite_false, List.length_cons, List.length_nil, Nat.zero_add, Nat.add_zero, and_true, true_and, true_or, or_true, and_self, Nat.le_refl, Nat.lt_irrefl, gI_sI, gL_sL, gQ_sQ, gI_sJ, gI_sL, gI_sQ, gL_sI, gL_sQ, gL_sJ, gQ_sI, gQ_sL, gQ_sJ, gN_sI, gN_sL, gN_sQ, gN_sJ, E_b2_0, E_cS_a, E_cS_b, E_cV_a, E_cV_b, E_c_0, E_getI_0, E_getR_0, E_inc_a, E_inc_b, E_jl_0, E_jmp_0, E_jn_0, E_jz_0, E_kk, E_ldI_a, E_ldI_b, E_ldR_a, E_ldR_b, E_rI_0, E_stI_0, am_cc, am_nl, am_ok, am_pop, am_rt, am_set, cC_11, cC_9, rR_1204, kX11_run, q1, ↓s_refuse4]
    rw [eX12_run 6]
    simp only [am_run_s, bt, lf, am_in, am_ar, am_fit, am_ld, am_ct, Nat.reduceLT, Nat.reduceEqDiff, reduceIte, Nat.reduceAdd, Nat.reduceLeDiff, Nat.reduceSub, Bool.false_eq_true, if_true, if_false, ite_true, ite_false, List.length_cons, List.length_nil, Nat.zero_add, Nat.add_zero, and_true, true_and, true_or, or_true, and_self, Nat.le_refl, Nat.lt_irrefl, gI_sI, gL_sL, gQ_sQ, gI_sJ, gI_sL, gI_sQ, gL_sI, gL_sQ, gL_sJ, gQ_sI, gQ_sL, gQ_sJ, gN_sI, gN_sL, gN_sQ, gN_sJ, E_b2_0, E_cS_a, E_cS_b, E_cV_a, E_cV_b, E_c_0, E_getI_0, E_i2l_0, E_inc_a, E_inc_b, E_jl_0, E_jmp_0, E_jn_0, E_jz_0, E_kk, E_ldI_a, E_ldI_b, E_ldR_a, E_ldR_b, E_rI_0, E_stI_0, am_cc, am_nl, am_ok, am_pop, am_rt, am_set, cC_12, kX12_run, q1, ↓s_no4]
    exact ⟨⟨_, rfl, rfl⟩, h.refuse⟩
  by_cases q2 : ¬ x < 1 ∧ ¬ 5000 < x
  case neg =>
    rw [eX11_run 11]
    simp only [am_run_s, bt, lf, am_in, am_ar, am_fit, am_ld, am_ct, Nat.reduceLT, Nat.reduceEqDiff, reduceIte, Nat.reduceAdd, Nat.reduceLeDiff, Nat.reduceSub, Bool.false_eq_true, if_true, if_false, ite_true, ite_false, List.length_cons, List.length_nil, Nat.zero_add, Nat.add_zero, and_true, true_and, true_or, or_true, and_self, Nat.le_refl, Nat.lt_irrefl, gI_sI, gL_sL, gQ_sQ, gI_sJ, gI_sL, gI_sQ, gL_sI, gL_sQ, gL_sJ, gQ_sI, gQ_sL, gQ_sJ, gN_sI, gN_sL, gN_sQ, gN_sJ, E_b2_0, E_cS_a, E_cS_b, E_cV_a, E_cV_b, E_c_0, E_getI_0, E_getR_0, E_inc_a, E_inc_b, E_jl_0, E_jmp_0, E_jn_0, E_jz_0, E_kk, E_ldI_a, E_ldI_b, E_ldR_a, E_ldR_b, E_rI_0, E_stI_0, am_cc, am_nl, am_ok, am_pop, am_rt, am_set, cC_11, cC_9, rR_1204, kX11_run, q1, ↓s_isWithin, bI_z, q2, not_true_eq_false, not_false_eq_true, ↓s_refuse7]
    rw [eX12_run 12]
    simp only [am_run_s, bt, lf, am_in, am_ar, am_fit, am_ld, am_ct, Nat.reduceLT, Nat.reduceEqDiff, reduceIte, Nat.reduceAdd, Nat.reduceLeDiff, Nat.reduceSub, Bool.false_eq_true, if_true, if_false, ite_true, ite_false, List.length_cons, List.length_nil, Nat.zero_add, Nat.add_zero, and_true, true_and, true_or, or_true, and_self, Nat.le_refl, Nat.lt_irrefl, gI_sI, gL_sL, gQ_sQ, gI_sJ, gI_sL, gI_sQ, gL_sI, gL_sQ, gL_sJ, gQ_sI, gQ_sL, gQ_sJ, gN_sI, gN_sL, gN_sQ, gN_sJ, E_b2_0, E_cS_a, E_cS_b, E_cV_a, E_cV_b, E_c_0, E_getI_0, E_i2l_0, E_inc_a, E_inc_b, E_jl_0, E_jmp_0, E_jn_0, E_jz_0, E_kk, E_ldI_a, E_ldI_b, E_ldR_a, E_ldR_b, E_rI_0, E_stI_0, am_cc, am_nl, am_ok, am_pop, am_rt, am_set, cC_12, kX12_run, q1, ↓s_isIn1_5000, bI_z, q2, not_true_eq_false, not_false_eq_true, ↓s_no7]
    exact ⟨⟨_, rfl, rfl⟩, h.refuse⟩
  obtain ⟨n, rfl, n1, n2⟩ := lit_nI (lo := 1) (hi := 5000) (by decide) (by decide) (by omega) q2
  have h' := h
  obtain ⟨⟨a1, a2, a3, a4⟩, b, ⟨c1, c2, c3, c4, c5, c6, c7, c8, c9, c10⟩, d⟩ := h
  obtain ⟨t, t1, t2, t3⟩ := c3
  have hS : STc σ σ := ⟨a1, a2, b, d⟩
  have hD : DY (k + 1) σ σ := ⟨a3, a4, c1, c2, ⟨t, t1, t2, by omega⟩, c4, c7, c8, c9, c10⟩
  rw [eX11_run 13]
  simp only [am_run_s, bt, lf, am_in, am_ar, am_fit, am_ld, am_ct, Nat.reduceLT, Nat.reduceEqDiff, reduceIte, Nat.reduceAdd, Nat.reduceLeDiff, Nat.reduceSub, Bool.false_eq_true, if_true, if_false, ite_true, ite_false, List.length_cons, List.length_nil, Nat.zero_add, Nat.add_zero, and_true, true_and, true_or, or_true, and_self, Nat.le_refl, Nat.lt_irrefl, gI_sI, gL_sL, gQ_sQ, gI_sJ, gI_sL, gI_sQ, gL_sI, gL_sQ, gL_sJ, gQ_sI, gQ_sL, gQ_sJ, gN_sI, gN_sL, gN_sQ, gN_sJ, E_b2_0, E_cS_a, E_cS_b, E_cV_a, E_cV_b, E_c_0, E_getI_0, E_getR_0, E_inc_a, E_inc_b, E_jl_0, E_jmp_0, E_jn_0, E_jz_0, E_kk, E_ldI_a, E_ldI_b, E_ldR_a, E_ldR_b, E_rI_0, E_stI_0, am_cc, am_nl, am_ok, am_pop, am_rt, am_set, cC_11, cC_9, rR_1204, kX11_run, q1, ↓s_isWithin, bI_z, q2, and_self, not_true_eq_false, not_false_eq_true]
  refine l_runX (b := gI σ 1006 0) (by omega) n2 n 0 t σ σ (by omega) hS hD c5 c6 t2 (by omega) (fun σ1 m1 rr f1 g1 hS1 hD1 hC1 hO1 => ?_)
  rw [hX11_run 5]
  simp only [am_run_s, bt, lf, am_in, am_ar, am_fit, am_ld, am_ct, Nat.reduceLT, Nat.reduceEqDiff, reduceIte, Nat.reduceAdd, Nat.reduceLeDiff, Nat.reduceSub, Bool.false_eq_true, if_true, if_false, ite_true, ite_false, List.length_cons, List.length_nil, Nat.zero_add, Nat.add_zero, and_true, true_and, true_or, or_true, and_self, Nat.le_refl, Nat.lt_irrefl, gI_sI, gL_sL, gQ_sQ, gI_sJ, gI_sL, gI_sQ, gL_sI, gL_sQ, gL_sJ, gQ_sI, gQ_sL, gQ_sJ, gN_sI, gN_sL, gN_sQ, gN_sJ, E_b2_0, E_cS_a, E_cS_b, E_cV_a, E_cV_b, E_c_0, E_getI_0, E_getR_0, E_inc_a, E_inc_b, E_jl_0, E_jmp_0, E_jn_0, E_jz_0, E_kk, E_ldI_a, E_ldI_b, E_ldR_a, E_ldR_b, E_rI_0, E_stI_0, am_cc, am_nl, am_ok, am_pop, am_rt, am_set, cC_11, cC_9, rR_1204, kX11_run]
  have ag : AgM σ1 σ := ⟨fun f hf i => f1.gi (PXR_M hf), fun i => f1.gl _ _⟩
  rw [eX12_run 14]
  simp only [am_run_s, bt, lf, am_in, am_ar, am_fit, am_ld, am_ct, Nat.reduceLT, Nat.reduceEqDiff, reduceIte, Nat.reduceAdd, Nat.reduceLeDiff, Nat.reduceSub, Bool.false_eq_true, if_true, if_false, ite_true, ite_false, List.length_cons, List.length_nil, Nat.zero_add, Nat.add_zero, and_true, true_and, true_or, or_true, and_self, Nat.le_refl, Nat.lt_irrefl, gI_sI, gL_sL, gQ_sQ, gI_sJ, gI_sL, gI_sQ, gL_sI, gL_sQ, gL_sJ, gQ_sI, gQ_sL, gQ_sJ, gN_sI, gN_sL, gN_sQ, gN_sJ, E_b2_0, E_cS_a, E_cS_b, E_cV_a, E_cV_b, E_c_0, E_getI_0, E_i2l_0, E_inc_a, E_inc_b, E_jl_0, E_jmp_0, E_jn_0, E_jz_0, E_kk, E_ldI_a, E_ldI_b, E_ldR_a, E_ldR_b, E_rI_0, E_stI_0, am_cc, am_nl, am_ok, am_pop, am_rt, am_set, cC_12, kX12_run, q1, ↓s_isIn1_5000, bI_z, q2, and_self, not_true_eq_false, not_false_eq_true]
  refine l_runM (b := gI σ1 1348 0) n2 n 0 σ1 σ (by omega) ag rr (fun σ2 ag2 f2 => ?_)
  rw [hX12_run 4]
  simp only [am_run_s, bt, lf, am_in, am_ar, am_fit, am_ld, am_ct, Nat.reduceLT, Nat.reduceEqDiff, reduceIte, Nat.reduceAdd, Nat.reduceLeDiff, Nat.reduceSub, Bool.false_eq_true, if_true, if_false, ite_true, ite_false, List.length_cons, List.length_nil, Nat.zero_add, Nat.add_zero, and_true, true_and, true_or, or_true, and_self, Nat.le_refl, Nat.lt_irrefl, gI_sI, gL_sL, gQ_sQ, gI_sJ, gI_sL, gI_sQ, gL_sI, gL_sQ, gL_sJ, gQ_sI, gQ_sL, gQ_sJ, gN_sI, gN_sL, gN_sQ, gN_sJ, E_b2_0, E_cS_a, E_cS_b, E_cV_a, E_cV_b, E_c_0, E_getI_0, E_i2l_0, E_inc_a, E_inc_b, E_jl_0, E_jmp_0, E_jn_0, E_jz_0, E_kk, E_ldI_a, E_ldI_b, E_ldR_a, E_ldR_b, E_rI_0, E_stI_0, am_cc, am_nl, am_ok, am_pop, am_rt, am_set, cC_12, kX12_run]
  have w2 := hD1.2.2.2.2.2.2.1.2.1
  refine ⟨⟨_, rfl, ?_⟩, Inv2.fin hS1 hD1 hC1 hO1 ag2 f2 ?_⟩
  · rw [w2, c7.2.1, ag2.gi rfl, ag.gi rfl]
  · rw [f2.2.1, g1.2.1, f1.2.1]
