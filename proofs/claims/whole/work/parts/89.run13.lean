/-! ===== the run: the class: nodes wake ===== -/
theorem cntP_fl {p q : Nat → Prop} {d : ∀ i, Decidable (p i)} {d' : ∀ i, Decidable (q i)} {x : Nat} : ∀ {n : Nat}, x < n → p x → ¬ q x → (∀ i, i < n → i ≠ x → (p i ↔ q i)) → cntP p d n = cntP q d' n + 1
  | 0, hx, _, _, _ => absurd hx (by omega)
  | n + 1, hx, hp, hq, h => by
    rw [cntP_s, cntP_s]
    by_cases e : x = n
    · subst e
      rw [cntP_congr (q := q) (d' := d') (fun i hi => h i (by omega) (by omega)), if_pos hp, if_neg hq]
    · rw [cntP_fl (n := n) (by omega) hp hq (fun i hi => h i (by omega))]
      have hn := h n (by omega) (fun z => e z.symm)
      by_cases y : p n
      · rw [if_pos y, if_pos (hn.mp y)]
      · rw [if_neg y, if_neg (fun z => y (hn.mpr z))]
theorem cntP_z {p : Nat → Prop} {d : ∀ i, Decidable (p i)} : ∀ {n : Nat}, cntP p d n = 0 → ∀ i, i < n → ¬ p i
  | 0, _, i, hi => absurd hi (by omega)
  | n + 1, h, i, hi => by
    rw [cntP_s] at h
    by_cases e : i = n
    · subst e
      intro y
      rw [if_pos y] at h
      omega
    · exact cntP_z (d := d) (n := n) (by omega) i (by omega)
abbrev rW : AV := .inr (.inr (some (9, 0)))
def PWK : Nat → Bool := inL [401, 1014]
/-- how many nodes are OFF -/
def offs (m : HS) (n : Nat) : Nat := cntP (fun i => ¬ gI m 34 i < 256) (fun _ => inferInstance) n
theorem wk1_c (m : HS) (i j : Nat) : gI (wk1 m i) 34 j = if (¬ gI m 34 i < 256 ∧ ¬ gI m 1342 0 - gI m 35 i < 1408) ∧ j = i then 0 else gI m 34 j := by
  unfold wk1
  by_cases q : ¬ gI m 34 i < 256 ∧ ¬ gI m 1342 0 - gI m 35 i < 1408
  · rw [if_pos q]
    simp only [gI_sI, gL_sL, gQ_sQ, gI_sJ, gI_sL, gI_sQ, gL_sI, gL_sQ, gL_sJ, gQ_sI, gQ_sL, gQ_sJ, gN_sI, gN_sL, gN_sQ, gN_sJ, Nat.reduceLT, Nat.reduceEqDiff, reduceIte, Nat.reduceAdd, Nat.reduceLeDiff, Nat.reduceSub, Bool.false_eq_true, if_true, if_false, ite_true, ite_false, List.length_cons, List.length_nil, Nat.zero_add, Nat.add_zero, and_true, true_and, true_or, or_true, and_self, Nat.le_refl, Nat.lt_irrefl]
    by_cases e : j = i
    · rw [if_pos e, if_pos ⟨q, e⟩]
    · rw [if_neg e, if_neg (fun z => e z.2)]
  · rw [if_neg q, if_neg (fun z => q z.1)]
theorem wkN_v (m : HS) (j : Nat) : ∀ i, gI (wkN m i) 34 j = gI m 34 j ∨ gI (wkN m i) 34 j = 0
  | 0 => Or.inl rfl
  | i + 1 => by
    have e : gI (wkN m (i + 1)) 34 j = gI (wk1 (wkN m i) i) 34 j := rfl
    rw [e, wk1_c]
    split
    · exact Or.inr rfl
    · exact wkN_v m j i
theorem wkN_e {m : HS} : ∀ {n : Nat}, (∀ i, i < n → gI m 34 i < 256) → wkN m n = m
  | 0, _ => rfl
  | n + 1, h => by
    have e : wkN m (n + 1) = wk1 (wkN m n) n := rfl
    rw [e, wkN_e (n := n) (fun i hi => h i (by omega))]
    unfold wk1
    rw [if_neg (fun z => z.1 (h n (by omega)))]
theorem l_wake {σ m : HS} {n : Nat} (hn : gN σ 3 = n) (h10 : n ≤ 10) (hc : gI σ 702 0 = nI n) (hq : ∀ i, i < n → gQ σ 90 i = some (3, i)) (ht : gI σ 1004 0 = gI m 1342 0) (ho : ∀ i, i < n → gI σ 402 i = gI m 35 i) {Q : PO} (hQ : ∀ σ', frm PWK σ σ' → (∀ i, i < n → gI σ' 401 i = gI (wkN m n) 34 i) → gI σ' 1014 0 = nI (offs (wkN m n) n) → Q none σ') :
    ∀ (r i : Nat) (v : Option AV) (σ1 : HS), i + r = n → frm PWK σ σ1 → (∀ j, j < n → gI σ1 401 j = gI (wkN m i) 34 j) → gI σ1 1014 0 = nI (offs (wkN m i) n) → am_T (kX9_wakeNodes S1) MM Q 2 [some rW, some (.inl (nI i)), v] [] σ1 0 0 := by
  intro r
  induction r with
  | zero =>
    intro i v σ1 hi f1 k1 o1
    have e : i = n := by omega
    subst e
    have c0 : gI σ1 702 0 = nI i := by rw [f1.gi rfl]; exact hc
    have h0 : ¬ nI i < nI i := nI_nlt (by omega) (by omega)
    rw [hX9_wakeNodes 5]
    simp only [am_run_s, bt, lf, am_in, am_ar, am_fit, am_ld, am_ct, Nat.reduceLT, Nat.reduceEqDiff, reduceIte, Nat.reduceAdd, Nat.reduceLeDiff, Nat.reduceSub, Bool.false_eq_true, if_true, if_false, ite_true, ite_false, List.length_cons, List.length_nil, Nat.zero_add, Nat.add_zero, and_true, true_and, true_or, or_true, and_self, Nat.le_refl, Nat.lt_irrefl, gI_sI, gL_sL, gQ_sQ, gI_sJ, gI_sL, gI_sQ, gL_sI, gL_sQ, gL_sJ, gQ_sI, gQ_sL, gQ_sJ, gN_sI, gN_sL, gN_sQ, gN_sJ, E_aald_0, E_b2_0, E_cV_a, E_cV_b, E_c_0, E_dup_0, E_dup_1, E_getI_0, E_getR_0, E_inc_a, E_inc_b, E_jl_0, E_jmp_0, E_jz_0, E_kk, E_ldI_a, E_ldI_b, E_ldR_a, E_ldR_b, E_putI_0, E_rV_0, E_stI_0, E_stR_0, aL_90, am_cc, am_nl, am_ok, am_pop, am_rt, am_set, cC_3, cC_6, cC_9, cC_90, rQ_90, rR_1000, rR_700, sN_90, kX9_wakeNodes, c0, h0]
    exact hQ σ1 f1 k1 o1
  | succ r ih =>
    intro i v σ1 hi f1 k1 o1
    have hlt : i < n := by omega
    have c0 : gI σ1 702 0 = nI n := by rw [f1.gi rfl]; exact hc
    have h2 := nI_t hlt (by omega)
    have h3 : vp_in (nI i) 10 := vp_in_nI (by omega) (by omega)
    have h4 : (nI i).toNatClampNeg = i := nI_clamp (by omega)
    have h5 : gQ σ1 90 i = some (3, i) := by rw [f1.gq]; exact hq i hlt
    have h6 : i < gN σ1 3 := by rw [f1.gn, hn]; exact hlt
    have fm := wkN_f m i
    have c1 := k1 i hlt
    have c2 : gI σ1 1004 0 = gI (wkN m i) 1342 0 := by rw [f1.gi rfl, fm.gi rfl]; exact ht
    have c3 : gI σ1 402 i = gI (wkN m i) 35 i := by rw [f1.gi rfl, fm.gi rfl]; exact ho i hlt
    have go := ih (i + 1)
    have es : wkN m (i + 1) = wk1 (wkN m i) i := rfl
    rw [es] at go
    generalize wkN m i = m1 at go c1 c2 c3 k1 o1
    by_cases q1 : gI m1 34 i < 256
    · have e1 : wk1 m1 i = m1 := by unfold wk1; rw [if_neg (fun z => z.1 q1)]
      rw [e1] at go
      rw [hX9_wakeNodes 16]
      simp only [am_run_s, bt, lf, am_in, am_ar, am_fit, am_ld, am_ct, Nat.reduceLT, Nat.reduceEqDiff, reduceIte, Nat.reduceAdd, Nat.reduceLeDiff, Nat.reduceSub, Bool.false_eq_true, if_true, if_false, ite_true, ite_false, List.length_cons, List.length_nil, Nat.zero_add, Nat.add_zero, and_true, true_and, true_or, or_true, and_self, Nat.le_refl, Nat.lt_irrefl, gI_sI, gL_sL, gQ_sQ, gI_sJ, gI_sL, gI_sQ, gL_sI, gL_sQ, gL_sJ, gQ_sI, gQ_sL, gQ_sJ, gN_sI, gN_sL, gN_sQ, gN_sJ, E_aald_0, E_b2_0, E_cV_a, E_cV_b, E_c_0, E_dup_0, E_dup_1, E_getI_0, E_getR_0, E_inc_a, E_inc_b, E_jl_0, E_jmp_0, E_jz_0, E_kk, E_ldI_a, E_ldI_b, E_ldR_a, E_ldR_b, E_putI_0, E_rV_0, E_stI_0, E_stR_0, aL_90, am_cc, am_nl, am_ok, am_pop, am_rt, am_set, cC_3, cC_6, cC_9, cC_90, rQ_90, rR_1000, rR_700, sN_90, kX9_wakeNodes, c0, h2, h3, h4, h5, h6, ↓s_nodeIsOff i σ1 _ h6, bI_z, c1, q1, not_true_eq_false, not_false_eq_true, nI_1]
      exact go _ σ1 (by omega) f1 k1 o1
    by_cases q2 : gI m1 1342 0 - gI m1 35 i < 1408
    · have e1 : wk1 m1 i = m1 := by unfold wk1; rw [if_neg (fun z => z.2 q2)]
      rw [e1] at go
      rw [hX9_wakeNodes 23]
      simp only [am_run_s, bt, lf, am_in, am_ar, am_fit, am_ld, am_ct, Nat.reduceLT, Nat.reduceEqDiff, reduceIte, Nat.reduceAdd, Nat.reduceLeDiff, Nat.reduceSub, Bool.false_eq_true, if_true, if_false, ite_true, ite_false, List.length_cons, List.length_nil, Nat.zero_add, Nat.add_zero, and_true, true_and, true_or, or_true, and_self, Nat.le_refl, Nat.lt_irrefl, gI_sI, gL_sL, gQ_sQ, gI_sJ, gI_sL, gI_sQ, gL_sI, gL_sQ, gL_sJ, gQ_sI, gQ_sL, gQ_sJ, gN_sI, gN_sL, gN_sQ, gN_sJ, E_aald_0, E_b2_0, E_cV_a, E_cV_b, E_c_0, E_dup_0, E_dup_1, E_getI_0, E_getR_0, E_inc_a, E_inc_b, E_jl_0, E_jmp_0, E_jz_0, E_kk, E_ldI_a, E_ldI_b, E_ldR_a, E_ldR_b, E_putI_0, E_rV_0, E_stI_0, E_stR_0, aL_90, am_cc, am_nl, am_ok, am_pop, am_rt, am_set, cC_3, cC_6, cC_9, cC_90, rQ_90, rR_1000, rR_700, sN_90, kX9_wakeNodes, c0, h2, h3, h4, h5, h6, ↓s_nodeIsOff i σ1 _ h6, bI_z, c1, c2, c3, q1, q2, not_true_eq_false, not_false_eq_true, nI_1]
      exact go _ σ1 (by omega) f1 k1 o1
    · have ec := wk1_c m1 i
      have e2 : offs m1 n = offs (wk1 m1 i) n + 1 := by
        refine cntP_fl hlt q1 ?_ (fun j hj e => ?_)
        · rw [ec, if_pos ⟨⟨q1, q2⟩, rfl⟩]; decide
        · rw [ec, if_neg (fun z => e z.2)]
      rw [hX9_wakeNodes 32]
      simp only [am_run_s, bt, lf, am_in, am_ar, am_fit, am_ld, am_ct, Nat.reduceLT, Nat.reduceEqDiff, reduceIte, Nat.reduceAdd, Nat.reduceLeDiff, Nat.reduceSub, Bool.false_eq_true, if_true, if_false, ite_true, ite_false, List.length_cons, List.length_nil, Nat.zero_add, Nat.add_zero, and_true, true_and, true_or, or_true, and_self, Nat.le_refl, Nat.lt_irrefl, gI_sI, gL_sL, gQ_sQ, gI_sJ, gI_sL, gI_sQ, gL_sI, gL_sQ, gL_sJ, gQ_sI, gQ_sL, gQ_sJ, gN_sI, gN_sL, gN_sQ, gN_sJ, E_aald_0, E_b2_0, E_cV_a, E_cV_b, E_c_0, E_dup_0, E_dup_1, E_getI_0, E_getR_0, E_inc_a, E_inc_b, E_jl_0, E_jmp_0, E_jz_0, E_kk, E_ldI_a, E_ldI_b, E_ldR_a, E_ldR_b, E_putI_0, E_rV_0, E_stI_0, E_stR_0, aL_90, am_cc, am_nl, am_ok, am_pop, am_rt, am_set, cC_3, cC_6, cC_9, cC_90, rQ_90, rR_1000, rR_700, sN_90, kX9_wakeNodes, c0, h2, h3, h4, h5, h6, ↓s_nodeIsOff i σ1 _ h6, bI_z, c1, c2, c3, o1, e2, q1, q2, not_true_eq_false, not_false_eq_true, nI_1, nI_m1]
      refine go _ _ (by omega) ((f1.si rfl).si rfl) (fun j hj => ?_) ?_
      · rw [ec]
        simp only [gI_sI, gL_sL, gQ_sQ, gI_sJ, gI_sL, gI_sQ, gL_sI, gL_sQ, gL_sJ, gQ_sI, gQ_sL, gQ_sJ, gN_sI, gN_sL, gN_sQ, gN_sJ, Nat.reduceLT, Nat.reduceEqDiff, reduceIte, Nat.reduceAdd, Nat.reduceLeDiff, Nat.reduceSub, Bool.false_eq_true, if_true, if_false, ite_true, ite_false, List.length_cons, List.length_nil, Nat.zero_add, Nat.add_zero, and_true, true_and, true_or, or_true, and_self, Nat.le_refl, Nat.lt_irrefl]
        by_cases e : j = i
        · rw [if_pos e, if_pos ⟨⟨q1, q2⟩, e⟩]
        · rw [if_neg e, if_neg (fun z => e z.2)]
          exact k1 j hj
      · simp only [gI_sI, gL_sL, gQ_sQ, gI_sJ, gI_sL, gI_sQ, gL_sI, gL_sQ, gL_sJ, gQ_sI, gQ_sL, gQ_sJ, gN_sI, gN_sL, gN_sQ, gN_sJ, Nat.reduceLT, Nat.reduceEqDiff, reduceIte, Nat.reduceAdd, Nat.reduceLeDiff, Nat.reduceSub, Bool.false_eq_true, if_true, if_false, ite_true, ite_false, List.length_cons, List.length_nil, Nat.zero_add, Nat.add_zero, and_true, true_and, true_or, or_true, and_self, Nat.le_refl, Nat.lt_irrefl]
theorem c_wake {σ m : HS} {n : Nat} (hn : gN σ 3 = n) (h10 : n ≤ 10) (hc : gI σ 702 0 = nI n) (hq : ∀ i, i < n → gQ σ 90 i = some (3, i)) (ht : gI σ 1004 0 = gI m 1342 0) (ho : ∀ i, i < n → gI σ 402 i = gI m 35 i) (hk : ∀ i, i < n → gI σ 401 i = gI m 34 i) (hO : gI σ 1014 0 = nI (offs m n)) {Q : PO} (hQ : ∀ σ', frm PWK σ σ' → (∀ i, i < n → gI σ' 401 i = gI (wkN m n) 34 i) → gI σ' 1014 0 = nI (offs (wkN m n) n) → Q none σ') : MM 64 [rW] σ Q := by
  rw [eX9_wakeNodes 2]
  simp only [am_run_s, bt, lf, am_in, am_ar, am_fit, am_ld, am_ct, Nat.reduceLT, Nat.reduceEqDiff, reduceIte, Nat.reduceAdd, Nat.reduceLeDiff, Nat.reduceSub, Bool.false_eq_true, if_true, if_false, ite_true, ite_false, List.length_cons, List.length_nil, Nat.zero_add, Nat.add_zero, and_true, true_and, true_or, or_true, and_self, Nat.le_refl, Nat.lt_irrefl, gI_sI, gL_sL, gQ_sQ, gI_sJ, gI_sL, gI_sQ, gL_sI, gL_sQ, gL_sJ, gQ_sI, gQ_sL, gQ_sJ, gN_sI, gN_sL, gN_sQ, gN_sJ, E_aald_0, E_b2_0, E_cV_a, E_cV_b, E_c_0, E_dup_0, E_dup_1, E_getI_0, E_getR_0, E_inc_a, E_inc_b, E_jl_0, E_jmp_0, E_jz_0, E_kk, E_ldI_a, E_ldI_b, E_ldR_a, E_ldR_b, E_putI_0, E_rV_0, E_stI_0, E_stR_0, aL_90, am_cc, am_nl, am_ok, am_pop, am_rt, am_set, cC_3, cC_6, cC_9, cC_90, rQ_90, rR_1000, rR_700, sN_90, kX9_wakeNodes]
  exact l_wake hn h10 hc hq ht ho hQ n 0 _ σ (by omega) frm.rf hk hO
/-! one tick of the class, phase by phase -/
def DY (K : Nat) (x m : HS) : Prop := v_nod x m ∧ v_nor x m ∧ v_wai x m ∧ v_tal x m ∧ v_tck K x m ∧ v_nxt x m ∧ v_wir x m ∧ v_cur x m ∧ v_noi x m ∧ v_log x m
theorem h_pass (n : Nat) {Q : PO} {pc : Nat} {ls : ALs} {st : List AV} {σ : HS} {a b : Nat} : am_T (kX9_passTick S1) MM Q pc ls st σ a b ↔ (kX9_passTick S1 pc).2 MM Q (am_run (kX9_passTick S1) MM Q n) ls st σ a b := am_go (gX9_passTick S1) MM_mo n
theorem nI_z0 : ¬ (0 : Int32) < nI 0 := by decide
theorem PXR_l {l : List Nat} (h : l.all (fun g => inL [401, 402, 403, 1110, 1111, 1112, 1113, 1114, 1115, 1116, 1004, 1005, 1006, 1007, 1009, 1010, 1011, 1012, 1013, 1014, 1015, 501, 30, 304, 305, 26, 27, 28, 29] g) = true) (f : Nat) (hf : PXR f = false) : inL l f = false := by
  unfold PXR at hf
  rw [Bool.or_eq_false_iff] at hf
  exact inL_mo h f hf.2
theorem PZR_hc (f : Nat) (hf : PZR f = false) : PHC f = false := by
  unfold PZR at hf
  simp only [Bool.or_eq_false_iff] at hf
  exact hf.1
theorem PZR_cm (f : Nat) (hf : PZR f = false) : PCM f = false := by
  unfold PZR at hf
  simp only [Bool.or_eq_false_iff] at hf
  exact hf.2.1
theorem PZR_nt (f : Nat) (hf : PZR f = false) : PNT f = false := by
  unfold PZR at hf
  simp only [Bool.or_eq_false_iff] at hf
  exact hf.2.2.1
theorem PZR_sl (f : Nat) (hf : PZR f = false) : PSL f = false := by
  unfold PZR at hf
  simp only [Bool.or_eq_false_iff] at hf
  exact hf.2.2.2.1
theorem PZR_ha (f : Nat) (hf : PZR f = false) : PHA f = false := by
  unfold PZR at hf
  simp only [Bool.or_eq_false_iff] at hf
  exact hf.2.2.2.2.1
theorem ph1 {K : Nat} {σ m : HS} (hS : STc σ m) (hD : DY K σ m) (hC : v_cal σ m) (hO : v_soo σ) {Q : PO} (hX : ∀ σ', frx PXR σ σ' → frm PZR m (wkN m (gN σ 3)) → STc σ' (wkN m (gN σ 3)) → DY K σ' (wkN m (gN σ 3)) → v_cal σ' (wkN m (gN σ 3)) → v_soo σ' → am_T (kX9_passTick S1) MM Q 11 [some rW] [] σ' 0 0) : am_T (kX9_passTick S1) MM Q 0 [some rW] [] σ 0 0 := by
  obtain ⟨d1, d2, d3, d4, d5, d6, d7, d8, d9, d10⟩ := hD
  obtain ⟨c1, c2, c3, c4, c5, c6⟩ := hS.1
  obtain ⟨w1, w2, w3, w4, w5, w6⟩ := d7
  have w5' : gI σ 1014 0 = nI (offs m (gN σ 3)) := w5
  have hle : offs m (gN σ 3) ≤ gN σ 3 := cntP_le _
  obtain ⟨t, t1, t2, t3⟩ := d5
  by_cases q : offs m (gN σ 3) = 0
  · have e := wkN_e (m := m) (n := gN σ 3) (fun i hi => Decidable.not_not.mp (cntP_z q i hi))
    rw [e] at hX
    rw [q] at w5'
    rw [h_pass 2]
    simp only [am_run_s, bt, lf, am_in, am_ar, am_fit, am_ld, am_ct, Nat.reduceLT, Nat.reduceEqDiff, reduceIte, Nat.reduceAdd, Nat.reduceLeDiff, Nat.reduceSub, Bool.false_eq_true, if_true, if_false, ite_true, ite_false, List.length_cons, List.length_nil, Nat.zero_add, Nat.add_zero, and_true, true_and, true_or, or_true, and_self, Nat.le_refl, Nat.lt_irrefl, gI_sI, gL_sL, gQ_sQ, gI_sJ, gI_sL, gI_sQ, gL_sI, gL_sQ, gL_sJ, gQ_sI, gQ_sL, gQ_sJ, gN_sI, gN_sL, gN_sQ, gN_sJ, E_b2_0, E_cV_a, E_cV_b, E_c_0, E_dup_0, E_dup_1, E_getI_0, E_getR_0, E_je_0, E_jl_0, E_jmp_0, E_jnull_0, E_jnull_1, E_jp_0, E_jz_0, E_kk, E_ldR_a, E_ldR_b, E_putI_0, E_rV_0, am_cc, am_pop, am_rt, cC_4, cC_9, rQ_1008, rR_1002, kX9_passTick, kX9_passTick_0, kX9_passTick_1, am_run_z, w5', nI_z0]
    exact hX σ frx.rf frm.rf hS ⟨d1, d2, d3, d4, ⟨t, t1, t2, t3⟩, d6, ⟨w1, w2, w3, w4, w5, w6⟩, d8, d9, d10⟩ hC hO
  · have hp : 0 < nI (offs m (gN σ 3)) := nI_gt0 (by omega) (by omega)
    rw [h_pass 4]
    simp only [am_run_s, bt, lf, am_in, am_ar, am_fit, am_ld, am_ct, Nat.reduceLT, Nat.reduceEqDiff, reduceIte, Nat.reduceAdd, Nat.reduceLeDiff, Nat.reduceSub, Bool.false_eq_true, if_true, if_false, ite_true, ite_false, List.length_cons, List.length_nil, Nat.zero_add, Nat.add_zero, and_true, true_and, true_or, or_true, and_self, Nat.le_refl, Nat.lt_irrefl, gI_sI, gL_sL, gQ_sQ, gI_sJ, gI_sL, gI_sQ, gL_sI, gL_sQ, gL_sJ, gQ_sI, gQ_sL, gQ_sJ, gN_sI, gN_sL, gN_sQ, gN_sJ, E_b2_0, E_cV_a, E_cV_b, E_c_0, E_dup_0, E_dup_1, E_getI_0, E_getR_0, E_je_0, E_jl_0, E_jmp_0, E_jnull_0, E_jnull_1, E_jp_0, E_jz_0, E_kk, E_ldR_a, E_ldR_b, E_putI_0, E_rV_0, am_cc, am_pop, am_rt, cC_4, cC_9, rQ_1008, rR_1002, kX9_passTick, kX9_passTick_0, kX9_passTick_1, am_run_z, w5', hp]
    refine c_wake rfl c1 c3 (fun i hi => (d1 i hi).1) (by rw [t1, t2]) (fun i hi => (d1 i hi).2.2.2.1) (fun i hi => (d1 i hi).2.2.1) w5' (fun σ' f k o => ?_)
    simp only [am_run_s, bt, lf, am_in, am_ar, am_fit, am_ld, am_ct, Nat.reduceLT, Nat.reduceEqDiff, reduceIte, Nat.reduceAdd, Nat.reduceLeDiff, Nat.reduceSub, Bool.false_eq_true, if_true, if_false, ite_true, ite_false, List.length_cons, List.length_nil, Nat.zero_add, Nat.add_zero, and_true, true_and, true_or, or_true, and_self, Nat.le_refl, Nat.lt_irrefl, gI_sI, gL_sL, gQ_sQ, gI_sJ, gI_sL, gI_sQ, gL_sI, gL_sQ, gL_sJ, gQ_sI, gQ_sL, gQ_sJ, gN_sI, gN_sL, gN_sQ, gN_sJ, E_b2_0, E_cV_a, E_cV_b, E_c_0, E_dup_0, E_dup_1, E_getI_0, E_getR_0, E_je_0, E_jl_0, E_jmp_0, E_jnull_0, E_jnull_1, E_jp_0, E_jz_0, E_kk, E_ldR_a, E_ldR_b, E_putI_0, E_rV_0, am_cc, am_pop, am_rt, cC_4, cC_9, rQ_1008, rR_1002, kX9_passTick, kX9_passTick_0, kX9_passTick_1, am_run_z]
    have fx : frx PXR σ σ' := f.x.mo (PXR_l rfl)
    have g := wkN_f m (gN σ 3)
    have wv := fun j => wkN_v m j (gN σ 3)
    have gx : frm PZR m (wkN m (gN σ 3)) := g.mo PZR_hc
    generalize hm' : wkN m (gN σ 3) = m' at hX k o g gx wv
    have gn := f.gn
    refine hX σ' fx gx (hS.cg fx gx) ⟨?_, ?_, d3.cg f.x g rfl rfl, d4.cg f.x g rfl rfl, ⟨t, by rw [f.gi rfl]; exact t1, by rw [g.gi rfl]; exact t2, t3⟩, d6.cg f.x g rfl rfl, ⟨?_, ?_, ?_, ?_, ?_, ?_⟩, ?_, d9.cg f.x g rfl rfl, d10.cg f.x g rfl rfl⟩ (hC.cg f.x g rfl rfl) (hO.cg f.x rfl)
    · intro i hi
      rw [gn] at hi
      obtain ⟨a, b, c, d, e⟩ := d1 i hi
      exact ⟨by rw [f.gq]; exact a, by rw [f.gi rfl]; exact b, k i hi, by rw [f.gi rfl, g.gi rfl]; exact d, by rw [f.gi rfl, g.gi rfl]; exact e⟩
    · refine ⟨fun i => ?_, fun i hi => ?_⟩
      · rcases wv i with z | z
        · rw [z]; exact d2.1 i
        · exact ⟨0, z, by omega⟩
      · rw [gn] at hi
        obtain ⟨a, b, c⟩ := d2.2 i hi
        refine ⟨?_, by rw [g.gi rfl]; exact b, by rw [g.gi rfl]; exact c⟩
        rcases wv i with z | z
        · rw [z]; exact a
        · exact z
    · rw [f.gi rfl, g.gi rfl]; exact w1
    · rw [f.gi rfl, g.gi rfl]; exact w2
    · rw [f.gi rfl, g.gi rfl]; exact w3
    · have e : gI m' 72 = gI m 72 := funext (fun i => g.gi rfl)
      rw [f.gi rfl, e, gn]; exact w4
    · rw [gn]; exact o
    · intro i hi h hh hh2 hc
      rw [gn] at hi
      rw [g.gi rfl] at hh
      rw [g.gi rfl]
      refine w6 i hi h hh hh2 ?_
      rcases wv h with z | z
      · rw [z] at hc; exact hc
      · rw [z] at hc; exact absurd (by decide) hc
    · rcases d8 with ⟨a, b⟩ | ⟨w, h, a1, a2, a3, a4, a5, a6, a7, a8, a9, a10, a11⟩
      · exact Or.inl ⟨by rw [f.gq]; exact a, by rw [g.gi rfl]; exact b⟩
      · refine Or.inr ⟨w, h, by rw [gn]; exact a1, by rw [f.gq]; exact a2, ?_⟩
        rw [f.gi rfl, f.gi rfl, f.gi rfl, f.gi rfl, g.gi rfl, g.gi rfl, g.gi rfl, g.gi rfl, g.gi rfl, g.gi rfl]
        refine ⟨a3, a4, a5, a6, a7, a8, a9, a10, ?_⟩
        rcases wv h with z | z
        · rw [z]; exact a11
        · rw [z]; decide
