/-! ===== the tape: feed, lay ===== -/
def TPX (σ : HS) (l : List Int32) : Prop := gI σ 901 0 = nI l.length ∧ ∀ j, j < l.length → gI σ 31 j = l.getD j 0
def TPM (σ : HS) (l : List Int32) : Prop := gI σ 1330 0 = nI l.length ∧ ∀ j, j < l.length → gI σ 53 j = l.getD j 0
theorem lst (f : Nat → Int32) : ∀ n : Nat, ∃ l : List Int32, l.length = n ∧ ∀ j, j < n → l.getD j 0 = f j
  | 0 => ⟨[], rfl, fun j hj => absurd hj (by omega)⟩
  | n + 1 => by
    obtain ⟨l, h1, h2⟩ := lst f n
    refine ⟨l ++ [f n], by simp [h1], fun j hj => ?_⟩
    rw [getD_app (by omega)]
    by_cases e : j = l.length
    · rw [if_pos e, e, h1]
    · rw [if_neg e]; exact h2 j (by omega)
theorem v_tap.to {x m : HS} (h : v_tap x m) : ∃ l : List Int32, l.length ≤ 2000 ∧ ab l ∧ TPX x l ∧ TPM m l := by
  obtain ⟨n, hn, h1, h2, h3⟩ := h
  obtain ⟨l, hl, hj⟩ := lst (gI m 53) n
  subst hl
  refine ⟨l, hn, ?_, ⟨h1, fun j q => by rw [(h3 j q).1, hj j q]⟩, ⟨h2, fun j q => (hj j q).symm⟩⟩
  intro x hx
  obtain ⟨j, q, rfl⟩ := List.mem_iff_getElem.mp hx
  have := hj j q
  rw [List.getD_eq_getElem?_getD, List.getElem?_eq_getElem q] at this
  rw [show l[j] = gI m 53 j from this]
  exact (h3 j q).2
theorem v_tap.mk {x m : HS} {l : List Int32} (hl : l.length ≤ 2000) (ha : ab l) (hx : TPX x l) (hm : TPM m l) : v_tap x m :=
  ⟨l.length, hl, hx.1, hm.1, fun j hj => ⟨by rw [hx.2 j hj, hm.2 j hj], by rw [hm.2 j hj]; exact ha.get j⟩⟩
theorem TPX.app {σ : HS} {l : List Int32} (h : TPX σ l) (b : Int32) : TPX (sI (sI σ 31 l.length b) 901 0 (nI (l.length + 1))) (l ++ [b]) := by
  refine ⟨?_, fun j hj => ?_⟩
  · simp only [gI_sI, gL_sL, gQ_sQ, gI_sJ, gI_sL, gI_sQ, gL_sI, gL_sQ, gL_sJ, gQ_sI, gQ_sL, gQ_sJ, gN_sI, gN_sL, gN_sQ, gN_sJ, Nat.reduceLT, Nat.reduceEqDiff, reduceIte, Nat.reduceAdd, Nat.reduceLeDiff, Nat.reduceSub, Bool.false_eq_true, if_true, if_false, ite_true, ite_false, List.length_cons, List.length_nil, Nat.zero_add, Nat.add_zero, and_true, true_and, true_or, or_true, and_self, Nat.le_refl, Nat.lt_irrefl, List.length_append]
  · simp only [List.length_append, List.length_cons, List.length_nil] at hj
    simp only [gI_sI, gL_sL, gQ_sQ, gI_sJ, gI_sL, gI_sQ, gL_sI, gL_sQ, gL_sJ, gQ_sI, gQ_sL, gQ_sJ, gN_sI, gN_sL, gN_sQ, gN_sJ, Nat.reduceLT, Nat.reduceEqDiff, reduceIte, Nat.reduceAdd, Nat.reduceLeDiff, Nat.reduceSub, Bool.false_eq_true, if_true, if_false, ite_true, ite_false, List.length_cons, List.length_nil, Nat.zero_add, Nat.add_zero, and_true, true_and, true_or, or_true, and_self, Nat.le_refl, Nat.lt_irrefl]
    rw [getD_app (by omega)]
    by_cases e2 : j = l.length
    · rw [if_pos e2, if_pos e2]
    · rw [if_neg e2, if_neg e2]; exact h.2 j (by omega)
theorem TPM.app {σ : HS} {l : List Int32} (h : TPM σ l) (b : Int32) : TPM (sI (sI σ 53 l.length b) 1330 0 (nI (l.length + 1))) (l ++ [b]) := by
  refine ⟨?_, fun j hj => ?_⟩
  · simp only [gI_sI, gL_sL, gQ_sQ, gI_sJ, gI_sL, gI_sQ, gL_sI, gL_sQ, gL_sJ, gQ_sI, gQ_sL, gQ_sJ, gN_sI, gN_sL, gN_sQ, gN_sJ, Nat.reduceLT, Nat.reduceEqDiff, reduceIte, Nat.reduceAdd, Nat.reduceLeDiff, Nat.reduceSub, Bool.false_eq_true, if_true, if_false, ite_true, ite_false, List.length_cons, List.length_nil, Nat.zero_add, Nat.add_zero, and_true, true_and, true_or, or_true, and_self, Nat.le_refl, Nat.lt_irrefl, List.length_append]
  · simp only [List.length_append, List.length_cons, List.length_nil] at hj
    simp only [gI_sI, gL_sL, gQ_sQ, gI_sJ, gI_sL, gI_sQ, gL_sI, gL_sQ, gL_sJ, gQ_sI, gQ_sL, gQ_sJ, gN_sI, gN_sL, gN_sQ, gN_sJ, Nat.reduceLT, Nat.reduceEqDiff, reduceIte, Nat.reduceAdd, Nat.reduceLeDiff, Nat.reduceSub, Bool.false_eq_true, if_true, if_false, ite_true, ite_false, List.length_cons, List.length_nil, Nat.zero_add, Nat.add_zero, and_true, true_and, true_or, or_true, and_self, Nat.le_refl, Nat.lt_irrefl]
    rw [getD_app (by omega)]
    by_cases e2 : j = l.length
    · rw [if_pos e2, if_pos e2]
    · rw [if_neg e2, if_neg e2]; exact h.2 j (by omega)
def PTX (f : Nat) : Bool := Nat.beq f 901 || Nat.beq f 31
def PTM (f : Nat) : Bool := Nat.beq f 1330 || Nat.beq f 53
theorem l_feedX {v nn : Int32} {Q : PO} : ∀ (w : Nat) (σ : HS) (l : List Int32), l.length + w ≤ 2000 → TPX σ l →
    (∀ σ', frm PTX σ σ' → TPX σ' (l ++ nbX v w) → Q (some (.inl (nI (l ++ nbX v w).length))) σ') →
    am_T (kX11_feed S1) MM Q 46 [some (.inr (.inr (some (11, 0)))), some (.inl v), some (.inl nn), some (.inl (nI w - 1))] [] σ 0 0 := by
  intro w
  induction w with
  | zero =>
    intro σ l hl hT hQ
    have e : l ++ nbX v 0 = l := List.append_nil l
    rw [e] at hQ
    rw [hX11_feed 40]
    have h0 : nI 0 - 1 < 0 := by decide
    simp only [am_run_s, bt, lf, am_in, am_ar, am_fit, am_ld, am_ct, Nat.reduceLT, Nat.reduceEqDiff, reduceIte, Nat.reduceAdd, Nat.reduceLeDiff, Nat.reduceSub, Bool.false_eq_true, if_true, if_false, ite_true, ite_false, List.length_cons, List.length_nil, Nat.zero_add, Nat.add_zero, and_true, true_and, true_or, or_true, and_self, Nat.le_refl, Nat.lt_irrefl, gI_sI, gL_sL, gQ_sQ, gI_sJ, gI_sL, gI_sQ, gL_sI, gL_sQ, gL_sJ, gQ_sI, gQ_sL, gQ_sJ, gN_sI, gN_sL, gN_sQ, gN_sJ, E_b2_0, E_cV_a, E_cV_b, E_c_0, E_getI_0, E_getR_0, E_inc_a, E_inc_b, E_jg_0, E_jmp_0, E_jn_0, E_jz_0, E_kk, E_ldI_a, E_ldI_b, E_ldR_a, E_ldR_b, E_rI_0, E_stI_0, am_cc, am_nl, am_ok, am_pop, am_rt, am_set, cC_11, cC_8, rR_1202, kX11_feed, h0, hT.1]
    exact hQ σ frm.rf hT
  | succ w ih =>
    intro σ l hl hT hQ
    rw [hX11_feed 40, nI_m1]
    have h0 := nI_f (j := w) (by omega)
    have hm : nI w + -1 = nI w - 1 := by rw [Int32.sub_eq_add_neg]
    simp only [am_run_s, bt, lf, am_in, am_ar, am_fit, am_ld, am_ct, Nat.reduceLT, Nat.reduceEqDiff, reduceIte, Nat.reduceAdd, Nat.reduceLeDiff, Nat.reduceSub, Bool.false_eq_true, if_true, if_false, ite_true, ite_false, List.length_cons, List.length_nil, Nat.zero_add, Nat.add_zero, and_true, true_and, true_or, or_true, and_self, Nat.le_refl, Nat.lt_irrefl, gI_sI, gL_sL, gQ_sQ, gI_sJ, gI_sL, gI_sQ, gL_sI, gL_sQ, gL_sJ, gQ_sI, gQ_sL, gQ_sJ, gN_sI, gN_sL, gN_sQ, gN_sJ, E_b2_0, E_cV_a, E_cV_b, E_c_0, E_getI_0, E_getR_0, E_inc_a, E_inc_b, E_jg_0, E_jmp_0, E_jn_0, E_jz_0, E_kk, E_ldI_a, E_ldI_b, E_ldR_a, E_ldR_b, E_rI_0, E_stI_0, am_cc, am_nl, am_ok, am_pop, am_rt, am_set, cC_11, cC_8, rR_1202, kX11_feed, h0, ↓s_append _ l.length (show l.length < 2000 by omega) σ _ hT.1, hm]
    have f0 : frm PTX σ (sI (sI σ 31 l.length (bX v w)) 901 0 (nI (l.length + 1))) := (frm.rf.si rfl).si rfl
    refine ih _ (l ++ [bX v w]) (by simp; omega) (hT.app (bX v w)) (fun σ' f1 t1 => ?_)
    have e : l ++ [bX v w] ++ nbX v w = l ++ nbX v (w + 1) := by simp [nbX]
    rw [e] at t1 ⊢
    exact hQ σ' (f0.tr f1) t1
theorem l_feedM {v nn : Int32} {Q : PO} : ∀ (w : Nat) (σ : HS) (l : List Int32), l.length + w ≤ 2000 → TPM σ l →
    (∀ σ', frm PTM σ σ' → TPM σ' (l ++ nbX v w) → Q (some (.inl (nI (l ++ nbX v w).length))) σ') →
    am_T (kX12_feed S1) MM Q 47 [some (.inr (.inr (some (12, 0)))), some (.inl v), some (.inl nn), some (.inl (nI w - 1))] [] σ 0 0 := by
  intro w
  induction w with
  | zero =>
    intro σ l hl hT hQ
    have e : l ++ nbX v 0 = l := List.append_nil l
    rw [e] at hQ
    rw [hX12_feed 40]
    have h0 : nI 0 - 1 < 0 := by decide
    simp only [am_run_s, bt, lf, am_in, am_ar, am_fit, am_ld, am_ct, Nat.reduceLT, Nat.reduceEqDiff, reduceIte, Nat.reduceAdd, Nat.reduceLeDiff, Nat.reduceSub, Bool.false_eq_true, if_true, if_false, ite_true, ite_false, List.length_cons, List.length_nil, Nat.zero_add, Nat.add_zero, and_true, true_and, true_or, or_true, and_self, Nat.le_refl, Nat.lt_irrefl, gI_sI, gL_sL, gQ_sQ, gI_sJ, gI_sL, gI_sQ, gL_sI, gL_sQ, gL_sJ, gQ_sI, gQ_sL, gQ_sJ, gN_sI, gN_sL, gN_sQ, gN_sJ, E_b2_0, E_cV_a, E_cV_b, E_c_0, E_dup_0, E_dup_1, E_getI_0, E_getR_0, E_iast_0, E_inc_a, E_inc_b, E_jg_0, E_jmp_0, E_jn_0, E_kk, E_ldI_a, E_ldI_b, E_ldR_a, E_ldR_b, E_putI_0, E_rI_0, E_stI_0, aL_53, am_cc, am_nl, am_ok, am_pop, am_rt, am_set, cC_12, cC_53, rR_1329, kX12_feed, kX12_feed_0, kX12_feed_1, h0, hT.1]
    exact hQ σ frm.rf hT
  | succ w ih =>
    intro σ l hl hT hQ
    rw [hX12_feed 40, nI_m1]
    have h0 := nI_f (j := w) (by omega)
    have h3 : vp_in (nI l.length) 2000 := vp_in_nI (by omega) (by omega)
    have h4 : (nI l.length).toNatClampNeg = l.length := nI_clamp (by omega)
    have hm : nI w + -1 = nI w - 1 := by rw [Int32.sub_eq_add_neg]
    simp only [am_run_s, bt, lf, am_in, am_ar, am_fit, am_ld, am_ct, Nat.reduceLT, Nat.reduceEqDiff, reduceIte, Nat.reduceAdd, Nat.reduceLeDiff, Nat.reduceSub, Bool.false_eq_true, if_true, if_false, ite_true, ite_false, List.length_cons, List.length_nil, Nat.zero_add, Nat.add_zero, and_true, true_and, true_or, or_true, and_self, Nat.le_refl, Nat.lt_irrefl, gI_sI, gL_sL, gQ_sQ, gI_sJ, gI_sL, gI_sQ, gL_sI, gL_sQ, gL_sJ, gQ_sI, gQ_sL, gQ_sJ, gN_sI, gN_sL, gN_sQ, gN_sJ, E_b2_0, E_cV_a, E_cV_b, E_c_0, E_dup_0, E_dup_1, E_getI_0, E_getR_0, E_iast_0, E_inc_a, E_inc_b, E_jg_0, E_jmp_0, E_jn_0, E_kk, E_ldI_a, E_ldI_b, E_ldR_a, E_ldR_b, E_putI_0, E_rI_0, E_stI_0, aL_53, am_cc, am_nl, am_ok, am_pop, am_rt, am_set, cC_12, cC_53, rR_1329, kX12_feed, kX12_feed_0, kX12_feed_1, h0, hT.1, h3, h4, hm, nI_1]
    have f0 : frm PTM σ (sI (sI σ 53 l.length (bX v w)) 1330 0 (nI (l.length + 1))) := (frm.rf.si rfl).si rfl
    refine ih _ (l ++ [bX v w]) (by simp; omega) (hT.app (bX v w)) (fun σ' f1 t1 => ?_)
    have e : l ++ [bX v w] ++ nbX v w = l ++ nbX v (w + 1) := by simp [nbX]
    rw [e] at t1 ⊢
    exact hQ σ' (f0.tr f1) t1
theorem n2000 : (2000 : Int32) = nI 2000 := by decide
theorem tp_room1 {L w : Nat} (hL : L ≤ 2000) (hw : w ≤ 2000) : (2000 - nI L < nI w) = (2000 < L + w) := by
  rw [n2000, pk_sub hL]
  exact propext ((nI_ltI (by omega) (by omega)).trans (by omega))
theorem tp_room2 {L w : Nat} (hL : L ≤ 2000) (hw : w ≤ 2000) : (2000 < nI L + nI w) = (2000 < L + w) := by
  rw [n2000, nI_add]
  exact propext (nI_ltI (by omega) (by omega))
/-- the tapes change alike -/
theorem Inv.tp {k : Nat} {σ σ1 σ2 : HS} (h : Inv k σ) (f1 : frm PTX σ σ1) (f2 : frm PTM σ1 σ2) {l : List Int32} (hl : l.length ≤ 2000) (ha : ab l) (hx : TPX σ1 l) (hm : TPM σ2 l) : Inv (k + 1) σ2 := by
  have hx2 : TPX σ2 l := by
    refine ⟨?_, fun j hj => ?_⟩
    · rw [f2.gi rfl]; exact hx.1
    · rw [f2.gi rfl]; exact hx.2 j hj
  have hv : v_tap σ2 σ2 := v_tap.mk hl ha hx2 hm
  obtain ⟨J, rfl⟩ := f1.el
  obtain ⟨J2, rfl⟩ := f2.el
  exact ⟨h.1, h.2.1, h.2.2.1.up, hv, h.2.2.2.2⟩
theorem TPM.fx {σ σ' : HS} {l : List Int32} {P : Nat → Bool} (h : TPM σ l) (f : frm P σ σ') (h1 : P 1330 = false) (h2 : P 53 = false) : TPM σ' l :=
  ⟨by rw [f.gi h1]; exact h.1, fun j hj => by rw [f.gi h2]; exact h.2 j hj⟩
theorem TPX.fx {σ σ' : HS} {l : List Int32} {P : Nat → Bool} (h : TPX σ l) (f : frm P σ σ') (h1 : P 901 = false) (h2 : P 31 = false) : TPX σ' l :=
  ⟨by rw [f.gi h1]; exact h.1, fun j hj => by rw [f.gi h2]; exact h.2 j hj⟩
theorem api_feed (v n : Int32) : apiI 102 162 [.inl v, .inl n] := by
  intro k σ hk h
  rw [eX11_feed 24]
  by_cases h0 : n < 0
  · simp only [am_run_s, bt, lf, am_in, am_ar, am_fit, am_ld, am_ct, Nat.reduceLT, Nat.reduceEqDiff, reduceIte, Nat.reduceAdd, Nat.reduceLeDiff, Nat.reduceSub, Bool.false_eq_true, if_true, if_false, ite_true, ite_false, List.length_cons, List.length_nil, Nat.zero_add, Nat.add_zero, and_true, true_and, true_or, or_true, and_self, Nat.le_refl, Nat.lt_irrefl, gI_sI, gL_sL, gQ_sQ, gI_sJ, gI_sL, gI_sQ, gL_sI, gL_sQ, gL_sJ, gQ_sI, gQ_sL, gQ_sJ, gN_sI, gN_sL, gN_sQ, gN_sJ, E_b2_0, E_cV_a, E_cV_b, E_c_0, E_getI_0, E_getR_0, E_inc_a, E_inc_b, E_jg_0, E_jmp_0, E_jn_0, E_jz_0, E_kk, E_ldI_a, E_ldI_b, E_ldR_a, E_ldR_b, E_rI_0, E_stI_0, am_cc, am_nl, am_ok, am_pop, am_rt, am_set, cC_11, cC_8, rR_1202, kX11_feed, h0, ↓s_refuse4]
    rw [eX12_feed 18]
    simp only [am_run_s, bt, lf, am_in, am_ar, am_fit, am_ld, am_ct, Nat.reduceLT, Nat.reduceEqDiff, reduceIte, Nat.reduceAdd, Nat.reduceLeDiff, Nat.reduceSub, Bool.false_eq_true, if_true, if_false, ite_true, ite_false, List.length_cons, List.length_nil, Nat.zero_add, Nat.add_zero, and_true, true_and, true_or, or_true, and_self, Nat.le_refl, Nat.lt_irrefl, gI_sI, gL_sL, gQ_sQ, gI_sJ, gI_sL, gI_sQ, gL_sI, gL_sQ, gL_sJ, gQ_sI, gQ_sL, gQ_sJ, gN_sI, gN_sL, gN_sQ, gN_sJ, E_b2_0, E_cV_a, E_cV_b, E_c_0, E_dup_0, E_dup_1, E_getI_0, E_getR_0, E_iast_0, E_inc_a, E_inc_b, E_jg_0, E_jmp_0, E_jn_0, E_kk, E_ldI_a, E_ldI_b, E_ldR_a, E_ldR_b, E_putI_0, E_rI_0, E_stI_0, aL_53, am_cc, am_nl, am_ok, am_pop, am_rt, am_set, cC_12, cC_53, rR_1329, kX12_feed, kX12_feed_0, kX12_feed_1, h0, ↓s_no4]
    exact ⟨⟨_, rfl, rfl⟩, h.refuse⟩
  by_cases h1 : 32 < n
  · simp only [am_run_s, bt, lf, am_in, am_ar, am_fit, am_ld, am_ct, Nat.reduceLT, Nat.reduceEqDiff, reduceIte, Nat.reduceAdd, Nat.reduceLeDiff, Nat.reduceSub, Bool.false_eq_true, if_true, if_false, ite_true, ite_false, List.length_cons, List.length_nil, Nat.zero_add, Nat.add_zero, and_true, true_and, true_or, or_true, and_self, Nat.le_refl, Nat.lt_irrefl, gI_sI, gL_sL, gQ_sQ, gI_sJ, gI_sL, gI_sQ, gL_sI, gL_sQ, gL_sJ, gQ_sI, gQ_sL, gQ_sJ, gN_sI, gN_sL, gN_sQ, gN_sJ, E_b2_0, E_cV_a, E_cV_b, E_c_0, E_getI_0, E_getR_0, E_inc_a, E_inc_b, E_jg_0, E_jmp_0, E_jn_0, E_jz_0, E_kk, E_ldI_a, E_ldI_b, E_ldR_a, E_ldR_b, E_rI_0, E_stI_0, am_cc, am_nl, am_ok, am_pop, am_rt, am_set, cC_11, cC_8, rR_1202, kX11_feed, h0, h1, ↓s_refuse7]
    rw [eX12_feed 18]
    simp only [am_run_s, bt, lf, am_in, am_ar, am_fit, am_ld, am_ct, Nat.reduceLT, Nat.reduceEqDiff, reduceIte, Nat.reduceAdd, Nat.reduceLeDiff, Nat.reduceSub, Bool.false_eq_true, if_true, if_false, ite_true, ite_false, List.length_cons, List.length_nil, Nat.zero_add, Nat.add_zero, and_true, true_and, true_or, or_true, and_self, Nat.le_refl, Nat.lt_irrefl, gI_sI, gL_sL, gQ_sQ, gI_sJ, gI_sL, gI_sQ, gL_sI, gL_sQ, gL_sJ, gQ_sI, gQ_sL, gQ_sJ, gN_sI, gN_sL, gN_sQ, gN_sJ, E_b2_0, E_cV_a, E_cV_b, E_c_0, E_dup_0, E_dup_1, E_getI_0, E_getR_0, E_iast_0, E_inc_a, E_inc_b, E_jg_0, E_jmp_0, E_jn_0, E_kk, E_ldI_a, E_ldI_b, E_ldR_a, E_ldR_b, E_putI_0, E_rI_0, E_stI_0, aL_53, am_cc, am_nl, am_ok, am_pop, am_rt, am_set, cC_12, cC_53, rR_1329, kX12_feed, kX12_feed_0, kX12_feed_1, h0, h1, ↓s_no7]
    exact ⟨⟨_, rfl, rfl⟩, h.refuse⟩
  obtain ⟨w, rfl, -, hw⟩ := lit_nI (lo := 0) (hi := 32) (a := 0) (b := 32) (by decide) (by decide) (by omega) ⟨h0, h1⟩
  obtain ⟨l, hl, ha, tx, tm⟩ := v_tap.to h.2.2.2.1
  have r1 := tp_room1 (L := l.length) (w := w) hl (by omega)
  have r2 := tp_room2 (L := l.length) (w := w) hl (by omega)
  by_cases hr : 2000 < l.length + w
  · simp only [am_run_s, bt, lf, am_in, am_ar, am_fit, am_ld, am_ct, Nat.reduceLT, Nat.reduceEqDiff, reduceIte, Nat.reduceAdd, Nat.reduceLeDiff, Nat.reduceSub, Bool.false_eq_true, if_true, if_false, ite_true, ite_false, List.length_cons, List.length_nil, Nat.zero_add, Nat.add_zero, and_true, true_and, true_or, or_true, and_self, Nat.le_refl, Nat.lt_irrefl, gI_sI, gL_sL, gQ_sQ, gI_sJ, gI_sL, gI_sQ, gL_sI, gL_sQ, gL_sJ, gQ_sI, gQ_sL, gQ_sJ, gN_sI, gN_sL, gN_sQ, gN_sJ, E_b2_0, E_cV_a, E_cV_b, E_c_0, E_getI_0, E_getR_0, E_inc_a, E_inc_b, E_jg_0, E_jmp_0, E_jn_0, E_jz_0, E_kk, E_ldI_a, E_ldI_b, E_ldR_a, E_ldR_b, E_rI_0, E_stI_0, am_cc, am_nl, am_ok, am_pop, am_rt, am_set, cC_11, cC_8, rR_1202, kX11_feed, h0, h1, ↓s_hasRoom, bI_z, tx.1, r1, hr, not_true_eq_false, not_false_eq_true, ↓s_refuse8]
    rw [eX12_feed 18]
    simp only [am_run_s, bt, lf, am_in, am_ar, am_fit, am_ld, am_ct, Nat.reduceLT, Nat.reduceEqDiff, reduceIte, Nat.reduceAdd, Nat.reduceLeDiff, Nat.reduceSub, Bool.false_eq_true, if_true, if_false, ite_true, ite_false, List.length_cons, List.length_nil, Nat.zero_add, Nat.add_zero, and_true, true_and, true_or, or_true, and_self, Nat.le_refl, Nat.lt_irrefl, gI_sI, gL_sL, gQ_sQ, gI_sJ, gI_sL, gI_sQ, gL_sI, gL_sQ, gL_sJ, gQ_sI, gQ_sL, gQ_sJ, gN_sI, gN_sL, gN_sQ, gN_sJ, E_b2_0, E_cV_a, E_cV_b, E_c_0, E_dup_0, E_dup_1, E_getI_0, E_getR_0, E_iast_0, E_inc_a, E_inc_b, E_jg_0, E_jmp_0, E_jn_0, E_kk, E_ldI_a, E_ldI_b, E_ldR_a, E_ldR_b, E_putI_0, E_rI_0, E_stI_0, aL_53, am_cc, am_nl, am_ok, am_pop, am_rt, am_set, cC_12, cC_53, rR_1329, kX12_feed, kX12_feed_0, kX12_feed_1, h0, h1, tm.1, r2, hr, ↓s_no8]
    exact ⟨⟨_, rfl, rfl⟩, h.refuse⟩
  · simp only [am_run_s, bt, lf, am_in, am_ar, am_fit, am_ld, am_ct, Nat.reduceLT, Nat.reduceEqDiff, reduceIte, Nat.reduceAdd, Nat.reduceLeDiff, Nat.reduceSub, Bool.false_eq_true, if_true, if_false, ite_true, ite_false, List.length_cons, List.length_nil, Nat.zero_add, Nat.add_zero, and_true, true_and, true_or, or_true, and_self, Nat.le_refl, Nat.lt_irrefl, gI_sI, gL_sL, gQ_sQ, gI_sJ, gI_sL, gI_sQ, gL_sI, gL_sQ, gL_sJ, gQ_sI, gQ_sL, gQ_sJ, gN_sI, gN_sL, gN_sQ, gN_sJ, E_b2_0, E_cV_a, E_cV_b, E_c_0, E_getI_0, E_getR_0, E_inc_a, E_inc_b, E_jg_0, E_jmp_0, E_jn_0, E_jz_0, E_kk, E_ldI_a, E_ldI_b, E_ldR_a, E_ldR_b, E_rI_0, E_stI_0, am_cc, am_nl, am_ok, am_pop, am_rt, am_set, cC_11, cC_8, rR_1202, kX11_feed, h0, h1, ↓s_hasRoom, bI_z, tx.1, r1, hr, not_true_eq_false, not_false_eq_true]
    refine l_feedX w σ l (by omega) tx (fun σ1 f1 t1 => ?_)
    have tm1 : TPM σ1 l := tm.fx f1 rfl rfl
    rw [eX12_feed 18]
    simp only [am_run_s, bt, lf, am_in, am_ar, am_fit, am_ld, am_ct, Nat.reduceLT, Nat.reduceEqDiff, reduceIte, Nat.reduceAdd, Nat.reduceLeDiff, Nat.reduceSub, Bool.false_eq_true, if_true, if_false, ite_true, ite_false, List.length_cons, List.length_nil, Nat.zero_add, Nat.add_zero, and_true, true_and, true_or, or_true, and_self, Nat.le_refl, Nat.lt_irrefl, gI_sI, gL_sL, gQ_sQ, gI_sJ, gI_sL, gI_sQ, gL_sI, gL_sQ, gL_sJ, gQ_sI, gQ_sL, gQ_sJ, gN_sI, gN_sL, gN_sQ, gN_sJ, E_b2_0, E_cV_a, E_cV_b, E_c_0, E_dup_0, E_dup_1, E_getI_0, E_getR_0, E_iast_0, E_inc_a, E_inc_b, E_jg_0, E_jmp_0, E_jn_0, E_kk, E_ldI_a, E_ldI_b, E_ldR_a, E_ldR_b, E_putI_0, E_rI_0, E_stI_0, aL_53, am_cc, am_nl, am_ok, am_pop, am_rt, am_set, cC_12, cC_53, rR_1329, kX12_feed, kX12_feed_0, kX12_feed_1, h0, h1, tm1.1, r2, hr]
    refine l_feedM w σ1 l (by omega) tm1 (fun σ2 f2 t2 => ?_)
    refine ⟨⟨_, rfl, rfl⟩, h.tp f1 f2 ?_ ?_ t1 t2⟩
    · rw [List.length_append, nbX_len]; omega
    · exact ha.app (is_b.nb _ (by omega)).ab
/-- the rest of a list -/
theorem drop_s {l : List Int32} {i : Nat} (hi : i < l.length) : l.getD i 0 :: l.drop (i + 1) = l.drop i := by
  rw [List.getD_eq_getElem?_getD, List.getElem?_eq_getElem hi, List.drop_eq_getElem_cons hi]
  rfl
theorem l_layX {x : Int32} {F : List Int32} {st : Nat} {sm : Int32} {Q : PO} (hF : F.length ≤ 160) : ∀ (n i : Nat) (σ : HS) (l : List Int32), i + n = F.length → l.length + n ≤ 2000 → TPX σ l → RB σ F st sm →
    (∀ σ', frm PTX σ σ' → TPX σ' (l ++ F.drop i) → Q (some (.inl (nI (l ++ F.drop i).length))) σ') →
    am_T (kX11_lay S1) MM Q 60 [some (.inr (.inr (some (11, 0)))), some (.inl x), some (.inl (nI i))] [] σ 0 0 := by
  intro n
  induction n with
  | zero =>
    intro i σ l hi hl hT hR hQ
    have e : l ++ F.drop i = l := by rw [List.drop_eq_nil_of_le (by omega), List.append_nil]
    rw [e] at hQ
    rw [hX11_lay 40]
    have h0 : ¬ nI i < nI F.length := nI_nlt (by omega) (by omega)
    simp only [am_run_s, bt, lf, am_in, am_ar, am_fit, am_ld, am_ct, Nat.reduceLT, Nat.reduceEqDiff, reduceIte, Nat.reduceAdd, Nat.reduceLeDiff, Nat.reduceSub, Bool.false_eq_true, if_true, if_false, ite_true, ite_false, List.length_cons, List.length_nil, Nat.zero_add, Nat.add_zero, and_true, true_and, true_or, or_true, and_self, Nat.le_refl, Nat.lt_irrefl, gI_sI, gL_sL, gQ_sQ, gI_sJ, gI_sL, gI_sQ, gL_sI, gL_sQ, gL_sJ, gQ_sI, gQ_sL, gQ_sJ, gN_sI, gN_sL, gN_sQ, gN_sJ, E_aald_0, E_cV_a, E_cV_b, E_c_0, E_getI_0, E_getR_0, E_inc_a, E_inc_b, E_jl_0, E_jmp_0, E_jz_0, E_kk, E_ldI_a, E_ldI_b, E_ldR_a, E_ldR_b, E_rI_0, E_stI_0, aL_91, am_cc, am_nl, am_ok, am_pop, am_rt, am_set, cC_1, cC_11, cC_6, cC_8, cC_91, rQ_91, rR_1200, rR_1201, rR_1202, rR_701, sN_91, kX11_lay, h0, hT.1, hR.1]
    exact hQ σ frm.rf hT
  | succ n ih =>
    intro i σ l hi hl hT hR hQ
    rw [hX11_lay 40]
    have h0 := nI_t (show i < F.length by omega) (by omega)
    simp only [am_run_s, bt, lf, am_in, am_ar, am_fit, am_ld, am_ct, Nat.reduceLT, Nat.reduceEqDiff, reduceIte, Nat.reduceAdd, Nat.reduceLeDiff, Nat.reduceSub, Bool.false_eq_true, if_true, if_false, ite_true, ite_false, List.length_cons, List.length_nil, Nat.zero_add, Nat.add_zero, and_true, true_and, true_or, or_true, and_self, Nat.le_refl, Nat.lt_irrefl, gI_sI, gL_sL, gQ_sQ, gI_sJ, gI_sL, gI_sQ, gL_sI, gL_sQ, gL_sJ, gQ_sI, gQ_sL, gQ_sJ, gN_sI, gN_sL, gN_sQ, gN_sJ, E_aald_0, E_cV_a, E_cV_b, E_c_0, E_getI_0, E_getR_0, E_inc_a, E_inc_b, E_jl_0, E_jmp_0, E_jz_0, E_kk, E_ldI_a, E_ldI_b, E_ldR_a, E_ldR_b, E_rI_0, E_stI_0, aL_91, am_cc, am_nl, am_ok, am_pop, am_rt, am_set, cC_1, cC_11, cC_6, cC_8, cC_91, rQ_91, rR_1200, rR_1201, rR_1202, rR_701, sN_91, kX11_lay, h0, hR.1, ↓s_bitAt_in (show i < F.length by omega) hF hR, ↓s_append _ l.length (show l.length < 2000 by omega) σ _ hT.1, nI_1]
    have f0 : frm PTX σ (sI (sI σ 31 l.length (F.getD i 0)) 901 0 (nI (l.length + 1))) := (frm.rf.si rfl).si rfl
    refine ih (i + 1) _ (l ++ [F.getD i 0]) (by omega) (by simp; omega) (hT.app _) ⟨by rw [f0.gi rfl]; exact hR.1, by rw [f0.gi rfl]; exact hR.2.1, by rw [f0.gi rfl]; exact hR.2.2.1, fun j hj => by rw [f0.gi rfl]; exact hR.2.2.2 j hj⟩ (fun σ' f1 t1 => ?_)
    have e : l ++ [F.getD i 0] ++ F.drop (i + 1) = l ++ F.drop i := by rw [List.append_assoc, List.singleton_append, drop_s (by omega)]
    rw [e] at t1 ⊢
    exact hQ σ' (f0.tr f1) t1
theorem l_layM {x : Int32} {F : List Int32} {st : Nat} {sm : Int32} {Q : PO} (hF : F.length ≤ 160) : ∀ (n i : Nat) (σ : HS) (l : List Int32), i + n = F.length → l.length + n ≤ 2000 → TPM σ l → RBM σ F st sm →
    (∀ σ', frm PTM σ σ' → TPM σ' (l ++ F.drop i) → Q (some (.inl (nI (l ++ F.drop i).length))) σ') →
    am_T (kX12_lay S1) MM Q 44 [some (.inr (.inr (some (12, 0)))), some (.inl x), some (.inl (nI i))] [] σ 0 0 := by
  intro n
  induction n with
  | zero =>
    intro i σ l hi hl hT hR hQ
    have e : l ++ F.drop i = l := by rw [List.drop_eq_nil_of_le (by omega), List.append_nil]
    rw [e] at hQ
    rw [hX12_lay 40]
    have h0 : ¬ nI i < nI F.length := nI_nlt (by omega) (by omega)
    simp only [am_run_s, bt, lf, am_in, am_ar, am_fit, am_ld, am_ct, Nat.reduceLT, Nat.reduceEqDiff, reduceIte, Nat.reduceAdd, Nat.reduceLeDiff, Nat.reduceSub, Bool.false_eq_true, if_true, if_false, ite_true, ite_false, List.length_cons, List.length_nil, Nat.zero_add, Nat.add_zero, and_true, true_and, true_or, or_true, and_self, Nat.le_refl, Nat.lt_irrefl, gI_sI, gL_sL, gQ_sQ, gI_sJ, gI_sL, gI_sQ, gL_sI, gL_sQ, gL_sJ, gQ_sI, gQ_sL, gQ_sJ, gN_sI, gN_sL, gN_sQ, gN_sJ, E_b2_0, E_cV_a, E_cV_b, E_c_0, E_dup_0, E_dup_1, E_getI_0, E_getR_0, E_iald_0, E_iast_0, E_inc_a, E_inc_b, E_jg_0, E_jl_0, E_jmp_0, E_jz_0, E_kk, E_ldI_a, E_ldI_b, E_ldR_a, E_ldR_b, E_putI_0, E_rI_0, E_stI_0, aL_52, aL_53, am_cc, am_nl, am_ok, am_pop, am_rt, am_set, cC_12, cC_52, cC_53, rR_1323, rR_1329, kX12_lay, h0, hT.1, hR.1]
    exact hQ σ frm.rf hT
  | succ n ih =>
    intro i σ l hi hl hT hR hQ
    rw [hX12_lay 40]
    have h0 := nI_t (show i < F.length by omega) (by omega)
    have h3 : vp_in (nI l.length) 2000 := vp_in_nI (by omega) (by omega)
    have h4 : (nI l.length).toNatClampNeg = l.length := nI_clamp (by omega)
    have h5 : vp_in (nI i) 240 := vp_in_nI (by omega) (by omega)
    have h6 : (nI i).toNatClampNeg = i := nI_clamp (by omega)
    simp only [am_run_s, bt, lf, am_in, am_ar, am_fit, am_ld, am_ct, Nat.reduceLT, Nat.reduceEqDiff, reduceIte, Nat.reduceAdd, Nat.reduceLeDiff, Nat.reduceSub, Bool.false_eq_true, if_true, if_false, ite_true, ite_false, List.length_cons, List.length_nil, Nat.zero_add, Nat.add_zero, and_true, true_and, true_or, or_true, and_self, Nat.le_refl, Nat.lt_irrefl, gI_sI, gL_sL, gQ_sQ, gI_sJ, gI_sL, gI_sQ, gL_sI, gL_sQ, gL_sJ, gQ_sI, gQ_sL, gQ_sJ, gN_sI, gN_sL, gN_sQ, gN_sJ, E_b2_0, E_cV_a, E_cV_b, E_c_0, E_dup_0, E_dup_1, E_getI_0, E_getR_0, E_iald_0, E_iast_0, E_inc_a, E_inc_b, E_jg_0, E_jl_0, E_jmp_0, E_jz_0, E_kk, E_ldI_a, E_ldI_b, E_ldR_a, E_ldR_b, E_putI_0, E_rI_0, E_stI_0, aL_52, aL_53, am_cc, am_nl, am_ok, am_pop, am_rt, am_set, cC_12, cC_52, cC_53, rR_1323, rR_1329, kX12_lay, h0, hR.1, hT.1, h3, h4, h5, h6, hR.2.2.2 i (show i < F.length by omega), nI_1]
    have f0 : frm PTM σ (sI (sI σ 53 l.length (F.getD i 0)) 1330 0 (nI (l.length + 1))) := (frm.rf.si rfl).si rfl
    refine ih (i + 1) _ (l ++ [F.getD i 0]) (by omega) (by simp; omega) (hT.app _) ⟨by rw [f0.gi rfl]; exact hR.1, by rw [f0.gi rfl]; exact hR.2.1, by rw [f0.gi rfl]; exact hR.2.2.1, fun j hj => by rw [f0.gi rfl]; exact hR.2.2.2 j hj⟩ (fun σ' f1 t1 => ?_)
    have e : l ++ [F.getD i 0] ++ F.drop (i + 1) = l ++ F.drop i := by rw [List.append_assoc, List.singleton_append, drop_s (by omega)]
    rw [e] at t1 ⊢
    exact hQ σ' (f0.tr f1) t1
theorem api_lay (x : Int32) : apiI 103 163 [.inl x] := by
  intro k σ hk h
  obtain ⟨hw1, hw2, hw⟩ := h.wc
  rw [eX11_lay 60]
  rcases ix x (n := gN σ 10) (by omega) with ⟨j, hj, rfl⟩ | hx
  · have h1 := nI_f (j := j) (by omega)
    have h2 := nI_t hj (by omega)
    have h3 : vp_in (nI j) 24 := vp_in_nI (by omega) (by omega)
    have h4 : (nI j).toNatClampNeg = j := nI_clamp (by omega)
    have hq := (h.2.1.1 j hj)
    obtain ⟨l, hl, ha, tx, tm⟩ := v_tap.to h.2.2.2.1
    have hf := h.fl hj
    have r1 := tp_room1 (L := l.length) (w := (FL σ j).length) hl (by omega)
    have r2 := tp_room2 (L := l.length) (w := (FL σ j).length) hl (by omega)
    simp only [am_run_s, bt, lf, am_in, am_ar, am_fit, am_ld, am_ct, Nat.reduceLT, Nat.reduceEqDiff, reduceIte, Nat.reduceAdd, Nat.reduceLeDiff, Nat.reduceSub, Bool.false_eq_true, if_true, if_false, ite_true, ite_false, List.length_cons, List.length_nil, Nat.zero_add, Nat.add_zero, and_true, true_and, true_or, or_true, and_self, Nat.le_refl, Nat.lt_irrefl, gI_sI, gL_sL, gQ_sQ, gI_sJ, gI_sL, gI_sQ, gL_sI, gL_sQ, gL_sJ, gQ_sI, gQ_sL, gQ_sJ, gN_sI, gN_sL, gN_sQ, gN_sJ, E_aald_0, E_cV_a, E_cV_b, E_c_0, E_getI_0, E_getR_0, E_inc_a, E_inc_b, E_jl_0, E_jmp_0, E_jz_0, E_kk, E_ldI_a, E_ldI_b, E_ldR_a, E_ldR_b, E_rI_0, E_stI_0, aL_91, am_cc, am_nl, am_ok, am_pop, am_rt, am_set, cC_1, cC_11, cC_6, cC_8, cC_91, rQ_91, rR_1200, rR_1201, rR_1202, rR_701, sN_91, kX11_lay, ↓s_hasWord, bI_z, hw1, h1, h2, h3, h4, hq.1, hj, not_true_eq_false, not_false_eq_true]
    refine d_build h hj (fun σ1 f1 b1 => ?_)
    have g := h.fx f1
    obtain ⟨-, hv2, -⟩ := g.wc
    have hg : gN σ1 10 = gN σ 10 := f1.gn 10
    have ef : FL σ1 j = FL σ j := by unfold FL; rw [f1.fl]
    have tx1 : TPX σ1 l := tx.fx f1 rfl rfl
    have tm1 : TPM σ1 l := tm.fx f1 rfl rfl
    by_cases hr : 2000 < l.length + (FL σ j).length
    · simp only [am_run_s, bt, lf, am_in, am_ar, am_fit, am_ld, am_ct, Nat.reduceLT, Nat.reduceEqDiff, reduceIte, Nat.reduceAdd, Nat.reduceLeDiff, Nat.reduceSub, Bool.false_eq_true, if_true, if_false, ite_true, ite_false, List.length_cons, List.length_nil, Nat.zero_add, Nat.add_zero, and_true, true_and, true_or, or_true, and_self, Nat.le_refl, Nat.lt_irrefl, gI_sI, gL_sL, gQ_sQ, gI_sJ, gI_sL, gI_sQ, gL_sI, gL_sQ, gL_sJ, gQ_sI, gQ_sL, gQ_sJ, gN_sI, gN_sL, gN_sQ, gN_sJ, E_aald_0, E_cV_a, E_cV_b, E_c_0, E_getI_0, E_getR_0, E_inc_a, E_inc_b, E_jl_0, E_jmp_0, E_jz_0, E_kk, E_ldI_a, E_ldI_b, E_ldR_a, E_ldR_b, E_rI_0, E_stI_0, aL_91, am_cc, am_nl, am_ok, am_pop, am_rt, am_set, cC_1, cC_11, cC_6, cC_8, cC_91, rQ_91, rR_1200, rR_1201, rR_1202, rR_701, sN_91, kX11_lay, ↓s_hasRoom, bI_z, tx1.1, b1.1, r1, hr, not_true_eq_false, not_false_eq_true, ↓s_refuse8]
      rw [eX12_lay 60]
      simp only [am_run_s, bt, lf, am_in, am_ar, am_fit, am_ld, am_ct, Nat.reduceLT, Nat.reduceEqDiff, reduceIte, Nat.reduceAdd, Nat.reduceLeDiff, Nat.reduceSub, Bool.false_eq_true, if_true, if_false, ite_true, ite_false, List.length_cons, List.length_nil, Nat.zero_add, Nat.add_zero, and_true, true_and, true_or, or_true, and_self, Nat.le_refl, Nat.lt_irrefl, gI_sI, gL_sL, gQ_sQ, gI_sJ, gI_sL, gI_sQ, gL_sI, gL_sQ, gL_sJ, gQ_sI, gQ_sL, gQ_sJ, gN_sI, gN_sL, gN_sQ, gN_sJ, E_b2_0, E_cV_a, E_cV_b, E_c_0, E_dup_0, E_dup_1, E_getI_0, E_getR_0, E_iald_0, E_iast_0, E_inc_a, E_inc_b, E_jg_0, E_jl_0, E_jmp_0, E_jz_0, E_kk, E_ldI_a, E_ldI_b, E_ldR_a, E_ldR_b, E_putI_0, E_rI_0, E_stI_0, aL_52, aL_53, am_cc, am_nl, am_ok, am_pop, am_rt, am_set, cC_12, cC_52, cC_53, rR_1323, rR_1329, kX12_lay, ↓s_isWord, bI_z, hv2, hg, h1, h2, not_true_eq_false, not_false_eq_true]
      have f2 : frm (fun f => Nat.beq f 32) σ1 (sI σ1 32 8 (gI σ1 32 8 + 1)) := frm.rf.si rfl
      have hk0 : Inv k σ1 := g
      obtain ⟨-, ⟨n, hn, hn8⟩, -⟩ := g.2.1.2.2.2.2.2.2 j (by omega)
      refine c_buildM (by omega) hn8 hn (fun σ3 f3 b3 => ?_)
      have e3 : (frLM (plM (gI σ1 38 j) (nI n) (gL σ1 85 j) n)) = FL σ j := by
        rw [← ef]
        unfold FL plW
        rw [hn, nI_clamp (by omega), fr_same _ _ _ hn8]
      have b4 := b3.1
      have tm3 : TPM σ3 l := (tm1.fx f2 rfl rfl).fx f3 rfl rfl
      rw [show (frLM (plM (gI (sI σ1 32 8 (gI σ1 32 8 + 1)) 38 j) (nI n) (gL (sI σ1 32 8 (gI σ1 32 8 + 1)) 85 j) n)) = FL σ j from e3] at b4
      simp only [am_run_s, bt, lf, am_in, am_ar, am_fit, am_ld, am_ct, Nat.reduceLT, Nat.reduceEqDiff, reduceIte, Nat.reduceAdd, Nat.reduceLeDiff, Nat.reduceSub, Bool.false_eq_true, if_true, if_false, ite_true, ite_false, List.length_cons, List.length_nil, Nat.zero_add, Nat.add_zero, and_true, true_and, true_or, or_true, and_self, Nat.le_refl, Nat.lt_irrefl, gI_sI, gL_sL, gQ_sQ, gI_sJ, gI_sL, gI_sQ, gL_sI, gL_sQ, gL_sJ, gQ_sI, gQ_sL, gQ_sJ, gN_sI, gN_sL, gN_sQ, gN_sJ, E_b2_0, E_cV_a, E_cV_b, E_c_0, E_dup_0, E_dup_1, E_getI_0, E_getR_0, E_iald_0, E_iast_0, E_inc_a, E_inc_b, E_jg_0, E_jl_0, E_jmp_0, E_jz_0, E_kk, E_ldI_a, E_ldI_b, E_ldR_a, E_ldR_b, E_putI_0, E_rI_0, E_stI_0, aL_52, aL_53, am_cc, am_nl, am_ok, am_pop, am_rt, am_set, cC_12, cC_52, cC_53, rR_1323, rR_1329, kX12_lay, tm3.1, b4, r2, hr, ↓s_no8]
      have e33 : gI σ3 33 8 = gI σ1 33 8 := f3.gi rfl
      rw [e33]
      obtain ⟨J, rfl⟩ := f3.el
      have := g.refuse (j := 8)
      exact ⟨⟨_, rfl, rfl⟩, this⟩
    · simp only [am_run_s, bt, lf, am_in, am_ar, am_fit, am_ld, am_ct, Nat.reduceLT, Nat.reduceEqDiff, reduceIte, Nat.reduceAdd, Nat.reduceLeDiff, Nat.reduceSub, Bool.false_eq_true, if_true, if_false, ite_true, ite_false, List.length_cons, List.length_nil, Nat.zero_add, Nat.add_zero, and_true, true_and, true_or, or_true, and_self, Nat.le_refl, Nat.lt_irrefl, gI_sI, gL_sL, gQ_sQ, gI_sJ, gI_sL, gI_sQ, gL_sI, gL_sQ, gL_sJ, gQ_sI, gQ_sL, gQ_sJ, gN_sI, gN_sL, gN_sQ, gN_sJ, E_aald_0, E_cV_a, E_cV_b, E_c_0, E_getI_0, E_getR_0, E_inc_a, E_inc_b, E_jl_0, E_jmp_0, E_jz_0, E_kk, E_ldI_a, E_ldI_b, E_ldR_a, E_ldR_b, E_rI_0, E_stI_0, aL_91, am_cc, am_nl, am_ok, am_pop, am_rt, am_set, cC_1, cC_11, cC_6, cC_8, cC_91, rQ_91, rR_1200, rR_1201, rR_1202, rR_701, sN_91, kX11_lay, ↓s_hasRoom, bI_z, tx1.1, b1.1, r1, hr, not_true_eq_false, not_false_eq_true]
      refine l_layX hf.1 (FL σ j).length 0 σ1 l (by omega) (by omega) tx1 b1 (fun σ2 f2 t2 => ?_)
      rw [List.drop_zero] at t2 ⊢
      have tm2 : TPM σ2 l := tm1.fx f2 rfl rfl
      have hv3 : gI σ2 1314 0 = nI (gN σ 10) := by rw [f2.gi rfl, hv2, hg]
      rw [eX12_lay 60]
      simp only [am_run_s, bt, lf, am_in, am_ar, am_fit, am_ld, am_ct, Nat.reduceLT, Nat.reduceEqDiff, reduceIte, Nat.reduceAdd, Nat.reduceLeDiff, Nat.reduceSub, Bool.false_eq_true, if_true, if_false, ite_true, ite_false, List.length_cons, List.length_nil, Nat.zero_add, Nat.add_zero, and_true, true_and, true_or, or_true, and_self, Nat.le_refl, Nat.lt_irrefl, gI_sI, gL_sL, gQ_sQ, gI_sJ, gI_sL, gI_sQ, gL_sI, gL_sQ, gL_sJ, gQ_sI, gQ_sL, gQ_sJ, gN_sI, gN_sL, gN_sQ, gN_sJ, E_b2_0, E_cV_a, E_cV_b, E_c_0, E_dup_0, E_dup_1, E_getI_0, E_getR_0, E_iald_0, E_iast_0, E_inc_a, E_inc_b, E_jg_0, E_jl_0, E_jmp_0, E_jz_0, E_kk, E_ldI_a, E_ldI_b, E_ldR_a, E_ldR_b, E_putI_0, E_rI_0, E_stI_0, aL_52, aL_53, am_cc, am_nl, am_ok, am_pop, am_rt, am_set, cC_12, cC_52, cC_53, rR_1323, rR_1329, kX12_lay, ↓s_isWord, bI_z, hv3, h1, h2, not_true_eq_false, not_false_eq_true]
      obtain ⟨-, ⟨n, hn, hn8⟩, -⟩ := g.2.1.2.2.2.2.2.2 j (by omega)
      have hn2 : gI σ2 40 j = nI n := by rw [f2.gi rfl]; exact hn
      refine c_buildM (by omega) hn8 hn2 (fun σ3 f3 b3 => ?_)
      have e3 : (frLM (plM (gI σ2 38 j) (nI n) (gL σ2 85 j) n)) = FL σ j := by
        rw [← ef, f2.gi rfl, f2.gl]
        unfold FL plW
        rw [hn, nI_clamp (by omega), fr_same _ _ _ hn8]
      rw [e3] at b3
      have tm3 : TPM σ3 l := tm2.fx f3 rfl rfl
      simp only [am_run_s, bt, lf, am_in, am_ar, am_fit, am_ld, am_ct, Nat.reduceLT, Nat.reduceEqDiff, reduceIte, Nat.reduceAdd, Nat.reduceLeDiff, Nat.reduceSub, Bool.false_eq_true, if_true, if_false, ite_true, ite_false, List.length_cons, List.length_nil, Nat.zero_add, Nat.add_zero, and_true, true_and, true_or, or_true, and_self, Nat.le_refl, Nat.lt_irrefl, gI_sI, gL_sL, gQ_sQ, gI_sJ, gI_sL, gI_sQ, gL_sI, gL_sQ, gL_sJ, gQ_sI, gQ_sL, gQ_sJ, gN_sI, gN_sL, gN_sQ, gN_sJ, E_b2_0, E_cV_a, E_cV_b, E_c_0, E_dup_0, E_dup_1, E_getI_0, E_getR_0, E_iald_0, E_iast_0, E_inc_a, E_inc_b, E_jg_0, E_jl_0, E_jmp_0, E_jz_0, E_kk, E_ldI_a, E_ldI_b, E_ldR_a, E_ldR_b, E_putI_0, E_rI_0, E_stI_0, aL_52, aL_53, am_cc, am_nl, am_ok, am_pop, am_rt, am_set, cC_12, cC_52, cC_53, rR_1323, rR_1329, kX12_lay, tm3.1, b3.1, r2, hr]
      refine l_layM hf.1 (FL σ j).length 0 σ3 l (by omega) (by omega) tm3 b3 (fun σ4 f4 t4 => ?_)
      rw [List.drop_zero] at t4 ⊢
      refine ⟨⟨_, rfl, rfl⟩, ?_⟩
      have g3 : Inv k (oI σ2 PFM σ3.2.1) → True := fun _ => trivial
      have tx4 : TPX σ4 (l ++ FL σ j) := (t2.fx f3 rfl rfl).fx f4 rfl rfl
      have hv : v_tap σ4 σ4 := v_tap.mk (by rw [List.length_append]; omega) (ha.app (FL_ab σ j)) tx4 t4
      obtain ⟨J2, rfl⟩ := f2.el
      obtain ⟨J3, rfl⟩ := f3.el
      obtain ⟨J4, rfl⟩ := f4.el
      exact ⟨g.1, g.2.1, g.2.2.1.up, hv, g.2.2.2.2⟩
  · simp only [am_run_s, bt, lf, am_in, am_ar, am_fit, am_ld, am_ct, Nat.reduceLT, Nat.reduceEqDiff, reduceIte, Nat.reduceAdd, Nat.reduceLeDiff, Nat.reduceSub, Bool.false_eq_true, if_true, if_false, ite_true, ite_false, List.length_cons, List.length_nil, Nat.zero_add, Nat.add_zero, and_true, true_and, true_or, or_true, and_self, Nat.le_refl, Nat.lt_irrefl, gI_sI, gL_sL, gQ_sQ, gI_sJ, gI_sL, gI_sQ, gL_sI, gL_sQ, gL_sJ, gQ_sI, gQ_sL, gQ_sJ, gN_sI, gN_sL, gN_sQ, gN_sJ, E_aald_0, E_cV_a, E_cV_b, E_c_0, E_getI_0, E_getR_0, E_inc_a, E_inc_b, E_jl_0, E_jmp_0, E_jz_0, E_kk, E_ldI_a, E_ldI_b, E_ldR_a, E_ldR_b, E_rI_0, E_stI_0, aL_91, am_cc, am_nl, am_ok, am_pop, am_rt, am_set, cC_1, cC_11, cC_6, cC_8, cC_91, rQ_91, rR_1200, rR_1201, rR_1202, rR_701, sN_91, kX11_lay, ↓s_hasWord, bI_z, hw1, hx, not_false_eq_true, ↓s_refuse3]
    rw [eX12_lay 60]
    simp only [am_run_s, bt, lf, am_in, am_ar, am_fit, am_ld, am_ct, Nat.reduceLT, Nat.reduceEqDiff, reduceIte, Nat.reduceAdd, Nat.reduceLeDiff, Nat.reduceSub, Bool.false_eq_true, if_true, if_false, ite_true, ite_false, List.length_cons, List.length_nil, Nat.zero_add, Nat.add_zero, and_true, true_and, true_or, or_true, and_self, Nat.le_refl, Nat.lt_irrefl, gI_sI, gL_sL, gQ_sQ, gI_sJ, gI_sL, gI_sQ, gL_sI, gL_sQ, gL_sJ, gQ_sI, gQ_sL, gQ_sJ, gN_sI, gN_sL, gN_sQ, gN_sJ, E_b2_0, E_cV_a, E_cV_b, E_c_0, E_dup_0, E_dup_1, E_getI_0, E_getR_0, E_iald_0, E_iast_0, E_inc_a, E_inc_b, E_jg_0, E_jl_0, E_jmp_0, E_jz_0, E_kk, E_ldI_a, E_ldI_b, E_ldR_a, E_ldR_b, E_putI_0, E_rI_0, E_stI_0, aL_52, aL_53, am_cc, am_nl, am_ok, am_pop, am_rt, am_set, cC_12, cC_52, cC_53, rR_1323, rR_1329, kX12_lay, ↓s_isWord, bI_z, hw2, gN_sI, gI_sI, Nat.reduceEqDiff, reduceIte, hx, not_false_eq_true, ↓s_no3]
    exact ⟨⟨_, rfl, rfl⟩, h.refuse⟩
