/-! ===== frames: the reference's side ===== -/
def PFM (f : Nat) : Bool := (Nat.ble 1324 f && Nat.ble f 1328) || Nat.beq f 52
theorem Inv.fm {k : Nat} {σ σ' : HS} (h : Inv k σ) (hf : frm PFM σ σ') : Inv k σ' := by
  obtain ⟨J, rfl⟩ := hf.el
  exact h
def RFM (σ : HS) (s : FS) : Prop := gI σ 1324 0 = nI s.1.length ∧ gI σ 1326 0 = nI s.2.1 ∧ gI σ 1327 0 = nI s.2.2.1 ∧ gI σ 1328 0 = s.2.2.2 ∧ ∀ j, j < s.1.length → gI σ 52 j = s.1.getD j 0
def crcM (s b : Int32) : Int32 := if (((s >>> (14 &&& 31)) &&& 1) ^^^ b) = 1 then ((s <<< (1 &&& 31)) &&& 32767) ^^^ 17817 else (s <<< (1 &&& 31)) &&& 32767
theorem s_summed (s b : Int32) (σ : HS) (Q : PO) : MM 152 [.inl s, .inl b] σ Q ↔ Q (some (.inl (crcM s b))) σ := by
  rw [eX12_summed 60]
  simp only [am_run_s, bt, lf, am_in, am_ar, am_fit, am_ld, am_ct, Nat.reduceLT, Nat.reduceEqDiff, reduceIte, Nat.reduceAdd, Nat.reduceLeDiff, Nat.reduceSub, Bool.false_eq_true, if_true, if_false, ite_true, ite_false, List.length_cons, List.length_nil, Nat.zero_add, Nat.add_zero, and_true, true_and, true_or, or_true, and_self, Nat.le_refl, Nat.lt_irrefl, gI_sI, gL_sL, gQ_sQ, gI_sJ, gI_sL, gI_sQ, gL_sI, gL_sQ, gL_sJ, gQ_sI, gQ_sL, gQ_sJ, gN_sI, gN_sL, gN_sQ, gN_sJ, E_b2_0, E_c_0, E_je_0, E_jmp_0, E_ldI_a, E_ldI_b, E_rI_0, E_stI_0, am_nl, am_ok, am_set, kX12_summed]
  unfold crcM
  by_cases h1 : (((s >>> (14 &&& 31)) &&& 1) ^^^ b) = 1 <;> simp [h1]
set_option maxRecDepth 8000 in
theorem c_writes {σ : HS} {s : FS} {b : Int32} {Q : PO} (hl : s.1.length + 2 ≤ 240) (hal : s.2.2.1 ≤ 4) (hR : RFM σ s) (hQ : ∀ σ', frm PFM σ σ' → RFM σ' (fst1 b s) → gI σ' 1325 0 = gI σ 1325 0 → Q none σ') : MM 151 [.inr (.inr (some (12, 0))), .inl b] σ Q := by
  obtain ⟨l, st, al, la⟩ := s
  obtain ⟨r1, r2, r3, r4, r5⟩ := hR
  dsimp only at hl hal r1 r2 r3 r4 r5
  rw [eX12_writes 100]
  have e5 : (5 : Int32) = nI 5 := by decide
  have v1 : vp_in (nI l.length) 240 := vp_in_nI (by omega) (by omega)
  have w1 : (nI l.length).toNatClampNeg = l.length := nI_clamp (by omega)
  have v2 : vp_in (nI (l.length + 1)) 240 := vp_in_nI (by omega) (by omega)
  have w2 : (nI (l.length + 1)).toNatClampNeg = l.length + 1 := nI_clamp (by omega)
  have h15 : (1 : Int32) < 5 := by decide
  by_cases e : b = la
  · by_cases q : al + 1 = 5
    · have hA : ¬ nI (al + 1) < 5 := by rw [q, e5]; decide
      simp only [am_run_s, bt, lf, am_in, am_ar, am_fit, am_ld, am_ct, Nat.reduceLT, Nat.reduceEqDiff, reduceIte, Nat.reduceAdd, Nat.reduceLeDiff, Nat.reduceSub, Bool.false_eq_true, if_true, if_false, ite_true, ite_false, List.length_cons, List.length_nil, Nat.zero_add, Nat.add_zero, and_true, true_and, true_or, or_true, and_self, Nat.le_refl, Nat.lt_irrefl, gI_sI, gL_sL, gQ_sQ, gI_sJ, gI_sL, gI_sQ, gL_sI, gL_sQ, gL_sJ, gQ_sI, gQ_sL, gQ_sJ, gN_sI, gN_sL, gN_sQ, gN_sJ, E_b2_0, E_c_0, E_dup_0, E_dup_1, E_getI_0, E_getR_0, E_iast_0, E_je_0, E_jl_0, E_jmp_0, E_ldI_a, E_ldI_b, E_ldR_a, E_ldR_b, E_putI_0, E_rV_0, aL_52, cC_12, cC_52, rR_1323, kX12_writes, kX12_writes_0, kX12_writes_1, r1, r2, r3, r4, if_pos e, nI_1, hA, v1, w1, v2, w2]
      refine hQ _ ?_ ?_ ?_
      · exact (((((((((frm.rf.si rfl).si rfl).si rfl).si rfl).si rfl).si rfl).si rfl).si rfl).si rfl)
      · unfold fst1
        rw [if_pos (by rw [if_pos e]; exact q)]
        refine ⟨?_, ?_, ?_, ?_, fun j hj => ?_⟩
        · simp only [gI_sI, gL_sL, gQ_sQ, gI_sJ, gI_sL, gI_sQ, gL_sI, gL_sQ, gL_sJ, gQ_sI, gQ_sL, gQ_sJ, gN_sI, gN_sL, gN_sQ, gN_sJ, Nat.reduceLT, Nat.reduceEqDiff, reduceIte, Nat.reduceAdd, Nat.reduceLeDiff, Nat.reduceSub, Bool.false_eq_true, if_true, if_false, ite_true, ite_false, List.length_cons, List.length_nil, Nat.zero_add, Nat.add_zero, and_true, true_and, true_or, or_true, and_self, Nat.le_refl, Nat.lt_irrefl, List.length_append]
        · simp only [gI_sI, gL_sL, gQ_sQ, gI_sJ, gI_sL, gI_sQ, gL_sI, gL_sQ, gL_sJ, gQ_sI, gQ_sL, gQ_sJ, gN_sI, gN_sL, gN_sQ, gN_sJ, Nat.reduceLT, Nat.reduceEqDiff, reduceIte, Nat.reduceAdd, Nat.reduceLeDiff, Nat.reduceSub, Bool.false_eq_true, if_true, if_false, ite_true, ite_false, List.length_cons, List.length_nil, Nat.zero_add, Nat.add_zero, and_true, true_and, true_or, or_true, and_self, Nat.le_refl, Nat.lt_irrefl, r2, nI_1]
        · simp only [gI_sI, gL_sL, gQ_sQ, gI_sJ, gI_sL, gI_sQ, gL_sI, gL_sQ, gL_sJ, gQ_sI, gQ_sL, gQ_sJ, gN_sI, gN_sL, gN_sQ, gN_sJ, Nat.reduceLT, Nat.reduceEqDiff, reduceIte, Nat.reduceAdd, Nat.reduceLeDiff, Nat.reduceSub, Bool.false_eq_true, if_true, if_false, ite_true, ite_false, List.length_cons, List.length_nil, Nat.zero_add, Nat.add_zero, and_true, true_and, true_or, or_true, and_self, Nat.le_refl, Nat.lt_irrefl]; exact one'
        · simp only [gI_sI, gL_sL, gQ_sQ, gI_sJ, gI_sL, gI_sQ, gL_sI, gL_sQ, gL_sJ, gQ_sI, gQ_sL, gQ_sJ, gN_sI, gN_sL, gN_sQ, gN_sJ, Nat.reduceLT, Nat.reduceEqDiff, reduceIte, Nat.reduceAdd, Nat.reduceLeDiff, Nat.reduceSub, Bool.false_eq_true, if_true, if_false, ite_true, ite_false, List.length_cons, List.length_nil, Nat.zero_add, Nat.add_zero, and_true, true_and, true_or, or_true, and_self, Nat.le_refl, Nat.lt_irrefl]
        · simp only [List.length_append, List.length_cons, List.length_nil] at hj
          simp only [gI_sI, gL_sL, gQ_sQ, gI_sJ, gI_sL, gI_sQ, gL_sI, gL_sQ, gL_sJ, gQ_sI, gQ_sL, gQ_sJ, gN_sI, gN_sL, gN_sQ, gN_sJ, Nat.reduceLT, Nat.reduceEqDiff, reduceIte, Nat.reduceAdd, Nat.reduceLeDiff, Nat.reduceSub, Bool.false_eq_true, if_true, if_false, ite_true, ite_false, List.length_cons, List.length_nil, Nat.zero_add, Nat.add_zero, and_true, true_and, true_or, or_true, and_self, Nat.le_refl, Nat.lt_irrefl]
          rw [show l ++ [b, 1 - b] = (l ++ [b]) ++ [1 - b] by simp, getD_app (by simp; omega)]
          simp only [List.length_append, List.length_cons, List.length_nil]
          by_cases e1 : j = l.length + 1
          · rw [if_pos e1, if_pos e1]
          · rw [if_neg e1, if_neg e1, getD_app (by omega)]
            by_cases e2 : j = l.length
            · rw [if_pos e2, if_pos e2]
            · rw [if_neg e2, if_neg e2]
              exact r5 j (by omega)
      · simp only [gI_sI, gL_sL, gQ_sQ, gI_sJ, gI_sL, gI_sQ, gL_sI, gL_sQ, gL_sJ, gQ_sI, gQ_sL, gQ_sJ, gN_sI, gN_sL, gN_sQ, gN_sJ, Nat.reduceLT, Nat.reduceEqDiff, reduceIte, Nat.reduceAdd, Nat.reduceLeDiff, Nat.reduceSub, Bool.false_eq_true, if_true, if_false, ite_true, ite_false, List.length_cons, List.length_nil, Nat.zero_add, Nat.add_zero, and_true, true_and, true_or, or_true, and_self, Nat.le_refl, Nat.lt_irrefl]
    · have hA : nI (al + 1) < 5 := by rw [e5]; exact nI_lt (by omega) (by omega)
      simp only [am_run_s, bt, lf, am_in, am_ar, am_fit, am_ld, am_ct, Nat.reduceLT, Nat.reduceEqDiff, reduceIte, Nat.reduceAdd, Nat.reduceLeDiff, Nat.reduceSub, Bool.false_eq_true, if_true, if_false, ite_true, ite_false, List.length_cons, List.length_nil, Nat.zero_add, Nat.add_zero, and_true, true_and, true_or, or_true, and_self, Nat.le_refl, Nat.lt_irrefl, gI_sI, gL_sL, gQ_sQ, gI_sJ, gI_sL, gI_sQ, gL_sI, gL_sQ, gL_sJ, gQ_sI, gQ_sL, gQ_sJ, gN_sI, gN_sL, gN_sQ, gN_sJ, E_b2_0, E_c_0, E_dup_0, E_dup_1, E_getI_0, E_getR_0, E_iast_0, E_je_0, E_jl_0, E_jmp_0, E_ldI_a, E_ldI_b, E_ldR_a, E_ldR_b, E_putI_0, E_rV_0, aL_52, cC_12, cC_52, rR_1323, kX12_writes, kX12_writes_0, kX12_writes_1, r1, r2, r3, r4, if_pos e, nI_1, hA, v1, w1]
      refine hQ _ ?_ ?_ ?_
      · exact ((((frm.rf.si rfl).si rfl).si rfl).si rfl)
      · unfold fst1
        rw [if_neg (by rw [if_pos e]; exact q), if_pos e]
        refine ⟨?_, ?_, ?_, ?_, fun j hj => ?_⟩
        · simp only [gI_sI, gL_sL, gQ_sQ, gI_sJ, gI_sL, gI_sQ, gL_sI, gL_sQ, gL_sJ, gQ_sI, gQ_sL, gQ_sJ, gN_sI, gN_sL, gN_sQ, gN_sJ, Nat.reduceLT, Nat.reduceEqDiff, reduceIte, Nat.reduceAdd, Nat.reduceLeDiff, Nat.reduceSub, Bool.false_eq_true, if_true, if_false, ite_true, ite_false, List.length_cons, List.length_nil, Nat.zero_add, Nat.add_zero, and_true, true_and, true_or, or_true, and_self, Nat.le_refl, Nat.lt_irrefl, List.length_append]
        · simp only [gI_sI, gL_sL, gQ_sQ, gI_sJ, gI_sL, gI_sQ, gL_sI, gL_sQ, gL_sJ, gQ_sI, gQ_sL, gQ_sJ, gN_sI, gN_sL, gN_sQ, gN_sJ, Nat.reduceLT, Nat.reduceEqDiff, reduceIte, Nat.reduceAdd, Nat.reduceLeDiff, Nat.reduceSub, Bool.false_eq_true, if_true, if_false, ite_true, ite_false, List.length_cons, List.length_nil, Nat.zero_add, Nat.add_zero, and_true, true_and, true_or, or_true, and_self, Nat.le_refl, Nat.lt_irrefl, r2]
        · simp only [gI_sI, gL_sL, gQ_sQ, gI_sJ, gI_sL, gI_sQ, gL_sI, gL_sQ, gL_sJ, gQ_sI, gQ_sL, gQ_sJ, gN_sI, gN_sL, gN_sQ, gN_sJ, Nat.reduceLT, Nat.reduceEqDiff, reduceIte, Nat.reduceAdd, Nat.reduceLeDiff, Nat.reduceSub, Bool.false_eq_true, if_true, if_false, ite_true, ite_false, List.length_cons, List.length_nil, Nat.zero_add, Nat.add_zero, and_true, true_and, true_or, or_true, and_self, Nat.le_refl, Nat.lt_irrefl]
        · simp only [gI_sI, gL_sL, gQ_sQ, gI_sJ, gI_sL, gI_sQ, gL_sI, gL_sQ, gL_sJ, gQ_sI, gQ_sL, gQ_sJ, gN_sI, gN_sL, gN_sQ, gN_sJ, Nat.reduceLT, Nat.reduceEqDiff, reduceIte, Nat.reduceAdd, Nat.reduceLeDiff, Nat.reduceSub, Bool.false_eq_true, if_true, if_false, ite_true, ite_false, List.length_cons, List.length_nil, Nat.zero_add, Nat.add_zero, and_true, true_and, true_or, or_true, and_self, Nat.le_refl, Nat.lt_irrefl]
        · simp only [List.length_append, List.length_cons, List.length_nil] at hj
          simp only [gI_sI, gL_sL, gQ_sQ, gI_sJ, gI_sL, gI_sQ, gL_sI, gL_sQ, gL_sJ, gQ_sI, gQ_sL, gQ_sJ, gN_sI, gN_sL, gN_sQ, gN_sJ, Nat.reduceLT, Nat.reduceEqDiff, reduceIte, Nat.reduceAdd, Nat.reduceLeDiff, Nat.reduceSub, Bool.false_eq_true, if_true, if_false, ite_true, ite_false, List.length_cons, List.length_nil, Nat.zero_add, Nat.add_zero, and_true, true_and, true_or, or_true, and_self, Nat.le_refl, Nat.lt_irrefl]
          rw [getD_app (by omega)]
          by_cases e2 : j = l.length
          · rw [if_pos e2, if_pos e2]
          · rw [if_neg e2, if_neg e2]
            exact r5 j (by omega)
      · simp only [gI_sI, gL_sL, gQ_sQ, gI_sJ, gI_sL, gI_sQ, gL_sI, gL_sQ, gL_sJ, gQ_sI, gQ_sL, gQ_sJ, gN_sI, gN_sL, gN_sQ, gN_sJ, Nat.reduceLT, Nat.reduceEqDiff, reduceIte, Nat.reduceAdd, Nat.reduceLeDiff, Nat.reduceSub, Bool.false_eq_true, if_true, if_false, ite_true, ite_false, List.length_cons, List.length_nil, Nat.zero_add, Nat.add_zero, and_true, true_and, true_or, or_true, and_self, Nat.le_refl, Nat.lt_irrefl]
  · simp only [am_run_s, bt, lf, am_in, am_ar, am_fit, am_ld, am_ct, Nat.reduceLT, Nat.reduceEqDiff, reduceIte, Nat.reduceAdd, Nat.reduceLeDiff, Nat.reduceSub, Bool.false_eq_true, if_true, if_false, ite_true, ite_false, List.length_cons, List.length_nil, Nat.zero_add, Nat.add_zero, and_true, true_and, true_or, or_true, and_self, Nat.le_refl, Nat.lt_irrefl, gI_sI, gL_sL, gQ_sQ, gI_sJ, gI_sL, gI_sQ, gL_sI, gL_sQ, gL_sJ, gQ_sI, gQ_sL, gQ_sJ, gN_sI, gN_sL, gN_sQ, gN_sJ, E_b2_0, E_c_0, E_dup_0, E_dup_1, E_getI_0, E_getR_0, E_iast_0, E_je_0, E_jl_0, E_jmp_0, E_ldI_a, E_ldI_b, E_ldR_a, E_ldR_b, E_putI_0, E_rV_0, aL_52, cC_12, cC_52, rR_1323, kX12_writes, kX12_writes_0, kX12_writes_1, r1, r2, r3, r4, if_neg e, nI_1, h15, v1, w1]
    refine hQ _ ?_ ?_ ?_
    · exact ((((frm.rf.si rfl).si rfl).si rfl).si rfl)
    · unfold fst1
      rw [if_neg (by rw [if_neg e]; decide), if_neg e]
      refine ⟨?_, ?_, ?_, ?_, fun j hj => ?_⟩
      · simp only [gI_sI, gL_sL, gQ_sQ, gI_sJ, gI_sL, gI_sQ, gL_sI, gL_sQ, gL_sJ, gQ_sI, gQ_sL, gQ_sJ, gN_sI, gN_sL, gN_sQ, gN_sJ, Nat.reduceLT, Nat.reduceEqDiff, reduceIte, Nat.reduceAdd, Nat.reduceLeDiff, Nat.reduceSub, Bool.false_eq_true, if_true, if_false, ite_true, ite_false, List.length_cons, List.length_nil, Nat.zero_add, Nat.add_zero, and_true, true_and, true_or, or_true, and_self, Nat.le_refl, Nat.lt_irrefl, List.length_append]
      · simp only [gI_sI, gL_sL, gQ_sQ, gI_sJ, gI_sL, gI_sQ, gL_sI, gL_sQ, gL_sJ, gQ_sI, gQ_sL, gQ_sJ, gN_sI, gN_sL, gN_sQ, gN_sJ, Nat.reduceLT, Nat.reduceEqDiff, reduceIte, Nat.reduceAdd, Nat.reduceLeDiff, Nat.reduceSub, Bool.false_eq_true, if_true, if_false, ite_true, ite_false, List.length_cons, List.length_nil, Nat.zero_add, Nat.add_zero, and_true, true_and, true_or, or_true, and_self, Nat.le_refl, Nat.lt_irrefl, r2]
      · simp only [gI_sI, gL_sL, gQ_sQ, gI_sJ, gI_sL, gI_sQ, gL_sI, gL_sQ, gL_sJ, gQ_sI, gQ_sL, gQ_sJ, gN_sI, gN_sL, gN_sQ, gN_sJ, Nat.reduceLT, Nat.reduceEqDiff, reduceIte, Nat.reduceAdd, Nat.reduceLeDiff, Nat.reduceSub, Bool.false_eq_true, if_true, if_false, ite_true, ite_false, List.length_cons, List.length_nil, Nat.zero_add, Nat.add_zero, and_true, true_and, true_or, or_true, and_self, Nat.le_refl, Nat.lt_irrefl]; exact one'
      · simp only [gI_sI, gL_sL, gQ_sQ, gI_sJ, gI_sL, gI_sQ, gL_sI, gL_sQ, gL_sJ, gQ_sI, gQ_sL, gQ_sJ, gN_sI, gN_sL, gN_sQ, gN_sJ, Nat.reduceLT, Nat.reduceEqDiff, reduceIte, Nat.reduceAdd, Nat.reduceLeDiff, Nat.reduceSub, Bool.false_eq_true, if_true, if_false, ite_true, ite_false, List.length_cons, List.length_nil, Nat.zero_add, Nat.add_zero, and_true, true_and, true_or, or_true, and_self, Nat.le_refl, Nat.lt_irrefl]
      · simp only [List.length_append, List.length_cons, List.length_nil] at hj
        simp only [gI_sI, gL_sL, gQ_sQ, gI_sJ, gI_sL, gI_sQ, gL_sI, gL_sQ, gL_sJ, gQ_sI, gQ_sL, gQ_sJ, gN_sI, gN_sL, gN_sQ, gN_sJ, Nat.reduceLT, Nat.reduceEqDiff, reduceIte, Nat.reduceAdd, Nat.reduceLeDiff, Nat.reduceSub, Bool.false_eq_true, if_true, if_false, ite_true, ite_false, List.length_cons, List.length_nil, Nat.zero_add, Nat.add_zero, and_true, true_and, true_or, or_true, and_self, Nat.le_refl, Nat.lt_irrefl]
        rw [getD_app (by omega)]
        by_cases e2 : j = l.length
        · rw [if_pos e2, if_pos e2]
        · rw [if_neg e2, if_neg e2]
          exact r5 j (by omega)
    · simp only [gI_sI, gL_sL, gQ_sQ, gI_sJ, gI_sL, gI_sQ, gL_sI, gL_sQ, gL_sJ, gQ_sI, gQ_sL, gQ_sJ, gN_sI, gN_sL, gN_sQ, gN_sJ, Nat.reduceLT, Nat.reduceEqDiff, reduceIte, Nat.reduceAdd, Nat.reduceLeDiff, Nat.reduceSub, Bool.false_eq_true, if_true, if_false, ite_true, ite_false, List.length_cons, List.length_nil, Nat.zero_add, Nat.add_zero, and_true, true_and, true_or, or_true, and_self, Nat.le_refl, Nat.lt_irrefl]
def bM (v : Int64) (i : Nat) : Int32 := ((v >>> ((nI i).toInt64 &&& 63)) &&& 1).toInt32
def nbM (v : Int64) : Nat → List Int32
  | 0 => []
  | w + 1 => bM v w :: nbM v w
theorem nbM_len (v : Int64) : ∀ w, (nbM v w).length = w
  | 0 => rfl
  | w + 1 => by simp [nbM, nbM_len v w]
theorem l_plain {v : Int64} {wd : Int32} {Q : PO} : ∀ (w p : Nat) (o : Option AV) (σ : HS) (s : FS) (sm : Int32), FOK p s → p + w ≤ 120 → RFM σ s → gI σ 1325 0 = sm →
    (∀ σ', frm PFM σ σ' → RFM σ' (fstL (nbM v w) s) → gI σ' 1325 0 = crcL crcM (nbM v w) sm → Q none σ') →
    am_T (kX12_plain S1) MM Q 5 [some (.inr (.inr (some (12, 0)))), some (.inr (.inl v)), none, some (.inl wd), some (.inl (nI w - 1)), o] [] σ 0 0 := by
  intro w
  induction w with
  | zero =>
    intro p o σ s sm hF hp hR hs hQ
    rw [hX12_plain 40]
    have h0 : nI 0 - 1 < 0 := by decide
    simp only [am_run_s, bt, lf, am_in, am_ar, am_fit, am_ld, am_ct, Nat.reduceLT, Nat.reduceEqDiff, reduceIte, Nat.reduceAdd, Nat.reduceLeDiff, Nat.reduceSub, Bool.false_eq_true, if_true, if_false, ite_true, ite_false, List.length_cons, List.length_nil, Nat.zero_add, Nat.add_zero, and_true, true_and, true_or, or_true, and_self, Nat.le_refl, Nat.lt_irrefl, gI_sI, gL_sL, gQ_sQ, gI_sJ, gI_sL, gI_sQ, gL_sI, gL_sQ, gL_sJ, gQ_sI, gQ_sL, gQ_sJ, gN_sI, gN_sL, gN_sQ, gN_sJ, E_b2_0, E_cS_a, E_cS_b, E_cV_a, E_cV_b, E_c_0, E_getI_0, E_inc_a, E_inc_b, E_jmp_0, E_jn_0, E_kk, E_l2_0, E_l2i_0, E_ldI_a, E_ldI_b, E_ldL_a, E_ldL_b, E_ldR_a, E_ldR_b, E_lsh_0, E_putI_0, E_rV_0, E_stI_0, am_cc, am_nl, am_ok, am_pop, am_rt, am_set, cC_12, kX12_plain, h0]
    exact hQ σ frm.rf hR hs
  | succ w ih =>
    intro p o σ s sm hF hp hR hs hQ
    rw [hX12_plain 40, nI_m1]
    have h0 := nI_f (j := w) (by omega)
    simp only [am_run_s, bt, lf, am_in, am_ar, am_fit, am_ld, am_ct, Nat.reduceLT, Nat.reduceEqDiff, reduceIte, Nat.reduceAdd, Nat.reduceLeDiff, Nat.reduceSub, Bool.false_eq_true, if_true, if_false, ite_true, ite_false, List.length_cons, List.length_nil, Nat.zero_add, Nat.add_zero, and_true, true_and, true_or, or_true, and_self, Nat.le_refl, Nat.lt_irrefl, gI_sI, gL_sL, gQ_sQ, gI_sJ, gI_sL, gI_sQ, gL_sI, gL_sQ, gL_sJ, gQ_sI, gQ_sL, gQ_sJ, gN_sI, gN_sL, gN_sQ, gN_sJ, E_b2_0, E_cS_a, E_cS_b, E_cV_a, E_cV_b, E_c_0, E_getI_0, E_inc_a, E_inc_b, E_jmp_0, E_jn_0, E_kk, E_l2_0, E_l2i_0, E_ldI_a, E_ldI_b, E_ldL_a, E_ldL_b, E_ldR_a, E_ldR_b, E_lsh_0, E_putI_0, E_rV_0, E_stI_0, am_cc, am_nl, am_ok, am_pop, am_rt, am_set, cC_12, kX12_plain, h0, ↓s_summed, hs]
    have f0 : frm PFM σ (sI σ 1325 0 (crcM sm (bM v w))) := frm.rf.si rfl
    refine c_writes (s := s) (by have := hF.1; have := hF.2.1; omega) (by have := hF.2.2; omega) ?_ (fun σ' f1 r1 s1 => ?_)
    · obtain ⟨q1, q2, q3, q4, q5⟩ := hR
      exact ⟨by simp only [gI_sI, gL_sL, gQ_sQ, gI_sJ, gI_sL, gI_sQ, gL_sI, gL_sQ, gL_sJ, gQ_sI, gQ_sL, gQ_sJ, gN_sI, gN_sL, gN_sQ, gN_sJ, Nat.reduceLT, Nat.reduceEqDiff, reduceIte, Nat.reduceAdd, Nat.reduceLeDiff, Nat.reduceSub, Bool.false_eq_true, if_true, if_false, ite_true, ite_false, List.length_cons, List.length_nil, Nat.zero_add, Nat.add_zero, and_true, true_and, true_or, or_true, and_self, Nat.le_refl, Nat.lt_irrefl, q1], by simp only [gI_sI, gL_sL, gQ_sQ, gI_sJ, gI_sL, gI_sQ, gL_sI, gL_sQ, gL_sJ, gQ_sI, gQ_sL, gQ_sJ, gN_sI, gN_sL, gN_sQ, gN_sJ, Nat.reduceLT, Nat.reduceEqDiff, reduceIte, Nat.reduceAdd, Nat.reduceLeDiff, Nat.reduceSub, Bool.false_eq_true, if_true, if_false, ite_true, ite_false, List.length_cons, List.length_nil, Nat.zero_add, Nat.add_zero, and_true, true_and, true_or, or_true, and_self, Nat.le_refl, Nat.lt_irrefl, q2], by simp only [gI_sI, gL_sL, gQ_sQ, gI_sJ, gI_sL, gI_sQ, gL_sI, gL_sQ, gL_sJ, gQ_sI, gQ_sL, gQ_sJ, gN_sI, gN_sL, gN_sQ, gN_sJ, Nat.reduceLT, Nat.reduceEqDiff, reduceIte, Nat.reduceAdd, Nat.reduceLeDiff, Nat.reduceSub, Bool.false_eq_true, if_true, if_false, ite_true, ite_false, List.length_cons, List.length_nil, Nat.zero_add, Nat.add_zero, and_true, true_and, true_or, or_true, and_self, Nat.le_refl, Nat.lt_irrefl, q3], by simp only [gI_sI, gL_sL, gQ_sQ, gI_sJ, gI_sL, gI_sQ, gL_sI, gL_sQ, gL_sJ, gQ_sI, gQ_sL, gQ_sJ, gN_sI, gN_sL, gN_sQ, gN_sJ, Nat.reduceLT, Nat.reduceEqDiff, reduceIte, Nat.reduceAdd, Nat.reduceLeDiff, Nat.reduceSub, Bool.false_eq_true, if_true, if_false, ite_true, ite_false, List.length_cons, List.length_nil, Nat.zero_add, Nat.add_zero, and_true, true_and, true_or, or_true, and_self, Nat.le_refl, Nat.lt_irrefl, q4], fun j hj => by simp only [gI_sI, gL_sL, gQ_sQ, gI_sJ, gI_sL, gI_sQ, gL_sI, gL_sQ, gL_sJ, gQ_sI, gQ_sL, gQ_sJ, gN_sI, gN_sL, gN_sQ, gN_sJ, Nat.reduceLT, Nat.reduceEqDiff, reduceIte, Nat.reduceAdd, Nat.reduceLeDiff, Nat.reduceSub, Bool.false_eq_true, if_true, if_false, ite_true, ite_false, List.length_cons, List.length_nil, Nat.zero_add, Nat.add_zero, and_true, true_and, true_or, or_true, and_self, Nat.le_refl, Nat.lt_irrefl, q5 j hj]⟩
    have hm : nI w + -1 = nI w - 1 := by
      rw [Int32.sub_eq_add_neg]
    simp only [am_run_s, bt, lf, am_in, am_ar, am_fit, am_ld, am_ct, Nat.reduceLT, Nat.reduceEqDiff, reduceIte, Nat.reduceAdd, Nat.reduceLeDiff, Nat.reduceSub, Bool.false_eq_true, if_true, if_false, ite_true, ite_false, List.length_cons, List.length_nil, Nat.zero_add, Nat.add_zero, and_true, true_and, true_or, or_true, and_self, Nat.le_refl, Nat.lt_irrefl, gI_sI, gL_sL, gQ_sQ, gI_sJ, gI_sL, gI_sQ, gL_sI, gL_sQ, gL_sJ, gQ_sI, gQ_sL, gQ_sJ, gN_sI, gN_sL, gN_sQ, gN_sJ, E_b2_0, E_cS_a, E_cS_b, E_cV_a, E_cV_b, E_c_0, E_getI_0, E_inc_a, E_inc_b, E_jmp_0, E_jn_0, E_kk, E_l2_0, E_l2i_0, E_ldI_a, E_ldI_b, E_ldL_a, E_ldL_b, E_ldR_a, E_ldR_b, E_lsh_0, E_putI_0, E_rV_0, E_stI_0, am_cc, am_nl, am_ok, am_pop, am_rt, am_set, cC_12, kX12_plain, hm]
    refine ih (p + 1) _ σ' (fst1 (bM v w) s) (crcM sm (bM v w)) (hF.st _) (by omega) r1 ?_ (fun σ2 f2 r2 t1 => hQ σ2 ((f0.tr f1).tr f2) r2 t1)
    rw [s1]
    simp only [gI_sI, gL_sL, gQ_sQ, gI_sJ, gI_sL, gI_sQ, gL_sI, gL_sQ, gL_sJ, gQ_sI, gQ_sL, gQ_sJ, gN_sI, gN_sL, gN_sQ, gN_sJ, Nat.reduceLT, Nat.reduceEqDiff, reduceIte, Nat.reduceAdd, Nat.reduceLeDiff, Nat.reduceSub, Bool.false_eq_true, if_true, if_false, ite_true, ite_false, List.length_cons, List.length_nil, Nat.zero_add, Nat.add_zero, and_true, true_and, true_or, or_true, and_self, Nat.le_refl, Nat.lt_irrefl]
    rfl
theorem c_plain {v : Int64} {Q : PO} {w p : Nat} {σ : HS} {s : FS} {sm : Int32} (hF : FOK p s) (hp : p + w ≤ 120) (hR : RFM σ s) (hs : gI σ 1325 0 = sm)
    (hQ : ∀ σ', frm PFM σ σ' → RFM σ' (fstL (nbM v w) s) → gI σ' 1325 0 = crcL crcM (nbM v w) sm → Q none σ') (wd : Int32) (hwd : wd = nI w) : MM 153 [.inr (.inr (some (12, 0))), .inr (.inl v), .inl wd] σ Q := by
  subst hwd
  rw [eX12_plain 40]
  simp only [am_run_s, bt, lf, am_in, am_ar, am_fit, am_ld, am_ct, Nat.reduceLT, Nat.reduceEqDiff, reduceIte, Nat.reduceAdd, Nat.reduceLeDiff, Nat.reduceSub, Bool.false_eq_true, if_true, if_false, ite_true, ite_false, List.length_cons, List.length_nil, Nat.zero_add, Nat.add_zero, and_true, true_and, true_or, or_true, and_self, Nat.le_refl, Nat.lt_irrefl, gI_sI, gL_sL, gQ_sQ, gI_sJ, gI_sL, gI_sQ, gL_sI, gL_sQ, gL_sJ, gQ_sI, gQ_sL, gQ_sJ, gN_sI, gN_sL, gN_sQ, gN_sJ, E_b2_0, E_cS_a, E_cS_b, E_cV_a, E_cV_b, E_c_0, E_getI_0, E_inc_a, E_inc_b, E_jmp_0, E_jn_0, E_kk, E_l2_0, E_l2i_0, E_ldI_a, E_ldI_b, E_ldL_a, E_ldL_b, E_ldR_a, E_ldR_b, E_lsh_0, E_putI_0, E_rV_0, E_stI_0, am_cc, am_nl, am_ok, am_pop, am_rt, am_set, cC_12, kX12_plain]
  exact l_plain w p _ σ s sm hF hp hR hs hQ
