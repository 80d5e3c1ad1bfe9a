/-! ===== frames: numbers, the whole frame of the class ===== -/
def FOK (p : Nat) (s : FS) : Prop := s.1.length = p + s.2.1 ∧ 4 * s.2.1 + s.2.2.1 ≤ p ∧ s.2.2.1 ≤ 4
theorem FOK.st {p : Nat} {s : FS} (h : FOK p s) (b : Int32) : FOK (p + 1) (fst1 b s) := by
  obtain ⟨l, st, al, la⟩ := s
  obtain ⟨h1, h2, h3⟩ := h
  dsimp only at h1 h2 h3
  unfold fst1
  dsimp only
  by_cases e : b = la
  · rw [if_pos e]
    by_cases q : al + 1 = 5
    · rw [if_pos q]
      refine ⟨?_, ?_, ?_⟩
      · simp; omega
      · dsimp only; omega
      · dsimp only; omega
    · rw [if_neg q]
      refine ⟨?_, ?_, ?_⟩
      · simp; omega
      · dsimp only; omega
      · dsimp only; omega
  · rw [if_neg e, if_neg (by decide)]
    refine ⟨?_, ?_, ?_⟩
    · simp; omega
    · dsimp only; omega
    · dsimp only; omega
def fstL (bs : List Int32) (s : FS) : FS := bs.foldl (fun s b => fst1 b s) s
def crcL (f : Int32 → Int32 → Int32) (bs : List Int32) (s : Int32) : Int32 := bs.foldl f s
theorem FOK.stL {p : Nat} {s : FS} (h : FOK p s) (bs : List Int32) : FOK (p + bs.length) (fstL bs s) := by
  induction bs generalizing p s with
  | nil => exact h
  | cons b r ih =>
    have := ih (h.st b)
    simp only [List.length_cons]
    rw [show p + (r.length + 1) = p + 1 + r.length by omega]
    exact this
def bX (v : Int32) (i : Nat) : Int32 := ((v.toUInt32 >>> ((nI i).toUInt32 &&& Int32.toUInt32 31)).toInt32) &&& 1
def nbX (v : Int32) : Nat → List Int32
  | 0 => []
  | w + 1 => bX v w :: nbX v w
theorem nbX_len (v : Int32) : ∀ w, (nbX v w).length = w
  | 0 => rfl
  | w + 1 => by simp [nbX, nbX_len v w]
theorem nI_m1 (w : Nat) : nI (w + 1) - 1 = nI w := nI_pred w
theorem l_addNumber {v wd : Int32} {Q : PO} : ∀ (w p : Nat) (σ : HS) (s : FS) (sm : Int32), FOK p s → p + w ≤ 120 → RFX σ s → gI σ 204 0 = sm →
    (∀ σ', frm PFX σ σ' → RFX σ' (fstL (nbX v w) s) → gI σ' 204 0 = crcL crcX (nbX v w) sm → gI σ' 203 0 = gI σ 203 0 → Q none σ') →
    am_T (kX1_addNumber S1) MM Q 4 [some (.inr (.inr (some (1, 0)))), some (.inl v), some (.inl wd), some (.inl (nI w - 1))] [] σ 0 0 := by
  intro w
  induction w with
  | zero =>
    intro p σ s sm hF hp hR hs hQ
    rw [hX1_addNumber 40]
    have h0 : nI 0 - 1 < 0 := by decide
    simp only [am_run_s, bt, lf, am_in, am_ar, am_fit, am_ld, am_ct, Nat.reduceLT, Nat.reduceEqDiff, reduceIte, Nat.reduceAdd, Nat.reduceLeDiff, Nat.reduceSub, Bool.false_eq_true, if_true, if_false, ite_true, ite_false, List.length_cons, List.length_nil, Nat.zero_add, Nat.add_zero, and_true, true_and, true_or, or_true, and_self, Nat.le_refl, Nat.lt_irrefl, gI_sI, gL_sL, gQ_sQ, gI_sJ, gI_sL, gI_sQ, gL_sI, gL_sQ, gL_sJ, gQ_sI, gQ_sL, gQ_sJ, gN_sI, gN_sL, gN_sQ, gN_sJ, E_b2_0, E_cV_a, E_cV_b, E_c_0, E_inc_a, E_inc_b, E_jmp_0, E_jn_0, E_kk, E_ldI_a, E_ldI_b, E_ldR_a, E_ldR_b, E_rV_0, E_stI_0, am_cc, am_nl, am_ok, am_pop, am_rt, am_set, cC_1, kX1_addNumber, h0]
    exact hQ σ frm.rf hR hs rfl
  | succ w ih =>
    intro p σ s sm hF hp hR hs hQ
    rw [hX1_addNumber 40, nI_m1]
    have h0 := nI_f (j := w) (by omega)
    simp only [am_run_s, bt, lf, am_in, am_ar, am_fit, am_ld, am_ct, Nat.reduceLT, Nat.reduceEqDiff, reduceIte, Nat.reduceAdd, Nat.reduceLeDiff, Nat.reduceSub, Bool.false_eq_true, if_true, if_false, ite_true, ite_false, List.length_cons, List.length_nil, Nat.zero_add, Nat.add_zero, and_true, true_and, true_or, or_true, and_self, Nat.le_refl, Nat.lt_irrefl, gI_sI, gL_sL, gQ_sQ, gI_sJ, gI_sL, gI_sQ, gL_sI, gL_sQ, gL_sJ, gQ_sI, gQ_sL, gQ_sJ, gN_sI, gN_sL, gN_sQ, gN_sJ, E_b2_0, E_cV_a, E_cV_b, E_c_0, E_inc_a, E_inc_b, E_jmp_0, E_jn_0, E_kk, E_ldI_a, E_ldI_b, E_ldR_a, E_ldR_b, E_rV_0, E_stI_0, am_cc, am_nl, am_ok, am_pop, am_rt, am_set, cC_1, kX1_addNumber, h0]
    refine c_addPlain (s := s) (sm := sm) (by have := hF.1; have := hF.2.1; omega) (by have := hF.2.2; omega) hR hs (fun σ' f1 r1 s1 s2 => ?_)
    have hm : nI w + -1 = nI w - 1 := by
      rw [Int32.sub_eq_add_neg]
    simp only [am_run_s, bt, lf, am_in, am_ar, am_fit, am_ld, am_ct, Nat.reduceLT, Nat.reduceEqDiff, reduceIte, Nat.reduceAdd, Nat.reduceLeDiff, Nat.reduceSub, Bool.false_eq_true, if_true, if_false, ite_true, ite_false, List.length_cons, List.length_nil, Nat.zero_add, Nat.add_zero, and_true, true_and, true_or, or_true, and_self, Nat.le_refl, Nat.lt_irrefl, gI_sI, gL_sL, gQ_sQ, gI_sJ, gI_sL, gI_sQ, gL_sI, gL_sQ, gL_sJ, gQ_sI, gQ_sL, gQ_sJ, gN_sI, gN_sL, gN_sQ, gN_sJ, E_b2_0, E_cV_a, E_cV_b, E_c_0, E_inc_a, E_inc_b, E_jmp_0, E_jn_0, E_kk, E_ldI_a, E_ldI_b, E_ldR_a, E_ldR_b, E_rV_0, E_stI_0, am_cc, am_nl, am_ok, am_pop, am_rt, am_set, cC_1, kX1_addNumber, hm]
    refine ih (p + 1) σ' (fst1 (bX v w) s) (crcX sm (bX v w)) (hF.st _) (by omega) r1 s1 (fun σ2 f2 r2 t1 t2 => hQ σ2 (f1.tr f2) r2 t1 (by rw [t2, s2]))
theorem c_addNumber {v : Int32} {Q : PO} {w p : Nat} {σ : HS} {s : FS} {sm : Int32} (hF : FOK p s) (hp : p + w ≤ 120) (hR : RFX σ s) (hs : gI σ 204 0 = sm)
    (hQ : ∀ σ', frm PFX σ σ' → RFX σ' (fstL (nbX v w) s) → gI σ' 204 0 = crcL crcX (nbX v w) sm → gI σ' 203 0 = gI σ 203 0 → Q none σ') (wd : Int32) (hwd : wd = nI w) : MM 17 [.inr (.inr (some (1, 0))), .inl v, .inl wd] σ Q := by
  subst hwd
  rw [eX1_addNumber 40]
  simp only [am_run_s, bt, lf, am_in, am_ar, am_fit, am_ld, am_ct, Nat.reduceLT, Nat.reduceEqDiff, reduceIte, Nat.reduceAdd, Nat.reduceLeDiff, Nat.reduceSub, Bool.false_eq_true, if_true, if_false, ite_true, ite_false, List.length_cons, List.length_nil, Nat.zero_add, Nat.add_zero, and_true, true_and, true_or, or_true, and_self, Nat.le_refl, Nat.lt_irrefl, gI_sI, gL_sL, gQ_sQ, gI_sJ, gI_sL, gI_sQ, gL_sI, gL_sQ, gL_sJ, gQ_sI, gQ_sL, gQ_sJ, gN_sI, gN_sL, gN_sQ, gN_sJ, E_b2_0, E_cV_a, E_cV_b, E_c_0, E_inc_a, E_inc_b, E_jmp_0, E_jn_0, E_kk, E_ldI_a, E_ldI_b, E_ldR_a, E_ldR_b, E_rV_0, E_stI_0, am_cc, am_nl, am_ok, am_pop, am_rt, am_set, cC_1, kX1_addNumber]
  exact l_addNumber w p σ s sm hF hp hR hs hQ
