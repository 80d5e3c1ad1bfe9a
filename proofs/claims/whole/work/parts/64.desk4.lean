/-! ===== the desk: WORST, as a function; the class ===== -/
noncomputable def lfv (f : Nat → Nat) (a : Nat) : Option Nat := @dite (Option Nat) (∃ r, isL f a (some r)) (Classical.propDecidable _) (fun h => some (Classical.choose h)) (fun _ => none)
theorem lfv_eq {f : Nat → Nat} {a : Nat} {r : Option Nat} (h : isL f a r) : lfv f a = r := by
  unfold lfv
  by_cases q : ∃ x, isL f a (some x)
  · rw [dif_pos q]
    exact (Classical.choose_spec q).uq h
  · rw [dif_neg q]
    cases r with
    | none => rfl
    | some x => exact absurd ⟨x, h⟩ q
def tmW (d : DC) (wd q w : Nat) : Int32 := nI (d.2.2.2.1 wd) + nI w - nI q * nI (d.2.2.1 wd) + nI (d.2.1 wd)
def mxI (a t : Int32) : Int32 := if a < t then t else a
noncomputable def wl (d : DC) (H : Nat → Bool) (wd bz : Nat) : Nat → Nat → Int32 → Int32
  | 0, _, acc => acc
  | n + 1, q, acc => if q * d.2.2.1 wd < bz + d.2.2.2.1 wd then (match lfv (fWq d H wd q) 0 with
    | none => -1
    | some w => wl d H wd bz n (q + 1) (mxI acc (tmW d wd q w))) else acc
theorem wl_e {d : DC} {H : Nat → Bool} {wd bz n q : Nat} {acc : Int32} (h : ¬ q * d.2.2.1 wd < bz + d.2.2.2.1 wd) : wl d H wd bz (n + 1) q acc = acc := by
  show (if q * d.2.2.1 wd < bz + d.2.2.2.1 wd then _ else acc) = acc
  rw [if_neg h]
theorem wl_n {d : DC} {H : Nat → Bool} {wd bz n q : Nat} {acc : Int32} (h : q * d.2.2.1 wd < bz + d.2.2.2.1 wd) (hr : isL (fWq d H wd q) 0 none) : wl d H wd bz (n + 1) q acc = -1 := by
  show (if q * d.2.2.1 wd < bz + d.2.2.2.1 wd then (match lfv (fWq d H wd q) 0 with | none => -1 | some w => wl d H wd bz n (q + 1) (mxI acc (tmW d wd q w))) else acc) = _
  rw [if_pos h, lfv_eq hr]
theorem wl_s {d : DC} {H : Nat → Bool} {wd bz n q w : Nat} {acc : Int32} (h : q * d.2.2.1 wd < bz + d.2.2.2.1 wd) (hr : isL (fWq d H wd q) 0 (some w)) : wl d H wd bz (n + 1) q acc = wl d H wd bz n (q + 1) (mxI acc (tmW d wd q w)) := by
  show (if q * d.2.2.1 wd < bz + d.2.2.2.1 wd then (match lfv (fWq d H wd q) 0 with | none => -1 | some w => wl d H wd bz n (q + 1) (mxI acc (tmW d wd q w))) else acc) = _
  rw [if_pos h, lfv_eq hr]
noncomputable def wst (d : DC) (H : Nat → Bool) (wd : Nat) : Int32 := match lfv (fBz d H wd) 1 with
  | none => -1
  | some b => wl d H wd b 320 0 0
theorem wst_n {d : DC} {H : Nat → Bool} {wd : Nat} (h : isL (fBz d H wd) 1 none) : wst d H wd = -1 := by
  unfold wst; rw [lfv_eq h]
theorem wst_s {d : DC} {H : Nat → Bool} {wd b : Nat} (h : isL (fBz d H wd) 1 (some b)) : wst d H wd = wl d H wd b 320 0 0 := by
  unfold wst; rw [lfv_eq h]
theorem mxI_nn {a t : Int32} (h : ¬ a < 0) : ¬ mxI a t < 0 := by
  unfold mxI
  by_cases q : a < t
  · rw [if_pos q]
    rw [Int32.lt_iff_toInt_lt] at h q ⊢
    omega
  · rw [if_neg q]; exact h
theorem wl_nn {d : DC} {H : Nat → Bool} {wd bz : Nat} : ∀ (n q : Nat) (acc : Int32), ¬ acc < 0 → wl d H wd bz n q acc = -1 ∨ ¬ wl d H wd bz n q acc < 0
  | 0, q, acc, h => Or.inr h
  | n + 1, q, acc, h => by
    show (if q * d.2.2.1 wd < bz + d.2.2.2.1 wd then (match lfv (fWq d H wd q) 0 with | none => -1 | some w => wl d H wd bz n (q + 1) (mxI acc (tmW d wd q w))) else acc) = -1 ∨ ¬ (if q * d.2.2.1 wd < bz + d.2.2.2.1 wd then (match lfv (fWq d H wd q) 0 with | none => -1 | some w => wl d H wd bz n (q + 1) (mxI acc (tmW d wd q w))) else acc) < 0
    by_cases q1 : q * d.2.2.1 wd < bz + d.2.2.2.1 wd
    · rw [if_pos q1]
      cases lfv (fWq d H wd q) 0 with
      | none => exact Or.inl rfl
      | some w => exact wl_nn n (q + 1) _ (mxI_nn h)
    · rw [if_neg q1]; exact Or.inr h
theorem wst_nn (d : DC) (H : Nat → Bool) (wd : Nat) : wst d H wd = -1 ∨ ¬ wst d H wd < 0 := by
  unfold wst
  cases lfv (fBz d H wd) 1 with
  | none => exact Or.inl rfl
  | some b => exact wl_nn 320 0 0 (by decide)
theorem l_wbh {d : DC} (ok : DOK d) {H : Nat → Bool} {wd : Nat} (hw : wd < d.1) {Q : PO} {σ : HS} (hl : LX σ d H wd) {b : Nat} (hb : b ≤ 30000) : ∀ (n q a : Nat) (acc : Int32), n + q = 320 → q ≤ 310 → a ≤ 30000 → a ≤ fWq d H wd q a → (∀ w, fWq d H wd q w ≤ w → a ≤ w) → Q (some (.inl (wl d H wd b n q acc))) σ →
    am_T (kX0_worstBelowHigher S1) MM Q 28 [some (.inr (.inr (some (0, 0)))), some (.inr (.inr (some (10, wd)))), some (.inl (nI b)), some (.inl acc), some (.inl (nI a)), some (.inl (nI q))] [] σ 0 0 := by
  obtain ⟨-, -, -, c4, c5⟩ := hl.1.2.2.1 wd hw
  have hgw : wd < gN σ 10 := by rw [hl.1.1]; exact hw
  have ht := ok.2.2.1 wd hw
  have hj := ok.2.2.2.1 wd hw
  intro n
  induction n with
  | zero =>
    intro q a acc hn hq
    omega
  | succ n ih =>
    intro q a acc hn hq ha ha2 ha3 hQ
    have q0 : ¬ 30000 < nI q := by rw [n30]; exact nI_nlt (by omega) (by omega)
    have hqt : q * d.2.2.1 wd ≤ 310 * 100000 := Nat.mul_le_mul hq ht.2
    have hc : (nI q * nI (d.2.2.1 wd) < nI b + nI (d.2.2.2.1 wd)) = (q * d.2.2.1 wd < b + d.2.2.2.1 wd) := by
      rw [pk_mul, nI_add]
      exact propext (nI_ltI (by omega) (by omega))
    by_cases q1 : q * d.2.2.1 wd < b + d.2.2.2.1 wd
    · rw [hX0_worstBelowHigher 16]
      simp only [am_run_s, bt, lf, am_in, am_ar, am_fit, am_ld, am_ct, Nat.reduceLT, Nat.reduceEqDiff, reduceIte, Nat.reduceAdd, Nat.reduceLeDiff, Nat.reduceSub, Bool.false_eq_true, if_true, if_false, ite_true, ite_false, List.length_cons, List.length_nil, Nat.zero_add, Nat.add_zero, and_true, true_and, true_or, or_true, and_self, Nat.le_refl, Nat.lt_irrefl, gI_sI, gL_sL, gQ_sQ, gI_sJ, gI_sL, gI_sQ, gL_sI, gL_sQ, gL_sJ, gQ_sI, gQ_sL, gQ_sJ, gN_sI, gN_sL, gN_sQ, gN_sJ, E_b2_0, E_cV_a, E_cV_b, E_c_0, E_getI_0, E_inc_a, E_inc_b, E_je_0, E_jg_0, E_jl_0, E_jmp_0, E_kk, E_ldI_a, E_ldI_b, E_ldR_a, E_ldR_b, E_max_0, E_rI_0, E_stI_0, am_cc, am_nl, am_ok, am_pop, am_rt, am_set, cC_0, cC_10, kX0_worstBelowHigher, kX0_worstBelowHigher_0, kX0_worstBelowHigher_1, am_run_z, q0, hgw, c4, c5, hc, q1]
      refine c_leastW ok hw hl (by omega) ha ha2 (fun r hr => ?_)
      have hr0 : isL (fWq d H wd q) 0 r := hr.dn (Nat.zero_le _) (fun w _ h => ha3 w h)
      simp only [am_run_s, bt, lf, am_in, am_ar, am_fit, am_ld, am_ct, Nat.reduceLT, Nat.reduceEqDiff, reduceIte, Nat.reduceAdd, Nat.reduceLeDiff, Nat.reduceSub, Bool.false_eq_true, if_true, if_false, ite_true, ite_false, List.length_cons, List.length_nil, Nat.zero_add, Nat.add_zero, and_true, true_and, true_or, or_true, and_self, Nat.le_refl, Nat.lt_irrefl, gI_sI, gL_sL, gQ_sQ, gI_sJ, gI_sL, gI_sQ, gL_sI, gL_sQ, gL_sJ, gQ_sI, gQ_sL, gQ_sJ, gN_sI, gN_sL, gN_sQ, gN_sJ, E_b2_0, E_cV_a, E_cV_b, E_c_0, E_getI_0, E_inc_a, E_inc_b, E_je_0, E_jg_0, E_jl_0, E_jmp_0, E_kk, E_ldI_a, E_ldI_b, E_ldR_a, E_ldR_b, E_max_0, E_rI_0, E_stI_0, am_cc, am_nl, am_ok, am_pop, am_rt, am_set, cC_0, cC_10, kX0_worstBelowHigher, kX0_worstBelowHigher_0, kX0_worstBelowHigher_1, am_run_z]
      cases r with
      | none =>
        rw [wl_n q1 hr0] at hQ
        rw [hX0_worstBelowHigher 6]
        simp only [am_run_s, bt, lf, am_in, am_ar, am_fit, am_ld, am_ct, Nat.reduceLT, Nat.reduceEqDiff, reduceIte, Nat.reduceAdd, Nat.reduceLeDiff, Nat.reduceSub, Bool.false_eq_true, if_true, if_false, ite_true, ite_false, List.length_cons, List.length_nil, Nat.zero_add, Nat.add_zero, and_true, true_and, true_or, or_true, and_self, Nat.le_refl, Nat.lt_irrefl, gI_sI, gL_sL, gQ_sQ, gI_sJ, gI_sL, gI_sQ, gL_sI, gL_sQ, gL_sJ, gQ_sI, gQ_sL, gQ_sJ, gN_sI, gN_sL, gN_sQ, gN_sJ, E_b2_0, E_cV_a, E_cV_b, E_c_0, E_getI_0, E_inc_a, E_inc_b, E_je_0, E_jg_0, E_jl_0, E_jmp_0, E_kk, E_ldI_a, E_ldI_b, E_ldR_a, E_ldR_b, E_max_0, E_rI_0, E_stI_0, am_cc, am_nl, am_ok, am_pop, am_rt, am_set, cC_0, cC_10, kX0_worstBelowHigher, kX0_worstBelowHigher_0, kX0_worstBelowHigher_1, show onat none = -1 from rfl]
        exact hQ
      | some w =>
        rw [wl_s q1 hr0] at hQ
        have hm : ¬ nI w = -1 := nI_m1ne (by have := hr0.2.1; omega)
        have hq1 : q + 1 ≤ 310 := by
          have : q * 100 ≤ q * d.2.2.1 wd := Nat.mul_le_mul_left q ht.1
          omega
        rw [hX0_worstBelowHigher 22]
        simp only [am_run_s, bt, lf, am_in, am_ar, am_fit, am_ld, am_ct, Nat.reduceLT, Nat.reduceEqDiff, reduceIte, Nat.reduceAdd, Nat.reduceLeDiff, Nat.reduceSub, Bool.false_eq_true, if_true, if_false, ite_true, ite_false, List.length_cons, List.length_nil, Nat.zero_add, Nat.add_zero, and_true, true_and, true_or, or_true, and_self, Nat.le_refl, Nat.lt_irrefl, gI_sI, gL_sL, gQ_sQ, gI_sJ, gI_sL, gI_sQ, gL_sI, gL_sQ, gL_sJ, gQ_sI, gQ_sL, gQ_sJ, gN_sI, gN_sL, gN_sQ, gN_sJ, E_b2_0, E_cV_a, E_cV_b, E_c_0, E_getI_0, E_inc_a, E_inc_b, E_je_0, E_jg_0, E_jl_0, E_jmp_0, E_kk, E_ldI_a, E_ldI_b, E_ldR_a, E_ldR_b, E_max_0, E_rI_0, E_stI_0, am_cc, am_nl, am_ok, am_pop, am_rt, am_set, cC_0, cC_10, kX0_worstBelowHigher, kX0_worstBelowHigher_0, kX0_worstBelowHigher_1, show onat (some w) = nI w from rfl, hm, hgw, c4, c5, cC_10, ↓costX hl.1 hw, nI_1]
        refine ih (q + 1) w (mxI acc (tmW d wd q w)) (by omega) hq1 hr0.2.1 ?_ ?_ hQ
        · have := fWq_q d H wd (Nat.le_succ q) w
          rw [hr0.1] at this
          exact this
        · intro x hx
          exact hr0.2.2.2 x (Nat.zero_le _) (Nat.le_trans (fWq_q d H wd (Nat.le_succ q) x) hx)
    · rw [wl_e q1] at hQ
      rw [hX0_worstBelowHigher 14]
      simp only [am_run_s, bt, lf, am_in, am_ar, am_fit, am_ld, am_ct, Nat.reduceLT, Nat.reduceEqDiff, reduceIte, Nat.reduceAdd, Nat.reduceLeDiff, Nat.reduceSub, Bool.false_eq_true, if_true, if_false, ite_true, ite_false, List.length_cons, List.length_nil, Nat.zero_add, Nat.add_zero, and_true, true_and, true_or, or_true, and_self, Nat.le_refl, Nat.lt_irrefl, gI_sI, gL_sL, gQ_sQ, gI_sJ, gI_sL, gI_sQ, gL_sI, gL_sQ, gL_sJ, gQ_sI, gQ_sL, gQ_sJ, gN_sI, gN_sL, gN_sQ, gN_sJ, E_b2_0, E_cV_a, E_cV_b, E_c_0, E_getI_0, E_inc_a, E_inc_b, E_je_0, E_jg_0, E_jl_0, E_jmp_0, E_kk, E_ldI_a, E_ldI_b, E_ldR_a, E_ldR_b, E_max_0, E_rI_0, E_stI_0, am_cc, am_nl, am_ok, am_pop, am_rt, am_set, cC_0, cC_10, kX0_worstBelowHigher, kX0_worstBelowHigher_0, kX0_worstBelowHigher_1, q0, hgw, c4, c5, hc, q1]
      exact hQ
theorem c_wbh {d : DC} (ok : DOK d) {H : Nat → Bool} {wd : Nat} (hw : wd < d.1) {Q : PO} {σ : HS} (hd : DX σ d) (hH : HX σ H d.1) (hQ : ∀ σ', frm PWG σ σ' → Q (some (.inl (wst d H wd))) σ') : MM 4 [.inr (.inr (some (0, 0))), .inr (.inr (some (10, wd)))] σ Q := by
  rw [eX0_worstBelowHigher 8]
  have hgw : wd < gN σ 10 := by rw [hd.1]; exact hw
  simp only [am_run_s, bt, lf, am_in, am_ar, am_fit, am_ld, am_ct, Nat.reduceLT, Nat.reduceEqDiff, reduceIte, Nat.reduceAdd, Nat.reduceLeDiff, Nat.reduceSub, Bool.false_eq_true, if_true, if_false, ite_true, ite_false, List.length_cons, List.length_nil, Nat.zero_add, Nat.add_zero, and_true, true_and, true_or, or_true, and_self, Nat.le_refl, Nat.lt_irrefl, gI_sI, gL_sL, gQ_sQ, gI_sJ, gI_sL, gI_sQ, gL_sI, gL_sQ, gL_sJ, gQ_sI, gQ_sL, gQ_sJ, gN_sI, gN_sL, gN_sQ, gN_sJ, E_b2_0, E_cV_a, E_cV_b, E_c_0, E_getI_0, E_inc_a, E_inc_b, E_je_0, E_jg_0, E_jl_0, E_jmp_0, E_kk, E_ldI_a, E_ldI_b, E_ldR_a, E_ldR_b, E_max_0, E_rI_0, E_stI_0, am_cc, am_nl, am_ok, am_pop, am_rt, am_set, cC_0, cC_10, kX0_worstBelowHigher, kX0_worstBelowHigher_0, kX0_worstBelowHigher_1, am_run_z]
  refine c_weigh ok hw hd hH (fun σ1 f1 w1 w2 w3 => ?_)
  have hd1 : DX σ1 d := hd.fx f1 rfl rfl rfl rfl rfl rfl rfl
  have hl : LX σ1 d H wd := ⟨hd1, fun k hk => by rw [f1.gi rfl]; exact hH k hk, w1, w2, w3⟩
  simp only [am_run_s, bt, lf, am_in, am_ar, am_fit, am_ld, am_ct, Nat.reduceLT, Nat.reduceEqDiff, reduceIte, Nat.reduceAdd, Nat.reduceLeDiff, Nat.reduceSub, Bool.false_eq_true, if_true, if_false, ite_true, ite_false, List.length_cons, List.length_nil, Nat.zero_add, Nat.add_zero, and_true, true_and, true_or, or_true, and_self, Nat.le_refl, Nat.lt_irrefl, gI_sI, gL_sL, gQ_sQ, gI_sJ, gI_sL, gI_sQ, gL_sI, gL_sQ, gL_sJ, gQ_sI, gQ_sL, gQ_sJ, gN_sI, gN_sL, gN_sQ, gN_sJ, E_b2_0, E_cV_a, E_cV_b, E_c_0, E_getI_0, E_inc_a, E_inc_b, E_je_0, E_jg_0, E_jl_0, E_jmp_0, E_kk, E_ldI_a, E_ldI_b, E_ldR_a, E_ldR_b, E_max_0, E_rI_0, E_stI_0, am_cc, am_nl, am_ok, am_pop, am_rt, am_set, cC_0, cC_10, kX0_worstBelowHigher, kX0_worstBelowHigher_0, kX0_worstBelowHigher_1, am_run_z]
  refine c_leastB ok hw hl (fun r hr => ?_)
  simp only [am_run_s, bt, lf, am_in, am_ar, am_fit, am_ld, am_ct, Nat.reduceLT, Nat.reduceEqDiff, reduceIte, Nat.reduceAdd, Nat.reduceLeDiff, Nat.reduceSub, Bool.false_eq_true, if_true, if_false, ite_true, ite_false, List.length_cons, List.length_nil, Nat.zero_add, Nat.add_zero, and_true, true_and, true_or, or_true, and_self, Nat.le_refl, Nat.lt_irrefl, gI_sI, gL_sL, gQ_sQ, gI_sJ, gI_sL, gI_sQ, gL_sI, gL_sQ, gL_sJ, gQ_sI, gQ_sL, gQ_sJ, gN_sI, gN_sL, gN_sQ, gN_sJ, E_b2_0, E_cV_a, E_cV_b, E_c_0, E_getI_0, E_inc_a, E_inc_b, E_je_0, E_jg_0, E_jl_0, E_jmp_0, E_kk, E_ldI_a, E_ldI_b, E_ldR_a, E_ldR_b, E_max_0, E_rI_0, E_stI_0, am_cc, am_nl, am_ok, am_pop, am_rt, am_set, cC_0, cC_10, kX0_worstBelowHigher, kX0_worstBelowHigher_0, kX0_worstBelowHigher_1, am_run_z]
  have hQ1 := hQ σ1 f1
  cases r with
  | none =>
    rw [wst_n hr] at hQ1
    rw [hX0_worstBelowHigher 6]
    simp only [am_run_s, bt, lf, am_in, am_ar, am_fit, am_ld, am_ct, Nat.reduceLT, Nat.reduceEqDiff, reduceIte, Nat.reduceAdd, Nat.reduceLeDiff, Nat.reduceSub, Bool.false_eq_true, if_true, if_false, ite_true, ite_false, List.length_cons, List.length_nil, Nat.zero_add, Nat.add_zero, and_true, true_and, true_or, or_true, and_self, Nat.le_refl, Nat.lt_irrefl, gI_sI, gL_sL, gQ_sQ, gI_sJ, gI_sL, gI_sQ, gL_sI, gL_sQ, gL_sJ, gQ_sI, gQ_sL, gQ_sJ, gN_sI, gN_sL, gN_sQ, gN_sJ, E_b2_0, E_cV_a, E_cV_b, E_c_0, E_getI_0, E_inc_a, E_inc_b, E_je_0, E_jg_0, E_jl_0, E_jmp_0, E_kk, E_ldI_a, E_ldI_b, E_ldR_a, E_ldR_b, E_max_0, E_rI_0, E_stI_0, am_cc, am_nl, am_ok, am_pop, am_rt, am_set, cC_0, cC_10, kX0_worstBelowHigher, kX0_worstBelowHigher_0, kX0_worstBelowHigher_1, show onat none = -1 from rfl]
    exact hQ1
  | some b =>
    rw [wst_s hr] at hQ1
    have hm : ¬ nI b = -1 := nI_m1ne (by have := hr.2.1; omega)
    rw [hX0_worstBelowHigher 9]
    simp only [am_run_s, bt, lf, am_in, am_ar, am_fit, am_ld, am_ct, Nat.reduceLT, Nat.reduceEqDiff, reduceIte, Nat.reduceAdd, Nat.reduceLeDiff, Nat.reduceSub, Bool.false_eq_true, if_true, if_false, ite_true, ite_false, List.length_cons, List.length_nil, Nat.zero_add, Nat.add_zero, and_true, true_and, true_or, or_true, and_self, Nat.le_refl, Nat.lt_irrefl, gI_sI, gL_sL, gQ_sQ, gI_sJ, gI_sL, gI_sQ, gL_sI, gL_sQ, gL_sJ, gQ_sI, gQ_sL, gQ_sJ, gN_sI, gN_sL, gN_sQ, gN_sJ, E_b2_0, E_cV_a, E_cV_b, E_c_0, E_getI_0, E_inc_a, E_inc_b, E_je_0, E_jg_0, E_jl_0, E_jmp_0, E_kk, E_ldI_a, E_ldI_b, E_ldR_a, E_ldR_b, E_max_0, E_rI_0, E_stI_0, am_cc, am_nl, am_ok, am_pop, am_rt, am_set, cC_0, cC_10, kX0_worstBelowHigher, kX0_worstBelowHigher_0, kX0_worstBelowHigher_1, am_run_z, show onat (some b) = nI b from rfl, hm]
    exact l_wbh ok hw hl hr.2.1 320 0 0 0 (by omega) (by omega) (by omega) (Nat.zero_le _) (fun w _ => Nat.zero_le _) hQ1
