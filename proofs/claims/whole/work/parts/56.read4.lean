/-! ===== reading: the class, on ===== -/
theorem skp_ge (L : List Int32) (s : RS) : s.1 ≤ (skp L s).1 := by
  unfold skp
  by_cases q1 : s.2.2.1 < 5
  · rw [if_pos q1]; exact Nat.le_refl _
  rw [if_neg q1]
  by_cases q2 : s.1 = L.length
  · rw [if_pos q2]; exact Nat.le_refl _
  rw [if_neg q2]
  by_cases q3 : L.getD s.1 0 = s.2.2.2.1
  · rw [if_pos q3]; exact Nat.le_refl _
  rw [if_neg q3]
  exact Nat.le_succ _
theorem tk1_ge (L : List Int32) (s : RS) : s.1 ≤ (tk1 L s).1.1 ∧ ∀ b, (tk1 L s).2 = some b → 1 ≤ (tk1 L s).1.1 := by
  have h := skp_ge L s
  unfold tk1
  by_cases q : (skp L s).2.1 = 0
  · rw [if_pos q]
    unfold tk0
    by_cases q2 : (skp L s).1 = L.length
    · rw [if_pos q2]
      exact ⟨h, fun b z => by cases z⟩
    · rw [if_neg q2]
      exact ⟨by show s.1 ≤ (skp L s).1 + 1; omega, fun b _ => by show 1 ≤ (skp L s).1 + 1; omega⟩
  · rw [if_neg q]
    exact ⟨h, fun b z => by cases z⟩
theorem tkN_ge {L : List Int32} : ∀ {w : Nat} {s : RS} {v sm : Int32}, s.1 ≤ (tkN L w s v sm).1.1
  | 0, s, v, sm => Nat.le_refl _
  | w + 1, s, v, sm => by
    have h := (tk1_ge L s).1
    cases e : (tk1 L s).2 with
    | none => rw [tkN_n e]; exact h
    | some b =>
      rw [tkN_s e]
      exact Nat.le_trans h tkN_ge
theorem tkN_1 {L : List Int32} {w : Nat} {s : RS} {v sm : Int32} {p : Int32 × Int32} (hp : (tkN L (w + 1) s v sm).2 = some p) : 1 ≤ (tkN L (w + 1) s v sm).1.1 := by
  cases e : (tk1 L s).2 with
  | none => rw [tkN_n e] at hp; cases hp
  | some b =>
    rw [tkN_s e]
    exact Nat.le_trans ((tk1_ge L s).2 b e) tkN_ge
def PRC (f : Nat) : Bool := PRD f || Nat.beq f 605
theorem PRC_le (f : Nat) (h : PRC f = false) : PRD f = false := by
  unfold PRC at h
  simp only [Bool.or_eq_false_iff] at h
  exact h.1
theorem c_readCount {σ : HS} {L : List Int32} {s : RS} {sm r : Int32} {Q : PO} (hL : L.length ≤ 2000) (ha : ab L) (hT : TPX σ L) (hs : RV L s) (hR : RX σ s) (hm : gI σ 609 0 = sm)
    (hF : ∀ σ' o, frm PRC σ σ' → rd3 L s sm r = o → oxp σ' o.1 → gI σ' 605 0 = o.2.2.1 → o.2.1 = r ∧ o.2.2.2 = (-1, 0) → Q (some (.inl 0)) σ')
    (hS : ∀ σ' s' sm' k, frm PRC σ σ' → RV L s' → RX σ' s' → gI σ' 609 0 = sm' → gI σ' 605 0 = nI k → k ≤ 8 → rd3 L s sm r = rd4 L s' sm' r (nI k) → Q (some (.inl 1)) σ') : MM 38 [.inr (.inr (some (5, 0)))] σ Q := by
  rw [eX5_readCount 30]
  simp only [am_run_s, bt, lf, am_in, am_ar, am_fit, am_ld, am_ct, Nat.reduceLT, Nat.reduceEqDiff, reduceIte, Nat.reduceAdd, Nat.reduceLeDiff, Nat.reduceSub, Bool.false_eq_true, if_true, if_false, ite_true, ite_false, List.length_cons, List.length_nil, Nat.zero_add, Nat.add_zero, and_true, true_and, true_or, or_true, and_self, Nat.le_refl, Nat.lt_irrefl, gI_sI, gL_sL, gQ_sQ, gI_sJ, gI_sL, gI_sQ, gL_sI, gL_sQ, gL_sJ, gQ_sI, gQ_sL, gQ_sJ, gN_sI, gN_sL, gN_sQ, gN_sJ, E_cV_a, E_cV_b, E_c_0, E_getI_0, E_je_0, E_jg_0, E_jmp_0, E_jz_0, E_kk, E_ldR_a, E_ldR_b, E_putI_0, E_rZ_0, am_cc, am_pop, am_rt, cC_5, kX5_readCount]
  refine c_takeNumber (w := 4) (by omega) hL ha hT hs hR hm _ (by decide) (fun σ1 f1 r1 m1 => ?_)
  cases e : (tkN L 4 s 0 sm).2 with
  | none =>
    rw [onum_n]
    simp only [am_run_s, bt, lf, am_in, am_ar, am_fit, am_ld, am_ct, Nat.reduceLT, Nat.reduceEqDiff, reduceIte, Nat.reduceAdd, Nat.reduceLeDiff, Nat.reduceSub, Bool.false_eq_true, if_true, if_false, ite_true, ite_false, List.length_cons, List.length_nil, Nat.zero_add, Nat.add_zero, and_true, true_and, true_or, or_true, and_self, Nat.le_refl, Nat.lt_irrefl, gI_sI, gL_sL, gQ_sQ, gI_sJ, gI_sL, gI_sQ, gL_sI, gL_sQ, gL_sJ, gQ_sI, gQ_sL, gQ_sJ, gN_sI, gN_sL, gN_sQ, gN_sJ, E_cV_a, E_cV_b, E_c_0, E_getI_0, E_je_0, E_jg_0, E_jmp_0, E_jz_0, E_kk, E_ldR_a, E_ldR_b, E_putI_0, E_rZ_0, am_cc, am_pop, am_rt, cC_5, kX5_readCount, am_b0]
    have g0 : frm PRC σ (sI σ1 605 0 (-1)) := (f1.mo PRC_le).si rfl
    refine hF _ _ g0 (by unfold rd3; rw [e]) ⟨?_, ?_, ?_⟩ ?_ ⟨rfl, rfl⟩
    · simp only [gI_sI, gL_sL, gQ_sQ, gI_sJ, gI_sL, gI_sQ, gL_sI, gL_sQ, gL_sJ, gQ_sI, gQ_sL, gQ_sJ, gN_sI, gN_sL, gN_sQ, gN_sJ, Nat.reduceLT, Nat.reduceEqDiff, reduceIte, Nat.reduceAdd, Nat.reduceLeDiff, Nat.reduceSub, Bool.false_eq_true, if_true, if_false, ite_true, ite_false, List.length_cons, List.length_nil, Nat.zero_add, Nat.add_zero, and_true, true_and, true_or, or_true, and_self, Nat.le_refl, Nat.lt_irrefl]; exact r1.1
    · simp only [gI_sI, gL_sL, gQ_sQ, gI_sJ, gI_sL, gI_sQ, gL_sI, gL_sQ, gL_sJ, gQ_sI, gQ_sL, gQ_sJ, gN_sI, gN_sL, gN_sQ, gN_sJ, Nat.reduceLT, Nat.reduceEqDiff, reduceIte, Nat.reduceAdd, Nat.reduceLeDiff, Nat.reduceSub, Bool.false_eq_true, if_true, if_false, ite_true, ite_false, List.length_cons, List.length_nil, Nat.zero_add, Nat.add_zero, and_true, true_and, true_or, or_true, and_self, Nat.le_refl, Nat.lt_irrefl]; exact r1.2.1
    · simp only [gI_sI, gL_sL, gQ_sQ, gI_sJ, gI_sL, gI_sQ, gL_sI, gL_sQ, gL_sJ, gQ_sI, gQ_sL, gQ_sJ, gN_sI, gN_sL, gN_sQ, gN_sJ, Nat.reduceLT, Nat.reduceEqDiff, reduceIte, Nat.reduceAdd, Nat.reduceLeDiff, Nat.reduceSub, Bool.false_eq_true, if_true, if_false, ite_true, ite_false, List.length_cons, List.length_nil, Nat.zero_add, Nat.add_zero, and_true, true_and, true_or, or_true, and_self, Nat.le_refl, Nat.lt_irrefl]; exact r1.2.2.2.2
    · simp only [gI_sI, gL_sL, gQ_sQ, gI_sJ, gI_sL, gI_sQ, gL_sI, gL_sQ, gL_sJ, gQ_sI, gQ_sL, gQ_sJ, gN_sI, gN_sL, gN_sQ, gN_sJ, Nat.reduceLT, Nat.reduceEqDiff, reduceIte, Nat.reduceAdd, Nat.reduceLeDiff, Nat.reduceSub, Bool.false_eq_true, if_true, if_false, ite_true, ite_false, List.length_cons, List.length_nil, Nat.zero_add, Nat.add_zero, and_true, true_and, true_or, or_true, and_self, Nat.le_refl, Nat.lt_irrefl]; rfl
  | some p =>
    rw [onum_s]
    obtain ⟨y, y1, y2⟩ := tkN_v (x := 0) ha hs e
    have n1 : ¬ p.1 = -1 := by rw [y1]; exact num_ne (by omega)
    by_cases q : 8 < p.1
    · simp only [am_run_s, bt, lf, am_in, am_ar, am_fit, am_ld, am_ct, Nat.reduceLT, Nat.reduceEqDiff, reduceIte, Nat.reduceAdd, Nat.reduceLeDiff, Nat.reduceSub, Bool.false_eq_true, if_true, if_false, ite_true, ite_false, List.length_cons, List.length_nil, Nat.zero_add, Nat.add_zero, and_true, true_and, true_or, or_true, and_self, Nat.le_refl, Nat.lt_irrefl, gI_sI, gL_sL, gQ_sQ, gI_sJ, gI_sL, gI_sQ, gL_sI, gL_sQ, gL_sJ, gQ_sI, gQ_sL, gQ_sJ, gN_sI, gN_sL, gN_sQ, gN_sJ, E_cV_a, E_cV_b, E_c_0, E_getI_0, E_je_0, E_jg_0, E_jmp_0, E_jz_0, E_kk, E_ldR_a, E_ldR_b, E_putI_0, E_rZ_0, am_cc, am_pop, am_rt, cC_5, kX5_readCount, n1, q, ↓s_faultAtLatest, am_b0]
      have g0 : frm PRC σ (sI (sI (sI σ1 605 0 p.1) 603 0 (gI σ1 603 0 - 1)) 602 0 3) := (((f1.mo PRC_le).si rfl).si rfl).si rfl
      refine hF _ (((tkN L 4 s 0 sm).1.1 - 1, 3, (tkN L 4 s 0 sm).1.2.2.2.2), r, p.1, -1, 0) g0 (by unfold rd3; rw [e]; dsimp only; rw [if_pos q]) ⟨?_, ?_, ?_⟩ ?_ ⟨rfl, rfl⟩
      · simp only [gI_sI, gL_sL, gQ_sQ, gI_sJ, gI_sL, gI_sQ, gL_sI, gL_sQ, gL_sJ, gQ_sI, gQ_sL, gQ_sJ, gN_sI, gN_sL, gN_sQ, gN_sJ, Nat.reduceLT, Nat.reduceEqDiff, reduceIte, Nat.reduceAdd, Nat.reduceLeDiff, Nat.reduceSub, Bool.false_eq_true, if_true, if_false, ite_true, ite_false, List.length_cons, List.length_nil, Nat.zero_add, Nat.add_zero, and_true, true_and, true_or, or_true, and_self, Nat.le_refl, Nat.lt_irrefl, r1.1]
        have := tkN_1 e
        rw [one', pk_sub this]
      · simp only [gI_sI, gL_sL, gQ_sQ, gI_sJ, gI_sL, gI_sQ, gL_sI, gL_sQ, gL_sJ, gQ_sI, gQ_sL, gQ_sJ, gN_sI, gN_sL, gN_sQ, gN_sJ, Nat.reduceLT, Nat.reduceEqDiff, reduceIte, Nat.reduceAdd, Nat.reduceLeDiff, Nat.reduceSub, Bool.false_eq_true, if_true, if_false, ite_true, ite_false, List.length_cons, List.length_nil, Nat.zero_add, Nat.add_zero, and_true, true_and, true_or, or_true, and_self, Nat.le_refl, Nat.lt_irrefl]
      · simp only [gI_sI, gL_sL, gQ_sQ, gI_sJ, gI_sL, gI_sQ, gL_sI, gL_sQ, gL_sJ, gQ_sI, gQ_sL, gQ_sJ, gN_sI, gN_sL, gN_sQ, gN_sJ, Nat.reduceLT, Nat.reduceEqDiff, reduceIte, Nat.reduceAdd, Nat.reduceLeDiff, Nat.reduceSub, Bool.false_eq_true, if_true, if_false, ite_true, ite_false, List.length_cons, List.length_nil, Nat.zero_add, Nat.add_zero, and_true, true_and, true_or, or_true, and_self, Nat.le_refl, Nat.lt_irrefl]; exact r1.2.2.2.2
      · simp only [gI_sI, gL_sL, gQ_sQ, gI_sJ, gI_sL, gI_sQ, gL_sI, gL_sQ, gL_sJ, gQ_sI, gQ_sL, gQ_sJ, gN_sI, gN_sL, gN_sQ, gN_sJ, Nat.reduceLT, Nat.reduceEqDiff, reduceIte, Nat.reduceAdd, Nat.reduceLeDiff, Nat.reduceSub, Bool.false_eq_true, if_true, if_false, ite_true, ite_false, List.length_cons, List.length_nil, Nat.zero_add, Nat.add_zero, and_true, true_and, true_or, or_true, and_self, Nat.le_refl, Nat.lt_irrefl]
    · simp only [am_run_s, bt, lf, am_in, am_ar, am_fit, am_ld, am_ct, Nat.reduceLT, Nat.reduceEqDiff, reduceIte, Nat.reduceAdd, Nat.reduceLeDiff, Nat.reduceSub, Bool.false_eq_true, if_true, if_false, ite_true, ite_false, List.length_cons, List.length_nil, Nat.zero_add, Nat.add_zero, and_true, true_and, true_or, or_true, and_self, Nat.le_refl, Nat.lt_irrefl, gI_sI, gL_sL, gQ_sQ, gI_sJ, gI_sL, gI_sQ, gL_sI, gL_sQ, gL_sJ, gQ_sI, gQ_sL, gQ_sJ, gN_sI, gN_sL, gN_sQ, gN_sJ, E_cV_a, E_cV_b, E_c_0, E_getI_0, E_je_0, E_jg_0, E_jmp_0, E_jz_0, E_kk, E_ldR_a, E_ldR_b, E_putI_0, E_rZ_0, am_cc, am_pop, am_rt, cC_5, kX5_readCount, n1, q, am_b1]
      have g0 : frm PRC σ (sI σ1 605 0 p.1) := (f1.mo PRC_le).si rfl
      have hy : y ≤ 8 := by
        rcases Nat.lt_or_ge 8 y with z | z
        · exact absurd (by rw [y1, n8]; exact nI_lt z (by omega)) q
        · exact z
      refine hS _ (tkN L 4 s 0 sm).1 p.2 y g0 (RV_tkN ha hs e) ⟨?_, ?_, ?_, ?_, ?_⟩ ?_ ?_ hy (by unfold rd3; rw [e]; dsimp only; rw [if_neg q, y1])
      · simp only [gI_sI, gL_sL, gQ_sQ, gI_sJ, gI_sL, gI_sQ, gL_sI, gL_sQ, gL_sJ, gQ_sI, gQ_sL, gQ_sJ, gN_sI, gN_sL, gN_sQ, gN_sJ, Nat.reduceLT, Nat.reduceEqDiff, reduceIte, Nat.reduceAdd, Nat.reduceLeDiff, Nat.reduceSub, Bool.false_eq_true, if_true, if_false, ite_true, ite_false, List.length_cons, List.length_nil, Nat.zero_add, Nat.add_zero, and_true, true_and, true_or, or_true, and_self, Nat.le_refl, Nat.lt_irrefl, r1.1]
      · simp only [gI_sI, gL_sL, gQ_sQ, gI_sJ, gI_sL, gI_sQ, gL_sI, gL_sQ, gL_sJ, gQ_sI, gQ_sL, gQ_sJ, gN_sI, gN_sL, gN_sQ, gN_sJ, Nat.reduceLT, Nat.reduceEqDiff, reduceIte, Nat.reduceAdd, Nat.reduceLeDiff, Nat.reduceSub, Bool.false_eq_true, if_true, if_false, ite_true, ite_false, List.length_cons, List.length_nil, Nat.zero_add, Nat.add_zero, and_true, true_and, true_or, or_true, and_self, Nat.le_refl, Nat.lt_irrefl, r1.2.1]
      · simp only [gI_sI, gL_sL, gQ_sQ, gI_sJ, gI_sL, gI_sQ, gL_sI, gL_sQ, gL_sJ, gQ_sI, gQ_sL, gQ_sJ, gN_sI, gN_sL, gN_sQ, gN_sJ, Nat.reduceLT, Nat.reduceEqDiff, reduceIte, Nat.reduceAdd, Nat.reduceLeDiff, Nat.reduceSub, Bool.false_eq_true, if_true, if_false, ite_true, ite_false, List.length_cons, List.length_nil, Nat.zero_add, Nat.add_zero, and_true, true_and, true_or, or_true, and_self, Nat.le_refl, Nat.lt_irrefl, r1.2.2.1]
      · simp only [gI_sI, gL_sL, gQ_sQ, gI_sJ, gI_sL, gI_sQ, gL_sI, gL_sQ, gL_sJ, gQ_sI, gQ_sL, gQ_sJ, gN_sI, gN_sL, gN_sQ, gN_sJ, Nat.reduceLT, Nat.reduceEqDiff, reduceIte, Nat.reduceAdd, Nat.reduceLeDiff, Nat.reduceSub, Bool.false_eq_true, if_true, if_false, ite_true, ite_false, List.length_cons, List.length_nil, Nat.zero_add, Nat.add_zero, and_true, true_and, true_or, or_true, and_self, Nat.le_refl, Nat.lt_irrefl, r1.2.2.2.1]
      · simp only [gI_sI, gL_sL, gQ_sQ, gI_sJ, gI_sL, gI_sQ, gL_sI, gL_sQ, gL_sJ, gQ_sI, gQ_sL, gQ_sJ, gN_sI, gN_sL, gN_sQ, gN_sJ, Nat.reduceLT, Nat.reduceEqDiff, reduceIte, Nat.reduceAdd, Nat.reduceLeDiff, Nat.reduceSub, Bool.false_eq_true, if_true, if_false, ite_true, ite_false, List.length_cons, List.length_nil, Nat.zero_add, Nat.add_zero, and_true, true_and, true_or, or_true, and_self, Nat.le_refl, Nat.lt_irrefl, r1.2.2.2.2]
      · simp only [gI_sI, gL_sL, gQ_sQ, gI_sJ, gI_sL, gI_sQ, gL_sI, gL_sQ, gL_sJ, gQ_sI, gQ_sL, gQ_sJ, gN_sI, gN_sL, gN_sQ, gN_sJ, Nat.reduceLT, Nat.reduceEqDiff, reduceIte, Nat.reduceAdd, Nat.reduceLeDiff, Nat.reduceSub, Bool.false_eq_true, if_true, if_false, ite_true, ite_false, List.length_cons, List.length_nil, Nat.zero_add, Nat.add_zero, and_true, true_and, true_or, or_true, and_self, Nat.le_refl, Nat.lt_irrefl]; exact m1 p e
      · simp only [gI_sI, gL_sL, gQ_sQ, gI_sJ, gI_sL, gI_sQ, gL_sI, gL_sQ, gL_sJ, gQ_sI, gQ_sL, gQ_sJ, gN_sI, gN_sL, gN_sQ, gN_sJ, Nat.reduceLT, Nat.reduceEqDiff, reduceIte, Nat.reduceAdd, Nat.reduceLeDiff, Nat.reduceSub, Bool.false_eq_true, if_true, if_false, ite_true, ite_false, List.length_cons, List.length_nil, Nat.zero_add, Nat.add_zero, and_true, true_and, true_or, or_true, and_self, Nat.le_refl, Nat.lt_irrefl]; exact y1
/-- ints of P and longs of R may have changed -/
def fr2 (P R : Nat → Bool) (σ σ' : HS) : Prop := σ'.1 = σ.1 ∧ σ'.2.2.2 = σ.2.2.2 ∧ (∀ f i, P f = false → σ'.2.1 f i = σ.2.1 f i) ∧ ∀ f i, R f = false → σ'.2.2.1 f i = σ.2.2.1 f i
def oI2 (σ : HS) (P R : Nat → Bool) (J : Nat → Nat → Int32) (K : Nat → Nat → Int64) : HS := (σ.1, fun f i => if P f = true then J f i else σ.2.1 f i, fun f i => if R f = true then K f i else σ.2.2.1 f i, σ.2.2.2)
theorem fr2.rf {P R : Nat → Bool} {σ : HS} : fr2 P R σ σ := ⟨rfl, rfl, fun _ _ _ => rfl, fun _ _ _ => rfl⟩
theorem fr2.tr {P R : Nat → Bool} {a b c : HS} (h : fr2 P R a b) (g : fr2 P R b c) : fr2 P R a c := ⟨g.1.trans h.1, g.2.1.trans h.2.1, fun f i hf => (g.2.2.1 f i hf).trans (h.2.2.1 f i hf), fun f i hf => (g.2.2.2 f i hf).trans (h.2.2.2 f i hf)⟩
theorem frm.f2 {P P' R : Nat → Bool} {a b : HS} (h : frm P a b) (hp : ∀ f, P' f = false → P f = false) : fr2 P' R a b := ⟨h.1, by rw [h.2.1], fun f i hf => h.2.2 f i (hp f hf), fun f i _ => by rw [h.2.1]⟩
theorem fr2.mo {P P' R : Nat → Bool} {a b : HS} (h : fr2 P R a b) (hp : ∀ f, P' f = false → P f = false) : fr2 P' R a b := ⟨h.1, h.2.1, fun f i hf => h.2.2.1 f i (hp f hf), h.2.2.2⟩
theorem fr2.sl {P R : Nat → Bool} {a b : HS} (h : fr2 P R a b) {f i : Nat} {v : Int64} (hf : R f = true) : fr2 P R a (sL b f i v) := by
  refine ⟨h.1, h.2.1, h.2.2.1, fun f' i' hf' => ?_⟩
  have : ¬ f' = f := fun e => by rw [e, hf] at hf'; cases hf'
  show (if f' = f then _ else b.2.2.1 f' i') = _
  rw [if_neg this]
  exact h.2.2.2 f' i' hf'
theorem fr2.si {P R : Nat → Bool} {a b : HS} (h : fr2 P R a b) {f i : Nat} {v : Int32} (hf : P f = true) : fr2 P R a (sI b f i v) := by
  refine ⟨h.1, h.2.1, fun f' i' hf' => ?_, h.2.2.2⟩
  have : ¬ f' = f := fun e => by rw [e, hf] at hf'; cases hf'
  show (if f' = f then _ else b.2.1 f' i') = _
  rw [if_neg this]
  exact h.2.2.1 f' i' hf'
theorem fr2.gi {P R : Nat → Bool} {a b : HS} (h : fr2 P R a b) {f i : Nat} (hf : P f = false) : gI b f i = gI a f i := h.2.2.1 f i hf
theorem fr2.gl {P R : Nat → Bool} {a b : HS} (h : fr2 P R a b) {f i : Nat} (hf : R f = false) : gL b f i = gL a f i := h.2.2.2 f i hf
theorem fr2.gn {P R : Nat → Bool} {a b : HS} (h : fr2 P R a b) (c : Nat) : gN b c = gN a c := by unfold gN; rw [h.1]
theorem fr2.el {P R : Nat → Bool} {a b : HS} (h : fr2 P R a b) : ∃ J K, b = oI2 a P R J K := by
  refine ⟨b.2.1, b.2.2.1, ?_⟩
  obtain ⟨h1, h2, h3, h4⟩ := h
  unfold oI2
  obtain ⟨b1, b2, b3, b4⟩ := b
  dsimp only at h1 h2 h3 h4 ⊢
  subst h1
  obtain ⟨a1, a2, a3, a4⟩ := a
  dsimp only at h2 h3 h4 ⊢
  subst h2
  congr 2
  · funext f i
    cases hp : P f with
    | true => simp
    | false => simp [h3 f i hp]
  · congr 1
    funext f i
    cases hp : R f with
    | true => simp
    | false => simp [h4 f i hp]
def PRL (f : Nat) : Bool := Nat.beq f 608
theorem TPX.f2 {σ σ' : HS} {l : List Int32} {P R : Nat → Bool} (h : TPX σ l) (f : fr2 P R σ σ') (h1 : P 901 = false) (h2 : P 31 = false) : TPX σ' l :=
  ⟨by rw [f.gi h1]; exact h.1, fun j hj => by rw [f.gi h2]; exact h.2 j hj⟩
theorem l_readBytes {L : List Int32} {Q : PO} {k : Nat} (hk : k ≤ 8) (hL : L.length ≤ 2000) (ha : ab L) : ∀ (w i : Nat) (σ : HS) (s : RS) (sm : Int32) (v : Int64) (o : Option AV), i + w = k → TPX σ L → RV L s → RX σ s → gI σ 609 0 = sm → gI σ 605 0 = nI k → gL σ 608 0 = v →
    (∀ σ' s' v', fr2 PRD PRL σ σ' → bytP L w s sm v = ((s', none), v') → RX σ' s' → gL σ' 608 0 = v' → Q (some (.inl 0)) σ') →
    (∀ σ' s' sm' v', fr2 PRD PRL σ σ' → bytP L w s sm v = ((s', some sm'), v') → RV L s' → RX σ' s' → gI σ' 609 0 = sm' → gL σ' 608 0 = v' → Q (some (.inl 1)) σ') →
    am_T (kX5_readBytes S1) MM Q 2 [some (.inr (.inr (some (5, 0)))), some (.inl (nI i)), o] [] σ 0 0 := by
  intro w
  induction w with
  | zero =>
    intro i σ s sm v o hi hT hs hR hm hn hv hF hS
    have e : i = k := by omega
    subst e
    rw [hX5_readBytes 24]
    have h0 : ¬ nI i < nI i := nI_nlt (by omega) (by omega)
    simp only [am_run_s, bt, lf, am_in, am_ar, am_fit, am_ld, am_ct, Nat.reduceLT, Nat.reduceEqDiff, reduceIte, Nat.reduceAdd, Nat.reduceLeDiff, Nat.reduceSub, Bool.false_eq_true, if_true, if_false, ite_true, ite_false, List.length_cons, List.length_nil, Nat.zero_add, Nat.add_zero, and_true, true_and, true_or, or_true, and_self, Nat.le_refl, Nat.lt_irrefl, gI_sI, gL_sL, gQ_sQ, gI_sJ, gI_sL, gI_sQ, gL_sI, gL_sQ, gL_sJ, gQ_sI, gQ_sL, gQ_sJ, gN_sI, gN_sL, gN_sQ, gN_sJ, E_cV_a, E_cV_b, E_c_0, E_getI_0, E_getL_0, E_i2l_0, E_inc_a, E_inc_b, E_je_0, E_jl_0, E_jmp_0, E_kk, E_l2_0, E_ldI_a, E_ldI_b, E_ldR_a, E_ldR_b, E_lsh_0, E_putL_0, E_rZ_0, E_stI_0, am_cc, am_nl, am_ok, am_pop, am_rt, am_set, cC_5, kX5_readBytes, hn, h0, am_b1]
    exact hS σ s sm v fr2.rf rfl hs hR hm hv
  | succ w ih =>
    intro i σ s sm v o hi hT hs hR hm hn hv hF hS
    rw [hX5_readBytes 24]
    have h0 := nI_t (show i < k by omega) (by omega)
    simp only [am_run_s, bt, lf, am_in, am_ar, am_fit, am_ld, am_ct, Nat.reduceLT, Nat.reduceEqDiff, reduceIte, Nat.reduceAdd, Nat.reduceLeDiff, Nat.reduceSub, Bool.false_eq_true, if_true, if_false, ite_true, ite_false, List.length_cons, List.length_nil, Nat.zero_add, Nat.add_zero, and_true, true_and, true_or, or_true, and_self, Nat.le_refl, Nat.lt_irrefl, gI_sI, gL_sL, gQ_sQ, gI_sJ, gI_sL, gI_sQ, gL_sI, gL_sQ, gL_sJ, gQ_sI, gQ_sL, gQ_sJ, gN_sI, gN_sL, gN_sQ, gN_sJ, E_cV_a, E_cV_b, E_c_0, E_getI_0, E_getL_0, E_i2l_0, E_inc_a, E_inc_b, E_je_0, E_jl_0, E_jmp_0, E_kk, E_l2_0, E_ldI_a, E_ldI_b, E_ldR_a, E_ldR_b, E_lsh_0, E_putL_0, E_rZ_0, E_stI_0, am_cc, am_nl, am_ok, am_pop, am_rt, am_set, cC_5, kX5_readBytes, hn, h0]
    refine c_takeNumber (w := 8) (by omega) hL ha hT hs hR hm _ (by decide) (fun σ1 f1 r1 m1 => ?_)
    have g1 : fr2 PRD PRL σ σ1 := f1.f2 (fun _ h => h)
    cases e : (tkN L 8 s 0 sm).2 with
    | none =>
      rw [onum_n]
      simp only [am_run_s, bt, lf, am_in, am_ar, am_fit, am_ld, am_ct, Nat.reduceLT, Nat.reduceEqDiff, reduceIte, Nat.reduceAdd, Nat.reduceLeDiff, Nat.reduceSub, Bool.false_eq_true, if_true, if_false, ite_true, ite_false, List.length_cons, List.length_nil, Nat.zero_add, Nat.add_zero, and_true, true_and, true_or, or_true, and_self, Nat.le_refl, Nat.lt_irrefl, gI_sI, gL_sL, gQ_sQ, gI_sJ, gI_sL, gI_sQ, gL_sI, gL_sQ, gL_sJ, gQ_sI, gQ_sL, gQ_sJ, gN_sI, gN_sL, gN_sQ, gN_sJ, E_cV_a, E_cV_b, E_c_0, E_getI_0, E_getL_0, E_i2l_0, E_inc_a, E_inc_b, E_je_0, E_jl_0, E_jmp_0, E_kk, E_l2_0, E_ldI_a, E_ldI_b, E_ldR_a, E_ldR_b, E_lsh_0, E_putL_0, E_rZ_0, E_stI_0, am_cc, am_nl, am_ok, am_pop, am_rt, am_set, cC_5, kX5_readBytes, am_b0]
      exact hF σ1 _ v g1 (bytP_n e w v) r1 (by rw [f1.gl]; exact hv)
    | some p =>
      rw [onum_s]
      obtain ⟨y, y1, y2⟩ := tkN_v (x := 0) ha hs e
      have n1 : ¬ p.1 = -1 := by rw [y1]; exact num_ne (by omega)
      have hv1 : gL σ1 608 0 = v := by rw [f1.gl]; exact hv
      simp only [am_run_s, bt, lf, am_in, am_ar, am_fit, am_ld, am_ct, Nat.reduceLT, Nat.reduceEqDiff, reduceIte, Nat.reduceAdd, Nat.reduceLeDiff, Nat.reduceSub, Bool.false_eq_true, if_true, if_false, ite_true, ite_false, List.length_cons, List.length_nil, Nat.zero_add, Nat.add_zero, and_true, true_and, true_or, or_true, and_self, Nat.le_refl, Nat.lt_irrefl, gI_sI, gL_sL, gQ_sQ, gI_sJ, gI_sL, gI_sQ, gL_sI, gL_sQ, gL_sJ, gQ_sI, gQ_sL, gQ_sJ, gN_sI, gN_sL, gN_sQ, gN_sJ, E_cV_a, E_cV_b, E_c_0, E_getI_0, E_getL_0, E_i2l_0, E_inc_a, E_inc_b, E_je_0, E_jl_0, E_jmp_0, E_kk, E_l2_0, E_ldI_a, E_ldI_b, E_ldR_a, E_ldR_b, E_lsh_0, E_putL_0, E_rZ_0, E_stI_0, am_cc, am_nl, am_ok, am_pop, am_rt, am_set, cC_5, kX5_readBytes, n1, hv1, nI_1]
      have g2 : fr2 PRD PRL σ (sL σ1 608 0 ((v <<< ((8 : Int32).toInt64 &&& 63)) ||| p.1.toInt64)) := g1.sl rfl
      rw [bytP_s e] at hF hS
      refine ih (i + 1) _ (tkN L 8 s 0 sm).1 p.2 _ _ (by omega) (hT.f2 g2 rfl rfl) (RV_tkN ha hs e) ⟨r1.1, r1.2.1, r1.2.2.1, r1.2.2.2.1, r1.2.2.2.2⟩ (m1 p e) ?_ rfl (fun σ' s' v' g e' => hF σ' s' v' (g2.tr g) e') (fun σ' s' sm' v' g e' => hS σ' s' sm' v' (g2.tr g) e')
      rw [g2.gi rfl]; exact hn
theorem c_readBytes {σ : HS} {L : List Int32} {s : RS} {sm r : Int32} {k : Nat} {Q : PO} (hk : k ≤ 8) (hL : L.length ≤ 2000) (ha : ab L) (hT : TPX σ L) (hs : RV L s) (hR : RX σ s) (hm : gI σ 609 0 = sm) (hn : gI σ 605 0 = nI k) (hv : gL σ 608 0 = 0)
    (hF : ∀ σ' o, fr2 PRD PRL σ σ' → rd4 L s sm r (nI k) = o → oxp σ' o.1 → gL σ' 608 0 = o.2.2.2.2 → o.2.1 = r ∧ o.2.2.1 = nI k ∧ o.2.2.2.1 = -1 → Q (some (.inl 0)) σ')
    (hS : ∀ σ' s' sm' v, fr2 PRD PRL σ σ' → RV L s' → RX σ' s' → gI σ' 609 0 = sm' → gL σ' 608 0 = v → rd4 L s sm r (nI k) = rd5 L s' sm' r (nI k) v → Q (some (.inl 1)) σ') : MM 39 [.inr (.inr (some (5, 0)))] σ Q := by
  have ek : (nI k).toNatClampNeg = k := nI_clamp (by omega)
  rw [eX5_readBytes 20]
  simp only [am_run_s, bt, lf, am_in, am_ar, am_fit, am_ld, am_ct, Nat.reduceLT, Nat.reduceEqDiff, reduceIte, Nat.reduceAdd, Nat.reduceLeDiff, Nat.reduceSub, Bool.false_eq_true, if_true, if_false, ite_true, ite_false, List.length_cons, List.length_nil, Nat.zero_add, Nat.add_zero, and_true, true_and, true_or, or_true, and_self, Nat.le_refl, Nat.lt_irrefl, gI_sI, gL_sL, gQ_sQ, gI_sJ, gI_sL, gI_sQ, gL_sI, gL_sQ, gL_sJ, gQ_sI, gQ_sL, gQ_sJ, gN_sI, gN_sL, gN_sQ, gN_sJ, E_cV_a, E_cV_b, E_c_0, E_getI_0, E_getL_0, E_i2l_0, E_inc_a, E_inc_b, E_je_0, E_jl_0, E_jmp_0, E_kk, E_l2_0, E_ldI_a, E_ldI_b, E_ldR_a, E_ldR_b, E_lsh_0, E_putL_0, E_rZ_0, E_stI_0, am_cc, am_nl, am_ok, am_pop, am_rt, am_set, cC_5, kX5_readBytes]
  refine l_readBytes hk hL ha k 0 σ s sm 0 _ (by omega) hT hs hR hm hn hv (fun σ' s' v' g e r1 w1 => ?_) (fun σ' s' sm' v' g e v1 r1 m1 w1 => ?_)
  · refine hF σ' (oF s' r (nI k) (-1) v') g ?_ (r1.o _ _ _ _) w1 ⟨rfl, rfl, rfl⟩
    unfold rd4; rw [ek, e]
  · refine hS σ' s' sm' v' g v1 r1 m1 w1 ?_
    unfold rd4; rw [ek, e]
def PRS (f : Nat) : Bool := PRD f || Nat.beq f 606
theorem PRS_le (f : Nat) (h : PRS f = false) : PRD f = false := by
  unfold PRS at h
  simp only [Bool.or_eq_false_iff] at h
  exact h.1
theorem l_readTail {L : List Int32} {Q : PO} (hL : L.length ≤ 2000) : ∀ (w j pl : Nat) (σ : HS), j + w = 10 → pl ≤ L.length → TPX σ L → v_tai σ → gI σ 603 0 = nI pl → gI σ 602 0 = 0 →
    (∀ σ', frm PRD σ σ' → gI σ' 603 0 = nI (tailP L w j pl).1 → gI σ' 602 0 = (tailP L w j pl).2 → gI σ' 607 0 = gI σ 607 0 → Q none σ') →
    am_T (kX5_readTail S1) MM Q 2 [some (.inr (.inr (some (5, 0)))), some (.inl (nI j))] [] σ 0 0 := by
  intro w
  induction w with
  | zero =>
    intro j pl σ hj hpl hT ht hp hf hQ
    have e : j = 10 := by omega
    subst e
    rw [hX5_readTail 30]
    have h0 : ¬ nI 10 < nI 10 := by decide
    simp only [am_run_s, bt, lf, am_in, am_ar, am_fit, am_ld, am_ct, Nat.reduceLT, Nat.reduceEqDiff, reduceIte, Nat.reduceAdd, Nat.reduceLeDiff, Nat.reduceSub, Bool.false_eq_true, if_true, if_false, ite_true, ite_false, List.length_cons, List.length_nil, Nat.zero_add, Nat.add_zero, and_true, true_and, true_or, or_true, and_self, Nat.le_refl, Nat.lt_irrefl, gI_sI, gL_sL, gQ_sQ, gI_sJ, gI_sL, gI_sQ, gL_sI, gL_sQ, gL_sJ, gQ_sI, gQ_sL, gQ_sJ, gN_sI, gN_sL, gN_sQ, gN_sJ, E_alen_0, E_b2_0, E_cV_a, E_cV_b, E_c_0, E_dup_0, E_dup_1, E_getI_0, E_getR_0, E_iald_0, E_inc_a, E_inc_b, E_je_0, E_jl_0, E_jmp_0, E_jz_0, E_kk, E_ldI_a, E_ldI_b, E_ldR_a, E_ldR_b, E_pop_0, E_pop_1, E_putI_0, E_rV_0, E_stI_0, aL_21, aL_31, am_cc, am_nl, am_ok, am_pop, am_rt, am_set, cC_21, cC_31, cC_5, cC_8, rR_600, rR_900, kX5_readTail, h0, not_false_eq_true]
    exact hQ σ frm.rf hp hf rfl
  | succ w ih =>
    intro j pl σ hj hpl hT ht hp hf hQ
    rw [hX5_readTail 30]
    have h0 := nI_t (show j < 10 by omega) (by omega)
    have k2 := nI_f (j := pl) (by omega)
    have et : tailP L (w + 1) j pl = if pl = L.length then (pl, 6) else if L.getD pl 0 = tailV j then tailP L w (j + 1) (pl + 1) else (pl, 5) := rfl
    by_cases q2 : pl = L.length
    · rw [et, if_pos q2] at hQ
      have k3 : ¬ nI pl < nI L.length := nI_nlt (by omega) (by omega)
      simp only [am_run_s, bt, lf, am_in, am_ar, am_fit, am_ld, am_ct, Nat.reduceLT, Nat.reduceEqDiff, reduceIte, Nat.reduceAdd, Nat.reduceLeDiff, Nat.reduceSub, Bool.false_eq_true, if_true, if_false, ite_true, ite_false, List.length_cons, List.length_nil, Nat.zero_add, Nat.add_zero, and_true, true_and, true_or, or_true, and_self, Nat.le_refl, Nat.lt_irrefl, gI_sI, gL_sL, gQ_sQ, gI_sJ, gI_sL, gI_sQ, gL_sI, gL_sQ, gL_sJ, gQ_sI, gQ_sL, gQ_sJ, gN_sI, gN_sL, gN_sQ, gN_sJ, E_alen_0, E_b2_0, E_cV_a, E_cV_b, E_c_0, E_dup_0, E_dup_1, E_getI_0, E_getR_0, E_iald_0, E_inc_a, E_inc_b, E_je_0, E_jl_0, E_jmp_0, E_jz_0, E_kk, E_ldI_a, E_ldI_b, E_ldR_a, E_ldR_b, E_pop_0, E_pop_1, E_putI_0, E_rV_0, E_stI_0, aL_21, aL_31, am_cc, am_nl, am_ok, am_pop, am_rt, am_set, cC_21, cC_31, cC_5, cC_8, rR_600, rR_900, kX5_readTail, h0, ↓s_hasBit, bI_z, hp, hT.1, k2, k3, not_true_eq_false, not_false_eq_true, and_false, ↓s_faultHere]
      refine hQ _ (frm.rf.si rfl) ?_ ?_ ?_
      · simp only [gI_sI, gL_sL, gQ_sQ, gI_sJ, gI_sL, gI_sQ, gL_sI, gL_sQ, gL_sJ, gQ_sI, gQ_sL, gQ_sJ, gN_sI, gN_sL, gN_sQ, gN_sJ, Nat.reduceLT, Nat.reduceEqDiff, reduceIte, Nat.reduceAdd, Nat.reduceLeDiff, Nat.reduceSub, Bool.false_eq_true, if_true, if_false, ite_true, ite_false, List.length_cons, List.length_nil, Nat.zero_add, Nat.add_zero, and_true, true_and, true_or, or_true, and_self, Nat.le_refl, Nat.lt_irrefl, hp]
      · simp only [gI_sI, gL_sL, gQ_sQ, gI_sJ, gI_sL, gI_sQ, gL_sI, gL_sQ, gL_sJ, gQ_sI, gQ_sL, gQ_sJ, gN_sI, gN_sL, gN_sQ, gN_sJ, Nat.reduceLT, Nat.reduceEqDiff, reduceIte, Nat.reduceAdd, Nat.reduceLeDiff, Nat.reduceSub, Bool.false_eq_true, if_true, if_false, ite_true, ite_false, List.length_cons, List.length_nil, Nat.zero_add, Nat.add_zero, and_true, true_and, true_or, or_true, and_self, Nat.le_refl, Nat.lt_irrefl]
      · simp only [gI_sI, gL_sL, gQ_sQ, gI_sJ, gI_sL, gI_sQ, gL_sI, gL_sQ, gL_sJ, gQ_sI, gQ_sL, gQ_sJ, gN_sI, gN_sL, gN_sQ, gN_sJ, Nat.reduceLT, Nat.reduceEqDiff, reduceIte, Nat.reduceAdd, Nat.reduceLeDiff, Nat.reduceSub, Bool.false_eq_true, if_true, if_false, ite_true, ite_false, List.length_cons, List.length_nil, Nat.zero_add, Nat.add_zero, and_true, true_and, true_or, or_true, and_self, Nat.le_refl, Nat.lt_irrefl]
    rw [et, if_neg q2] at hQ
    have k3 := nI_t (show pl < L.length by omega) (by omega)
    have k4 : vp_in (nI pl) 2000 := vp_in_nI (by omega) (by omega)
    have k5 : (nI pl).toNatClampNeg = pl := nI_clamp (by omega)
    have k6 := hT.2 pl (by omega)
    have k7 : vp_in (nI j) 10 := vp_in_nI (by omega) (by omega)
    have k8 : (nI j).toNatClampNeg = j := nI_clamp (by omega)
    have k9 := ht j (by omega)
    by_cases q3 : L.getD pl 0 = tailV j
    · rw [if_pos q3] at hQ
      simp only [am_run_s, bt, lf, am_in, am_ar, am_fit, am_ld, am_ct, Nat.reduceLT, Nat.reduceEqDiff, reduceIte, Nat.reduceAdd, Nat.reduceLeDiff, Nat.reduceSub, Bool.false_eq_true, if_true, if_false, ite_true, ite_false, List.length_cons, List.length_nil, Nat.zero_add, Nat.add_zero, and_true, true_and, true_or, or_true, and_self, Nat.le_refl, Nat.lt_irrefl, gI_sI, gL_sL, gQ_sQ, gI_sJ, gI_sL, gI_sQ, gL_sI, gL_sQ, gL_sJ, gQ_sI, gQ_sL, gQ_sJ, gN_sI, gN_sL, gN_sQ, gN_sJ, E_alen_0, E_b2_0, E_cV_a, E_cV_b, E_c_0, E_dup_0, E_dup_1, E_getI_0, E_getR_0, E_iald_0, E_inc_a, E_inc_b, E_je_0, E_jl_0, E_jmp_0, E_jz_0, E_kk, E_ldI_a, E_ldI_b, E_ldR_a, E_ldR_b, E_pop_0, E_pop_1, E_putI_0, E_rV_0, E_stI_0, aL_21, aL_31, am_cc, am_nl, am_ok, am_pop, am_rt, am_set, cC_21, cC_31, cC_5, cC_8, rR_600, rR_900, kX5_readTail, h0, ↓s_hasBit, bI_z, hp, hT.1, k2, k3, k4, k5, k6, k7, k8, k9, q3, not_true_eq_false, not_false_eq_true, nI_1]
      have f0 : frm PRD σ (sI σ 603 0 (nI (pl + 1))) := frm.rf.si rfl
      refine ih (j + 1) (pl + 1) _ (by omega) (by omega) (hT.fx f0 rfl rfl) ht rfl ?_ (fun σ' f1 a1 a2 a3 => hQ σ' (f0.tr f1) a1 a2 ?_)
      · rw [← hf]; rfl
      · rw [a3]; rfl
    · rw [if_neg q3] at hQ
      simp only [am_run_s, bt, lf, am_in, am_ar, am_fit, am_ld, am_ct, Nat.reduceLT, Nat.reduceEqDiff, reduceIte, Nat.reduceAdd, Nat.reduceLeDiff, Nat.reduceSub, Bool.false_eq_true, if_true, if_false, ite_true, ite_false, List.length_cons, List.length_nil, Nat.zero_add, Nat.add_zero, and_true, true_and, true_or, or_true, and_self, Nat.le_refl, Nat.lt_irrefl, gI_sI, gL_sL, gQ_sQ, gI_sJ, gI_sL, gI_sQ, gL_sI, gL_sQ, gL_sJ, gQ_sI, gQ_sL, gQ_sJ, gN_sI, gN_sL, gN_sQ, gN_sJ, E_alen_0, E_b2_0, E_cV_a, E_cV_b, E_c_0, E_dup_0, E_dup_1, E_getI_0, E_getR_0, E_iald_0, E_inc_a, E_inc_b, E_je_0, E_jl_0, E_jmp_0, E_jz_0, E_kk, E_ldI_a, E_ldI_b, E_ldR_a, E_ldR_b, E_pop_0, E_pop_1, E_putI_0, E_rV_0, E_stI_0, aL_21, aL_31, am_cc, am_nl, am_ok, am_pop, am_rt, am_set, cC_21, cC_31, cC_5, cC_8, rR_600, rR_900, kX5_readTail, h0, ↓s_hasBit, bI_z, hp, hT.1, k2, k3, k4, k5, k6, k7, k8, k9, q3, not_true_eq_false, not_false_eq_true, ↓s_faultHere]
      refine hQ _ (frm.rf.si rfl) ?_ ?_ ?_
      · simp only [gI_sI, gL_sL, gQ_sQ, gI_sJ, gI_sL, gI_sQ, gL_sI, gL_sQ, gL_sJ, gQ_sI, gQ_sL, gQ_sJ, gN_sI, gN_sL, gN_sQ, gN_sJ, Nat.reduceLT, Nat.reduceEqDiff, reduceIte, Nat.reduceAdd, Nat.reduceLeDiff, Nat.reduceSub, Bool.false_eq_true, if_true, if_false, ite_true, ite_false, List.length_cons, List.length_nil, Nat.zero_add, Nat.add_zero, and_true, true_and, true_or, or_true, and_self, Nat.le_refl, Nat.lt_irrefl, hp]
      · simp only [gI_sI, gL_sL, gQ_sQ, gI_sJ, gI_sL, gI_sQ, gL_sI, gL_sQ, gL_sJ, gQ_sI, gQ_sL, gQ_sJ, gN_sI, gN_sL, gN_sQ, gN_sJ, Nat.reduceLT, Nat.reduceEqDiff, reduceIte, Nat.reduceAdd, Nat.reduceLeDiff, Nat.reduceSub, Bool.false_eq_true, if_true, if_false, ite_true, ite_false, List.length_cons, List.length_nil, Nat.zero_add, Nat.add_zero, and_true, true_and, true_or, or_true, and_self, Nat.le_refl, Nat.lt_irrefl]
      · simp only [gI_sI, gL_sL, gQ_sQ, gI_sJ, gI_sL, gI_sQ, gL_sI, gL_sQ, gL_sJ, gQ_sI, gQ_sL, gQ_sJ, gN_sI, gN_sL, gN_sQ, gN_sJ, Nat.reduceLT, Nat.reduceEqDiff, reduceIte, Nat.reduceAdd, Nat.reduceLeDiff, Nat.reduceSub, Bool.false_eq_true, if_true, if_false, ite_true, ite_false, List.length_cons, List.length_nil, Nat.zero_add, Nat.add_zero, and_true, true_and, true_or, or_true, and_self, Nat.le_refl, Nat.lt_irrefl]
