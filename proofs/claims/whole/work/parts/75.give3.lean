/-! ===== give: the reference's sorting; ranks given ===== -/
theorem i32_tr {x y z : Int32} (h : x < y) (g : y < z) : x < z := by
  rw [Int32.lt_iff_toInt_lt] at *; omega
theorem SRT_ins {c p : Nat} {rk R R' : Nat → Int32} (h : SRT c rk R) (hd : keyD (c + 1) rk) (hp : p ≤ c) (h1 : p = 0 ∨ ¬ kI (rk c) < kI (R (p - 1))) (h2 : ∀ j, p ≤ j → j < c → kI (rk c) < kI (R j)) (h3 : ∀ j, j ≤ c → R' j = if j < p then R j else if j = p then rk c else R (j - 1)) : SRT (c + 1) rk R' := by
  have hne : ∀ j, j < c → kI (R j) ≠ kI (rk c) := by
    intro j hj e
    obtain ⟨i, i1, i2⟩ := h.2.2.1 j hj
    rw [i2] at e
    exact hd i c (by omega) (by omega) (by omega) e
  have hlo : ∀ j, j < p → kI (R j) < kI (rk c) := by
    intro j hj
    rcases h1 with z | z
    · omega
    · have a1 : kI (R (p - 1)) < kI (rk c) := by
        have := hne (p - 1) (by omega)
        rw [Int32.lt_iff_toInt_lt] at z ⊢
        have : (kI (R (p - 1))).toInt ≠ (kI (rk c)).toInt := fun e => this (Int32.toInt_inj.mp e)
        omega
      by_cases e : j = p - 1
      · rw [e]; exact a1
      · exact i32_tr (h.1 j (p - 1) (by omega) (by omega)) a1
  refine ⟨fun a b hab hb => ?_, fun i hi => ?_, fun a ha => ?_, fun x => ?_⟩
  · rw [h3 a (by omega), h3 b (by omega)]
    by_cases e1 : a < p
    · rw [if_pos e1]
      by_cases e2 : b < p
      · rw [if_pos e2]; exact h.1 a b hab (by omega)
      · rw [if_neg e2]
        by_cases e3 : b = p
        · rw [if_pos e3]; exact hlo a e1
        · rw [if_neg e3]; exact i32_tr (hlo a e1) (h2 (b - 1) (by omega) (by omega))
    · rw [if_neg e1, if_neg (show ¬ b < p by omega), if_neg (show ¬ b = p by omega)]
      by_cases e3 : a = p
      · rw [if_pos e3]; exact h2 (b - 1) (by omega) (by omega)
      · rw [if_neg e3]; exact h.1 (a - 1) (b - 1) (by omega) (by omega)
  · by_cases e : i = c
    · exact ⟨p, by omega, by rw [h3 p hp, if_neg (by omega), if_pos rfl, e]⟩
    · obtain ⟨a, a1, a2⟩ := h.2.1 i (by omega)
      by_cases e1 : a < p
      · exact ⟨a, by omega, by rw [h3 a (by omega), if_pos e1]; exact a2⟩
      · exact ⟨a + 1, by omega, by rw [h3 (a + 1) (by omega), if_neg (by omega), if_neg (by omega)]; exact a2⟩
  · rw [h3 a (by omega)]
    by_cases e1 : a < p
    · obtain ⟨i, i1, i2⟩ := h.2.2.1 a (by omega)
      exact ⟨i, by omega, by rw [if_pos e1]; exact i2⟩
    · rw [if_neg e1]
      by_cases e2 : a = p
      · exact ⟨c, by omega, if_pos e2⟩
      · obtain ⟨i, i1, i2⟩ := h.2.2.1 (a - 1) (by omega)
        exact ⟨i, by omega, by rw [if_neg e2]; exact i2⟩
  · have e1 := cntP_ins (P := fun y => kI y < x) (dP := fun _ => inferInstance) (T := R) (T' := R') (t := rk c) hp h3
    have e2 := h.2.2.2 x
    show cntP (fun b => kI (R' b) < x) (fun _ => inferInstance) (c + 1) = cntP (fun k => kI (rk k) < x) (fun _ => inferInstance) (c + 1)
    rw [e1, cntP_s]
    unfold cK at e2
    rw [e2]
def PGR (f : Nat) : Bool := Nat.beq f 60
theorem l_give26 {t : Int32} {T : Nat → Int32} {c : Nat} {Q : PO} (hc : c < 24) : ∀ (a : Nat) (σ : HS), a ≤ c → gI σ 38 c = t → (∀ j, gI σ 60 j = if a < j ∧ j ≤ c then T (j - 1) else T j) → (∀ j, a ≤ j → j < c → kI t < kI (T j)) →
    (∀ (p : Nat) (σ' : HS) (o : Option AV), frm PGR σ σ' → p ≤ c → (p = 0 ∨ ¬ kI t < kI (T (p - 1))) → (∀ j, p ≤ j → j < c → kI t < kI (T j)) → (∀ j, j ≤ c → gI σ' 60 j = if j < p then T j else if j = p then t else T (j - 1)) → am_T (kX12_give S1) MM Q 16 [some (.inr (.inr (some (12, 0)))), some (.inl (nI (c + 1))), o] [] σ' 0 0) →
    am_T (kX12_give S1) MM Q 26 [some (.inr (.inr (some (12, 0)))), some (.inl (nI c)), some (.inl (nI a))] [] σ 0 0 := by
  have c3 : vp_in (nI c) 24 := vp_in_nI (by omega) (by omega)
  have c4 : (nI c).toNatClampNeg = c := nI_clamp (by omega)
  intro a
  induction a with
  | zero =>
    intro σ ha ht hT hg hX
    rw [hX12_give 11]
    have h0 : ¬ 0 < nI 0 := by decide
    have h3 : vp_in (nI 0) 24 := vp_in_nI (by omega) (by omega)
    have h4 : (nI 0).toNatClampNeg = 0 := nI_clamp (by omega)
    simp only [am_run_s, bt, lf, am_in, am_ar, am_fit, am_ld, am_ct, Nat.reduceLT, Nat.reduceEqDiff, reduceIte, Nat.reduceAdd, Nat.reduceLeDiff, Nat.reduceSub, Bool.false_eq_true, if_true, if_false, ite_true, ite_false, List.length_cons, List.length_nil, Nat.zero_add, Nat.add_zero, and_true, true_and, true_or, or_true, and_self, Nat.le_refl, Nat.lt_irrefl, gI_sI, gL_sL, gQ_sQ, gI_sJ, gI_sL, gI_sQ, gL_sI, gL_sQ, gL_sJ, gQ_sI, gQ_sL, gQ_sJ, gN_sI, gN_sL, gN_sQ, gN_sJ, E_b2_0, E_cS_a, E_cS_b, E_cV_a, E_cV_b, E_c_0, E_getI_0, E_getR_0, E_iald_0, E_iast_0, E_inc_a, E_inc_b, E_je_0, E_jg_0, E_jl_0, E_jmp_0, E_jp_0, E_jz_0, E_kk, E_ldI_a, E_ldI_b, E_ldR_a, E_ldR_b, E_putZ_0, E_rI_0, E_stI_0, aL_38, aL_59, aL_60, am_cc, am_nl, am_ok, am_pop, am_rt, am_set, cC_12, cC_38, cC_59, cC_60, rR_1305, rR_1360, rR_1363, kX12_give, kX12_give_0, kX12_give_1, am_run_z, h0, h3, h4, c3, c4, ht, nI_1]
    refine hX 0 _ _ (frm.rf.si rfl) (by omega) (Or.inl rfl) hg (fun j hj => ?_)
    simp only [gI_sI, gL_sL, gQ_sQ, gI_sJ, gI_sL, gI_sQ, gL_sI, gL_sQ, gL_sJ, gQ_sI, gQ_sL, gQ_sJ, gN_sI, gN_sL, gN_sQ, gN_sJ, Nat.reduceLT, Nat.reduceEqDiff, reduceIte, Nat.reduceAdd, Nat.reduceLeDiff, Nat.reduceSub, Bool.false_eq_true, if_true, if_false, ite_true, ite_false, List.length_cons, List.length_nil, Nat.zero_add, Nat.add_zero, and_true, true_and, true_or, or_true, and_self, Nat.le_refl, Nat.lt_irrefl]
    rw [if_neg (show ¬ j < 0 by omega)]
    by_cases e : j = 0
    · rw [if_pos e, if_pos e]
    · rw [if_neg e, if_neg e, hT j, if_pos (by omega)]
  | succ a ih =>
    intro σ ha ht hT hg hX
    have h0 : 0 < nI (a + 1) := nI_gt0 (by omega) (by omega)
    have h3 : vp_in (nI (a + 1)) 24 := vp_in_nI (by omega) (by omega)
    have h4 : (nI (a + 1)).toNatClampNeg = a + 1 := nI_clamp (by omega)
    have h5 : vp_in (nI a) 24 := vp_in_nI (by omega) (by omega)
    have h6 : (nI a).toNatClampNeg = a := nI_clamp (by omega)
    have eT : gI σ 60 a = T a := by rw [hT a, if_neg (by omega)]
    by_cases q : kI t < kI (T a)
    · rw [hX12_give 26]
      simp only [am_run_s, bt, lf, am_in, am_ar, am_fit, am_ld, am_ct, Nat.reduceLT, Nat.reduceEqDiff, reduceIte, Nat.reduceAdd, Nat.reduceLeDiff, Nat.reduceSub, Bool.false_eq_true, if_true, if_false, ite_true, ite_false, List.length_cons, List.length_nil, Nat.zero_add, Nat.add_zero, and_true, true_and, true_or, or_true, and_self, Nat.le_refl, Nat.lt_irrefl, gI_sI, gL_sL, gQ_sQ, gI_sJ, gI_sL, gI_sQ, gL_sI, gL_sQ, gL_sJ, gQ_sI, gQ_sL, gQ_sJ, gN_sI, gN_sL, gN_sQ, gN_sJ, E_b2_0, E_cS_a, E_cS_b, E_cV_a, E_cV_b, E_c_0, E_getI_0, E_getR_0, E_iald_0, E_iast_0, E_inc_a, E_inc_b, E_je_0, E_jg_0, E_jl_0, E_jmp_0, E_jp_0, E_jz_0, E_kk, E_ldI_a, E_ldI_b, E_ldR_a, E_ldR_b, E_putZ_0, E_rI_0, E_stI_0, aL_38, aL_59, aL_60, am_cc, am_nl, am_ok, am_pop, am_rt, am_set, cC_12, cC_38, cC_59, cC_60, rR_1305, rR_1360, rR_1363, kX12_give, kX12_give_0, kX12_give_1, h0, h3, h4, h5, h6, c3, c4, nI_m1, pk_m1, eT, ht, ↓s_key, q]
      have f0 : frm PGR σ (sI σ 60 (a + 1) (T a)) := frm.rf.si rfl
      refine ih _ (by omega) (by rw [← ht]; rfl) (fun j => ?_) (fun j h1 h2 => ?_) (fun p σ' o f1 => hX p σ' o (f0.tr f1))
      · simp only [gI_sI, gL_sL, gQ_sQ, gI_sJ, gI_sL, gI_sQ, gL_sI, gL_sQ, gL_sJ, gQ_sI, gQ_sL, gQ_sJ, gN_sI, gN_sL, gN_sQ, gN_sJ, Nat.reduceLT, Nat.reduceEqDiff, reduceIte, Nat.reduceAdd, Nat.reduceLeDiff, Nat.reduceSub, Bool.false_eq_true, if_true, if_false, ite_true, ite_false, List.length_cons, List.length_nil, Nat.zero_add, Nat.add_zero, and_true, true_and, true_or, or_true, and_self, Nat.le_refl, Nat.lt_irrefl]
        by_cases e : j = a + 1
        · rw [if_pos e, if_pos (by omega), e]; rfl
        · rw [if_neg e, hT j]
          by_cases e2 : a + 1 < j ∧ j ≤ c
          · rw [if_pos e2, if_pos (by omega)]
          · rw [if_neg e2, if_neg (by omega)]
      · by_cases e : j = a
        · rw [e]; exact q
        · exact hg j (by omega) h2
    · rw [hX12_give 25]
      simp only [am_run_s, bt, lf, am_in, am_ar, am_fit, am_ld, am_ct, Nat.reduceLT, Nat.reduceEqDiff, reduceIte, Nat.reduceAdd, Nat.reduceLeDiff, Nat.reduceSub, Bool.false_eq_true, if_true, if_false, ite_true, ite_false, List.length_cons, List.length_nil, Nat.zero_add, Nat.add_zero, and_true, true_and, true_or, or_true, and_self, Nat.le_refl, Nat.lt_irrefl, gI_sI, gL_sL, gQ_sQ, gI_sJ, gI_sL, gI_sQ, gL_sI, gL_sQ, gL_sJ, gQ_sI, gQ_sL, gQ_sJ, gN_sI, gN_sL, gN_sQ, gN_sJ, E_b2_0, E_cS_a, E_cS_b, E_cV_a, E_cV_b, E_c_0, E_getI_0, E_getR_0, E_iald_0, E_iast_0, E_inc_a, E_inc_b, E_je_0, E_jg_0, E_jl_0, E_jmp_0, E_jp_0, E_jz_0, E_kk, E_ldI_a, E_ldI_b, E_ldR_a, E_ldR_b, E_putZ_0, E_rI_0, E_stI_0, aL_38, aL_59, aL_60, am_cc, am_nl, am_ok, am_pop, am_rt, am_set, cC_12, cC_38, cC_59, cC_60, rR_1305, rR_1360, rR_1363, kX12_give, kX12_give_0, kX12_give_1, h0, h3, h4, h5, h6, c3, c4, nI_m1, eT, ht, ↓s_key, q, nI_1]
      refine hX (a + 1) _ _ (frm.rf.si rfl) ha (Or.inr q) hg (fun j hj => ?_)
      simp only [gI_sI, gL_sL, gQ_sQ, gI_sJ, gI_sL, gI_sQ, gL_sI, gL_sQ, gL_sJ, gQ_sI, gQ_sL, gQ_sJ, gN_sI, gN_sL, gN_sQ, gN_sJ, Nat.reduceLT, Nat.reduceEqDiff, reduceIte, Nat.reduceAdd, Nat.reduceLeDiff, Nat.reduceSub, Bool.false_eq_true, if_true, if_false, ite_true, ite_false, List.length_cons, List.length_nil, Nat.zero_add, Nat.add_zero, and_true, true_and, true_or, or_true, and_self, Nat.le_refl, Nat.lt_irrefl]
      by_cases e : j = a + 1
      · rw [if_pos e, if_neg (by omega), if_pos e]
      · rw [if_neg e, hT j]
        by_cases e2 : j < a + 1
        · rw [if_pos e2, if_neg (by omega)]
        · rw [if_neg e2, if_neg e, if_pos (by omega)]
theorem l_give16 {n : Nat} {rk : Nat → Int32} {Q : PO} (hn : n ≤ 24) (hd : keyD n rk) : ∀ (r i : Nat) (σ : HS) (o : Option AV), i + r = n → gI σ 1314 0 = nI n → (∀ w, w < n → gI σ 38 w = rk w) → SRT i rk (gI σ 60) → (∀ σ' o, frm PGR σ σ' → SRT n rk (gI σ' 60) → am_T (kX12_give S1) MM Q 93 [some (.inr (.inr (some (12, 0)))), some (.inl (nI 0)), o] [] σ' 0 0) →
    am_T (kX12_give S1) MM Q 16 [some (.inr (.inr (some (12, 0)))), some (.inl (nI i)), o] [] σ 0 0 := by
  intro r
  induction r with
  | zero =>
    intro i σ o hi hw hrk hs hX
    have e : i = n := by omega
    subst e
    rw [hX12_give 6]
    have h0 : ¬ nI i < nI i := nI_nlt (by omega) (by omega)
    simp only [am_run_s, bt, lf, am_in, am_ar, am_fit, am_ld, am_ct, Nat.reduceLT, Nat.reduceEqDiff, reduceIte, Nat.reduceAdd, Nat.reduceLeDiff, Nat.reduceSub, Bool.false_eq_true, if_true, if_false, ite_true, ite_false, List.length_cons, List.length_nil, Nat.zero_add, Nat.add_zero, and_true, true_and, true_or, or_true, and_self, Nat.le_refl, Nat.lt_irrefl, gI_sI, gL_sL, gQ_sQ, gI_sJ, gI_sL, gI_sQ, gL_sI, gL_sQ, gL_sJ, gQ_sI, gQ_sL, gQ_sJ, gN_sI, gN_sL, gN_sQ, gN_sJ, E_b2_0, E_cS_a, E_cS_b, E_cV_a, E_cV_b, E_c_0, E_getI_0, E_getR_0, E_iald_0, E_iast_0, E_inc_a, E_inc_b, E_je_0, E_jg_0, E_jl_0, E_jmp_0, E_jp_0, E_jz_0, E_kk, E_ldI_a, E_ldI_b, E_ldR_a, E_ldR_b, E_putZ_0, E_rI_0, E_stI_0, aL_38, aL_59, aL_60, am_cc, am_nl, am_ok, am_pop, am_rt, am_set, cC_12, cC_38, cC_59, cC_60, rR_1305, rR_1360, rR_1363, kX12_give, kX12_give_0, kX12_give_1, hw, h0]
    exact hX σ o frm.rf hs
  | succ r ih =>
    intro i σ o hi hw hrk hs hX
    have hk : i < n := by omega
    have h2 := nI_t hk (by omega)
    rw [hX12_give 6]
    simp only [am_run_s, bt, lf, am_in, am_ar, am_fit, am_ld, am_ct, Nat.reduceLT, Nat.reduceEqDiff, reduceIte, Nat.reduceAdd, Nat.reduceLeDiff, Nat.reduceSub, Bool.false_eq_true, if_true, if_false, ite_true, ite_false, List.length_cons, List.length_nil, Nat.zero_add, Nat.add_zero, and_true, true_and, true_or, or_true, and_self, Nat.le_refl, Nat.lt_irrefl, gI_sI, gL_sL, gQ_sQ, gI_sJ, gI_sL, gI_sQ, gL_sI, gL_sQ, gL_sJ, gQ_sI, gQ_sL, gQ_sJ, gN_sI, gN_sL, gN_sQ, gN_sJ, E_b2_0, E_cS_a, E_cS_b, E_cV_a, E_cV_b, E_c_0, E_getI_0, E_getR_0, E_iald_0, E_iast_0, E_inc_a, E_inc_b, E_je_0, E_jg_0, E_jl_0, E_jmp_0, E_jp_0, E_jz_0, E_kk, E_ldI_a, E_ldI_b, E_ldR_a, E_ldR_b, E_putZ_0, E_rI_0, E_stI_0, aL_38, aL_59, aL_60, am_cc, am_nl, am_ok, am_pop, am_rt, am_set, cC_12, cC_38, cC_59, cC_60, rR_1305, rR_1360, rR_1363, kX12_give, kX12_give_0, kX12_give_1, hw, h2]
    refine l_give26 (T := gI σ 60) (t := rk i) (by omega) i σ (Nat.le_refl _) (hrk i hk) (fun j => by rw [if_neg (by omega)]) (fun j h1 h2 => absurd h2 (by omega)) (fun p σ' o' f1 p1 p2 p3 p4 => ?_)
    refine ih (i + 1) σ' o' (by omega) (by rw [f1.gi rfl]; exact hw) (fun w hw => by rw [f1.gi rfl]; exact hrk w hw) ?_ (fun σ'' o'' f2 hs2 => hX σ'' o'' (f1.tr f2) hs2)
    exact SRT_ins hs (fun a b ha hb => hd a b (by omega) (by omega)) p1 p2 p3 p4
/-- ranks that are given, place by place -/
def gvI (n : Nat) (od : Nat → Nat) (rk R : Nat → Int32) (i : Nat) (rank : Nat → Int32) (os : Int32) : Prop := (∀ j, j < i → rank (od j) = R j) ∧ (∀ w, w < n → (∀ j, j < i → od j ≠ w) → rank w = rk w) ∧ (os = 1 ∧ (∀ j, j < i → rk (od j) = R j) ∨ os = 0 ∧ ¬ ∀ j, j < i → rk (od j) = R j)
theorem gvI_at {n : Nat} {od : Nat → Nat} {rk R : Nat → Int32} {i : Nat} {rank : Nat → Int32} {os : Int32} (h : gvI n od rk R i rank os) (h1 : ∀ j, j < n → od j < n) (h2 : ∀ a b, a < n → b < n → a ≠ b → od a ≠ od b) (hi : i < n) : rank (od i) = rk (od i) :=
  h.2.1 (od i) (h1 i hi) (fun j hj => h2 j i (by omega) hi (by omega))
theorem gvI_s {n : Nat} {od : Nat → Nat} {rk R : Nat → Int32} {i : Nat} {rank rank' : Nat → Int32} {os os' : Int32} (h : gvI n od rk R i rank os) (h2 : ∀ a b, a < n → b < n → a ≠ b → od a ≠ od b) (hi : i < n) (h3 : ∀ w, rank' w = if w = od i then R i else rank w) (h4 : os' = 1 ∧ os = 1 ∧ rk (od i) = R i ∨ os' = 0 ∧ ¬ (os = 1 ∧ rk (od i) = R i)) : gvI n od rk R (i + 1) rank' os' := by
  refine ⟨fun j hj => ?_, fun w hw hn => ?_, ?_⟩
  · rw [h3]
    by_cases e : j = i
    · rw [e, if_pos rfl]
    · rw [if_neg (h2 j i (by omega) hi e)]; exact h.1 j (by omega)
  · rw [h3, if_neg (fun e => hn i (by omega) e.symm)]
    exact h.2.1 w hw (fun j hj => hn j (by omega))
  · rcases h4 with ⟨a1, a2, a3⟩ | ⟨a1, a2⟩
    · refine Or.inl ⟨a1, fun j hj => ?_⟩
      rcases h.2.2 with ⟨b1, b2⟩ | ⟨b1, b2⟩
      · by_cases e : j = i
        · rw [e]; exact a3
        · exact b2 j (by omega)
      · rw [a2] at b1; exact absurd b1 (by decide)
    · refine Or.inr ⟨a1, fun z => a2 ⟨?_, z i (by omega)⟩⟩
      rcases h.2.2 with ⟨b1, b2⟩ | ⟨b1, b2⟩
      · exact b1
      · exact absurd (fun j hj => z j (by omega)) b2
