/-! ===== the run: disturbed ticks that are over, and the tick as a whole ===== -/
theorem cntP_inj {R : Nat → Nat → Prop} {p : Nat → Prop} {d : ∀ i, Decidable (p i)} {b : Nat} (hR : ∀ j j' i, R j i → R j' i → j = j') : ∀ {a : Nat} {q : Nat → Prop} {d' : ∀ i, Decidable (q i)}, (∀ j, j < a → p j → ∃ i, i < b ∧ q i ∧ R j i) → cntP p d a ≤ cntP q d' b
  | 0, q, d', _ => by rw [cntP_0]; omega
  | a + 1, q, d', h => by
    rw [cntP_s]
    by_cases y : p a
    · rw [if_pos y]
      obtain ⟨i0, z1, z2, z3⟩ := h a (by omega) y
      have ih := cntP_inj (d := d) hR (a := a) (q := fun i => q i ∧ ¬ i = i0) (d' := fun i => @instDecidableAnd _ _ (d' i) inferInstance) (fun j hj hp => by
        obtain ⟨i, u1, u2, u3⟩ := h j (by omega) hp
        refine ⟨i, u1, ⟨u2, fun e => ?_⟩, u3⟩
        rw [e] at u3
        have := hR j a i0 u3 z3
        omega)
      have := cntP_fl (p := q) (d := d') (q := fun i => q i ∧ ¬ i = i0) (d' := fun i => @instDecidableAnd _ _ (d' i) inferInstance) z1 z2 (fun u => u.2 rfl) (fun i hi e => ⟨fun u => ⟨u, e⟩, fun u => u.1⟩)
      omega
    · rw [if_neg y]
      exact cntP_inj (d := d) hR (fun j hj hp => h j (by omega) hp)
theorem cntP_not {p : Nat → Prop} {d : ∀ i, Decidable (p i)} {d' : ∀ i, Decidable (¬ p i)} : ∀ n, cntP p d n + cntP (fun i => ¬ p i) d' n = n
  | 0 => by rw [cntP_0, cntP_0]
  | n + 1 => by
    rw [cntP_s, cntP_s]
    have := cntP_not (d := d) (d' := d') n
    by_cases y : p n
    · rw [if_pos y, if_neg (fun z => z y)]; omega
    · rw [if_neg y, if_pos y]; omega
theorem fgN_c (d : Nat → Int32) (t : Int32) : ∀ k, (fgN d t k).1 = cntP (fun i => ¬ d i < t) (fun _ => inferInstance) k
  | 0 => by rw [cntP_0]; rfl
  | k + 1 => by
    rw [fgN_s, cntP_s, ← fgN_c d t k]
    by_cases q : d k < t
    · rw [if_pos q, if_neg (fun z => z q)]; rfl
    · rw [if_neg q, if_pos q]
theorem fgN_m (d : Nat → Int32) (t : Int32) : ∀ k, (∀ i, i < (fgN d t k).1 → ∃ j, j < k ∧ (fgN d t k).2 i = d j ∧ ¬ d j < t) ∧ ∀ j, j < k → ¬ d j < t → ∃ i, i < (fgN d t k).1 ∧ (fgN d t k).2 i = d j
  | 0 => ⟨fun i hi => absurd hi (Nat.not_lt_zero _), fun j hj => absurd hj (by omega)⟩
  | k + 1 => by
    obtain ⟨h1, h2⟩ := fgN_m d t k
    rw [fgN_s]
    by_cases q : d k < t
    · rw [if_pos q]
      refine ⟨fun i hi => ?_, fun j hj hd => ?_⟩
      · obtain ⟨j, j1, j2⟩ := h1 i hi
        exact ⟨j, by omega, j2⟩
      · have : j ≠ k := fun e => hd (by rw [e]; exact q)
        exact h2 j (by omega) hd
    · rw [if_neg q]
      refine ⟨fun i hi => ?_, fun j hj hd => ?_⟩
      · have hi : i < (fgN d t k).1 + 1 := hi
        show ∃ j, j < k + 1 ∧ (if i = (fgN d t k).1 then d k else (fgN d t k).2 i) = d j ∧ ¬ d j < t
        by_cases e : i = (fgN d t k).1
        · rw [if_pos e]; exact ⟨k, by omega, rfl, q⟩
        · rw [if_neg e]
          obtain ⟨j, j1, j2⟩ := h1 i (by omega)
          exact ⟨j, by omega, j2⟩
      · show ∃ i, i < (fgN d t k).1 + 1 ∧ (if i = (fgN d t k).1 then d k else (fgN d t k).2 i) = d j
        by_cases e : j = k
        · refine ⟨(fgN d t k).1, by omega, ?_⟩
          rw [if_pos rfl, e]
        · obtain ⟨i, i1, i2⟩ := h2 j (by omega) hd
          refine ⟨i, by omega, ?_⟩
          rw [if_neg (by omega)]; exact i2
def PNZ : Nat → Bool := inL [501, 30]
theorem c_forget {x m : HS} {t c : Nat} (h : v_noi x m) (htx : gI x 1004 0 = nI t) (ht2 : t < 2147483646) (hc : gI m 1352 0 = nI c) (h60 : c ≤ 60) {Q : PO} (hQ : ∀ x', frm PNZ x x' → (∃ c', c' ≤ 60 ∧ gI x' 501 0 = nI c' ∧ (fgN (gI m 54) (nI (t + 1)) c).1 = c' ∧ (∀ j, j < c' → ¬ gI x' 30 j < nI (t + 1)) ∧ (∀ i j, i < j → j < c' → gI x' 30 i < gI x' 30 j) ∧ (∀ j, j < c' → ∃ i, i < c' ∧ (fgN (gI m 54) (nI (t + 1)) c).2 i = gI x' 30 j) ∧ ∀ i, i < c' → ∃ j, j < c' ∧ gI x' 30 j = (fgN (gI m 54) (nI (t + 1)) c).2 i) → Q none x') : MM 32 [.inr (.inr (some (4, 0))), .inl (nI t)] x Q := by
  obtain ⟨c', a1, a2, a3, a4, a5, a6, a7⟩ := h
  have e : c' = c := (nI_eq (by omega) (by omega)).mp (a3.symm.trans hc)
  subst e
  rw [htx] at a4
  have et := nI_toInt (n := t) (by omega)
  have et1 := nI_toInt (n := t + 1) (by omega)
  -- later than t, or t itself
  have lt1 : ∀ v : Int32, ¬ v < nI t → (¬ v < nI (t + 1) ↔ ¬ v = nI t) := by
    intro v hv
    rw [Int32.lt_iff_toInt_lt, et] at hv
    rw [Int32.lt_iff_toInt_lt, et1, ← Int32.toInt_inj, et]
    omega
  have inj : ∀ i j, i < c' → j < c' → gI x 30 i = gI x 30 j → i = j := by
    intro i j hi hj he
    rcases Nat.lt_trichotomy i j with z | z | z
    · have := a5 i j z hj
      rw [he] at this
      exact absurd this (i32_irr _)
    · exact z
    · have := a5 j i z hi
      rw [he] at this
      exact absurd this (i32_irr _)
  -- how many are kept, on both sides
  have le1 : ∀ (P : Int32 → Prop) (dP : ∀ v, Decidable (P v)), cntP (fun j => P (gI x 30 j)) (fun _ => dP _) c' ≤ cntP (fun i => P (gI m 54 i)) (fun _ => dP _) c' := by
    intro P dP
    refine cntP_inj (R := fun j i => j < c' ∧ gI m 54 i = gI x 30 j) (fun j j' i u v => inj j j' u.1 v.1 (u.2.symm.trans v.2)) (fun j hj hp => ?_)
    obtain ⟨i, i1, i2⟩ := a6 j hj
    exact ⟨i, i1, by rw [i2]; exact hp, hj, i2⟩
  have eqc : cntP (fun i => ¬ gI m 54 i < nI (t + 1)) (fun _ => inferInstance) c' = cntP (fun j => ¬ gI x 30 j < nI (t + 1)) (fun _ => inferInstance) c' := by
    have l1 := le1 (fun v => v < nI (t + 1)) (fun _ => inferInstance)
    have l2 := le1 (fun v => ¬ v < nI (t + 1)) (fun _ => inferInstance)
    have s1 := cntP_not (p := fun j => gI x 30 j < nI (t + 1)) (d := fun _ => inferInstance) (d' := fun _ => inferInstance) c'
    have s2 := cntP_not (p := fun i => gI m 54 i < nI (t + 1)) (d := fun _ => inferInstance) (d' := fun _ => inferInstance) c'
    omega
  have fc := fgN_c (gI m 54) (nI (t + 1)) c'
  obtain ⟨m1, m2⟩ := fgN_m (gI m 54) (nI (t + 1)) c'
  rw [eqc] at fc
  have cnt1 : ∀ n, cntP (fun _ => True) (fun _ => inferInstance) n = n := by
    intro n
    induction n with
    | zero => exact cntP_0 _ _
    | succ n ih => rw [cntP_s, ih, if_pos trivial]
  by_cases q : 0 < gI x 501 0 ∧ gI x 30 0 = nI t
  · have hp : 0 < c' := by
      rcases Nat.eq_zero_or_pos c' with y | y
      · rw [a2, y] at q; exact absurd q.1 nI_z0
      · exact y
    obtain ⟨k, rfl⟩ : ∃ k, c' = k + 1 := ⟨c' - 1, by omega⟩
    have gt : ∀ j, 0 < j → j < k + 1 → ¬ gI x 30 j < nI (t + 1) := by
      intro j hj hj2
      rw [lt1 _ (a4 j hj2), ← q.2]
      intro z
      have := inj j 0 hj2 hp z
      omega
    have fk : cntP (fun j => ¬ gI x 30 j < nI (t + 1)) (fun _ => inferInstance) (k + 1) = k := by
      have := cntP_fl (p := fun _ => True) (d := fun _ => inferInstance) (q := fun j => ¬ gI x 30 j < nI (t + 1)) (d' := fun _ => inferInstance) (x := 0) (n := k + 1) (by omega) trivial (fun z => by
        rw [q.2] at z
        exact z (nI_lt (by omega) (by omega))) (fun i hi he => ⟨fun _ => gt i (by omega) hi, fun _ => trivial⟩)
      rw [cnt1] at this
      omega
    have k0 : ¬ nI k < 0 := nI_pos (by omega)
    have k1 : (nI k).toNatClampNeg = k := nI_clamp (by omega)
    have k2 : (0 : Int32).toNatClampNeg = 0 := by decide
    have k3 : (1 : Int32).toNatClampNeg = 1 := by decide
    have k4 : ¬ (1 : Int32) < 0 := by decide
    have k5 : ¬ (0 : Int32) < 0 := by decide
    have k6 : 1 + k ≤ 60 := by omega
    have k7 : k ≤ 60 := by omega
    have q' : 0 < nI (k + 1) ∧ gI x 30 0 = nI t := by rw [← a2]; exact q
    rw [eX4_forget 20]
    simp only [am_run_s, bt, lf, am_in, am_ar, am_fit, am_ld, am_ct, Nat.reduceLT, Nat.reduceEqDiff, reduceIte, Nat.reduceAdd, Nat.reduceLeDiff, Nat.reduceSub, Bool.false_eq_true, if_true, if_false, ite_true, ite_false, List.length_cons, List.length_nil, Nat.zero_add, Nat.add_zero, and_true, true_and, true_or, or_true, and_self, Nat.le_refl, Nat.lt_irrefl, gI_sI, gL_sL, gQ_sQ, gI_sJ, gI_sL, gI_sQ, gL_sI, gL_sQ, gL_sJ, gQ_sI, gQ_sL, gQ_sJ, gN_sI, gN_sL, gN_sQ, gN_sJ, E_b2_0, E_cV_a, E_cV_b, E_c_0, E_copy_0, E_dup_0, E_dup_1, E_getI_0, E_getR_0, E_jz_0, E_kk, E_ldI_a, E_ldI_b, E_ldR_a, E_ldR_b, E_putI_0, E_rV_0, aL_30, am_cc, am_pop, am_rt, cC_30, cC_4, rR_500, kX4_forget, ↓s_isFirst, bI_z, q', and_self, not_true_eq_false, not_false_eq_true, a2, nI_m1, k0, k1, k2, k3, k4, k5, k6, k7]
    have es : ∀ j, j < k → gI (sJ (sI x 501 0 (nI k)) 30 (va_cpy (gI (sI x 501 0 (nI k)) 30) (gI (sI x 501 0 (nI k)) 30) 1 0 k)) 30 j = gI x 30 (j + 1) := by
      intro j hj
      rw [gI_sJ, if_pos rfl, pk_cpy_in (by omega) (by omega)]
      have : 1 + (j - 0) = j + 1 := by omega
      rw [this]
      rfl
    have fx : frm PNZ x (sJ (sI x 501 0 (nI k)) 30 (va_cpy (gI (sI x 501 0 (nI k)) 30) (gI (sI x 501 0 (nI k)) 30) 1 0 k)) := (frm.rf.si rfl).sj rfl
    have ec : gI (sJ (sI x 501 0 (nI k)) 30 (va_cpy (gI (sI x 501 0 (nI k)) 30) (gI (sI x 501 0 (nI k)) 30) 1 0 k)) 501 0 = nI k := by simp only [gI_sI, gL_sL, gQ_sQ, gI_sJ, gI_sL, gI_sQ, gL_sI, gL_sQ, gL_sJ, gQ_sI, gQ_sL, gQ_sJ, gN_sI, gN_sL, gN_sQ, gN_sJ, Nat.reduceLT, Nat.reduceEqDiff, reduceIte, Nat.reduceAdd, Nat.reduceLeDiff, Nat.reduceSub, Bool.false_eq_true, if_true, if_false, ite_true, ite_false, List.length_cons, List.length_nil, Nat.zero_add, Nat.add_zero, and_true, true_and, true_or, or_true, and_self, Nat.le_refl, Nat.lt_irrefl]
    generalize sJ (sI x 501 0 (nI k)) 30 (va_cpy (gI (sI x 501 0 (nI k)) 30) (gI (sI x 501 0 (nI k)) 30) 1 0 k) = x' at es fx ec ⊢
    refine hQ x' fx ⟨k, by omega, ec, by rw [fc, fk], fun j hj => ?_, fun i j hij hj => ?_, fun j hj => ?_, fun i hi => ?_⟩
    · rw [es j hj]; exact gt (j + 1) (by omega) (by omega)
    · rw [es i (by omega), es j hj]; exact a5 (i + 1) (j + 1) (by omega) (by omega)
    · rw [es j hj]
      obtain ⟨i, i1, i2⟩ := a6 (j + 1) (by omega)
      obtain ⟨i', u1, u2⟩ := m2 i i1 (by rw [i2]; exact gt (j + 1) (by omega) (by omega))
      exact ⟨i', by rw [fc, fk] at u1; exact u1, by rw [u2, i2]⟩
    · obtain ⟨j, j1, j2, j3⟩ := m1 i (by rw [fc, fk]; exact hi)
      obtain ⟨j', u1, u2⟩ := a7 j j1
      have hj0 : j' ≠ 0 := by
        intro z
        rw [z, q.2] at u2
        rw [← u2] at j3
        exact j3 (nI_lt (by omega) (by omega))
      refine ⟨j' - 1, by omega, ?_⟩
      rw [es (j' - 1) (by omega), show j' - 1 + 1 = j' by omega, u2, j2]
  · have gt : ∀ j, j < c' → ¬ gI x 30 j < nI (t + 1) := by
      intro j hj
      rw [lt1 _ (a4 j hj)]
      intro z
      have h0 : gI x 30 0 = nI t := by
        rcases Nat.eq_zero_or_pos j with y | y
        · rw [← y]; exact z
        · have := a5 0 j y hj
          rw [z] at this
          exact absurd this (a4 0 (by omega))
      exact q ⟨by rw [a2]; exact nI_gt0 (by omega) (by omega), h0⟩
    have fk : cntP (fun j => ¬ gI x 30 j < nI (t + 1)) (fun _ => inferInstance) c' = c' := by
      rw [cntP_congr (q := fun _ => True) (d' := fun _ => inferInstance) (fun i hi => ⟨fun _ => trivial, fun _ => gt i hi⟩), cnt1]
    rw [eX4_forget 5]
    simp only [am_run_s, bt, lf, am_in, am_ar, am_fit, am_ld, am_ct, Nat.reduceLT, Nat.reduceEqDiff, reduceIte, Nat.reduceAdd, Nat.reduceLeDiff, Nat.reduceSub, Bool.false_eq_true, if_true, if_false, ite_true, ite_false, List.length_cons, List.length_nil, Nat.zero_add, Nat.add_zero, and_true, true_and, true_or, or_true, and_self, Nat.le_refl, Nat.lt_irrefl, gI_sI, gL_sL, gQ_sQ, gI_sJ, gI_sL, gI_sQ, gL_sI, gL_sQ, gL_sJ, gQ_sI, gQ_sL, gQ_sJ, gN_sI, gN_sL, gN_sQ, gN_sJ, E_b2_0, E_cV_a, E_cV_b, E_c_0, E_copy_0, E_dup_0, E_dup_1, E_getI_0, E_getR_0, E_jz_0, E_kk, E_ldI_a, E_ldI_b, E_ldR_a, E_ldR_b, E_putI_0, E_rV_0, aL_30, am_cc, am_pop, am_rt, cC_30, cC_4, rR_500, kX4_forget, ↓s_isFirst, bI_z, q, not_true_eq_false, not_false_eq_true]
    refine hQ x frm.rf ⟨c', a1, a2, by rw [fc, fk], gt, a5, fun j hj => ?_, fun i hi => ?_⟩
    · obtain ⟨i, i1, i2⟩ := a6 j hj
      obtain ⟨i', u1, u2⟩ := m2 i i1 (by rw [i2]; exact gt j hj)
      exact ⟨i', by rw [fc, fk] at u1; exact u1, by rw [u2, i2]⟩
    · obtain ⟨j, j1, j2, j3⟩ := m1 i (by rw [fc, fk]; exact hi)
      obtain ⟨j', u1, u2⟩ := a7 j j1
      exact ⟨j', u1, by rw [u2, j2]⟩
