/-! ===== order: as a function; the class ===== -/
def hLf (lv : Nat → Bool) (w k : Nat) : Bool := lv k && decide (k ≠ w)
theorem hLf_self (lv : Nat → Bool) (w : Nat) : hLf lv w w = false := by
  unfold hLf; simp
noncomputable def fnd (σ : HS) (lv : Nat → Bool) : Nat → Nat → Option Nat
  | 0, _ => none
  | r + 1, i => if lv i = true ∧ fitP σ (hLf lv i) i = true then some i else fnd σ lv r (i + 1)
theorem fnd_s (σ : HS) (lv : Nat → Bool) (r i : Nat) : fnd σ lv (r + 1) i = if lv i = true ∧ fitP σ (hLf lv i) i = true then some i else fnd σ lv r (i + 1) := rfl
theorem fnd_in {σ : HS} {lv : Nat → Bool} : ∀ {r i w : Nat}, fnd σ lv r i = some w → w < i + r ∧ lv w = true
  | 0, i, w, h => by cases h
  | r + 1, i, w, h => by
    rw [fnd_s] at h
    by_cases q : lv i = true ∧ fitP σ (hLf lv i) i = true
    · rw [if_pos q] at h
      have e := Option.some.inj h
      subst e
      exact ⟨by omega, q.1⟩
    · rw [if_neg q] at h
      have := fnd_in h
      exact ⟨by omega, this.2⟩
noncomputable def ordP (σ : HS) (n : Nat) : Nat → (Nat → Bool) → (Nat → Int32) → Option (Nat → Int32)
  | 0, _, pl => some pl
  | p + 1, lv, pl => match fnd σ lv n 0 with
    | none => none
    | some w => ordP σ n p (hLf lv w) (fun j => if j = p then nI w else pl j)
theorem ordP_n {σ : HS} {n p : Nat} {lv : Nat → Bool} {pl : Nat → Int32} (h : fnd σ lv n 0 = none) : ordP σ n (p + 1) lv pl = none := by
  show (match fnd σ lv n 0 with | none => none | some w => ordP σ n p (hLf lv w) (fun j => if j = p then nI w else pl j)) = none
  rw [h]
theorem ordP_s {σ : HS} {n p w : Nat} {lv : Nat → Bool} {pl : Nat → Int32} (h : fnd σ lv n 0 = some w) : ordP σ n (p + 1) lv pl = ordP σ n p (hLf lv w) (fun j => if j = p then nI w else pl j) := by
  show (match fnd σ lv n 0 with | none => none | some w => ordP σ n p (hLf lv w) (fun j => if j = p then nI w else pl j)) = _
  rw [h]
def oOK (n p : Nat) (lv : Nat → Bool) (pl : Nat → Int32) : Prop := (∀ j, p ≤ j → j < n → ∃ w, w < n ∧ pl j = nI w ∧ lv w = false) ∧ ∀ i j, p ≤ i → i < n → p ≤ j → j < n → i ≠ j → pl i ≠ pl j
theorem oOK_s {σ : HS} {n p w : Nat} {lv : Nat → Bool} {pl : Nat → Int32} (hn : n ≤ 24) (h : oOK n (p + 1) lv pl) (hf : fnd σ lv n 0 = some w) : oOK n p (hLf lv w) (fun j => if j = p then nI w else pl j) := by
  obtain ⟨w1, w2⟩ := fnd_in hf
  refine ⟨fun j h1 h2 => ?_, fun i j hi1 hi2 hj1 hj2 hij => ?_⟩
  · by_cases e : j = p
    · exact ⟨w, by omega, if_pos e, hLf_self lv w⟩
    · obtain ⟨u, u1, u2, u3⟩ := h.1 j (by omega) h2
      exact ⟨u, u1, by show (if j = p then nI w else pl j) = nI u; rw [if_neg e]; exact u2, by unfold hLf; rw [u3]; rfl⟩
  · have key : ∀ j, p + 1 ≤ j → j < n → pl j ≠ nI w := by
      intro j h1 h2 z
      obtain ⟨u, u1, u2, u3⟩ := h.1 j h1 h2
      rw [u2] at z
      have : u = w := (nI_eq (by omega) (by omega)).mp z
      rw [this, w2] at u3
      cases u3
    show (if i = p then nI w else pl i) ≠ (if j = p then nI w else pl j)
    by_cases e : i = p
    · have e2 : ¬ j = p := by omega
      rw [if_pos e, if_neg e2]
      exact (key j (by omega) hj2).symm
    · rw [if_neg e]
      by_cases e2 : j = p
      · rw [if_pos e2]; exact key i (by omega) hi2
      · rw [if_neg e2]; exact h.2 i j (by omega) hi2 (by omega) hj2 hij
theorem ordP_ok {σ : HS} {n : Nat} (hn : n ≤ 24) : ∀ {p : Nat} {lv : Nat → Bool} {pl pl' : Nat → Int32}, oOK n p lv pl → ordP σ n p lv pl = some pl' → (∀ j, j < n → ∃ w, w < n ∧ pl' j = nI w) ∧ ∀ i j, i < n → j < n → i ≠ j → pl' i ≠ pl' j
  | 0, lv, pl, pl', h, e => by
    have e := Option.some.inj e
    subst e
    exact ⟨fun j hj => by obtain ⟨w, w1, w2, -⟩ := h.1 j (Nat.zero_le _) hj; exact ⟨w, w1, w2⟩, fun i j hi hj hij => h.2 i j (Nat.zero_le _) hi (Nat.zero_le _) hj hij⟩
  | p + 1, lv, pl, pl', h, e => by
    cases q : fnd σ lv n 0 with
    | none => rw [ordP_n q] at e; cases e
    | some w =>
      rw [ordP_s q] at e
      exact ordP_ok hn (oOK_s hn h q) e
def POX (f : Nat) : Bool := PHX f || Nat.beq f 71 || Nat.beq f 23 || Nat.beq f 106
def PHO (f : Nat) : Bool := Nat.beq f 70
theorem POX_X (f : Nat) (h : POX f = false) : PHX f = false := by
  unfold POX at h
  simp only [Bool.or_eq_false_iff] at h
  exact h.1.1.1
theorem PHX_O (f : Nat) (h : PHX f = false) : PHO f = false := by
  unfold PHX at h
  simp only [Bool.or_eq_false_iff] at h
  exact h.1
/-- what is left -/
def LFX (σ : HS) (lv : Nat → Bool) (n : Nat) : Prop := ∀ j, j < n → gI σ 71 j = bb (lv j)
theorem l_pbo {kk : Nat} {σ0 : HS} (h : Inv kk σ0) {w : Nat} (hw : w < gN σ0 10) {lv : Nat → Bool} {Q : PO} : ∀ (r i : Nat) (σ : HS), i + r = gN σ0 10 → frm POX σ0 σ → LFX σ lv (gN σ0 10) → (∀ j, j < i → gI σ 70 j = bb (hLf lv w j)) → (∀ σ', frm PHO σ σ' → HX σ' (hLf lv w) (gN σ0 10) → Q none σ') →
    am_T (kX0_putBehindOthersLeft S1) MM Q 2 [some (.inr (.inr (some (0, 0)))), some (.inr (.inr (some (10, w)))), some (.inl (nI i))] [] σ 0 0 := by
  obtain ⟨hw1, hw2, h24⟩ := h.wc
  have hnum := (h.2.1.1 w hw).2.1
  intro r
  induction r with
  | zero =>
    intro i σ hi f0 hl hH hQ
    have e : i = gN σ0 10 := by omega
    subst e
    rw [hX0_putBehindOthersLeft 6]
    have h0 : ¬ nI (gN σ0 10) < nI (gN σ0 10) := nI_nlt (by omega) (by omega)
    have c1 : gI σ 703 0 = nI (gN σ0 10) := by rw [f0.gi rfl]; exact hw1
    simp only [am_run_s, bt, lf, am_in, am_ar, am_fit, am_ld, am_ct, Nat.reduceLT, Nat.reduceEqDiff, reduceIte, Nat.reduceAdd, Nat.reduceLeDiff, Nat.reduceSub, Bool.false_eq_true, if_true, if_false, ite_true, ite_false, List.length_cons, List.length_nil, Nat.zero_add, Nat.add_zero, and_true, true_and, true_or, or_true, and_self, Nat.le_refl, Nat.lt_irrefl, gI_sI, gL_sL, gQ_sQ, gI_sJ, gI_sL, gI_sQ, gL_sI, gL_sQ, gL_sJ, gQ_sI, gQ_sL, gQ_sJ, gN_sI, gN_sL, gN_sQ, gN_sJ, E_bald_0, E_bast_0, E_c_0, E_getI_0, E_getR_0, E_inc_a, E_inc_b, E_je_0, E_jl_0, E_jmp_0, E_jz_0, E_ldI_a, E_ldI_b, E_ldR_a, E_ldR_b, E_rV_0, E_stI_0, aL_70, aL_71, am_nl, am_ok, am_set, cC_0, cC_10, cC_6, cC_70, cC_71, rR_100, rR_101, rR_102, kX0_putBehindOthersLeft, c1, h0]
    exact hQ σ frm.rf hH
  | succ r ih =>
    intro i σ hi f0 hl hH hQ
    have hk : i < gN σ0 10 := by omega
    have c1 : gI σ 703 0 = nI (gN σ0 10) := by rw [f0.gi rfl]; exact hw1
    have c2 : gI σ 1100 w = nI w := by rw [f0.gi rfl]; exact hnum
    have c3 : w < gN σ 10 := by rw [f0.gn]; exact hw
    have h2 := nI_t hk (by omega)
    have h3 : vp_in (nI i) 24 := vp_in_nI (by omega) (by omega)
    have h4 : (nI i).toNatClampNeg = i := nI_clamp (by omega)
    have hb := hl i hk
    have f1 : frm PHO σ (sI σ 70 i (bb (hLf lv w i))) := frm.rf.si rfl
    have go : am_T (kX0_putBehindOthersLeft S1) MM Q 2 [some (.inr (.inr (some (0, 0)))), some (.inr (.inr (some (10, w)))), some (.inl (nI (i + 1)))] [] (sI σ 70 i (bb (hLf lv w i))) 0 0 := by
      refine ih (i + 1) _ (by omega) (f0.si rfl) (fun j hj => by rw [f1.gi rfl]; exact hl j hj) (fun j hj => ?_) (fun σ' f2 m2 => hQ σ' (f1.tr f2) m2)
      simp only [gI_sI, gL_sL, gQ_sQ, gI_sJ, gI_sL, gI_sQ, gL_sI, gL_sQ, gL_sJ, gQ_sI, gQ_sL, gQ_sJ, gN_sI, gN_sL, gN_sQ, gN_sJ, Nat.reduceLT, Nat.reduceEqDiff, reduceIte, Nat.reduceAdd, Nat.reduceLeDiff, Nat.reduceSub, Bool.false_eq_true, if_true, if_false, ite_true, ite_false, List.length_cons, List.length_nil, Nat.zero_add, Nat.add_zero, and_true, true_and, true_or, or_true, and_self, Nat.le_refl, Nat.lt_irrefl]
      by_cases e : j = i
      · rw [if_pos e, e]
      · rw [if_neg e]; exact hH j (by omega)
    rw [hX0_putBehindOthersLeft 21]
    cases e : lv i with
    | false =>
      have e0 : (bb (lv i) = 0) = True := by rw [bb_0, e]; simp
      have e1 : bb (hLf lv w i) = 0 := by unfold hLf; rw [e]; rfl
      rw [e1] at go
      simp only [am_run_s, bt, lf, am_in, am_ar, am_fit, am_ld, am_ct, Nat.reduceLT, Nat.reduceEqDiff, reduceIte, Nat.reduceAdd, Nat.reduceLeDiff, Nat.reduceSub, Bool.false_eq_true, if_true, if_false, ite_true, ite_false, List.length_cons, List.length_nil, Nat.zero_add, Nat.add_zero, and_true, true_and, true_or, or_true, and_self, Nat.le_refl, Nat.lt_irrefl, gI_sI, gL_sL, gQ_sQ, gI_sJ, gI_sL, gI_sQ, gL_sI, gL_sQ, gL_sJ, gQ_sI, gQ_sL, gQ_sJ, gN_sI, gN_sL, gN_sQ, gN_sJ, E_bald_0, E_bast_0, E_c_0, E_getI_0, E_getR_0, E_inc_a, E_inc_b, E_je_0, E_jl_0, E_jmp_0, E_jz_0, E_ldI_a, E_ldI_b, E_ldR_a, E_ldR_b, E_rV_0, E_stI_0, aL_70, aL_71, am_nl, am_ok, am_set, cC_0, cC_10, cC_6, cC_70, cC_71, rR_100, rR_101, rR_102, kX0_putBehindOthersLeft, c1, h2, h3, h4, hb, e0, am_b0, nI_1]
      exact go
    | true =>
      have e0 : (bb (lv i) = 0) = False := by rw [bb_0, e]; simp
      by_cases z : i = w
      · have z' : (nI i = nI w) = True := eq_true (by rw [z])
        have e1 : bb (hLf lv w i) = 0 := by rw [z, hLf_self]; rfl
        rw [e1] at go
        simp only [am_run_s, bt, lf, am_in, am_ar, am_fit, am_ld, am_ct, Nat.reduceLT, Nat.reduceEqDiff, reduceIte, Nat.reduceAdd, Nat.reduceLeDiff, Nat.reduceSub, Bool.false_eq_true, if_true, if_false, ite_true, ite_false, List.length_cons, List.length_nil, Nat.zero_add, Nat.add_zero, and_true, true_and, true_or, or_true, and_self, Nat.le_refl, Nat.lt_irrefl, gI_sI, gL_sL, gQ_sQ, gI_sJ, gI_sL, gI_sQ, gL_sI, gL_sQ, gL_sJ, gQ_sI, gQ_sL, gQ_sJ, gN_sI, gN_sL, gN_sQ, gN_sJ, E_bald_0, E_bast_0, E_c_0, E_getI_0, E_getR_0, E_inc_a, E_inc_b, E_je_0, E_jl_0, E_jmp_0, E_jz_0, E_ldI_a, E_ldI_b, E_ldR_a, E_ldR_b, E_rV_0, E_stI_0, aL_70, aL_71, am_nl, am_ok, am_set, cC_0, cC_10, cC_6, cC_70, cC_71, rR_100, rR_101, rR_102, kX0_putBehindOthersLeft, c1, c2, c3, h2, h3, h4, hb, e0, z', am_b0, nI_1]
        exact go
      · have z' : (nI i = nI w) = False := eq_false (fun y => z ((nI_eq (by omega) (by omega)).mp y))
        have e1 : bb (hLf lv w i) = 1 := by unfold hLf; rw [e, decide_eq_true z]; rfl
        rw [e1] at go
        simp only [am_run_s, bt, lf, am_in, am_ar, am_fit, am_ld, am_ct, Nat.reduceLT, Nat.reduceEqDiff, reduceIte, Nat.reduceAdd, Nat.reduceLeDiff, Nat.reduceSub, Bool.false_eq_true, if_true, if_false, ite_true, ite_false, List.length_cons, List.length_nil, Nat.zero_add, Nat.add_zero, and_true, true_and, true_or, or_true, and_self, Nat.le_refl, Nat.lt_irrefl, gI_sI, gL_sL, gQ_sQ, gI_sJ, gI_sL, gI_sQ, gL_sI, gL_sQ, gL_sJ, gQ_sI, gQ_sL, gQ_sJ, gN_sI, gN_sL, gN_sQ, gN_sJ, E_bald_0, E_bast_0, E_c_0, E_getI_0, E_getR_0, E_inc_a, E_inc_b, E_je_0, E_jl_0, E_jmp_0, E_jz_0, E_ldI_a, E_ldI_b, E_ldR_a, E_ldR_b, E_rV_0, E_stI_0, aL_70, aL_71, am_nl, am_ok, am_set, cC_0, cC_10, cC_6, cC_70, cC_71, rR_100, rR_101, rR_102, kX0_putBehindOthersLeft, c1, c2, c3, h2, h3, h4, hb, e0, z', am_b1, nI_1]
        exact go
theorem c_pbo {kk : Nat} {σ0 : HS} (h : Inv kk σ0) {w : Nat} (hw : w < gN σ0 10) {lv : Nat → Bool} {Q : PO} {σ : HS} (f0 : frm POX σ0 σ) (hl : LFX σ lv (gN σ0 10)) (hQ : ∀ σ', frm PHO σ σ' → HX σ' (hLf lv w) (gN σ0 10) → Q none σ') : MM 3 [.inr (.inr (some (0, 0))), .inr (.inr (some (10, w)))] σ Q := by
  rw [eX0_putBehindOthersLeft 4]
  simp only [am_run_s, bt, lf, am_in, am_ar, am_fit, am_ld, am_ct, Nat.reduceLT, Nat.reduceEqDiff, reduceIte, Nat.reduceAdd, Nat.reduceLeDiff, Nat.reduceSub, Bool.false_eq_true, if_true, if_false, ite_true, ite_false, List.length_cons, List.length_nil, Nat.zero_add, Nat.add_zero, and_true, true_and, true_or, or_true, and_self, Nat.le_refl, Nat.lt_irrefl, gI_sI, gL_sL, gQ_sQ, gI_sJ, gI_sL, gI_sQ, gL_sI, gL_sQ, gL_sJ, gQ_sI, gQ_sL, gQ_sJ, gN_sI, gN_sL, gN_sQ, gN_sJ, E_bald_0, E_bast_0, E_c_0, E_getI_0, E_getR_0, E_inc_a, E_inc_b, E_je_0, E_jl_0, E_jmp_0, E_jz_0, E_ldI_a, E_ldI_b, E_ldR_a, E_ldR_b, E_rV_0, E_stI_0, aL_70, aL_71, am_nl, am_ok, am_set, cC_0, cC_10, cC_6, cC_70, cC_71, rR_100, rR_101, rR_102, kX0_putBehindOthersLeft]
  exact l_pbo h hw (gN σ0 10) 0 σ (by omega) f0 hl (fun _ z => absurd z (by omega)) hQ
