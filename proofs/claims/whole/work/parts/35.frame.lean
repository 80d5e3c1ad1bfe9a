/-! ===== frames: bits, stuffed; the class's side ===== -/
/-- nothing but the ints of the registers P has changed -/
def frm (P : Nat → Bool) (σ σ' : HS) : Prop := σ'.1 = σ.1 ∧ σ'.2.2 = σ.2.2 ∧ ∀ f i, P f = false → σ'.2.1 f i = σ.2.1 f i
def oI (σ : HS) (P : Nat → Bool) (J : Nat → Nat → Int32) : HS := (σ.1, fun f i => if P f = true then J f i else σ.2.1 f i, σ.2.2.1, σ.2.2.2)
theorem frm.rf {P : Nat → Bool} {σ : HS} : frm P σ σ := ⟨rfl, rfl, fun _ _ _ => rfl⟩
theorem frm.tr {P : Nat → Bool} {a b c : HS} (h : frm P a b) (g : frm P b c) : frm P a c := ⟨g.1.trans h.1, g.2.1.trans h.2.1, fun f i hf => (g.2.2 f i hf).trans (h.2.2 f i hf)⟩
theorem frm.si {P : Nat → Bool} {a b : HS} (h : frm P a b) {f i : Nat} {v : Int32} (hf : P f = true) : frm P a (sI b f i v) := by
  refine ⟨h.1, h.2.1, fun f' i' hf' => ?_⟩
  have : ¬ f' = f := fun e => by rw [e, hf] at hf'; cases hf'
  show (if f' = f then _ else b.2.1 f' i') = _
  rw [if_neg this]
  exact h.2.2 f' i' hf'
theorem frm.gi {P : Nat → Bool} {a b : HS} (h : frm P a b) {f i : Nat} (hf : P f = false) : gI b f i = gI a f i := h.2.2 f i hf
theorem frm.gl {P : Nat → Bool} {a b : HS} (h : frm P a b) (f i : Nat) : gL b f i = gL a f i := by unfold gL; rw [h.2.1]
theorem frm.gq {P : Nat → Bool} {a b : HS} (h : frm P a b) (f i : Nat) : gQ b f i = gQ a f i := by unfold gQ; rw [h.2.1]
theorem frm.gn {P : Nat → Bool} {a b : HS} (h : frm P a b) (c : Nat) : gN b c = gN a c := by unfold gN; rw [h.1]
theorem frm.el {P : Nat → Bool} {a b : HS} (h : frm P a b) : ∃ J, b = oI a P J := by
  refine ⟨b.2.1, ?_⟩
  obtain ⟨h1, h2, h3⟩ := h
  unfold oI
  obtain ⟨b1, b2, b3⟩ := b
  dsimp only at h1 h2 h3 ⊢
  subst h1
  obtain ⟨a1, a2, a3⟩ := a
  dsimp only at h2 h3 ⊢
  subst h2
  congr 2
  funext f i
  cases hp : P f with
  | true => simp
  | false => simp [h3 f i hp]
def PFX (f : Nat) : Bool := (Nat.ble 201 f && Nat.ble f 206) || Nat.beq f 25
theorem Inv.fx {k : Nat} {σ σ' : HS} (h : Inv k σ) (hf : frm PFX σ σ') : Inv k σ' := by
  obtain ⟨J, rfl⟩ := hf.el
  exact h
/-- a frame as it grows: its bits, how many are stuffed, how many alike, the latest -/
abbrev FS : Type := List Int32 × Nat × Nat × Int32
def fst1 (b : Int32) (s : FS) : FS := if (if b = s.2.2.2 then s.2.2.1 + 1 else 1) = 5 then (s.1 ++ [b, 1 - b], s.2.1 + 1, 1, 1 - b) else (s.1 ++ [b], s.2.1, (if b = s.2.2.2 then s.2.2.1 + 1 else 1), b)
def RFX (σ : HS) (s : FS) : Prop := gI σ 201 0 = nI s.1.length ∧ gI σ 202 0 = nI s.2.1 ∧ gI σ 205 0 = nI s.2.2.1 ∧ gI σ 206 0 = s.2.2.2 ∧ ∀ j, j < s.1.length → gI σ 25 j = s.1.getD j 0
def crcX (s b : Int32) : Int32 := if (((s.toUInt32 >>> (Int32.toUInt32 14 &&& Int32.toUInt32 31)).toInt32 ^^^ b) &&& 1) = 1 then ((s <<< (1 &&& 31)) &&& 32767) ^^^ 17817 else (s <<< (1 &&& 31)) &&& 32767
theorem s_sumWith (s b : Int32) (σ : HS) (Q : PO) : MM 135 [.inl s, .inl b] σ Q ↔ Q (some (.inl (crcX s b))) σ := by
  rw [eX11_sumWith 60]
  simp only [am_run_s, bt, lf, am_in, am_ar, am_fit, am_ld, am_ct, Nat.reduceLT, Nat.reduceEqDiff, reduceIte, Nat.reduceAdd, Nat.reduceLeDiff, Nat.reduceSub, Bool.false_eq_true, if_true, if_false, ite_true, ite_false, List.length_cons, List.length_nil, Nat.zero_add, Nat.add_zero, and_true, true_and, true_or, or_true, and_self, Nat.le_refl, Nat.lt_irrefl, gI_sI, gL_sL, gQ_sQ, gI_sJ, gI_sL, gI_sQ, gL_sI, gL_sQ, gL_sJ, gQ_sI, gQ_sL, gQ_sJ, gN_sI, gN_sL, gN_sQ, gN_sJ, E_b2_0, E_c_0, E_je_0, E_jmp_0, E_ldI_a, E_ldI_b, E_rI_0, E_stI_0, am_nl, am_ok, am_set, kX11_sumWith]
  unfold crcX
  by_cases h1 : (((s.toUInt32 >>> (Int32.toUInt32 14 &&& Int32.toUInt32 31)).toInt32 ^^^ b) &&& 1) = 1 <;> simp [h1]
theorem s_push (n : Nat) (b : Int32) (σ : HS) (Q : PO) (hn : n < 160) (h : gI σ 201 0 = nI n) : MM 19 [.inr (.inr (some (1, 0))), .inl b] σ Q ↔ Q none (sI (sI σ 25 n b) 201 0 (nI (n + 1))) := by
  rw [eX1_push 40]
  have e : (160 : Int32) = nI 160 := by decide
  have h1 : nI n < 160 := by rw [e]; exact nI_lt hn (by omega)
  have h3 : vp_in (nI n) 160 := vp_in_nI hn (by omega)
  have h4 : (nI n).toNatClampNeg = n := nI_clamp (by omega)
  simp only [am_run_s, bt, lf, am_in, am_ar, am_fit, am_ld, am_ct, Nat.reduceLT, Nat.reduceEqDiff, reduceIte, Nat.reduceAdd, Nat.reduceLeDiff, Nat.reduceSub, Bool.false_eq_true, if_true, if_false, ite_true, ite_false, List.length_cons, List.length_nil, Nat.zero_add, Nat.add_zero, and_true, true_and, true_or, or_true, and_self, Nat.le_refl, Nat.lt_irrefl, gI_sI, gL_sL, gQ_sQ, gI_sJ, gI_sL, gI_sQ, gL_sI, gL_sQ, gL_sJ, gQ_sI, gQ_sL, gQ_sJ, gN_sI, gN_sL, gN_sQ, gN_sJ, E_b2_0, E_c_0, E_dup_0, E_dup_1, E_getI_0, E_getR_0, E_iast_0, E_jl_0, E_ldI_a, E_ldI_b, E_ldR_a, E_ldR_b, E_putI_0, E_rV_0, aL_25, cC_1, cC_25, rR_200, kX1_push, h, h1, h3, h4, nI_1]
theorem getD_app {l : List Int32} {b : Int32} {j : Nat} (hj : j < l.length + 1) : (l ++ [b]).getD j 0 = if j = l.length then b else l.getD j 0 := by
  by_cases e : j = l.length
  · subst e; simp
  · rw [if_neg e]
    simp [List.getD_eq_getElem?_getD, List.getElem?_append_left (show j < l.length by omega)]
theorem c_addPlain {σ : HS} {s : FS} {b sm : Int32} {Q : PO} (hl : s.1.length + 2 ≤ 160) (hal : s.2.2.1 ≤ 5) (hR : RFX σ s) (hs : gI σ 204 0 = sm) (hQ : ∀ σ', frm PFX σ σ' → RFX σ' (fst1 b s) → gI σ' 204 0 = crcX sm b → gI σ' 203 0 = gI σ 203 0 → Q none σ') : MM 18 [.inr (.inr (some (1, 0))), .inl b] σ Q := by
  obtain ⟨l, st, al, la⟩ := s
  obtain ⟨r1, r2, r3, r4, r5⟩ := hR
  dsimp only at hl hal r1 r2 r3 r4 r5
  rw [eX1_addPlain 100]
  have e5 : (5 : Int32) = nI 5 := by decide
  have hn1 : l.length < 160 := by omega
  have hn2 : l.length + 1 < 160 := by omega
  have hA : (nI (al + 1) = 5) = (al + 1 = 5) := by rw [e5]; exact propext (nI_eq (by omega) (by omega))
  have h15 : ¬ (1 : Int32) = 5 := by decide
  by_cases e : b = la
  · by_cases q : al + 1 = 5
    · simp only [am_run_s, bt, lf, am_in, am_ar, am_fit, am_ld, am_ct, Nat.reduceLT, Nat.reduceEqDiff, reduceIte, Nat.reduceAdd, Nat.reduceLeDiff, Nat.reduceSub, Bool.false_eq_true, if_true, if_false, ite_true, ite_false, List.length_cons, List.length_nil, Nat.zero_add, Nat.add_zero, and_true, true_and, true_or, or_true, and_self, Nat.le_refl, Nat.lt_irrefl, gI_sI, gL_sL, gQ_sQ, gI_sJ, gI_sL, gI_sQ, gL_sI, gL_sQ, gL_sJ, gQ_sI, gQ_sL, gQ_sJ, gN_sI, gN_sL, gN_sQ, gN_sJ, E_b2_0, E_cS_a, E_cS_b, E_cV_a, E_cV_b, E_c_0, E_dup_0, E_dup_1, E_getI_0, E_je_0, E_jmp_0, E_kk, E_ldI_a, E_ldI_b, E_ldR_a, E_ldR_b, E_putI_0, E_rV_0, am_cc, am_pop, am_rt, cC_1, kX1_addPlain, r1, r2, r3, r4, hs, ↓s_sumWith, if_pos e, nI_1, hA, q, ↓s_push l.length b _ _ hn1, ↓s_push (l.length + 1) (1 - b) _ _ hn2]
      refine hQ _ ?_ ?_ ?_ ?_
      · exact ((((((((((frm.rf.si rfl).si rfl).si rfl).si rfl).si rfl).si rfl).si rfl).si rfl).si rfl).si rfl)
      · unfold fst1
        rw [if_pos (by rw [if_pos e]; exact q)]
        refine ⟨?_, ?_, ?_, ?_, fun j hj => ?_⟩
        · simp only [gI_sI, gL_sL, gQ_sQ, gI_sJ, gI_sL, gI_sQ, gL_sI, gL_sQ, gL_sJ, gQ_sI, gQ_sL, gQ_sJ, gN_sI, gN_sL, gN_sQ, gN_sJ, Nat.reduceLT, Nat.reduceEqDiff, reduceIte, Nat.reduceAdd, Nat.reduceLeDiff, Nat.reduceSub, Bool.false_eq_true, if_true, if_false, ite_true, ite_false, List.length_cons, List.length_nil, Nat.zero_add, Nat.add_zero, and_true, true_and, true_or, or_true, and_self, Nat.le_refl, Nat.lt_irrefl, List.length_append]
        · simp only [gI_sI, gL_sL, gQ_sQ, gI_sJ, gI_sL, gI_sQ, gL_sI, gL_sQ, gL_sJ, gQ_sI, gQ_sL, gQ_sJ, gN_sI, gN_sL, gN_sQ, gN_sJ, Nat.reduceLT, Nat.reduceEqDiff, reduceIte, Nat.reduceAdd, Nat.reduceLeDiff, Nat.reduceSub, Bool.false_eq_true, if_true, if_false, ite_true, ite_false, List.length_cons, List.length_nil, Nat.zero_add, Nat.add_zero, and_true, true_and, true_or, or_true, and_self, Nat.le_refl, Nat.lt_irrefl, r2, nI_1]
        · simp only [gI_sI, gL_sL, gQ_sQ, gI_sJ, gI_sL, gI_sQ, gL_sI, gL_sQ, gL_sJ, gQ_sI, gQ_sL, gQ_sJ, gN_sI, gN_sL, gN_sQ, gN_sJ, Nat.reduceLT, Nat.reduceEqDiff, reduceIte, Nat.reduceAdd, Nat.reduceLeDiff, Nat.reduceSub, Bool.false_eq_true, if_true, if_false, ite_true, ite_false, List.length_cons, List.length_nil, Nat.zero_add, Nat.add_zero, and_true, true_and, true_or, or_true, and_self, Nat.le_refl, Nat.lt_irrefl]; exact one'
        · simp only [gI_sI, gL_sL, gQ_sQ, gI_sJ, gI_sL, gI_sQ, gL_sI, gL_sQ, gL_sJ, gQ_sI, gQ_sL, gQ_sJ, gN_sI, gN_sL, gN_sQ, gN_sJ, Nat.reduceLT, Nat.reduceEqDiff, reduceIte, Nat.reduceAdd, Nat.reduceLeDiff, Nat.reduceSub, Bool.false_eq_true, if_true, if_false, ite_true, ite_false, List.length_cons, List.length_nil, Nat.zero_add, Nat.add_zero, and_true, true_and, true_or, or_true, and_self, Nat.le_refl, Nat.lt_irrefl]
        · simp only [List.length_append, List.length_cons, List.length_nil] at hj
          simp only [gI_sI, gL_sL, gQ_sQ, gI_sJ, gI_sL, gI_sQ, gL_sI, gL_sQ, gL_sJ, gQ_sI, gQ_sL, gQ_sJ, gN_sI, gN_sL, gN_sQ, gN_sJ, Nat.reduceLT, Nat.reduceEqDiff, reduceIte, Nat.reduceAdd, Nat.reduceLeDiff, Nat.reduceSub, Bool.false_eq_true, if_true, if_false, ite_true, ite_false, List.length_cons, List.length_nil, Nat.zero_add, Nat.add_zero, and_true, true_and, true_or, or_true, and_self, Nat.le_refl, Nat.lt_irrefl]
          rw [show l ++ [b, 1 - b] = (l ++ [b]) ++ [1 - b] by simp, getD_app (by simp; omega)]
          simp only [List.length_append, List.length_cons, List.length_nil]
          by_cases e1 : j = l.length + 1
          · rw [if_pos e1, if_pos e1]
          · rw [if_neg e1, if_neg e1, getD_app (by omega)]
            by_cases e2 : j = l.length
            · rw [if_pos e2, if_pos e2]
            · rw [if_neg e2, if_neg e2]
              exact r5 j (by omega)
      · simp only [gI_sI, gL_sL, gQ_sQ, gI_sJ, gI_sL, gI_sQ, gL_sI, gL_sQ, gL_sJ, gQ_sI, gQ_sL, gQ_sJ, gN_sI, gN_sL, gN_sQ, gN_sJ, Nat.reduceLT, Nat.reduceEqDiff, reduceIte, Nat.reduceAdd, Nat.reduceLeDiff, Nat.reduceSub, Bool.false_eq_true, if_true, if_false, ite_true, ite_false, List.length_cons, List.length_nil, Nat.zero_add, Nat.add_zero, and_true, true_and, true_or, or_true, and_self, Nat.le_refl, Nat.lt_irrefl]
      · simp only [gI_sI, gL_sL, gQ_sQ, gI_sJ, gI_sL, gI_sQ, gL_sI, gL_sQ, gL_sJ, gQ_sI, gQ_sL, gQ_sJ, gN_sI, gN_sL, gN_sQ, gN_sJ, Nat.reduceLT, Nat.reduceEqDiff, reduceIte, Nat.reduceAdd, Nat.reduceLeDiff, Nat.reduceSub, Bool.false_eq_true, if_true, if_false, ite_true, ite_false, List.length_cons, List.length_nil, Nat.zero_add, Nat.add_zero, and_true, true_and, true_or, or_true, and_self, Nat.le_refl, Nat.lt_irrefl]
    · simp only [am_run_s, bt, lf, am_in, am_ar, am_fit, am_ld, am_ct, Nat.reduceLT, Nat.reduceEqDiff, reduceIte, Nat.reduceAdd, Nat.reduceLeDiff, Nat.reduceSub, Bool.false_eq_true, if_true, if_false, ite_true, ite_false, List.length_cons, List.length_nil, Nat.zero_add, Nat.add_zero, and_true, true_and, true_or, or_true, and_self, Nat.le_refl, Nat.lt_irrefl, gI_sI, gL_sL, gQ_sQ, gI_sJ, gI_sL, gI_sQ, gL_sI, gL_sQ, gL_sJ, gQ_sI, gQ_sL, gQ_sJ, gN_sI, gN_sL, gN_sQ, gN_sJ, E_b2_0, E_cS_a, E_cS_b, E_cV_a, E_cV_b, E_c_0, E_dup_0, E_dup_1, E_getI_0, E_je_0, E_jmp_0, E_kk, E_ldI_a, E_ldI_b, E_ldR_a, E_ldR_b, E_putI_0, E_rV_0, am_cc, am_pop, am_rt, cC_1, kX1_addPlain, r1, r2, r3, r4, hs, ↓s_sumWith, if_pos e, nI_1, hA, q, ↓s_push l.length b _ _ hn1]
      refine hQ _ ?_ ?_ ?_ ?_
      · exact (((((frm.rf.si rfl).si rfl).si rfl).si rfl).si rfl)
      · unfold fst1
        rw [if_neg (by rw [if_pos e]; exact q), if_pos e]
        refine ⟨?_, ?_, ?_, ?_, fun j hj => ?_⟩
        · simp only [gI_sI, gL_sL, gQ_sQ, gI_sJ, gI_sL, gI_sQ, gL_sI, gL_sQ, gL_sJ, gQ_sI, gQ_sL, gQ_sJ, gN_sI, gN_sL, gN_sQ, gN_sJ, Nat.reduceLT, Nat.reduceEqDiff, reduceIte, Nat.reduceAdd, Nat.reduceLeDiff, Nat.reduceSub, Bool.false_eq_true, if_true, if_false, ite_true, ite_false, List.length_cons, List.length_nil, Nat.zero_add, Nat.add_zero, and_true, true_and, true_or, or_true, and_self, Nat.le_refl, Nat.lt_irrefl, List.length_append]
        · simp only [gI_sI, gL_sL, gQ_sQ, gI_sJ, gI_sL, gI_sQ, gL_sI, gL_sQ, gL_sJ, gQ_sI, gQ_sL, gQ_sJ, gN_sI, gN_sL, gN_sQ, gN_sJ, Nat.reduceLT, Nat.reduceEqDiff, reduceIte, Nat.reduceAdd, Nat.reduceLeDiff, Nat.reduceSub, Bool.false_eq_true, if_true, if_false, ite_true, ite_false, List.length_cons, List.length_nil, Nat.zero_add, Nat.add_zero, and_true, true_and, true_or, or_true, and_self, Nat.le_refl, Nat.lt_irrefl, r2]
        · simp only [gI_sI, gL_sL, gQ_sQ, gI_sJ, gI_sL, gI_sQ, gL_sI, gL_sQ, gL_sJ, gQ_sI, gQ_sL, gQ_sJ, gN_sI, gN_sL, gN_sQ, gN_sJ, Nat.reduceLT, Nat.reduceEqDiff, reduceIte, Nat.reduceAdd, Nat.reduceLeDiff, Nat.reduceSub, Bool.false_eq_true, if_true, if_false, ite_true, ite_false, List.length_cons, List.length_nil, Nat.zero_add, Nat.add_zero, and_true, true_and, true_or, or_true, and_self, Nat.le_refl, Nat.lt_irrefl]
        · simp only [gI_sI, gL_sL, gQ_sQ, gI_sJ, gI_sL, gI_sQ, gL_sI, gL_sQ, gL_sJ, gQ_sI, gQ_sL, gQ_sJ, gN_sI, gN_sL, gN_sQ, gN_sJ, Nat.reduceLT, Nat.reduceEqDiff, reduceIte, Nat.reduceAdd, Nat.reduceLeDiff, Nat.reduceSub, Bool.false_eq_true, if_true, if_false, ite_true, ite_false, List.length_cons, List.length_nil, Nat.zero_add, Nat.add_zero, and_true, true_and, true_or, or_true, and_self, Nat.le_refl, Nat.lt_irrefl]
        · simp only [List.length_append, List.length_cons, List.length_nil] at hj
          simp only [gI_sI, gL_sL, gQ_sQ, gI_sJ, gI_sL, gI_sQ, gL_sI, gL_sQ, gL_sJ, gQ_sI, gQ_sL, gQ_sJ, gN_sI, gN_sL, gN_sQ, gN_sJ, Nat.reduceLT, Nat.reduceEqDiff, reduceIte, Nat.reduceAdd, Nat.reduceLeDiff, Nat.reduceSub, Bool.false_eq_true, if_true, if_false, ite_true, ite_false, List.length_cons, List.length_nil, Nat.zero_add, Nat.add_zero, and_true, true_and, true_or, or_true, and_self, Nat.le_refl, Nat.lt_irrefl]
          rw [getD_app (by omega)]
          by_cases e2 : j = l.length
          · rw [if_pos e2, if_pos e2]
          · rw [if_neg e2, if_neg e2]
            exact r5 j (by omega)
      · simp only [gI_sI, gL_sL, gQ_sQ, gI_sJ, gI_sL, gI_sQ, gL_sI, gL_sQ, gL_sJ, gQ_sI, gQ_sL, gQ_sJ, gN_sI, gN_sL, gN_sQ, gN_sJ, Nat.reduceLT, Nat.reduceEqDiff, reduceIte, Nat.reduceAdd, Nat.reduceLeDiff, Nat.reduceSub, Bool.false_eq_true, if_true, if_false, ite_true, ite_false, List.length_cons, List.length_nil, Nat.zero_add, Nat.add_zero, and_true, true_and, true_or, or_true, and_self, Nat.le_refl, Nat.lt_irrefl]
      · simp only [gI_sI, gL_sL, gQ_sQ, gI_sJ, gI_sL, gI_sQ, gL_sI, gL_sQ, gL_sJ, gQ_sI, gQ_sL, gQ_sJ, gN_sI, gN_sL, gN_sQ, gN_sJ, Nat.reduceLT, Nat.reduceEqDiff, reduceIte, Nat.reduceAdd, Nat.reduceLeDiff, Nat.reduceSub, Bool.false_eq_true, if_true, if_false, ite_true, ite_false, List.length_cons, List.length_nil, Nat.zero_add, Nat.add_zero, and_true, true_and, true_or, or_true, and_self, Nat.le_refl, Nat.lt_irrefl]
  · simp only [am_run_s, bt, lf, am_in, am_ar, am_fit, am_ld, am_ct, Nat.reduceLT, Nat.reduceEqDiff, reduceIte, Nat.reduceAdd, Nat.reduceLeDiff, Nat.reduceSub, Bool.false_eq_true, if_true, if_false, ite_true, ite_false, List.length_cons, List.length_nil, Nat.zero_add, Nat.add_zero, and_true, true_and, true_or, or_true, and_self, Nat.le_refl, Nat.lt_irrefl, gI_sI, gL_sL, gQ_sQ, gI_sJ, gI_sL, gI_sQ, gL_sI, gL_sQ, gL_sJ, gQ_sI, gQ_sL, gQ_sJ, gN_sI, gN_sL, gN_sQ, gN_sJ, E_b2_0, E_cS_a, E_cS_b, E_cV_a, E_cV_b, E_c_0, E_dup_0, E_dup_1, E_getI_0, E_je_0, E_jmp_0, E_kk, E_ldI_a, E_ldI_b, E_ldR_a, E_ldR_b, E_putI_0, E_rV_0, am_cc, am_pop, am_rt, cC_1, kX1_addPlain, r1, r2, r3, r4, hs, ↓s_sumWith, if_neg e, h15, ↓s_push l.length b _ _ hn1]
    refine hQ _ ?_ ?_ ?_ ?_
    · exact (((((frm.rf.si rfl).si rfl).si rfl).si rfl).si rfl)
    · unfold fst1
      rw [if_neg (by rw [if_neg e]; decide), if_neg e]
      refine ⟨?_, ?_, ?_, ?_, fun j hj => ?_⟩
      · simp only [gI_sI, gL_sL, gQ_sQ, gI_sJ, gI_sL, gI_sQ, gL_sI, gL_sQ, gL_sJ, gQ_sI, gQ_sL, gQ_sJ, gN_sI, gN_sL, gN_sQ, gN_sJ, Nat.reduceLT, Nat.reduceEqDiff, reduceIte, Nat.reduceAdd, Nat.reduceLeDiff, Nat.reduceSub, Bool.false_eq_true, if_true, if_false, ite_true, ite_false, List.length_cons, List.length_nil, Nat.zero_add, Nat.add_zero, and_true, true_and, true_or, or_true, and_self, Nat.le_refl, Nat.lt_irrefl, List.length_append]
      · simp only [gI_sI, gL_sL, gQ_sQ, gI_sJ, gI_sL, gI_sQ, gL_sI, gL_sQ, gL_sJ, gQ_sI, gQ_sL, gQ_sJ, gN_sI, gN_sL, gN_sQ, gN_sJ, Nat.reduceLT, Nat.reduceEqDiff, reduceIte, Nat.reduceAdd, Nat.reduceLeDiff, Nat.reduceSub, Bool.false_eq_true, if_true, if_false, ite_true, ite_false, List.length_cons, List.length_nil, Nat.zero_add, Nat.add_zero, and_true, true_and, true_or, or_true, and_self, Nat.le_refl, Nat.lt_irrefl, r2]
      · simp only [gI_sI, gL_sL, gQ_sQ, gI_sJ, gI_sL, gI_sQ, gL_sI, gL_sQ, gL_sJ, gQ_sI, gQ_sL, gQ_sJ, gN_sI, gN_sL, gN_sQ, gN_sJ, Nat.reduceLT, Nat.reduceEqDiff, reduceIte, Nat.reduceAdd, Nat.reduceLeDiff, Nat.reduceSub, Bool.false_eq_true, if_true, if_false, ite_true, ite_false, List.length_cons, List.length_nil, Nat.zero_add, Nat.add_zero, and_true, true_and, true_or, or_true, and_self, Nat.le_refl, Nat.lt_irrefl]; exact one'
      · simp only [gI_sI, gL_sL, gQ_sQ, gI_sJ, gI_sL, gI_sQ, gL_sI, gL_sQ, gL_sJ, gQ_sI, gQ_sL, gQ_sJ, gN_sI, gN_sL, gN_sQ, gN_sJ, Nat.reduceLT, Nat.reduceEqDiff, reduceIte, Nat.reduceAdd, Nat.reduceLeDiff, Nat.reduceSub, Bool.false_eq_true, if_true, if_false, ite_true, ite_false, List.length_cons, List.length_nil, Nat.zero_add, Nat.add_zero, and_true, true_and, true_or, or_true, and_self, Nat.le_refl, Nat.lt_irrefl]
      · simp only [List.length_append, List.length_cons, List.length_nil] at hj
        simp only [gI_sI, gL_sL, gQ_sQ, gI_sJ, gI_sL, gI_sQ, gL_sI, gL_sQ, gL_sJ, gQ_sI, gQ_sL, gQ_sJ, gN_sI, gN_sL, gN_sQ, gN_sJ, Nat.reduceLT, Nat.reduceEqDiff, reduceIte, Nat.reduceAdd, Nat.reduceLeDiff, Nat.reduceSub, Bool.false_eq_true, if_true, if_false, ite_true, ite_false, List.length_cons, List.length_nil, Nat.zero_add, Nat.add_zero, and_true, true_and, true_or, or_true, and_self, Nat.le_refl, Nat.lt_irrefl]
        rw [getD_app (by omega)]
        by_cases e2 : j = l.length
        · rw [if_pos e2, if_pos e2]
        · rw [if_neg e2, if_neg e2]
          exact r5 j (by omega)
    · simp only [gI_sI, gL_sL, gQ_sQ, gI_sJ, gI_sL, gI_sQ, gL_sI, gL_sQ, gL_sJ, gQ_sI, gQ_sL, gQ_sJ, gN_sI, gN_sL, gN_sQ, gN_sJ, Nat.reduceLT, Nat.reduceEqDiff, reduceIte, Nat.reduceAdd, Nat.reduceLeDiff, Nat.reduceSub, Bool.false_eq_true, if_true, if_false, ite_true, ite_false, List.length_cons, List.length_nil, Nat.zero_add, Nat.add_zero, and_true, true_and, true_or, or_true, and_self, Nat.le_refl, Nat.lt_irrefl]
    · simp only [gI_sI, gL_sL, gQ_sQ, gI_sJ, gI_sL, gI_sQ, gL_sI, gL_sQ, gL_sJ, gQ_sI, gQ_sL, gQ_sJ, gN_sI, gN_sL, gN_sQ, gN_sJ, Nat.reduceLT, Nat.reduceEqDiff, reduceIte, Nat.reduceAdd, Nat.reduceLeDiff, Nat.reduceSub, Bool.false_eq_true, if_true, if_false, ite_true, ite_false, List.length_cons, List.length_nil, Nat.zero_add, Nat.add_zero, and_true, true_and, true_or, or_true, and_self, Nat.le_refl, Nat.lt_irrefl]
