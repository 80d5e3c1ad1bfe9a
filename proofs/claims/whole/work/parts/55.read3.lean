/-! ===== reading: phases, as functions ===== -/
/-- place, fault, taken out; RANK, n, SUM, BYTES -/
abbrev OUT : Type := (Nat × Int32 × Nat) × Int32 × Int32 × Int32 × Int64
def oF (s : RS) (r n sm : Int32) (v : Int64) : OUT := ((s.1, s.2.1, s.2.2.2.2), r, n, sm, v)
def tailP (L : List Int32) : Nat → Nat → Nat → Nat × Int32
  | 0, _, pl => (pl, 0)
  | r + 1, j, pl => if pl = L.length then (pl, 6) else if L.getD pl 0 = tailV j then tailP L r (j + 1) (pl + 1) else (pl, 5)
def bytP (L : List Int32) : Nat → RS → Int32 → Int64 → (RS × Option Int32) × Int64
  | 0, s, sm, v => ((s, some sm), v)
  | k + 1, s, sm, v => match (tkN L 8 s 0 sm).2 with
    | none => (((tkN L 8 s 0 sm).1, none), v)
    | some p => bytP L k (tkN L 8 s 0 sm).1 p.2 ((v <<< ((8 : Int32).toInt64 &&& 63)) ||| p.1.toInt64)
theorem bytP_n {L : List Int32} {s : RS} {sm : Int32} (h : (tkN L 8 s 0 sm).2 = none) (k : Nat) (v : Int64) : bytP L (k + 1) s sm v = (((tkN L 8 s 0 sm).1, none), v) := by
  show (match (tkN L 8 s 0 sm).2 with | none => (((tkN L 8 s 0 sm).1, none), v) | some p => bytP L k (tkN L 8 s 0 sm).1 p.2 ((v <<< ((8 : Int32).toInt64 &&& 63)) ||| p.1.toInt64)) = _
  rw [h]
theorem bytP_s {L : List Int32} {s : RS} {sm : Int32} {p : Int32 × Int32} (h : (tkN L 8 s 0 sm).2 = some p) (k : Nat) (v : Int64) : bytP L (k + 1) s sm v = bytP L k (tkN L 8 s 0 sm).1 p.2 ((v <<< ((8 : Int32).toInt64 &&& 63)) ||| p.1.toInt64) := by
  show (match (tkN L 8 s 0 sm).2 with | none => (((tkN L 8 s 0 sm).1, none), v) | some p => bytP L k (tkN L 8 s 0 sm).1 p.2 ((v <<< ((8 : Int32).toInt64 &&& 63)) ||| p.1.toInt64)) = _
  rw [h]
def rd6 (L : List Int32) (s : RS) (r n sm : Int32) (v : Int64) : OUT := if (skp L s).2.1 = 0 then (((tailP L 10 0 (skp L s).1).1, (tailP L 10 0 (skp L s).1).2, (skp L s).2.2.2.2), r, n, sm, v) else oF (skp L s) r n sm v
def rd5 (L : List Int32) (s : RS) (due r n : Int32) (v : Int64) : OUT := match (tkN L 15 s 0 due).2 with
  | none => oF (tkN L 15 s 0 due).1 r n (-1) v
  | some p => if p.1 = due then rd6 L (tkN L 15 s 0 due).1 r n p.1 v else (((tkN L 15 s 0 due).1.1 - 1, 4, (tkN L 15 s 0 due).1.2.2.2.2), r, n, p.1, v)
def rd4 (L : List Int32) (s : RS) (sm r n : Int32) : OUT := match (bytP L n.toNatClampNeg s sm 0).1.2 with
  | none => oF (bytP L n.toNatClampNeg s sm 0).1.1 r n (-1) (bytP L n.toNatClampNeg s sm 0).2
  | some q => rd5 L (bytP L n.toNatClampNeg s sm 0).1.1 q r n (bytP L n.toNatClampNeg s sm 0).2
def rd3 (L : List Int32) (s : RS) (sm r : Int32) : OUT := match (tkN L 4 s 0 sm).2 with
  | none => oF (tkN L 4 s 0 sm).1 r (-1) (-1) 0
  | some p => if 8 < p.1 then (((tkN L 4 s 0 sm).1.1 - 1, 3, (tkN L 4 s 0 sm).1.2.2.2.2), r, p.1, -1, 0) else rd4 L (tkN L 4 s 0 sm).1 p.2 r p.1
def rd2c (L : List Int32) (s : RS) (hi sm : Int32) : OUT := match (tkN L 18 s 0 sm).2 with
  | none => oF (tkN L 18 s 0 sm).1 (-1) (-1) (-1) 0
  | some p => rd3 L (tkN L 18 s 0 sm).1 p.2 (2048 + ((hi <<< ((18 : Int32) &&& 31)) ||| p.1))
def rd2b (L : List Int32) (s : RS) (hi sm : Int32) : OUT := match (tkN L 1 s 0 sm).2 with
  | none => oF (tkN L 1 s 0 sm).1 (-1) (-1) (-1) 0
  | some p => if p.1 = 0 then rd3 L (tkN L 1 s 0 sm).1 p.2 hi else rd2c L (tkN L 1 s 0 sm).1 hi p.2
def rd2 (L : List Int32) (s : RS) (sm : Int32) : OUT := match (tkN L 11 s 0 sm).2 with
  | none => oF (tkN L 11 s 0 sm).1 (-1) (-1) (-1) 0
  | some p => rd2b L (tkN L 11 s 0 sm).1 p.1 p.2
def rs0 (fr : Nat) : RS := (fr, 0, 0, -1, 0)
def rd1 (L : List Int32) (fr : Nat) : OUT := match (tkN L 1 (rs0 fr) 0 0).2 with
  | none => oF (tkN L 1 (rs0 fr) 0 0).1 (-1) (-1) (-1) 0
  | some p => if p.1 = 0 then rd2 L (tkN L 1 (rs0 fr) 0 0).1 p.2 else ((fr, 1, 0), -1, -1, -1, 0)
theorem rs0_v {L : List Int32} {fr : Nat} (h : fr ≤ L.length) : RV L (rs0 fr) := ⟨h, rfl, Nat.zero_le _, Or.inl rfl⟩
/-- the first bit: its place -/
theorem rs0_1 {L : List Int32} {fr : Nat} {p : Int32 × Int32} (h : (tkN L 1 (rs0 fr) 0 0).2 = some p) : (tkN L 1 (rs0 fr) 0 0).1.1 = fr + 1 ∧ (tkN L 1 (rs0 fr) 0 0).1.2.2.2.2 = 0 := by
  have e1 : skp L (rs0 fr) = rs0 fr := by
    unfold skp
    exact if_pos (show (0 : Nat) < 5 by decide)
  have e2 : tk1 L (rs0 fr) = tk0 L (rs0 fr) := by
    unfold tk1
    rw [e1]
    exact if_pos rfl
  by_cases q : fr = L.length
  · have e3 : tk0 L (rs0 fr) = ((fr, 6, 0, -1, 0), none) := by unfold tk0 rs0; rw [if_pos q]
    have e4 : (tk1 L (rs0 fr)).2 = none := by rw [e2, e3]
    rw [tkN_n e4] at h
    cases h
  · have e3 : tk0 L (rs0 fr) = ((fr + 1, 0, (if L.getD fr 0 = -1 then 0 + 1 else 1), L.getD fr 0, 0), some (L.getD fr 0)) := by unfold tk0 rs0; rw [if_neg q]
    have e4 : (tk1 L (rs0 fr)).2 = some (L.getD fr 0) := by rw [e2, e3]
    rw [tkN_s e4, tkN_0, e2, e3]
    exact ⟨rfl, rfl⟩
def oxp (σ : HS) (o : Nat × Int32 × Nat) : Prop := gI σ 603 0 = nI o.1 ∧ gI σ 602 0 = o.2.1 ∧ gI σ 607 0 = nI o.2.2
theorem RX.o {σ : HS} {s : RS} (h : RX σ s) (r n sm : Int32) (v : Int64) : oxp σ (oF s r n sm v).1 := ⟨h.1, h.2.1, h.2.2.2.2⟩
theorem num_ne {y : Nat} (h : y < 2147483648) : ¬ nI y = -1 := nI_m1ne h
theorem onum_n : onum none = -1 := rfl
theorem onum_s (p : Int32 × Int32) : onum (some p) = p.1 := rfl
theorem zI : (0 : Int32) = nI 0 := by decide
theorem c_readStart {σ : HS} {L : List Int32} {fr : Nat} {Q : PO} (hL : L.length ≤ 2000) (ha : ab L) (hT : TPX σ L) (hfr : fr ≤ L.length) (hR : RX σ (rs0 fr)) (hm : gI σ 609 0 = 0)
    (hF : ∀ σ' o, frm PRD σ σ' → rd1 L fr = o → oxp σ' o.1 → o.2 = (-1, -1, -1, 0) → Q (some (.inl 0)) σ')
    (hS : ∀ σ' s sm, frm PRD σ σ' → RV L s → RX σ' s → gI σ' 609 0 = sm → rd1 L fr = rd2 L s sm → Q (some (.inl 1)) σ') : MM 36 [.inr (.inr (some (5, 0)))] σ Q := by
  rw [eX5_readStart 20]
  simp only [am_run_s, bt, lf, am_in, am_ar, am_fit, am_ld, am_ct, Nat.reduceLT, Nat.reduceEqDiff, reduceIte, Nat.reduceAdd, Nat.reduceLeDiff, Nat.reduceSub, Bool.false_eq_true, if_true, if_false, ite_true, ite_false, List.length_cons, List.length_nil, Nat.zero_add, Nat.add_zero, and_true, true_and, true_or, or_true, and_self, Nat.le_refl, Nat.lt_irrefl, gI_sI, gL_sL, gQ_sQ, gI_sJ, gI_sL, gI_sQ, gL_sI, gL_sQ, gL_sJ, gQ_sI, gQ_sL, gQ_sJ, gN_sI, gN_sL, gN_sQ, gN_sJ, E_cV_a, E_cV_b, E_c_0, E_je_0, E_jmp_0, E_jz_0, E_kk, E_ldI_a, E_ldI_b, E_ldR_a, E_ldR_b, E_rZ_0, E_stI_0, am_cc, am_nl, am_ok, am_pop, am_rt, am_set, cC_5, kX5_readStart]
  refine c_takeNumber (w := 1) (by omega) hL ha hT (rs0_v hfr) hR hm _ (by decide) (fun σ1 f1 r1 m1 => ?_)
  cases e : (tkN L 1 (rs0 fr) 0 0).2 with
  | none =>
    rw [onum_n]
    simp only [am_run_s, bt, lf, am_in, am_ar, am_fit, am_ld, am_ct, Nat.reduceLT, Nat.reduceEqDiff, reduceIte, Nat.reduceAdd, Nat.reduceLeDiff, Nat.reduceSub, Bool.false_eq_true, if_true, if_false, ite_true, ite_false, List.length_cons, List.length_nil, Nat.zero_add, Nat.add_zero, and_true, true_and, true_or, or_true, and_self, Nat.le_refl, Nat.lt_irrefl, gI_sI, gL_sL, gQ_sQ, gI_sJ, gI_sL, gI_sQ, gL_sI, gL_sQ, gL_sJ, gQ_sI, gQ_sL, gQ_sJ, gN_sI, gN_sL, gN_sQ, gN_sJ, E_cV_a, E_cV_b, E_c_0, E_je_0, E_jmp_0, E_jz_0, E_kk, E_ldI_a, E_ldI_b, E_ldR_a, E_ldR_b, E_rZ_0, E_stI_0, am_cc, am_nl, am_ok, am_pop, am_rt, am_set, cC_5, kX5_readStart, am_b0]
    exact hF σ1 _ f1 (by unfold rd1; rw [e]) (r1.o _ _ _ _) rfl
  | some p =>
    rw [onum_s]
    obtain ⟨y, y1, y2⟩ := tkN_v (x := 0) ha (rs0_v hfr) e
    have n1 : ¬ p.1 = -1 := by rw [y1]; exact num_ne (by omega)
    by_cases q : p.1 = 0
    · have n0 : ¬ (0 : Int32) = -1 := by decide
      simp only [am_run_s, bt, lf, am_in, am_ar, am_fit, am_ld, am_ct, Nat.reduceLT, Nat.reduceEqDiff, reduceIte, Nat.reduceAdd, Nat.reduceLeDiff, Nat.reduceSub, Bool.false_eq_true, if_true, if_false, ite_true, ite_false, List.length_cons, List.length_nil, Nat.zero_add, Nat.add_zero, and_true, true_and, true_or, or_true, and_self, Nat.le_refl, Nat.lt_irrefl, gI_sI, gL_sL, gQ_sQ, gI_sJ, gI_sL, gI_sQ, gL_sI, gL_sQ, gL_sJ, gQ_sI, gQ_sL, gQ_sJ, gN_sI, gN_sL, gN_sQ, gN_sJ, E_cV_a, E_cV_b, E_c_0, E_je_0, E_jmp_0, E_jz_0, E_kk, E_ldI_a, E_ldI_b, E_ldR_a, E_ldR_b, E_rZ_0, E_stI_0, am_cc, am_nl, am_ok, am_pop, am_rt, am_set, cC_5, kX5_readStart, q, n0, am_b1]
      exact hS σ1 _ p.2 f1 (RV_tkN ha (rs0_v hfr) e) r1 (m1 p e) (by unfold rd1; rw [e]; dsimp only; rw [if_pos q])
    · simp only [am_run_s, bt, lf, am_in, am_ar, am_fit, am_ld, am_ct, Nat.reduceLT, Nat.reduceEqDiff, reduceIte, Nat.reduceAdd, Nat.reduceLeDiff, Nat.reduceSub, Bool.false_eq_true, if_true, if_false, ite_true, ite_false, List.length_cons, List.length_nil, Nat.zero_add, Nat.add_zero, and_true, true_and, true_or, or_true, and_self, Nat.le_refl, Nat.lt_irrefl, gI_sI, gL_sL, gQ_sQ, gI_sJ, gI_sL, gI_sQ, gL_sI, gL_sQ, gL_sJ, gQ_sI, gQ_sL, gQ_sJ, gN_sI, gN_sL, gN_sQ, gN_sJ, E_cV_a, E_cV_b, E_c_0, E_je_0, E_jmp_0, E_jz_0, E_kk, E_ldI_a, E_ldI_b, E_ldR_a, E_ldR_b, E_rZ_0, E_stI_0, am_cc, am_nl, am_ok, am_pop, am_rt, am_set, cC_5, kX5_readStart, n1, q, ↓s_faultAtLatest, am_b0]
      have g := rs0_1 e
      refine hF _ ((fr, 1, 0), -1, -1, -1, 0) ((f1.si rfl).si rfl) (by unfold rd1; rw [e]; dsimp only; rw [if_neg q]) ⟨?_, ?_, ?_⟩ rfl
      · simp only [gI_sI, gL_sL, gQ_sQ, gI_sJ, gI_sL, gI_sQ, gL_sI, gL_sQ, gL_sJ, gQ_sI, gQ_sL, gQ_sJ, gN_sI, gN_sL, gN_sQ, gN_sJ, Nat.reduceLT, Nat.reduceEqDiff, reduceIte, Nat.reduceAdd, Nat.reduceLeDiff, Nat.reduceSub, Bool.false_eq_true, if_true, if_false, ite_true, ite_false, List.length_cons, List.length_nil, Nat.zero_add, Nat.add_zero, and_true, true_and, true_or, or_true, and_self, Nat.le_refl, Nat.lt_irrefl, r1.1, g.1]; exact nI_m1 fr
      · simp only [gI_sI, gL_sL, gQ_sQ, gI_sJ, gI_sL, gI_sQ, gL_sI, gL_sQ, gL_sJ, gQ_sI, gQ_sL, gQ_sJ, gN_sI, gN_sL, gN_sQ, gN_sJ, Nat.reduceLT, Nat.reduceEqDiff, reduceIte, Nat.reduceAdd, Nat.reduceLeDiff, Nat.reduceSub, Bool.false_eq_true, if_true, if_false, ite_true, ite_false, List.length_cons, List.length_nil, Nat.zero_add, Nat.add_zero, and_true, true_and, true_or, or_true, and_self, Nat.le_refl, Nat.lt_irrefl]
      · simp only [gI_sI, gL_sL, gQ_sQ, gI_sJ, gI_sL, gI_sQ, gL_sI, gL_sQ, gL_sJ, gQ_sI, gQ_sL, gQ_sJ, gN_sI, gN_sL, gN_sQ, gN_sJ, Nat.reduceLT, Nat.reduceEqDiff, reduceIte, Nat.reduceAdd, Nat.reduceLeDiff, Nat.reduceSub, Bool.false_eq_true, if_true, if_false, ite_true, ite_false, List.length_cons, List.length_nil, Nat.zero_add, Nat.add_zero, and_true, true_and, true_or, or_true, and_self, Nat.le_refl, Nat.lt_irrefl, r1.2.2.2.2, g.2]
def PRK (f : Nat) : Bool := PRD f || Nat.beq f 604
theorem frm.mo {P P' : Nat → Bool} {a b : HS} (h : frm P a b) (hp : ∀ f, P' f = false → P f = false) : frm P' a b := ⟨h.1, h.2.1, fun f i hf => h.2.2 f i (hp f hf)⟩
theorem PRK_le (f : Nat) (h : PRK f = false) : PRD f = false := by
  unfold PRK at h
  simp only [Bool.or_eq_false_iff] at h
  exact h.1
theorem c_readRank {σ : HS} {L : List Int32} {s : RS} {sm : Int32} {Q : PO} (hL : L.length ≤ 2000) (ha : ab L) (hT : TPX σ L) (hs : RV L s) (hR : RX σ s) (hm : gI σ 609 0 = sm)
    (hF : ∀ σ' o, frm PRD σ σ' → rd2 L s sm = o → oxp σ' o.1 → o.2 = (-1, -1, -1, 0) → Q (some (.inl 0)) σ')
    (hS : ∀ σ' s' sm' r, frm PRK σ σ' → RV L s' → RX σ' s' → gI σ' 609 0 = sm' → gI σ' 604 0 = r → rd2 L s sm = rd3 L s' sm' r → Q (some (.inl 1)) σ') : MM 37 [.inr (.inr (some (5, 0)))] σ Q := by
  rw [eX5_readRank 40]
  simp only [am_run_s, bt, lf, am_in, am_ar, am_fit, am_ld, am_ct, Nat.reduceLT, Nat.reduceEqDiff, reduceIte, Nat.reduceAdd, Nat.reduceLeDiff, Nat.reduceSub, Bool.false_eq_true, if_true, if_false, ite_true, ite_false, List.length_cons, List.length_nil, Nat.zero_add, Nat.add_zero, and_true, true_and, true_or, or_true, and_self, Nat.le_refl, Nat.lt_irrefl, gI_sI, gL_sL, gQ_sQ, gI_sJ, gI_sL, gI_sQ, gL_sI, gL_sQ, gL_sJ, gQ_sI, gQ_sL, gQ_sJ, gN_sI, gN_sL, gN_sQ, gN_sJ, E_b2_0, E_cV_a, E_cV_b, E_c_0, E_je_0, E_jz_0, E_kk, E_ldI_a, E_ldI_b, E_ldR_a, E_ldR_b, E_putI_0, E_rZ_0, E_stI_0, am_cc, am_nl, am_ok, am_pop, am_rt, am_set, cC_5, kX5_readRank]
  refine c_takeNumber (w := 11) (by omega) hL ha hT hs hR hm _ (by decide) (fun σ1 f1 r1 m1 => ?_)
  cases e : (tkN L 11 s 0 sm).2 with
  | none =>
    rw [onum_n]
    have hf : ¬ gI σ1 602 0 = 0 := by rw [r1.2.1]; exact tkN_f e
    simp only [am_run_s, bt, lf, am_in, am_ar, am_fit, am_ld, am_ct, Nat.reduceLT, Nat.reduceEqDiff, reduceIte, Nat.reduceAdd, Nat.reduceLeDiff, Nat.reduceSub, Bool.false_eq_true, if_true, if_false, ite_true, ite_false, List.length_cons, List.length_nil, Nat.zero_add, Nat.add_zero, and_true, true_and, true_or, or_true, and_self, Nat.le_refl, Nat.lt_irrefl, gI_sI, gL_sL, gQ_sQ, gI_sJ, gI_sL, gI_sQ, gL_sI, gL_sQ, gL_sJ, gQ_sI, gQ_sL, gQ_sJ, gN_sI, gN_sL, gN_sQ, gN_sJ, E_b2_0, E_cV_a, E_cV_b, E_c_0, E_je_0, E_jz_0, E_kk, E_ldI_a, E_ldI_b, E_ldR_a, E_ldR_b, E_putI_0, E_rZ_0, E_stI_0, am_cc, am_nl, am_ok, am_pop, am_rt, am_set, cC_5, kX5_readRank, ↓c_takeNumber_f (w := 1) (by omega) (by omega) hf _ (show (1 : Int32) = nI 1 by decide), am_b0]
    exact hF σ1 _ f1 (by unfold rd2; rw [e]) (r1.o _ _ _ _) rfl
  | some p =>
    rw [onum_s]
    simp only [am_run_s, bt, lf, am_in, am_ar, am_fit, am_ld, am_ct, Nat.reduceLT, Nat.reduceEqDiff, reduceIte, Nat.reduceAdd, Nat.reduceLeDiff, Nat.reduceSub, Bool.false_eq_true, if_true, if_false, ite_true, ite_false, List.length_cons, List.length_nil, Nat.zero_add, Nat.add_zero, and_true, true_and, true_or, or_true, and_self, Nat.le_refl, Nat.lt_irrefl, gI_sI, gL_sL, gQ_sQ, gI_sJ, gI_sL, gI_sQ, gL_sI, gL_sQ, gL_sJ, gQ_sI, gQ_sL, gQ_sJ, gN_sI, gN_sL, gN_sQ, gN_sJ, E_b2_0, E_cV_a, E_cV_b, E_c_0, E_je_0, E_jz_0, E_kk, E_ldI_a, E_ldI_b, E_ldR_a, E_ldR_b, E_putI_0, E_rZ_0, E_stI_0, am_cc, am_nl, am_ok, am_pop, am_rt, am_set, cC_5, kX5_readRank]
    have v1 := RV_tkN ha hs e
    refine c_takeNumber (w := 1) (by omega) hL ha (hT.fx f1 rfl rfl) v1 r1 (m1 p e) _ (by decide) (fun σ2 f2 r2 m2 => ?_)
    have ed : rd2 L s sm = rd2b L (tkN L 11 s 0 sm).1 p.1 p.2 := by unfold rd2; rw [e]
    rw [ed] at hF hS
    generalize (tkN L 11 s 0 sm).1 = s1 at hF hS r2 m2 v1 ⊢
    cases e2 : (tkN L 1 s1 0 p.2).2 with
    | none =>
      rw [onum_n]
      simp only [am_run_s, bt, lf, am_in, am_ar, am_fit, am_ld, am_ct, Nat.reduceLT, Nat.reduceEqDiff, reduceIte, Nat.reduceAdd, Nat.reduceLeDiff, Nat.reduceSub, Bool.false_eq_true, if_true, if_false, ite_true, ite_false, List.length_cons, List.length_nil, Nat.zero_add, Nat.add_zero, and_true, true_and, true_or, or_true, and_self, Nat.le_refl, Nat.lt_irrefl, gI_sI, gL_sL, gQ_sQ, gI_sJ, gI_sL, gI_sQ, gL_sI, gL_sQ, gL_sJ, gQ_sI, gQ_sL, gQ_sJ, gN_sI, gN_sL, gN_sQ, gN_sJ, E_b2_0, E_cV_a, E_cV_b, E_c_0, E_je_0, E_jz_0, E_kk, E_ldI_a, E_ldI_b, E_ldR_a, E_ldR_b, E_putI_0, E_rZ_0, E_stI_0, am_cc, am_nl, am_ok, am_pop, am_rt, am_set, cC_5, kX5_readRank, am_b0]
      exact hF σ2 _ (f1.tr f2) (by unfold rd2b; rw [e2]) (r2.o _ _ _ _) rfl
    | some q =>
      rw [onum_s]
      obtain ⟨y, y1, y2⟩ := tkN_v (x := 0) ha v1 e2
      have n1 : ¬ q.1 = -1 := by rw [y1]; exact num_ne (by omega)
      have n0 : ¬ (0 : Int32) = -1 := by decide
      have v2 := RV_tkN ha v1 e2
      by_cases q0 : q.1 = 0
      · simp only [am_run_s, bt, lf, am_in, am_ar, am_fit, am_ld, am_ct, Nat.reduceLT, Nat.reduceEqDiff, reduceIte, Nat.reduceAdd, Nat.reduceLeDiff, Nat.reduceSub, Bool.false_eq_true, if_true, if_false, ite_true, ite_false, List.length_cons, List.length_nil, Nat.zero_add, Nat.add_zero, and_true, true_and, true_or, or_true, and_self, Nat.le_refl, Nat.lt_irrefl, gI_sI, gL_sL, gQ_sQ, gI_sJ, gI_sL, gI_sQ, gL_sI, gL_sQ, gL_sJ, gQ_sI, gQ_sL, gQ_sJ, gN_sI, gN_sL, gN_sQ, gN_sJ, E_b2_0, E_cV_a, E_cV_b, E_c_0, E_je_0, E_jz_0, E_kk, E_ldI_a, E_ldI_b, E_ldR_a, E_ldR_b, E_putI_0, E_rZ_0, E_stI_0, am_cc, am_nl, am_ok, am_pop, am_rt, am_set, cC_5, kX5_readRank, q0, n0, am_b1]
        have g0 : frm PRK σ (sI σ2 604 0 p.1) := ((f1.tr f2).mo PRK_le).si rfl
        refine hS _ (tkN L 1 s1 0 p.2).1 q.2 p.1 g0 v2 ⟨?_, ?_, ?_, ?_, ?_⟩ ?_ ?_ (by unfold rd2b; rw [e2]; dsimp only; rw [if_pos q0])
        · simp only [gI_sI, gL_sL, gQ_sQ, gI_sJ, gI_sL, gI_sQ, gL_sI, gL_sQ, gL_sJ, gQ_sI, gQ_sL, gQ_sJ, gN_sI, gN_sL, gN_sQ, gN_sJ, Nat.reduceLT, Nat.reduceEqDiff, reduceIte, Nat.reduceAdd, Nat.reduceLeDiff, Nat.reduceSub, Bool.false_eq_true, if_true, if_false, ite_true, ite_false, List.length_cons, List.length_nil, Nat.zero_add, Nat.add_zero, and_true, true_and, true_or, or_true, and_self, Nat.le_refl, Nat.lt_irrefl, r2.1]
        · simp only [gI_sI, gL_sL, gQ_sQ, gI_sJ, gI_sL, gI_sQ, gL_sI, gL_sQ, gL_sJ, gQ_sI, gQ_sL, gQ_sJ, gN_sI, gN_sL, gN_sQ, gN_sJ, Nat.reduceLT, Nat.reduceEqDiff, reduceIte, Nat.reduceAdd, Nat.reduceLeDiff, Nat.reduceSub, Bool.false_eq_true, if_true, if_false, ite_true, ite_false, List.length_cons, List.length_nil, Nat.zero_add, Nat.add_zero, and_true, true_and, true_or, or_true, and_self, Nat.le_refl, Nat.lt_irrefl, r2.2.1]
        · simp only [gI_sI, gL_sL, gQ_sQ, gI_sJ, gI_sL, gI_sQ, gL_sI, gL_sQ, gL_sJ, gQ_sI, gQ_sL, gQ_sJ, gN_sI, gN_sL, gN_sQ, gN_sJ, Nat.reduceLT, Nat.reduceEqDiff, reduceIte, Nat.reduceAdd, Nat.reduceLeDiff, Nat.reduceSub, Bool.false_eq_true, if_true, if_false, ite_true, ite_false, List.length_cons, List.length_nil, Nat.zero_add, Nat.add_zero, and_true, true_and, true_or, or_true, and_self, Nat.le_refl, Nat.lt_irrefl, r2.2.2.1]
        · simp only [gI_sI, gL_sL, gQ_sQ, gI_sJ, gI_sL, gI_sQ, gL_sI, gL_sQ, gL_sJ, gQ_sI, gQ_sL, gQ_sJ, gN_sI, gN_sL, gN_sQ, gN_sJ, Nat.reduceLT, Nat.reduceEqDiff, reduceIte, Nat.reduceAdd, Nat.reduceLeDiff, Nat.reduceSub, Bool.false_eq_true, if_true, if_false, ite_true, ite_false, List.length_cons, List.length_nil, Nat.zero_add, Nat.add_zero, and_true, true_and, true_or, or_true, and_self, Nat.le_refl, Nat.lt_irrefl, r2.2.2.2.1]
        · simp only [gI_sI, gL_sL, gQ_sQ, gI_sJ, gI_sL, gI_sQ, gL_sI, gL_sQ, gL_sJ, gQ_sI, gQ_sL, gQ_sJ, gN_sI, gN_sL, gN_sQ, gN_sJ, Nat.reduceLT, Nat.reduceEqDiff, reduceIte, Nat.reduceAdd, Nat.reduceLeDiff, Nat.reduceSub, Bool.false_eq_true, if_true, if_false, ite_true, ite_false, List.length_cons, List.length_nil, Nat.zero_add, Nat.add_zero, and_true, true_and, true_or, or_true, and_self, Nat.le_refl, Nat.lt_irrefl, r2.2.2.2.2]
        · simp only [gI_sI, gL_sL, gQ_sQ, gI_sJ, gI_sL, gI_sQ, gL_sI, gL_sQ, gL_sJ, gQ_sI, gQ_sL, gQ_sJ, gN_sI, gN_sL, gN_sQ, gN_sJ, Nat.reduceLT, Nat.reduceEqDiff, reduceIte, Nat.reduceAdd, Nat.reduceLeDiff, Nat.reduceSub, Bool.false_eq_true, if_true, if_false, ite_true, ite_false, List.length_cons, List.length_nil, Nat.zero_add, Nat.add_zero, and_true, true_and, true_or, or_true, and_self, Nat.le_refl, Nat.lt_irrefl]; exact m2 q e2
        · simp only [gI_sI, gL_sL, gQ_sQ, gI_sJ, gI_sL, gI_sQ, gL_sI, gL_sQ, gL_sJ, gQ_sI, gQ_sL, gQ_sJ, gN_sI, gN_sL, gN_sQ, gN_sJ, Nat.reduceLT, Nat.reduceEqDiff, reduceIte, Nat.reduceAdd, Nat.reduceLeDiff, Nat.reduceSub, Bool.false_eq_true, if_true, if_false, ite_true, ite_false, List.length_cons, List.length_nil, Nat.zero_add, Nat.add_zero, and_true, true_and, true_or, or_true, and_self, Nat.le_refl, Nat.lt_irrefl]
      · simp only [am_run_s, bt, lf, am_in, am_ar, am_fit, am_ld, am_ct, Nat.reduceLT, Nat.reduceEqDiff, reduceIte, Nat.reduceAdd, Nat.reduceLeDiff, Nat.reduceSub, Bool.false_eq_true, if_true, if_false, ite_true, ite_false, List.length_cons, List.length_nil, Nat.zero_add, Nat.add_zero, and_true, true_and, true_or, or_true, and_self, Nat.le_refl, Nat.lt_irrefl, gI_sI, gL_sL, gQ_sQ, gI_sJ, gI_sL, gI_sQ, gL_sI, gL_sQ, gL_sJ, gQ_sI, gQ_sL, gQ_sJ, gN_sI, gN_sL, gN_sQ, gN_sJ, E_b2_0, E_cV_a, E_cV_b, E_c_0, E_je_0, E_jz_0, E_kk, E_ldI_a, E_ldI_b, E_ldR_a, E_ldR_b, E_putI_0, E_rZ_0, E_stI_0, am_cc, am_nl, am_ok, am_pop, am_rt, am_set, cC_5, kX5_readRank, q0, n1]
        have ed2 : rd2b L s1 p.1 p.2 = rd2c L (tkN L 1 s1 0 p.2).1 p.1 q.2 := by unfold rd2b; rw [e2]; dsimp only; rw [if_neg q0]
        rw [ed2] at hF hS
        refine c_takeNumber (w := 18) (by omega) hL ha ((hT.fx f1 rfl rfl).fx f2 rfl rfl) v2 r2 (m2 q e2) _ (by decide) (fun σ3 f3 r3 m3 => ?_)
        generalize (tkN L 1 s1 0 p.2).1 = s2 at hF hS r3 m3 v2 ⊢
        cases e3 : (tkN L 18 s2 0 q.2).2 with
        | none =>
          rw [onum_n]
          simp only [am_run_s, bt, lf, am_in, am_ar, am_fit, am_ld, am_ct, Nat.reduceLT, Nat.reduceEqDiff, reduceIte, Nat.reduceAdd, Nat.reduceLeDiff, Nat.reduceSub, Bool.false_eq_true, if_true, if_false, ite_true, ite_false, List.length_cons, List.length_nil, Nat.zero_add, Nat.add_zero, and_true, true_and, true_or, or_true, and_self, Nat.le_refl, Nat.lt_irrefl, gI_sI, gL_sL, gQ_sQ, gI_sJ, gI_sL, gI_sQ, gL_sI, gL_sQ, gL_sJ, gQ_sI, gQ_sL, gQ_sJ, gN_sI, gN_sL, gN_sQ, gN_sJ, E_b2_0, E_cV_a, E_cV_b, E_c_0, E_je_0, E_jz_0, E_kk, E_ldI_a, E_ldI_b, E_ldR_a, E_ldR_b, E_putI_0, E_rZ_0, E_stI_0, am_cc, am_nl, am_ok, am_pop, am_rt, am_set, cC_5, kX5_readRank, am_b0]
          exact hF σ3 _ ((f1.tr f2).tr f3) (by unfold rd2c; rw [e3]) (r3.o _ _ _ _) rfl
        | some t =>
          rw [onum_s]
          obtain ⟨y, y1, y2⟩ := tkN_v (x := 0) ha v2 e3
          have n2 : ¬ t.1 = -1 := by rw [y1]; exact num_ne (by omega)
          simp only [am_run_s, bt, lf, am_in, am_ar, am_fit, am_ld, am_ct, Nat.reduceLT, Nat.reduceEqDiff, reduceIte, Nat.reduceAdd, Nat.reduceLeDiff, Nat.reduceSub, Bool.false_eq_true, if_true, if_false, ite_true, ite_false, List.length_cons, List.length_nil, Nat.zero_add, Nat.add_zero, and_true, true_and, true_or, or_true, and_self, Nat.le_refl, Nat.lt_irrefl, gI_sI, gL_sL, gQ_sQ, gI_sJ, gI_sL, gI_sQ, gL_sI, gL_sQ, gL_sJ, gQ_sI, gQ_sL, gQ_sJ, gN_sI, gN_sL, gN_sQ, gN_sJ, E_b2_0, E_cV_a, E_cV_b, E_c_0, E_je_0, E_jz_0, E_kk, E_ldI_a, E_ldI_b, E_ldR_a, E_ldR_b, E_putI_0, E_rZ_0, E_stI_0, am_cc, am_nl, am_ok, am_pop, am_rt, am_set, cC_5, kX5_readRank, n2, am_b1]
          have g0 : frm PRK σ (sI σ3 604 0 (2048 + ((p.1 <<< ((18 : Int32) &&& 31)) ||| t.1))) := (((f1.tr f2).tr f3).mo PRK_le).si rfl
          refine hS _ (tkN L 18 s2 0 q.2).1 t.2 (2048 + ((p.1 <<< ((18 : Int32) &&& 31)) ||| t.1)) g0 (RV_tkN ha v2 e3) ⟨?_, ?_, ?_, ?_, ?_⟩ ?_ ?_ (by unfold rd2c; rw [e3])
          · simp only [gI_sI, gL_sL, gQ_sQ, gI_sJ, gI_sL, gI_sQ, gL_sI, gL_sQ, gL_sJ, gQ_sI, gQ_sL, gQ_sJ, gN_sI, gN_sL, gN_sQ, gN_sJ, Nat.reduceLT, Nat.reduceEqDiff, reduceIte, Nat.reduceAdd, Nat.reduceLeDiff, Nat.reduceSub, Bool.false_eq_true, if_true, if_false, ite_true, ite_false, List.length_cons, List.length_nil, Nat.zero_add, Nat.add_zero, and_true, true_and, true_or, or_true, and_self, Nat.le_refl, Nat.lt_irrefl, r3.1]
          · simp only [gI_sI, gL_sL, gQ_sQ, gI_sJ, gI_sL, gI_sQ, gL_sI, gL_sQ, gL_sJ, gQ_sI, gQ_sL, gQ_sJ, gN_sI, gN_sL, gN_sQ, gN_sJ, Nat.reduceLT, Nat.reduceEqDiff, reduceIte, Nat.reduceAdd, Nat.reduceLeDiff, Nat.reduceSub, Bool.false_eq_true, if_true, if_false, ite_true, ite_false, List.length_cons, List.length_nil, Nat.zero_add, Nat.add_zero, and_true, true_and, true_or, or_true, and_self, Nat.le_refl, Nat.lt_irrefl, r3.2.1]
          · simp only [gI_sI, gL_sL, gQ_sQ, gI_sJ, gI_sL, gI_sQ, gL_sI, gL_sQ, gL_sJ, gQ_sI, gQ_sL, gQ_sJ, gN_sI, gN_sL, gN_sQ, gN_sJ, Nat.reduceLT, Nat.reduceEqDiff, reduceIte, Nat.reduceAdd, Nat.reduceLeDiff, Nat.reduceSub, Bool.false_eq_true, if_true, if_false, ite_true, ite_false, List.length_cons, List.length_nil, Nat.zero_add, Nat.add_zero, and_true, true_and, true_or, or_true, and_self, Nat.le_refl, Nat.lt_irrefl, r3.2.2.1]
          · simp only [gI_sI, gL_sL, gQ_sQ, gI_sJ, gI_sL, gI_sQ, gL_sI, gL_sQ, gL_sJ, gQ_sI, gQ_sL, gQ_sJ, gN_sI, gN_sL, gN_sQ, gN_sJ, Nat.reduceLT, Nat.reduceEqDiff, reduceIte, Nat.reduceAdd, Nat.reduceLeDiff, Nat.reduceSub, Bool.false_eq_true, if_true, if_false, ite_true, ite_false, List.length_cons, List.length_nil, Nat.zero_add, Nat.add_zero, and_true, true_and, true_or, or_true, and_self, Nat.le_refl, Nat.lt_irrefl, r3.2.2.2.1]
          · simp only [gI_sI, gL_sL, gQ_sQ, gI_sJ, gI_sL, gI_sQ, gL_sI, gL_sQ, gL_sJ, gQ_sI, gQ_sL, gQ_sJ, gN_sI, gN_sL, gN_sQ, gN_sJ, Nat.reduceLT, Nat.reduceEqDiff, reduceIte, Nat.reduceAdd, Nat.reduceLeDiff, Nat.reduceSub, Bool.false_eq_true, if_true, if_false, ite_true, ite_false, List.length_cons, List.length_nil, Nat.zero_add, Nat.add_zero, and_true, true_and, true_or, or_true, and_self, Nat.le_refl, Nat.lt_irrefl, r3.2.2.2.2]
          · simp only [gI_sI, gL_sL, gQ_sQ, gI_sJ, gI_sL, gI_sQ, gL_sI, gL_sQ, gL_sJ, gQ_sI, gQ_sL, gQ_sJ, gN_sI, gN_sL, gN_sQ, gN_sJ, Nat.reduceLT, Nat.reduceEqDiff, reduceIte, Nat.reduceAdd, Nat.reduceLeDiff, Nat.reduceSub, Bool.false_eq_true, if_true, if_false, ite_true, ite_false, List.length_cons, List.length_nil, Nat.zero_add, Nat.add_zero, and_true, true_and, true_or, or_true, and_self, Nat.le_refl, Nat.lt_irrefl]; exact m3 t e3
          · simp only [gI_sI, gL_sL, gQ_sQ, gI_sJ, gI_sL, gI_sQ, gL_sI, gL_sQ, gL_sJ, gQ_sI, gQ_sL, gQ_sJ, gN_sI, gN_sL, gN_sQ, gN_sJ, Nat.reduceLT, Nat.reduceEqDiff, reduceIte, Nat.reduceAdd, Nat.reduceLeDiff, Nat.reduceSub, Bool.false_eq_true, if_true, if_false, ite_true, ite_false, List.length_cons, List.length_nil, Nat.zero_add, Nat.add_zero, and_true, true_and, true_or, or_true, and_self, Nat.le_refl, Nat.lt_irrefl]
