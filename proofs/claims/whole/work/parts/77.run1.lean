/-! ===== the run: the reference's side, against a ghost m ===== -/
/-- registers of the reference that the run reads or writes; what a frame is built in is left out -/
def PMG (f : Nat) : Bool := (Nat.ble 33 f && Nat.ble f 62 && !Nat.beq f 52) || Nat.beq f 72 || (Nat.ble 1300 f && Nat.ble f 1399 && !(Nat.ble 1324 f && Nat.ble f 1328))
/-- all ints of the reference -/
def PMA (f : Nat) : Bool := (Nat.ble 33 f && Nat.ble f 62) || Nat.beq f 72 || (Nat.ble 1300 f && Nat.ble f 1399)
def AgM (σ m : HS) : Prop := (∀ f, PMG f = true → ∀ i, gI σ f i = gI m f i) ∧ ∀ i, gL σ 85 i = gL m 85 i
theorem AgM.gi {σ m : HS} (h : AgM σ m) {f i : Nat} (hf : PMG f = true) : gI σ f i = gI m f i := h.1 f hf i
theorem AgM.rf {σ : HS} : AgM σ σ := ⟨fun _ _ _ => rfl, fun _ => rfl⟩
theorem AgM.si {σ m : HS} (h : AgM σ m) (f i : Nat) (v : Int32) : AgM (sI σ f i v) (sI m f i v) := by
  refine ⟨fun f' hf' i' => ?_, h.2⟩
  rw [gI_sI, gI_sI, h.1 f' hf' i']
theorem AgM.fm {σ σ' m : HS} (h : AgM σ m) (f : frm PFM σ σ') : AgM σ' m := by
  refine ⟨fun g hg i => ?_, fun i => by rw [f.gl]; exact h.2 i⟩
  rw [f.gi]
  · exact h.1 g hg i
  · cases e : PFM g with
    | false => rfl
    | true =>
      exfalso
      unfold PFM at e
      unfold PMG at hg
      simp only [Bool.or_eq_true, Bool.and_eq_true, Nat.ble_eq, Bool.not_eq_true'] at e hg
      rcases e with ⟨e1, e2⟩ | e1
      · rcases hg with (⟨⟨h1, h2⟩, h3⟩ | h1) | ⟨⟨h1, h2⟩, h3⟩
        · omega
        · have := Nat.eq_of_beq_eq_true h1; omega
        · have : (Nat.ble 1324 g && Nat.ble g 1328) = true := by
            simp only [Bool.and_eq_true, Nat.ble_eq]; exact ⟨e1, e2⟩
          rw [this] at h3; cases h3
      · have := Nat.eq_of_beq_eq_true e1
        subst this
        revert hg; decide
/-- from any state that agrees with m the call y leads to one that agrees with m', and changes nothing else -/
def Rg (y : Nat) (vs : List AV) (m m' : HS) : Prop := ∀ (σ : HS) (Q : PO), AgM σ m → (∀ σ', AgM σ' m' → frm PMA σ σ' → Q none σ') → MM y (.inr (.inr (some (12, 0))) :: vs) σ Q
/-- the same of a place in a method -/
def Rp (cd : Nat → Bool × PT) (p : Nat) (ls : ALs) (m : HS) (p' : Nat) (ls' : ALs) (m' : HS) : Prop := ∀ (σ : HS) (Q : PO), AgM σ m → (∀ σ', AgM σ' m' → frm PMA σ σ' → am_T cd MM Q p' ls' [] σ' 0 0) → am_T cd MM Q p ls [] σ 0 0
theorem Rp.rf {cd : Nat → Bool × PT} {p : Nat} {ls : ALs} {m : HS} : Rp cd p ls m p ls m := fun σ Q h hX => hX σ h frm.rf
theorem Rp.tr {cd : Nat → Bool × PT} {p p' p'' : Nat} {ls ls' ls'' : ALs} {m m' m'' : HS} (h : Rp cd p ls m p' ls' m') (g : Rp cd p' ls' m' p'' ls'' m'') : Rp cd p ls m p'' ls'' m'' := by
  intro σ Q hm hX
  exact h σ Q hm (fun σ1 h1 f1 => g σ1 Q h1 (fun σ2 h2 f2 => hX σ2 h2 (f1.tr f2)))
abbrev rM : AV := .inr (.inr (some (12, 0)))
/-! (1) nodes that are OFF come back -/
def wk1 (m : HS) (i : Nat) : HS := if ¬ gI m 34 i < 256 ∧ ¬ gI m 1342 0 - gI m 35 i < 1408 then sI m 34 i 0 else m
def wkN (m : HS) : Nat → HS
  | 0 => m
  | i + 1 => wk1 (wkN m i) i
theorem wk_step {m : HS} {n i : Nat} (hn : gI m 1313 0 = nI n) (h10 : n ≤ 10) (hi : i < n) : Rp (kX12_goes S1) 2 [some rM, some (.inl (nI i))] m 2 [some rM, some (.inl (nI (i + 1)))] (wk1 m i) := by
  intro σ Q hm hX
  have c1 : gI σ 1313 0 = nI n := by rw [hm.gi rfl]; exact hn
  have h2 := nI_t hi (by omega)
  have h3 : vp_in (nI i) 10 := vp_in_nI (by omega) (by omega)
  have h4 : (nI i).toNatClampNeg = i := nI_clamp (by omega)
  have c2 : gI σ 34 i = gI m 34 i := hm.gi rfl
  have c3 : gI σ 35 i = gI m 35 i := hm.gi rfl
  have c4 : gI σ 1342 0 = gI m 1342 0 := hm.gi rfl
  rw [hX12_goes 24]
  unfold wk1 at hX
  by_cases q1 : gI m 34 i < 256
  · rw [if_neg (fun z => z.1 q1)] at hX
    simp only [am_run_s, bt, lf, am_in, am_ar, am_fit, am_ld, am_ct, Nat.reduceLT, Nat.reduceEqDiff, reduceIte, Nat.reduceAdd, Nat.reduceLeDiff, Nat.reduceSub, Bool.false_eq_true, if_true, if_false, ite_true, ite_false, List.length_cons, List.length_nil, Nat.zero_add, Nat.add_zero, and_true, true_and, true_or, or_true, and_self, Nat.le_refl, Nat.lt_irrefl, gI_sI, gL_sL, gQ_sQ, gI_sJ, gI_sL, gI_sQ, gL_sI, gL_sQ, gL_sJ, gQ_sI, gQ_sL, gQ_sJ, gN_sI, gN_sL, gN_sQ, gN_sJ, E_b2_0, E_cV_a, E_cV_b, E_c_0, E_dup_0, E_dup_1, E_getI_0, E_getR_0, E_iald_0, E_iast_0, E_inc_a, E_inc_b, E_je_0, E_jl_0, E_jmp_0, E_jn_0, E_jz_0, E_kk, E_ldI_a, E_ldI_b, E_ldR_a, E_ldR_b, E_putI_0, E_rV_0, E_stI_0, aL_34, aL_35, am_cc, am_nl, am_ok, am_pop, am_rt, am_set, cC_12, cC_34, cC_35, rR_1301, rR_1302, kX12_goes, kX12_goes_0, kX12_goes_1, c1, h2, ↓s_MisOff i σ _ (show i < 10 by omega), bI_z, c2, q1, not_true_eq_false, not_false_eq_true, nI_1]
    exact hX σ hm frm.rf
  · by_cases q2 : gI m 1342 0 - gI m 35 i < 1408
    · rw [if_neg (fun z => z.2 q2)] at hX
      simp only [am_run_s, bt, lf, am_in, am_ar, am_fit, am_ld, am_ct, Nat.reduceLT, Nat.reduceEqDiff, reduceIte, Nat.reduceAdd, Nat.reduceLeDiff, Nat.reduceSub, Bool.false_eq_true, if_true, if_false, ite_true, ite_false, List.length_cons, List.length_nil, Nat.zero_add, Nat.add_zero, and_true, true_and, true_or, or_true, and_self, Nat.le_refl, Nat.lt_irrefl, gI_sI, gL_sL, gQ_sQ, gI_sJ, gI_sL, gI_sQ, gL_sI, gL_sQ, gL_sJ, gQ_sI, gQ_sL, gQ_sJ, gN_sI, gN_sL, gN_sQ, gN_sJ, E_b2_0, E_cV_a, E_cV_b, E_c_0, E_dup_0, E_dup_1, E_getI_0, E_getR_0, E_iald_0, E_iast_0, E_inc_a, E_inc_b, E_je_0, E_jl_0, E_jmp_0, E_jn_0, E_jz_0, E_kk, E_ldI_a, E_ldI_b, E_ldR_a, E_ldR_b, E_putI_0, E_rV_0, E_stI_0, aL_34, aL_35, am_cc, am_nl, am_ok, am_pop, am_rt, am_set, cC_12, cC_34, cC_35, rR_1301, rR_1302, kX12_goes, kX12_goes_0, kX12_goes_1, c1, h2, ↓s_MisOff i σ _ (show i < 10 by omega), bI_z, c2, c3, c4, h3, h4, q1, q2, not_true_eq_false, not_false_eq_true, nI_1]
      exact hX σ hm frm.rf
    · rw [if_pos ⟨q1, q2⟩] at hX
      simp only [am_run_s, bt, lf, am_in, am_ar, am_fit, am_ld, am_ct, Nat.reduceLT, Nat.reduceEqDiff, reduceIte, Nat.reduceAdd, Nat.reduceLeDiff, Nat.reduceSub, Bool.false_eq_true, if_true, if_false, ite_true, ite_false, List.length_cons, List.length_nil, Nat.zero_add, Nat.add_zero, and_true, true_and, true_or, or_true, and_self, Nat.le_refl, Nat.lt_irrefl, gI_sI, gL_sL, gQ_sQ, gI_sJ, gI_sL, gI_sQ, gL_sI, gL_sQ, gL_sJ, gQ_sI, gQ_sL, gQ_sJ, gN_sI, gN_sL, gN_sQ, gN_sJ, E_b2_0, E_cV_a, E_cV_b, E_c_0, E_dup_0, E_dup_1, E_getI_0, E_getR_0, E_iald_0, E_iast_0, E_inc_a, E_inc_b, E_je_0, E_jl_0, E_jmp_0, E_jn_0, E_jz_0, E_kk, E_ldI_a, E_ldI_b, E_ldR_a, E_ldR_b, E_putI_0, E_rV_0, E_stI_0, aL_34, aL_35, am_cc, am_nl, am_ok, am_pop, am_rt, am_set, cC_12, cC_34, cC_35, rR_1301, rR_1302, kX12_goes, kX12_goes_0, kX12_goes_1, c1, h2, ↓s_MisOff i σ _ (show i < 10 by omega), bI_z, c2, c3, c4, h3, h4, q1, q2, not_true_eq_false, not_false_eq_true, nI_1]
      exact hX _ (hm.si _ _ _) (frm.rf.si rfl)
theorem wk_end {m : HS} {n : Nat} (hn : gI m 1313 0 = nI n) (h10 : n ≤ 10) : Rp (kX12_goes S1) 2 [some rM, some (.inl (nI n))] m 48 [some rM, some (.inl (nI n))] m := by
  intro σ Q hm hX
  have c1 : gI σ 1313 0 = nI n := by rw [hm.gi rfl]; exact hn
  have h0 : ¬ nI n < nI n := nI_nlt (by omega) (by omega)
  rw [hX12_goes 3]
  simp only [am_run_s, bt, lf, am_in, am_ar, am_fit, am_ld, am_ct, Nat.reduceLT, Nat.reduceEqDiff, reduceIte, Nat.reduceAdd, Nat.reduceLeDiff, Nat.reduceSub, Bool.false_eq_true, if_true, if_false, ite_true, ite_false, List.length_cons, List.length_nil, Nat.zero_add, Nat.add_zero, and_true, true_and, true_or, or_true, and_self, Nat.le_refl, Nat.lt_irrefl, gI_sI, gL_sL, gQ_sQ, gI_sJ, gI_sL, gI_sQ, gL_sI, gL_sQ, gL_sJ, gQ_sI, gQ_sL, gQ_sJ, gN_sI, gN_sL, gN_sQ, gN_sJ, E_b2_0, E_cV_a, E_cV_b, E_c_0, E_dup_0, E_dup_1, E_getI_0, E_getR_0, E_iald_0, E_iast_0, E_inc_a, E_inc_b, E_je_0, E_jl_0, E_jmp_0, E_jn_0, E_jz_0, E_kk, E_ldI_a, E_ldI_b, E_ldR_a, E_ldR_b, E_putI_0, E_rV_0, E_stI_0, aL_34, aL_35, am_cc, am_nl, am_ok, am_pop, am_rt, am_set, cC_12, cC_34, cC_35, rR_1301, rR_1302, kX12_goes, kX12_goes_0, kX12_goes_1, am_run_z, c1, h0]
  exact hX σ hm frm.rf
/-! (2) words come -/
def cm1 (m : HS) (w : Nat) (fr : Int32) : HS := sI (sI (if gI m 72 w = 0 then m else sI m 50 w (gI m 50 w + 1)) 72 w 1) 45 w fr
theorem r_comes {m : HS} {w : Nat} (hw : w < 24) (fr : Int32) : Rg 176 [.inl (nI w), .inl fr] m (cm1 m w fr) := by
  intro σ Q hm hQ
  have h3 : vp_in (nI w) 24 := vp_in_nI (by omega) (by omega)
  have h4 : (nI w).toNatClampNeg = w := nI_clamp (by omega)
  have c1 : gI σ 72 w = gI m 72 w := hm.gi rfl
  have c2 : gI σ 50 w = gI m 50 w := hm.gi rfl
  rw [eX12_comes 25]
  unfold cm1 at hQ
  by_cases q : gI m 72 w = 0
  · rw [if_pos q] at hQ
    simp only [am_run_s, bt, lf, am_in, am_ar, am_fit, am_ld, am_ct, Nat.reduceLT, Nat.reduceEqDiff, reduceIte, Nat.reduceAdd, Nat.reduceLeDiff, Nat.reduceSub, Bool.false_eq_true, if_true, if_false, ite_true, ite_false, List.length_cons, List.length_nil, Nat.zero_add, Nat.add_zero, and_true, true_and, true_or, or_true, and_self, Nat.le_refl, Nat.lt_irrefl, gI_sI, gL_sL, gQ_sQ, gI_sJ, gI_sL, gI_sQ, gL_sI, gL_sQ, gL_sJ, gQ_sI, gQ_sL, gQ_sJ, gN_sI, gN_sL, gN_sQ, gN_sJ, E_b2_0, E_bald_0, E_bast_0, E_c_0, E_dup2_0, E_getR_0, E_iald_0, E_iast_0, E_jz_0, E_ldI_a, E_ldI_b, E_ldR_a, E_ldR_b, E_rV_0, aL_45, aL_50, aL_72, cC_12, cC_45, cC_50, cC_72, rR_1315, rR_1316, rR_1321, kX12_comes, h3, h4, c1, q, am_b1]
    exact hQ _ ((hm.si _ _ _).si _ _ _) ((frm.rf.si rfl).si rfl)
  · rw [if_neg q] at hQ
    simp only [am_run_s, bt, lf, am_in, am_ar, am_fit, am_ld, am_ct, Nat.reduceLT, Nat.reduceEqDiff, reduceIte, Nat.reduceAdd, Nat.reduceLeDiff, Nat.reduceSub, Bool.false_eq_true, if_true, if_false, ite_true, ite_false, List.length_cons, List.length_nil, Nat.zero_add, Nat.add_zero, and_true, true_and, true_or, or_true, and_self, Nat.le_refl, Nat.lt_irrefl, gI_sI, gL_sL, gQ_sQ, gI_sJ, gI_sL, gI_sQ, gL_sI, gL_sQ, gL_sJ, gQ_sI, gQ_sL, gQ_sJ, gN_sI, gN_sL, gN_sQ, gN_sJ, E_b2_0, E_bald_0, E_bast_0, E_c_0, E_dup2_0, E_getR_0, E_iald_0, E_iast_0, E_jz_0, E_ldI_a, E_ldI_b, E_ldR_a, E_ldR_b, E_rV_0, aL_45, aL_50, aL_72, cC_12, cC_45, cC_50, cC_72, rR_1315, rR_1316, rR_1321, kX12_comes, h3, h4, c1, c2, q, am_b1]
    exact hQ _ (((hm.si _ _ _).si _ _ _).si _ _ _) (((frm.rf.si rfl).si rfl).si rfl)
def offW (m : HS) (w : Nat) : Prop := ¬ gI m 34 (gI m 37 w).toNatClampNeg < 256
def wldM (m : HS) (w : Nat) : Int32 := gI m 42 w + gI m 46 w * gI m 41 w
def dueM (m : HS) (w : Nat) : Int32 := wldM m w + (7 * gI m 46 w - 7 * gI m 46 w / (gI m 43 w + 1) * (gI m 43 w + 1))
def nx1 (m : HS) (w : Nat) : HS := sI m 46 w (gI m 46 w + 1)
def cmT (m : HS) (w : Nat) : HS := @ite _ (gI m 1342 0 < dueM m w) (inferInstance) m (@ite _ (gI m 34 (gI m 37 w).toNatClampNeg < 256) (inferInstance) (cm1 (nx1 m w) w (wldM m w)) (nx1 m w))
def cmA (m : HS) (w : Nat) : HS := @ite _ (gI m 34 (gI m 37 w).toNatClampNeg < 256) (inferInstance) (cm1 m w (gI m 1342 0)) m
/-- what is known of a word -/
def WF (m : HS) (w : Nat) : Prop := ∃ h kd f t l : Nat, gI m 37 w = nI h ∧ h < 10 ∧ gI m 39 w = nI kd ∧ kd ≤ 3 ∧ gI m 42 w = nI f ∧ f ≤ 100000 ∧ gI m 41 w = nI t ∧ 100 ≤ t ∧ t ≤ 100000 ∧ gI m 43 w = nI l ∧ l ≤ 1000 ∧ (kd ≠ 1 → l = 0)
theorem h_cbt (n : Nat) {Q : PO} {pc : Nat} {ls : ALs} {st : List AV} {σ : HS} {a b : Nat} : am_T (kX12_comesByTime S1) MM Q pc ls st σ a b ↔ (kX12_comesByTime S1 pc).2 MM Q (am_run (kX12_comesByTime S1) MM Q n) ls st σ a b := am_go (gX12_comesByTime S1) MM_mo n
abbrev lsT (w : Nat) (a b : Int64) : ALs := [some rM, some (.inl (nI w)), some (.inr (.inl a)), none, some (.inr (.inl b)), none]
set_option maxRecDepth 8000 in
theorem pre_cbt1 {σ : HS} {w f n t l : Nat} (hw : w < 24) (c1 : gI σ 42 w = nI f) (c2 : gI σ 46 w = nI n) (c3 : gI σ 41 w = nI t) (c4 : gI σ 39 w = 1) (c5 : gI σ 43 w = nI l) (hf : f ≤ 100000) (hn : n ≤ 26600) (ht : t ≤ 100000) (hl : l ≤ 1000) (Q : PO) : MM 181 [rM, .inl (nI w)] σ Q ↔ am_T (kX12_comesByTime S1) MM Q 61 (lsT w (lN (f + n * t)) (lN (7 * n % (l + 1)))) [] σ 0 0 := by
  have h3 : vp_in (nI w) 24 := vp_in_nI (by omega) (by omega)
  have h4 : (nI w).toNatClampNeg = w := nI_clamp (by omega)
  have el : nI l + 1 = nI (l + 1) := nI_1 l
  have l1 : (nI f).toInt64 = lN f := nI_l (by omega)
  have l2 : (nI n).toInt64 = lN n := nI_l (by omega)
  have l3 : (nI t).toInt64 = lN t := nI_l (by omega)
  have l4 : (nI (l + 1)).toInt64 = lN (l + 1) := nI_l (by omega)
  have l6 : ¬ lN (l + 1) = 0 := by
    rw [show (0 : Int64) = lN 0 by decide]
    exact fun z => absurd ((pk_lEQ (by omega) (by omega)).mp z) (by omega)
  have l7 : (7 : Int64) * lN n = lN (7 * n) := by rw [show (7 : Int64) = lN 7 by decide, lN_mul]
  have l8 : lN (7 * n) - lN (7 * n) / lN (l + 1) * lN (l + 1) = lN (7 * n % (l + 1)) := pk_lRem (by omega) (by omega) (by omega)
  rw [eX12_comesByTime 17]
  simp only [am_run_s, bt, lf, am_in, am_ar, am_fit, am_ld, am_ct, Nat.reduceLT, Nat.reduceEqDiff, reduceIte, Nat.reduceAdd, Nat.reduceLeDiff, Nat.reduceSub, Bool.false_eq_true, if_true, if_false, ite_true, ite_false, List.length_cons, List.length_nil, Nat.zero_add, Nat.add_zero, and_true, true_and, true_or, or_true, and_self, Nat.le_refl, Nat.lt_irrefl, gI_sI, gL_sL, gQ_sQ, gI_sJ, gI_sL, gI_sQ, gL_sI, gL_sQ, gL_sJ, gQ_sI, gQ_sL, gQ_sJ, gN_sI, gN_sL, gN_sQ, gN_sJ, E_b2_0, E_cV_a, E_cV_b, E_c_0, E_dup2_0, E_getI_0, E_getR_0, E_i2l_0, E_iald_0, E_iast_0, E_je_0, E_jmp_0, E_jp_0, E_jz_0, E_kk, E_l2_0, E_l2i_0, E_l2n_0, E_lcmp_0, E_ldI_a, E_ldI_b, E_ldL_a, E_ldL_b, E_ldR_a, E_ldR_b, E_rV_0, E_stL_0, aL_37, aL_39, aL_41, aL_42, aL_43, aL_46, am_cc, am_nl, am_ok, am_pop, am_rt, am_set, cC_12, cC_37, cC_39, cC_41, cC_42, cC_43, cC_46, rR_1304, rR_1306, rR_1308, rR_1309, rR_1310, rR_1317, kX12_comesByTime, kX12_comesByTime_0, kX12_comesByTime_1, am_run_z, h3, h4, c1, c2, c3, l1, l2, l3, lN_mul, lN_add]
  rw [h_cbt 23]
  simp only [am_run_s, bt, lf, am_in, am_ar, am_fit, am_ld, am_ct, Nat.reduceLT, Nat.reduceEqDiff, reduceIte, Nat.reduceAdd, Nat.reduceLeDiff, Nat.reduceSub, Bool.false_eq_true, if_true, if_false, ite_true, ite_false, List.length_cons, List.length_nil, Nat.zero_add, Nat.add_zero, and_true, true_and, true_or, or_true, and_self, Nat.le_refl, Nat.lt_irrefl, gI_sI, gL_sL, gQ_sQ, gI_sJ, gI_sL, gI_sQ, gL_sI, gL_sQ, gL_sJ, gQ_sI, gQ_sL, gQ_sJ, gN_sI, gN_sL, gN_sQ, gN_sJ, E_b2_0, E_cV_a, E_cV_b, E_c_0, E_dup2_0, E_getI_0, E_getR_0, E_i2l_0, E_iald_0, E_iast_0, E_je_0, E_jmp_0, E_jp_0, E_jz_0, E_kk, E_l2_0, E_l2i_0, E_l2n_0, E_lcmp_0, E_ldI_a, E_ldI_b, E_ldL_a, E_ldL_b, E_ldR_a, E_ldR_b, E_rV_0, E_stL_0, aL_37, aL_39, aL_41, aL_42, aL_43, aL_46, am_cc, am_nl, am_ok, am_pop, am_rt, am_set, cC_12, cC_37, cC_39, cC_41, cC_42, cC_43, cC_46, rR_1304, rR_1306, rR_1308, rR_1309, rR_1310, rR_1317, kX12_comesByTime, kX12_comesByTime_0, kX12_comesByTime_1, am_run_z, h3, h4, c2, c4, c5, el, l2, l4, l6, l7, l8, not_false_eq_true]
  try exact Iff.rfl
set_option maxRecDepth 8000 in
theorem pre_cbt0 {σ : HS} {w f n t : Nat} (hw : w < 24) (c1 : gI σ 42 w = nI f) (c2 : gI σ 46 w = nI n) (c3 : gI σ 41 w = nI t) (c4 : gI σ 39 w = 0) (hf : f ≤ 100000) (hn : n ≤ 26600) (ht : t ≤ 100000) (Q : PO) : MM 181 [rM, .inl (nI w)] σ Q ↔ am_T (kX12_comesByTime S1) MM Q 61 (lsT w (lN (f + n * t)) (lN 0)) [] σ 0 0 := by
  have h3 : vp_in (nI w) 24 := vp_in_nI (by omega) (by omega)
  have h4 : (nI w).toNatClampNeg = w := nI_clamp (by omega)
  have l1 : (nI f).toInt64 = lN f := nI_l (by omega)
  have l2 : (nI n).toInt64 = lN n := nI_l (by omega)
  have l3 : (nI t).toInt64 = lN t := nI_l (by omega)
  have k01 : ¬ (0 : Int32) = 1 := by decide
  rw [eX12_comesByTime 17]
  simp only [am_run_s, bt, lf, am_in, am_ar, am_fit, am_ld, am_ct, Nat.reduceLT, Nat.reduceEqDiff, reduceIte, Nat.reduceAdd, Nat.reduceLeDiff, Nat.reduceSub, Bool.false_eq_true, if_true, if_false, ite_true, ite_false, List.length_cons, List.length_nil, Nat.zero_add, Nat.add_zero, and_true, true_and, true_or, or_true, and_self, Nat.le_refl, Nat.lt_irrefl, gI_sI, gL_sL, gQ_sQ, gI_sJ, gI_sL, gI_sQ, gL_sI, gL_sQ, gL_sJ, gQ_sI, gQ_sL, gQ_sJ, gN_sI, gN_sL, gN_sQ, gN_sJ, E_b2_0, E_cV_a, E_cV_b, E_c_0, E_dup2_0, E_getI_0, E_getR_0, E_i2l_0, E_iald_0, E_iast_0, E_je_0, E_jmp_0, E_jp_0, E_jz_0, E_kk, E_l2_0, E_l2i_0, E_l2n_0, E_lcmp_0, E_ldI_a, E_ldI_b, E_ldL_a, E_ldL_b, E_ldR_a, E_ldR_b, E_rV_0, E_stL_0, aL_37, aL_39, aL_41, aL_42, aL_43, aL_46, am_cc, am_nl, am_ok, am_pop, am_rt, am_set, cC_12, cC_37, cC_39, cC_41, cC_42, cC_43, cC_46, rR_1304, rR_1306, rR_1308, rR_1309, rR_1310, rR_1317, kX12_comesByTime, kX12_comesByTime_0, kX12_comesByTime_1, am_run_z, h3, h4, c1, c2, c3, l1, l2, l3, lN_mul, lN_add]
  rw [h_cbt 8]
  simp only [am_run_s, bt, lf, am_in, am_ar, am_fit, am_ld, am_ct, Nat.reduceLT, Nat.reduceEqDiff, reduceIte, Nat.reduceAdd, Nat.reduceLeDiff, Nat.reduceSub, Bool.false_eq_true, if_true, if_false, ite_true, ite_false, List.length_cons, List.length_nil, Nat.zero_add, Nat.add_zero, and_true, true_and, true_or, or_true, and_self, Nat.le_refl, Nat.lt_irrefl, gI_sI, gL_sL, gQ_sQ, gI_sJ, gI_sL, gI_sQ, gL_sI, gL_sQ, gL_sJ, gQ_sI, gQ_sL, gQ_sJ, gN_sI, gN_sL, gN_sQ, gN_sJ, E_b2_0, E_cV_a, E_cV_b, E_c_0, E_dup2_0, E_getI_0, E_getR_0, E_i2l_0, E_iald_0, E_iast_0, E_je_0, E_jmp_0, E_jp_0, E_jz_0, E_kk, E_l2_0, E_l2i_0, E_l2n_0, E_lcmp_0, E_ldI_a, E_ldI_b, E_ldL_a, E_ldL_b, E_ldR_a, E_ldR_b, E_rV_0, E_stL_0, aL_37, aL_39, aL_41, aL_42, aL_43, aL_46, am_cc, am_nl, am_ok, am_pop, am_rt, am_set, cC_12, cC_37, cC_39, cC_41, cC_42, cC_43, cC_46, rR_1304, rR_1306, rR_1308, rR_1309, rR_1310, rR_1317, kX12_comesByTime, kX12_comesByTime_0, kX12_comesByTime_1, am_run_z, h3, h4, c4, k01]
  exact Iff.rfl
theorem r_cbt {m : HS} {w : Nat} (hw : w < 24) (wf : WF m w) (hkd : gI m 39 w = 0 ∨ gI m 39 w = 1) {n k : Nat} (hn : gI m 46 w = nI n) (hn2 : n ≤ 26600) (hk : gI m 1342 0 = nI k) (hk2 : k ≤ 2560000) (hb : ∀ f t : Nat, gI m 42 w = nI f → gI m 41 w = nI t → f ≤ 100000 → t ≤ 100000 → f + n * t ≤ 2660000) : Rg 181 [.inl (nI w)] m (cmT m w) := by
  obtain ⟨h, kd, f, t, l, a1, a2, a3, a4, a5, a6, a7, a8, a9, a10, a11, a12⟩ := wf
  have hft := hb f t a5 a7 a6 a9
  have e7 : 7 * nI n = nI (7 * n) := by rw [seven, pk_mul]
  have el : nI l + 1 = nI (l + 1) := nI_1 l
  have ew : wldM m w = nI (f + n * t) := by
    unfold wldM; rw [a5, hn, a7, pk_mul, nI_add]
  have ed : dueM m w = nI (f + n * t + 7 * n % (l + 1)) := by
    unfold dueM; rw [ew, hn, a10, e7, el, pk_rem (by omega) (by omega) (by omega), nI_add]
  have hmod : 7 * n % (l + 1) < l + 1 := Nat.mod_lt _ (by omega)
  intro σ Q hm hQ
  have h3 : vp_in (nI w) 24 := vp_in_nI (by omega) (by omega)
  have h4 : (nI w).toNatClampNeg = w := nI_clamp (by omega)
  have h6 : (nI h).toNatClampNeg = h := nI_clamp (by omega)
  have c1 : gI σ 42 w = nI f := by rw [hm.gi rfl]; exact a5
  have c2 : gI σ 46 w = nI n := by rw [hm.gi rfl]; exact hn
  have c3 : gI σ 41 w = nI t := by rw [hm.gi rfl]; exact a7
  have c4 : gI σ 39 w = nI kd := by rw [hm.gi rfl]; exact a3
  have c5 : gI σ 43 w = nI l := by rw [hm.gi rfl]; exact a10
  have c6 : gI σ 1342 0 = nI k := by rw [hm.gi rfl]; exact hk
  have c7 : gI σ 37 w = nI h := by rw [hm.gi rfl]; exact a1
  have c8 : gI σ 34 h = gI m 34 h := hm.gi rfl
  have l1 : (nI f).toInt64 = lN f := nI_l (by omega)
  have l2 : (nI n).toInt64 = lN n := nI_l (by omega)
  have l3 : (nI t).toInt64 = lN t := nI_l (by omega)
  have l4 : (nI (l + 1)).toInt64 = lN (l + 1) := nI_l (by omega)
  have l5 : (nI k).toInt64 = lN k := nI_l (by omega)
  have l6 : ¬ lN (l + 1) = 0 := by
    rw [show (0 : Int64) = lN 0 by decide]
    exact fun z => absurd ((pk_lEQ (by omega) (by omega)).mp z) (by omega)
  have l7 : (7 : Int64) * lN n = lN (7 * n) := by rw [show (7 : Int64) = lN 7 by decide, lN_mul]
  have l8 : lN (7 * n) - lN (7 * n) / lN (l + 1) * lN (l + 1) = lN (7 * n % (l + 1)) := pk_lRem (by omega) (by omega) (by omega)
  have l9 : lN (f + n * t) + 0 = lN (f + n * t + 0) := by rw [show (0 : Int64) = lN 0 by decide, lN_add]
  have lc : (lN k < lN (f + n * t + 7 * n % (l + 1))) = (k < f + n * t + 7 * n % (l + 1)) := propext (pk_lLT (by omega) (by omega))
  have lc0 : (lN k < lN (f + n * t + 0)) = (k < f + n * t + 0) := propext (pk_lLT (by omega) (by omega))
  unfold cmT at hQ
  rw [ed, hk, a1, h6] at hQ
  have ec : (nI k < nI (f + n * t + 7 * n % (l + 1))) = (k < f + n * t + 7 * n % (l + 1)) := propext (nI_ltI (by omega) (by omega))
  have hko : kd = 1 ∨ kd = 0 := by
    rw [a3] at hkd
    rcases hkd with z | z
    · exact Or.inr ((nI_eq (by omega) (by omega)).mp (z.trans zI))
    · exact Or.inl ((nI_eq (by omega) (by omega)).mp (z.trans one'))
  -- when it has come
  have tail : ¬ k < f + n * t + 7 * n % (l + 1) → ∀ (σ1 : HS), σ1 = sI σ 46 w (nI (n + 1)) → (gI m 34 h < 256 → ∀ Q' : PO, (∀ σ2, Q none σ2 → Q' none σ2) → MM 176 [rM, .inl (nI w), .inl (nI (f + n * t))] σ1 Q') ∧ (¬ gI m 34 h < 256 → Q none σ1) := by
    intro q σ1 e1
    have nq : ¬ nI k < nI (f + n * t + 7 * n % (l + 1)) := by rw [ec]; exact q
    rw [if_neg nq] at hQ
    have em : nx1 m w = sI m 46 w (nI (n + 1)) := by unfold nx1; rw [hn, nI_1]
    have hm1 : AgM σ1 (nx1 m w) := by rw [em, e1]; exact hm.si _ _ _
    have f1 : frm PMA σ σ1 := by rw [e1]; exact frm.rf.si rfl
    refine ⟨fun z Q' hi => ?_, fun z => ?_⟩
    · rw [if_pos z, ew] at hQ
      exact r_comes hw _ σ1 Q' hm1 (fun σ2 m2 f2 => hi σ2 (hQ σ2 m2 (f1.tr f2)))
    · rw [if_neg z] at hQ
      exact hQ σ1 hm1 f1
  have hn0 : ∀ s : Nat, s ≤ 1000 → lN (f + n * t) + lN s = lN (f + n * t + s) := fun s _ => lN_add _ _
  -- the rest, with the shift s
  have rest : ∀ s : Nat, s = 7 * n % (l + 1) → am_T (kX12_comesByTime S1) MM Q 61 (lsT w (lN (f + n * t)) (lN s)) [] σ 0 0 := by
    intro s hs
    subst hs
    by_cases q : k < f + n * t + 7 * n % (l + 1)
    · have nq : nI k < nI (f + n * t + 7 * n % (l + 1)) := by rw [ec]; exact q
      rw [if_pos nq] at hQ
      rw [h_cbt 9]
      simp only [am_run_s, bt, lf, am_in, am_ar, am_fit, am_ld, am_ct, Nat.reduceLT, Nat.reduceEqDiff, reduceIte, Nat.reduceAdd, Nat.reduceLeDiff, Nat.reduceSub, Bool.false_eq_true, if_true, if_false, ite_true, ite_false, List.length_cons, List.length_nil, Nat.zero_add, Nat.add_zero, and_true, true_and, true_or, or_true, and_self, Nat.le_refl, Nat.lt_irrefl, gI_sI, gL_sL, gQ_sQ, gI_sJ, gI_sL, gI_sQ, gL_sI, gL_sQ, gL_sJ, gQ_sI, gQ_sL, gQ_sJ, gN_sI, gN_sL, gN_sQ, gN_sJ, E_b2_0, E_cV_a, E_cV_b, E_c_0, E_dup2_0, E_getI_0, E_getR_0, E_i2l_0, E_iald_0, E_iast_0, E_je_0, E_jmp_0, E_jp_0, E_jz_0, E_kk, E_l2_0, E_l2i_0, E_l2n_0, E_lcmp_0, E_ldI_a, E_ldI_b, E_ldL_a, E_ldL_b, E_ldR_a, E_ldR_b, E_rV_0, E_stL_0, aL_37, aL_39, aL_41, aL_42, aL_43, aL_46, am_cc, am_nl, am_ok, am_pop, am_rt, am_set, cC_12, cC_37, cC_39, cC_41, cC_42, cC_43, cC_46, rR_1304, rR_1306, rR_1308, rR_1309, rR_1310, rR_1317, kX12_comesByTime, kX12_comesByTime_0, kX12_comesByTime_1, c6, l5, lN_add, lc_pos, lc, q]
      exact hQ σ hm frm.rf
    · obtain ⟨t1, t2⟩ := tail q _ rfl
      rw [h_cbt 15]
      by_cases z : gI m 34 h < 256
      · have t1 := t1 z
        simp only [am_run_s, bt, lf, am_in, am_ar, am_fit, am_ld, am_ct, Nat.reduceLT, Nat.reduceEqDiff, reduceIte, Nat.reduceAdd, Nat.reduceLeDiff, Nat.reduceSub, Bool.false_eq_true, if_true, if_false, ite_true, ite_false, List.length_cons, List.length_nil, Nat.zero_add, Nat.add_zero, and_true, true_and, true_or, or_true, and_self, Nat.le_refl, Nat.lt_irrefl, gI_sI, gL_sL, gQ_sQ, gI_sJ, gI_sL, gI_sQ, gL_sI, gL_sQ, gL_sJ, gQ_sI, gQ_sL, gQ_sJ, gN_sI, gN_sL, gN_sQ, gN_sJ, E_b2_0, E_cV_a, E_cV_b, E_c_0, E_dup2_0, E_getI_0, E_getR_0, E_i2l_0, E_iald_0, E_iast_0, E_je_0, E_jmp_0, E_jp_0, E_jz_0, E_kk, E_l2_0, E_l2i_0, E_l2n_0, E_lcmp_0, E_ldI_a, E_ldI_b, E_ldL_a, E_ldL_b, E_ldR_a, E_ldR_b, E_rV_0, E_stL_0, aL_37, aL_39, aL_41, aL_42, aL_43, aL_46, am_cc, am_nl, am_ok, am_pop, am_rt, am_set, cC_12, cC_37, cC_39, cC_41, cC_42, cC_43, cC_46, rR_1304, rR_1306, rR_1308, rR_1309, rR_1310, rR_1317, kX12_comesByTime, kX12_comesByTime_0, kX12_comesByTime_1, am_run_z, h3, h4, c2, c6, l5, lN_add, lc_pos, lc, q, nI_1]
        rw [h_cbt 12]
        simp only [am_run_s, bt, lf, am_in, am_ar, am_fit, am_ld, am_ct, Nat.reduceLT, Nat.reduceEqDiff, reduceIte, Nat.reduceAdd, Nat.reduceLeDiff, Nat.reduceSub, Bool.false_eq_true, if_true, if_false, ite_true, ite_false, List.length_cons, List.length_nil, Nat.zero_add, Nat.add_zero, and_true, true_and, true_or, or_true, and_self, Nat.le_refl, Nat.lt_irrefl, gI_sI, gL_sL, gQ_sQ, gI_sJ, gI_sL, gI_sQ, gL_sI, gL_sQ, gL_sJ, gQ_sI, gQ_sL, gQ_sJ, gN_sI, gN_sL, gN_sQ, gN_sJ, E_b2_0, E_cV_a, E_cV_b, E_c_0, E_dup2_0, E_getI_0, E_getR_0, E_i2l_0, E_iald_0, E_iast_0, E_je_0, E_jmp_0, E_jp_0, E_jz_0, E_kk, E_l2_0, E_l2i_0, E_l2n_0, E_lcmp_0, E_ldI_a, E_ldI_b, E_ldL_a, E_ldL_b, E_ldR_a, E_ldR_b, E_rV_0, E_stL_0, aL_37, aL_39, aL_41, aL_42, aL_43, aL_46, am_cc, am_nl, am_ok, am_pop, am_rt, am_set, cC_12, cC_37, cC_39, cC_41, cC_42, cC_43, cC_46, rR_1304, rR_1306, rR_1308, rR_1309, rR_1310, rR_1317, kX12_comesByTime, kX12_comesByTime_0, kX12_comesByTime_1, h3, h4, c7, c8, lN_i, ↓s_MisOff h _ _ a2, bI_z, z, not_true_eq_false, not_false_eq_true]
        refine t1 _ (fun σ2 h2 => ?_)
        simp only [am_run_s, bt, lf, am_in, am_ar, am_fit, am_ld, am_ct, Nat.reduceLT, Nat.reduceEqDiff, reduceIte, Nat.reduceAdd, Nat.reduceLeDiff, Nat.reduceSub, Bool.false_eq_true, if_true, if_false, ite_true, ite_false, List.length_cons, List.length_nil, Nat.zero_add, Nat.add_zero, and_true, true_and, true_or, or_true, and_self, Nat.le_refl, Nat.lt_irrefl, gI_sI, gL_sL, gQ_sQ, gI_sJ, gI_sL, gI_sQ, gL_sI, gL_sQ, gL_sJ, gQ_sI, gQ_sL, gQ_sJ, gN_sI, gN_sL, gN_sQ, gN_sJ, E_b2_0, E_cV_a, E_cV_b, E_c_0, E_dup2_0, E_getI_0, E_getR_0, E_i2l_0, E_iald_0, E_iast_0, E_je_0, E_jmp_0, E_jp_0, E_jz_0, E_kk, E_l2_0, E_l2i_0, E_l2n_0, E_lcmp_0, E_ldI_a, E_ldI_b, E_ldL_a, E_ldL_b, E_ldR_a, E_ldR_b, E_rV_0, E_stL_0, aL_37, aL_39, aL_41, aL_42, aL_43, aL_46, am_cc, am_nl, am_ok, am_pop, am_rt, am_set, cC_12, cC_37, cC_39, cC_41, cC_42, cC_43, cC_46, rR_1304, rR_1306, rR_1308, rR_1309, rR_1310, rR_1317, kX12_comesByTime, kX12_comesByTime_0, kX12_comesByTime_1]
        exact h2
      · have t2 := t2 z
        simp only [am_run_s, bt, lf, am_in, am_ar, am_fit, am_ld, am_ct, Nat.reduceLT, Nat.reduceEqDiff, reduceIte, Nat.reduceAdd, Nat.reduceLeDiff, Nat.reduceSub, Bool.false_eq_true, if_true, if_false, ite_true, ite_false, List.length_cons, List.length_nil, Nat.zero_add, Nat.add_zero, and_true, true_and, true_or, or_true, and_self, Nat.le_refl, Nat.lt_irrefl, gI_sI, gL_sL, gQ_sQ, gI_sJ, gI_sL, gI_sQ, gL_sI, gL_sQ, gL_sJ, gQ_sI, gQ_sL, gQ_sJ, gN_sI, gN_sL, gN_sQ, gN_sJ, E_b2_0, E_cV_a, E_cV_b, E_c_0, E_dup2_0, E_getI_0, E_getR_0, E_i2l_0, E_iald_0, E_iast_0, E_je_0, E_jmp_0, E_jp_0, E_jz_0, E_kk, E_l2_0, E_l2i_0, E_l2n_0, E_lcmp_0, E_ldI_a, E_ldI_b, E_ldL_a, E_ldL_b, E_ldR_a, E_ldR_b, E_rV_0, E_stL_0, aL_37, aL_39, aL_41, aL_42, aL_43, aL_46, am_cc, am_nl, am_ok, am_pop, am_rt, am_set, cC_12, cC_37, cC_39, cC_41, cC_42, cC_43, cC_46, rR_1304, rR_1306, rR_1308, rR_1309, rR_1310, rR_1317, kX12_comesByTime, kX12_comesByTime_0, kX12_comesByTime_1, am_run_z, h3, h4, c2, c6, l5, lN_add, lc_pos, lc, q, nI_1]
        rw [h_cbt 9]
        simp only [am_run_s, bt, lf, am_in, am_ar, am_fit, am_ld, am_ct, Nat.reduceLT, Nat.reduceEqDiff, reduceIte, Nat.reduceAdd, Nat.reduceLeDiff, Nat.reduceSub, Bool.false_eq_true, if_true, if_false, ite_true, ite_false, List.length_cons, List.length_nil, Nat.zero_add, Nat.add_zero, and_true, true_and, true_or, or_true, and_self, Nat.le_refl, Nat.lt_irrefl, gI_sI, gL_sL, gQ_sQ, gI_sJ, gI_sL, gI_sQ, gL_sI, gL_sQ, gL_sJ, gQ_sI, gQ_sL, gQ_sJ, gN_sI, gN_sL, gN_sQ, gN_sJ, E_b2_0, E_cV_a, E_cV_b, E_c_0, E_dup2_0, E_getI_0, E_getR_0, E_i2l_0, E_iald_0, E_iast_0, E_je_0, E_jmp_0, E_jp_0, E_jz_0, E_kk, E_l2_0, E_l2i_0, E_l2n_0, E_lcmp_0, E_ldI_a, E_ldI_b, E_ldL_a, E_ldL_b, E_ldR_a, E_ldR_b, E_rV_0, E_stL_0, aL_37, aL_39, aL_41, aL_42, aL_43, aL_46, am_cc, am_nl, am_ok, am_pop, am_rt, am_set, cC_12, cC_37, cC_39, cC_41, cC_42, cC_43, cC_46, rR_1304, rR_1306, rR_1308, rR_1309, rR_1310, rR_1317, kX12_comesByTime, kX12_comesByTime_0, kX12_comesByTime_1, h3, h4, c7, c8, ↓s_MisOff h _ _ a2, bI_z, z, not_true_eq_false, not_false_eq_true]
        exact t2
  rcases hko with rfl | rfl
  · show MM 181 [rM, .inl (nI w)] σ Q
    rw [pre_cbt1 hw c1 c2 c3 (by rw [c4]; decide) c5 a6 hn2 a9 a11]
    exact rest _ rfl
  · have hl0 : l = 0 := a12 (by omega)
    show MM 181 [rM, .inl (nI w)] σ Q
    rw [pre_cbt0 hw c1 c2 c3 (by rw [c4]; decide) a6 hn2 a9]
    exact rest 0 (by rw [hl0]; exact (Nat.mod_one _).symm)
