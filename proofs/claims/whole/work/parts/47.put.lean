/-! ===== rows: put ===== -/
theorem byc_bv (v : Int64) {k : Nat} (hk : k < 8) : (byc v k).toBitVec = (v.toBitVec >>> (8 * k)).signExtend 32 := by
  show ((v.toUInt64 >>> ((8 * nI k).toInt64.toUInt64 &&& Int64.toUInt64 63)).toBitVec).signExtend 32 = _
  have hs : ((8 * nI k).toInt64.toUInt64 &&& Int64.toUInt64 63).toBitVec.toNat = 8 * k := by
    have : ∀ j : Fin 8, ((8 * nI j.1).toInt64.toUInt64 &&& Int64.toUInt64 63).toBitVec.toNat = 8 * j.1 := by decide
    exact this ⟨k, hk⟩
  rw [UInt64.toBitVec_shiftRight]
  show (v.toBitVec >>> ((((8 * nI k).toInt64.toUInt64 &&& Int64.toUInt64 63).toBitVec) % 64#64)).signExtend 32 = _
  rw [BitVec.ushiftRight_eq', BitVec.toNat_umod, hs]
  rw [show (64#64 : BitVec 64).toNat = 64 from rfl, Nat.mod_eq_of_lt (by omega)]
theorem bycM_bv (v : Int64) {k : Nat} (hk : k < 8) : (bycM v k).toBitVec = (v.toBitVec.sshiftRight (8 * k)) &&& 255#64 := by
  show (v >>> ((8 * nI k).toInt64 &&& 63)).toBitVec &&& 255#64 = _
  have hs : ((8 * nI k).toInt64 &&& 63).toBitVec.smod 64 = BitVec.ofNat 64 (8 * k) := by
    have : ∀ j : Fin 8, ((8 * nI j.1).toInt64 &&& 63).toBitVec.smod 64 = BitVec.ofNat 64 (8 * j.1) := by decide
    exact this ⟨k, hk⟩
  rw [Int64.toBitVec_shiftRight, hs, BitVec.sshiftRight_eq', BitVec.toNat_ofNat, Nat.mod_eq_of_lt (by omega)]
theorem byte_all : ∀ j : Fin 256, (Int8.ofBitVec (BitVec.ofFin j)).toInt32 = if 127 < Int32.ofBitVec ((BitVec.ofFin (w := 8) j).setWidth 32) then Int32.ofBitVec ((BitVec.ofFin (w := 8) j).setWidth 32) - 256 else Int32.ofBitVec ((BitVec.ofFin (w := 8) j).setWidth 32) := by decide +kernel
theorem byte_rng : ∀ j : Fin 256, (-128) ≤ (Int8.ofBitVec (BitVec.ofFin j)).toInt32 ∧ (Int8.ofBitVec (BitVec.ofFin j)).toInt32 ≤ 127 ∧ (Int8.ofBitVec (BitVec.ofFin j)).toInt32.toInt8.toInt32 = (Int8.ofBitVec (BitVec.ofFin j)).toInt32 := by decide +kernel
theorem i8_rng (x : Int8) : (-128) ≤ x.toInt32 ∧ x.toInt32 ≤ 127 ∧ x.toInt32.toInt8.toInt32 = x.toInt32 := byte_rng x.toBitVec.toFin
theorem byte_eq (v : Int64) {k : Nat} (hk : k < 8) : (byc v k).toInt8.toInt32 = if 127 < (bycM v k).toInt32 then (bycM v k).toInt32 - 256 else (bycM v k).toInt32 := by
  have A : (byc v k).toInt8 = Int8.ofBitVec (BitVec.ofFin ((v.toBitVec >>> (8 * k)).setWidth 8).toFin) := by
    apply Int8.toBitVec_inj.1
    show (byc v k).toBitVec.signExtend 8 = (v.toBitVec >>> (8 * k)).setWidth 8
    rw [byc_bv v hk]
    apply BitVec.eq_of_getLsbD_eq
    intro i hi
    rw [BitVec.getLsbD_signExtend, BitVec.getLsbD_signExtend, BitVec.getLsbD_setWidth]
    have h1 : i < 32 := by omega
    have h2 : i < 64 := by omega
    simp [hi, h1, h2]
  have B : (bycM v k).toInt32 = Int32.ofBitVec ((BitVec.ofFin (w := 8) ((v.toBitVec >>> (8 * k)).setWidth 8).toFin).setWidth 32) := by
    apply Int32.toBitVec_inj.1
    show (bycM v k).toBitVec.signExtend 32 = ((v.toBitVec >>> (8 * k)).setWidth 8).setWidth 32
    rw [bycM_bv v hk]
    apply BitVec.eq_of_getLsbD_eq
    intro i hi
    rw [BitVec.getLsbD_signExtend, BitVec.getLsbD_and, BitVec.getLsbD_sshiftRight, BitVec.getLsbD_setWidth, BitVec.getLsbD_setWidth, BitVec.getLsbD_ushiftRight]
    have h64 : i < 64 := by omega
    have h65 : ¬ 64 ≤ i := by omega
    by_cases h8 : i < 8
    · have h255 : (255#64).getLsbD i = true := by
        have h : ∀ j : Fin 8, (255#64).getLsbD j.1 = true := by decide
        exact h ⟨i, h8⟩
      have h3 : 8 * k + i < 64 := by omega
      simp [h255, h64, h65, h8, h3, hi]
    · have h255 : (255#64).getLsbD i = false := by
        have h : ∀ j : Fin 32, ¬ j.1 < 8 → (255#64).getLsbD j.1 = false := by decide
        exact h ⟨i, hi⟩ h8
      rw [h255]
      simp [h8, h64]
  rw [A, B]
  exact byte_all _
def byR (v : Int64) (n i : Nat) : Int32 := (byc v (n - 1 - i)).toInt8.toInt32
def PRB (f : Nat) : Bool := Nat.beq f 80
def PRM (f : Nat) : Bool := Nat.beq f 61
theorem l_take {v : Int64} {nn : Int32} {n : Nat} {Q : PO} (hn : n ≤ 8) : ∀ (r i : Nat) (σ : HS), i + r = n → gI σ 801 0 = nI n → (∀ j, j < i → gI σ 80 j = byR v n j) → (∀ j, (-128) ≤ gI σ 80 j ∧ gI σ 80 j ≤ 127) →
    (∀ σ', frm PRB σ σ' → (∀ j, j < n → gI σ' 80 j = byR v n j) → (∀ j, (-128) ≤ gI σ' 80 j ∧ gI σ' 80 j ≤ 127) → Q none σ') →
    am_T (kX7_take S1) MM Q 18 [some (.inr (.inr (some (7, 0)))), some (.inl nn), some (.inr (.inl v)), none, some (.inl (nI i))] [] σ 0 0 := by
  intro r
  induction r with
  | zero =>
    intro i σ hi hl hb hr hQ
    have e : i = n := by omega
    subst e
    rw [hX7_take 40]
    have h0 : ¬ nI i < nI i := nI_nlt (by omega) (by omega)
    simp only [am_run_s, bt, lf, am_in, am_ar, am_fit, am_ld, am_ct, Nat.reduceLT, Nat.reduceEqDiff, reduceIte, Nat.reduceAdd, Nat.reduceLeDiff, Nat.reduceSub, Bool.false_eq_true, if_true, if_false, ite_true, ite_false, List.length_cons, List.length_nil, Nat.zero_add, Nat.add_zero, and_true, true_and, true_or, or_true, and_self, Nat.le_refl, Nat.lt_irrefl, gI_sI, gL_sL, gQ_sQ, gI_sJ, gI_sL, gI_sQ, gL_sI, gL_sQ, gL_sJ, gQ_sI, gQ_sL, gQ_sJ, gN_sI, gN_sL, gN_sQ, gN_sJ, E_b2_0, E_bast_0, E_c_0, E_getI_0, E_getR_0, E_inc_a, E_inc_b, E_jl_0, E_jmp_0, E_l2i_0, E_ldI_a, E_ldI_b, E_ldL_a, E_ldL_b, E_ldR_a, E_ldR_b, E_lsh_0, E_min_0, E_putI_0, E_putZ_0, E_rV_0, E_stI_0, E_u1_0, aL_80, am_nl, am_ok, am_set, cC_7, cC_80, rR_800, kX7_take, hl, h0]
    exact hQ σ frm.rf hb hr
  | succ r ih =>
    intro i σ hi hl hb hr hQ
    rw [hX7_take 40]
    have h0 := nI_t (show i < n by omega) (by omega)
    have h3 : vp_in (nI i) 8 := vp_in_nI (by omega) (by omega)
    have h4 : (nI i).toNatClampNeg = i := nI_clamp (by omega)
    have h5 : nI n - 1 - nI i = nI (n - 1 - i) := by
      rw [one', pk_sub (by omega), pk_sub (by omega)]
    simp only [am_run_s, bt, lf, am_in, am_ar, am_fit, am_ld, am_ct, Nat.reduceLT, Nat.reduceEqDiff, reduceIte, Nat.reduceAdd, Nat.reduceLeDiff, Nat.reduceSub, Bool.false_eq_true, if_true, if_false, ite_true, ite_false, List.length_cons, List.length_nil, Nat.zero_add, Nat.add_zero, and_true, true_and, true_or, or_true, and_self, Nat.le_refl, Nat.lt_irrefl, gI_sI, gL_sL, gQ_sQ, gI_sJ, gI_sL, gI_sQ, gL_sI, gL_sQ, gL_sJ, gQ_sI, gQ_sL, gQ_sJ, gN_sI, gN_sL, gN_sQ, gN_sJ, E_b2_0, E_bast_0, E_c_0, E_getI_0, E_getR_0, E_inc_a, E_inc_b, E_jl_0, E_jmp_0, E_l2i_0, E_ldI_a, E_ldI_b, E_ldL_a, E_ldL_b, E_ldR_a, E_ldR_b, E_lsh_0, E_min_0, E_putI_0, E_putZ_0, E_rV_0, E_stI_0, E_u1_0, aL_80, am_nl, am_ok, am_set, cC_7, cC_80, rR_800, kX7_take, hl, h0, h3, h4, h5, nI_1]
    have hv := i8_rng (byc v (n - 1 - i)).toInt8
    have f0 : frm PRB σ (sI σ 80 i (byR v n i).toInt8.toInt32) := frm.rf.si rfl
    have e0 : (byR v n i).toInt8.toInt32 = byR v n i := hv.2.2
    refine ih (i + 1) (sI σ 80 i (byR v n i).toInt8.toInt32) (by omega) (by rw [f0.gi rfl]; exact hl) ?_ ?_ (fun σ' f1 b1 r1 => hQ σ' (f0.tr f1) b1 r1)
    · intro j hj
      simp only [gI_sI, gL_sL, gQ_sQ, gI_sJ, gI_sL, gI_sQ, gL_sI, gL_sQ, gL_sJ, gQ_sI, gQ_sL, gQ_sJ, gN_sI, gN_sL, gN_sQ, gN_sJ, Nat.reduceLT, Nat.reduceEqDiff, reduceIte, Nat.reduceAdd, Nat.reduceLeDiff, Nat.reduceSub, Bool.false_eq_true, if_true, if_false, ite_true, ite_false, List.length_cons, List.length_nil, Nat.zero_add, Nat.add_zero, and_true, true_and, true_or, or_true, and_self, Nat.le_refl, Nat.lt_irrefl]
      by_cases e : j = i
      · subst e; rw [if_pos rfl]; exact e0
      · rw [if_neg e]; exact hb j (by omega)
    · intro j
      simp only [gI_sI, gL_sL, gQ_sQ, gI_sJ, gI_sL, gI_sQ, gL_sI, gL_sQ, gL_sJ, gQ_sI, gQ_sL, gQ_sJ, gN_sI, gN_sL, gN_sQ, gN_sJ, Nat.reduceLT, Nat.reduceEqDiff, reduceIte, Nat.reduceAdd, Nat.reduceLeDiff, Nat.reduceSub, Bool.false_eq_true, if_true, if_false, ite_true, ite_false, List.length_cons, List.length_nil, Nat.zero_add, Nat.add_zero, and_true, true_and, true_or, or_true, and_self, Nat.le_refl, Nat.lt_irrefl]
      by_cases e : j = i
      · subst e; rw [if_pos rfl]
        have e1 : (byR v n j).toInt8.toInt32 = byR v n j := e0
        rw [e1]
        exact ⟨hv.1, hv.2.1⟩
      · rw [if_neg e]; exact hr j
theorem l_putM {v : Int64} {x n : Nat} {Q : PO} (hn : n ≤ 8) (hx : x < 24) : ∀ (r i : Nat) (o : Option AV) (σ : HS), i + r = n → gI σ 1366 0 = nI n → gL σ 85 x = v → (∀ j, j < i → gI σ 61 j = byR v n j) →
    (∀ σ', frm PRM σ σ' → (∀ j, j < n → gI σ' 61 j = byR v n j) → Q (some (.inl (nI n))) σ') →
    am_T (kX12_put S1) MM Q 27 [some (.inr (.inr (some (12, 0)))), some (.inl (nI x)), some (.inl (nI i)), o] [] σ 0 0 := by
  intro r
  have x3 : vp_in (nI x) 24 := vp_in_nI (by omega) (by omega)
  have x4 : (nI x).toNatClampNeg = x := nI_clamp (by omega)
  induction r with
  | zero =>
    intro i o σ hi hl hv hb hQ
    have e : i = n := by omega
    subst e
    rw [hX12_put 40]
    have h0 : ¬ nI i < nI i := nI_nlt (by omega) (by omega)
    simp only [am_run_s, bt, lf, am_in, am_ar, am_fit, am_ld, am_ct, Nat.reduceLT, Nat.reduceEqDiff, reduceIte, Nat.reduceAdd, Nat.reduceLeDiff, Nat.reduceSub, Bool.false_eq_true, if_true, if_false, ite_true, ite_false, List.length_cons, List.length_nil, Nat.zero_add, Nat.add_zero, and_true, true_and, true_or, or_true, and_self, Nat.le_refl, Nat.lt_irrefl, gI_sI, gL_sL, gQ_sQ, gI_sJ, gI_sL, gI_sQ, gL_sI, gL_sQ, gL_sJ, gQ_sI, gQ_sL, gQ_sJ, gN_sI, gN_sL, gN_sQ, gN_sJ, E_b2_0, E_cV_a, E_cV_b, E_c_0, E_getI_0, E_getR_0, E_iald_0, E_iast_0, E_inc_a, E_inc_b, E_jg_0, E_jl_0, E_jmp_0, E_jz_0, E_kk, E_l2_0, E_l2i_0, E_lald_0, E_ldI_a, E_ldI_b, E_ldR_a, E_ldR_b, E_lsh_0, E_putI_0, E_rI_0, E_stI_0, aL_40, aL_61, aL_85, am_cc, am_nl, am_ok, am_pop, am_rt, am_set, cC_12, cC_40, cC_61, cC_85, rR_1307, rR_1312, rR_1364, kX12_put, kX12_put_0, kX12_put_1, hl, h0]
    exact hQ σ frm.rf hb
  | succ r ih =>
    intro i o σ hi hl hv hb hQ
    rw [hX12_put 40]
    have h0 := nI_t (show i < n by omega) (by omega)
    have h3 : vp_in (nI i) 8 := vp_in_nI (by omega) (by omega)
    have h4 : (nI i).toNatClampNeg = i := nI_clamp (by omega)
    have h5 : nI n - 1 - nI i = nI (n - 1 - i) := by
      rw [one', pk_sub (by omega), pk_sub (by omega)]
    have be := byte_eq v (k := n - 1 - i) (by omega)
    have key : am_T (kX12_put S1) MM Q 27 [some (.inr (.inr (some (12, 0)))), some (.inl (nI x)), some (.inl (nI (i + 1))), some (.inl (bycM v (n - 1 - i)).toInt32)] [] (sI σ 61 i (byR v n i)) 0 0 := by
      have f0 : frm PRM σ (sI σ 61 i (byR v n i)) := frm.rf.si rfl
      refine ih (i + 1) _ _ (by omega) (by rw [f0.gi rfl]; exact hl) (by rw [f0.gl]; exact hv) ?_ (fun σ' f1 b1 => hQ σ' (f0.tr f1) b1)
      intro j hj
      simp only [gI_sI, gL_sL, gQ_sQ, gI_sJ, gI_sL, gI_sQ, gL_sI, gL_sQ, gL_sJ, gQ_sI, gQ_sL, gQ_sJ, gN_sI, gN_sL, gN_sQ, gN_sJ, Nat.reduceLT, Nat.reduceEqDiff, reduceIte, Nat.reduceAdd, Nat.reduceLeDiff, Nat.reduceSub, Bool.false_eq_true, if_true, if_false, ite_true, ite_false, List.length_cons, List.length_nil, Nat.zero_add, Nat.add_zero, and_true, true_and, true_or, or_true, and_self, Nat.le_refl, Nat.lt_irrefl]
      by_cases e : j = i
      · subst e; rw [if_pos rfl]
      · rw [if_neg e]; exact hb j (by omega)
    unfold byR at key
    by_cases q : 127 < (bycM v (n - 1 - i)).toInt32
    · rw [if_pos q] at be
      rw [be] at key
      have q' : 127 < ((v >>> ((8 * nI (n - 1 - i)).toInt64 &&& 63)) &&& 255).toInt32 := q
      simp only [am_run_s, bt, lf, am_in, am_ar, am_fit, am_ld, am_ct, Nat.reduceLT, Nat.reduceEqDiff, reduceIte, Nat.reduceAdd, Nat.reduceLeDiff, Nat.reduceSub, Bool.false_eq_true, if_true, if_false, ite_true, ite_false, List.length_cons, List.length_nil, Nat.zero_add, Nat.add_zero, and_true, true_and, true_or, or_true, and_self, Nat.le_refl, Nat.lt_irrefl, gI_sI, gL_sL, gQ_sQ, gI_sJ, gI_sL, gI_sQ, gL_sI, gL_sQ, gL_sJ, gQ_sI, gQ_sL, gQ_sJ, gN_sI, gN_sL, gN_sQ, gN_sJ, E_b2_0, E_cV_a, E_cV_b, E_c_0, E_getI_0, E_getR_0, E_iald_0, E_iast_0, E_inc_a, E_inc_b, E_jg_0, E_jl_0, E_jmp_0, E_jz_0, E_kk, E_l2_0, E_l2i_0, E_lald_0, E_ldI_a, E_ldI_b, E_ldR_a, E_ldR_b, E_lsh_0, E_putI_0, E_rI_0, E_stI_0, aL_40, aL_61, aL_85, am_cc, am_nl, am_ok, am_pop, am_rt, am_set, cC_12, cC_40, cC_61, cC_85, rR_1307, rR_1312, rR_1364, kX12_put, kX12_put_0, kX12_put_1, hl, h0, h3, h4, h5, x3, x4, hv, q', nI_1]
      exact key
    · rw [if_neg q] at be
      rw [be] at key
      have q' : ¬ 127 < ((v >>> ((8 * nI (n - 1 - i)).toInt64 &&& 63)) &&& 255).toInt32 := q
      simp only [am_run_s, bt, lf, am_in, am_ar, am_fit, am_ld, am_ct, Nat.reduceLT, Nat.reduceEqDiff, reduceIte, Nat.reduceAdd, Nat.reduceLeDiff, Nat.reduceSub, Bool.false_eq_true, if_true, if_false, ite_true, ite_false, List.length_cons, List.length_nil, Nat.zero_add, Nat.add_zero, and_true, true_and, true_or, or_true, and_self, Nat.le_refl, Nat.lt_irrefl, gI_sI, gL_sL, gQ_sQ, gI_sJ, gI_sL, gI_sQ, gL_sI, gL_sQ, gL_sJ, gQ_sI, gQ_sL, gQ_sJ, gN_sI, gN_sL, gN_sQ, gN_sJ, E_b2_0, E_cV_a, E_cV_b, E_c_0, E_getI_0, E_getR_0, E_iald_0, E_iast_0, E_inc_a, E_inc_b, E_jg_0, E_jl_0, E_jmp_0, E_jz_0, E_kk, E_l2_0, E_l2i_0, E_lald_0, E_ldI_a, E_ldI_b, E_ldR_a, E_ldR_b, E_lsh_0, E_putI_0, E_rI_0, E_stI_0, aL_40, aL_61, aL_85, am_cc, am_nl, am_ok, am_pop, am_rt, am_set, cC_12, cC_40, cC_61, cC_85, rR_1307, rR_1312, rR_1364, kX12_put, kX12_put_0, kX12_put_1, hl, h0, h3, h4, h5, x3, x4, hv, q', nI_1]
      exact key
theorem api_put (x : Int32) : apiI 122 208 [.inl x] := by
  intro k σ hk h
  obtain ⟨hw1, hw2, hw⟩ := h.wc
  rw [eX11_put 40]
  rcases ix x (n := gN σ 10) (by omega) with ⟨j, hj, rfl⟩ | hx
  · have h1 := nI_f (j := j) (by omega)
    have h2 := nI_t hj (by omega)
    have h3 : vp_in (nI j) 24 := vp_in_nI (by omega) (by omega)
    have h4 : (nI j).toNatClampNeg = j := nI_clamp (by omega)
    have hq := (h.2.1.1 j hj)
    obtain ⟨-, ⟨n, hn, hn8⟩, -⟩ := h.2.1.2.2.2.2.2.2 j hj
    have hn' : gI σ 1104 j = nI n := by rw [hq.2.2.2.1]; exact hn
    have hv : gL σ 1109 j = gL σ 85 j := h.2.1.2.2.2.2.2.1.1 j hj
    simp only [am_run_s, bt, lf, am_in, am_ar, am_fit, am_ld, am_ct, Nat.reduceLT, Nat.reduceEqDiff, reduceIte, Nat.reduceAdd, Nat.reduceLeDiff, Nat.reduceSub, Bool.false_eq_true, if_true, if_false, ite_true, ite_false, List.length_cons, List.length_nil, Nat.zero_add, Nat.add_zero, and_true, true_and, true_or, or_true, and_self, Nat.le_refl, Nat.lt_irrefl, gI_sI, gL_sL, gQ_sQ, gI_sJ, gI_sL, gI_sQ, gL_sI, gL_sQ, gL_sJ, gQ_sI, gQ_sL, gQ_sJ, gN_sI, gN_sL, gN_sQ, gN_sJ, E_aald_0, E_cV_a, E_cV_b, E_c_0, E_getI_0, E_getL_0, E_getR_0, E_jz_0, E_kk, E_ldI_a, E_ldI_b, E_ldR_a, E_ldR_b, E_rI_0, E_stR_0, aL_91, am_cc, am_nl, am_ok, am_pop, am_rt, am_set, cC_10, cC_11, cC_6, cC_7, cC_91, rQ_91, rR_1200, rR_1206, rR_701, sN_91, kX11_put, ↓s_hasWord, bI_z, hw1, h1, h2, h3, h4, hq.1, hj, hn', hv, not_true_eq_false, not_false_eq_true]
    rw [eX7_take 40]
    have h8 : (if (8 : Int32) < nI n then (8 : Int32) else nI n) = nI n := by
      rw [if_neg]
      rw [show (8 : Int32) = nI 8 by decide]
      exact nI_nlt (by omega) (by omega)
    simp only [am_run_s, bt, lf, am_in, am_ar, am_fit, am_ld, am_ct, Nat.reduceLT, Nat.reduceEqDiff, reduceIte, Nat.reduceAdd, Nat.reduceLeDiff, Nat.reduceSub, Bool.false_eq_true, if_true, if_false, ite_true, ite_false, List.length_cons, List.length_nil, Nat.zero_add, Nat.add_zero, and_true, true_and, true_or, or_true, and_self, Nat.le_refl, Nat.lt_irrefl, gI_sI, gL_sL, gQ_sQ, gI_sJ, gI_sL, gI_sQ, gL_sI, gL_sQ, gL_sJ, gQ_sI, gQ_sL, gQ_sJ, gN_sI, gN_sL, gN_sQ, gN_sJ, E_b2_0, E_bast_0, E_c_0, E_getI_0, E_getR_0, E_inc_a, E_inc_b, E_jl_0, E_jmp_0, E_l2i_0, E_ldI_a, E_ldI_b, E_ldL_a, E_ldL_b, E_ldR_a, E_ldR_b, E_lsh_0, E_min_0, E_putI_0, E_putZ_0, E_rV_0, E_stI_0, E_u1_0, aL_80, am_nl, am_ok, am_set, cC_7, cC_80, rR_800, kX7_take, am_b1, h8]
    refine l_take (v := gL σ 85 j) hn8 n 0 _ (by omega) ?_ (fun _ z => absurd z (by omega)) ?_ (fun σ1 f1 b1 r1 => ?_)
    · simp only [gI_sI, gL_sL, gQ_sQ, gI_sJ, gI_sL, gI_sQ, gL_sI, gL_sQ, gL_sJ, gQ_sI, gQ_sL, gQ_sJ, gN_sI, gN_sL, gN_sQ, gN_sJ, Nat.reduceLT, Nat.reduceEqDiff, reduceIte, Nat.reduceAdd, Nat.reduceLeDiff, Nat.reduceSub, Bool.false_eq_true, if_true, if_false, ite_true, ite_false, List.length_cons, List.length_nil, Nat.zero_add, Nat.add_zero, and_true, true_and, true_or, or_true, and_self, Nat.le_refl, Nat.lt_irrefl]
    · exact h.2.2.2.2.2.2.2.1.2
    have f0 : frm (fun f => PRB f || Nat.beq f 802 || Nat.beq f 801) σ σ1 := by
      refine frm.tr (b := sI (sI σ 802 0 1) 801 0 (nI n)) ((frm.rf.si rfl).si rfl) ⟨f1.1, f1.2.1, fun f i q => f1.2.2 f i ?_⟩
      simp only [Bool.or_eq_false_iff] at q
      exact q.1.1
    have c1 : gI σ1 802 0 = 1 := by rw [f1.gi rfl]; rfl
    have c2 : gI σ1 801 0 = nI n := by rw [f1.gi rfl]; rfl
    have c3 : gN σ1 10 = gN σ 10 := f0.gn 10
    have c4 : gI σ1 1104 j = nI n := by rw [f0.gi rfl]; exact hn'
    have c5 : gI σ1 1314 0 = nI (gN σ 10) := by rw [f0.gi rfl]; exact hw2
    have c6 : gI σ1 40 j = nI n := by rw [f0.gi rfl]; exact hn
    simp only [am_run_s, bt, lf, am_in, am_ar, am_fit, am_ld, am_ct, Nat.reduceLT, Nat.reduceEqDiff, reduceIte, Nat.reduceAdd, Nat.reduceLeDiff, Nat.reduceSub, Bool.false_eq_true, if_true, if_false, ite_true, ite_false, List.length_cons, List.length_nil, Nat.zero_add, Nat.add_zero, and_true, true_and, true_or, or_true, and_self, Nat.le_refl, Nat.lt_irrefl, gI_sI, gL_sL, gQ_sQ, gI_sJ, gI_sL, gI_sQ, gL_sI, gL_sQ, gL_sJ, gQ_sI, gQ_sL, gQ_sJ, gN_sI, gN_sL, gN_sQ, gN_sJ, E_aald_0, E_cV_a, E_cV_b, E_c_0, E_getI_0, E_getL_0, E_getR_0, E_jz_0, E_kk, E_ldI_a, E_ldI_b, E_ldR_a, E_ldR_b, E_rI_0, E_stR_0, aL_91, am_cc, am_nl, am_ok, am_pop, am_rt, am_set, cC_10, cC_11, cC_6, cC_7, cC_91, rQ_91, rR_1200, rR_1206, rR_701, sN_91, kX11_put, c3, hj, c4]
    rw [eX12_put 40]
    simp only [am_run_s, bt, lf, am_in, am_ar, am_fit, am_ld, am_ct, Nat.reduceLT, Nat.reduceEqDiff, reduceIte, Nat.reduceAdd, Nat.reduceLeDiff, Nat.reduceSub, Bool.false_eq_true, if_true, if_false, ite_true, ite_false, List.length_cons, List.length_nil, Nat.zero_add, Nat.add_zero, and_true, true_and, true_or, or_true, and_self, Nat.le_refl, Nat.lt_irrefl, gI_sI, gL_sL, gQ_sQ, gI_sJ, gI_sL, gI_sQ, gL_sI, gL_sQ, gL_sJ, gQ_sI, gQ_sL, gQ_sJ, gN_sI, gN_sL, gN_sQ, gN_sJ, E_b2_0, E_cV_a, E_cV_b, E_c_0, E_getI_0, E_getR_0, E_iald_0, E_iast_0, E_inc_a, E_inc_b, E_jg_0, E_jl_0, E_jmp_0, E_jz_0, E_kk, E_l2_0, E_l2i_0, E_lald_0, E_ldI_a, E_ldI_b, E_ldR_a, E_ldR_b, E_lsh_0, E_putI_0, E_rI_0, E_stI_0, aL_40, aL_61, aL_85, am_cc, am_nl, am_ok, am_pop, am_rt, am_set, cC_12, cC_40, cC_61, cC_85, rR_1307, rR_1312, rR_1364, kX12_put, kX12_put_0, kX12_put_1, ↓s_isWord, bI_z, c5, h1, h2, h3, h4, c6, not_true_eq_false, not_false_eq_true]
    have f2 : frm (fun f => Nat.beq f 1366) σ1 (sI σ1 1366 0 (nI n)) := frm.rf.si rfl
    refine l_putM (v := gL σ 85 j) hn8 (by omega) n 0 _ _ (by omega) ?_ ?_ (fun _ z => absurd z (by omega)) (fun σ3 f3 b3 => ?_)
    · simp only [gI_sI, gL_sL, gQ_sQ, gI_sJ, gI_sL, gI_sQ, gL_sI, gL_sQ, gL_sJ, gQ_sI, gQ_sL, gQ_sJ, gN_sI, gN_sL, gN_sQ, gN_sJ, Nat.reduceLT, Nat.reduceEqDiff, reduceIte, Nat.reduceAdd, Nat.reduceLeDiff, Nat.reduceSub, Bool.false_eq_true, if_true, if_false, ite_true, ite_false, List.length_cons, List.length_nil, Nat.zero_add, Nat.add_zero, and_true, true_and, true_or, or_true, and_self, Nat.le_refl, Nat.lt_irrefl]
    · rw [f2.gl, f0.gl]
    have d1 : gI σ3 802 0 = 1 := by rw [f3.gi rfl, f2.gi rfl]; exact c1
    have d2 : gI σ3 801 0 = nI n := by rw [f3.gi rfl, f2.gi rfl]; exact c2
    have d3 : gI σ3 1366 0 = nI n := by rw [f3.gi rfl]; rfl
    have d4 : ∀ i, gI σ3 80 i = gI σ1 80 i := fun i => by rw [f3.gi rfl, f2.gi rfl]
    have hv : v_row σ3 σ3 := ⟨Or.inr ⟨n, hn8, d1, d2, d3, fun i hi => by rw [d4, b1 i hi, b3 i hi]⟩, fun i => by rw [d4]; exact r1 i⟩
    refine ⟨⟨_, rfl, rfl⟩, ?_⟩
    obtain ⟨J, rfl⟩ := f0.el
    obtain ⟨J3, rfl⟩ := f3.el
    exact ⟨h.1, h.2.1, h.2.2.1.up, h.2.2.2.1, h.2.2.2.2.1, h.2.2.2.2.2.1, h.2.2.2.2.2.2.1, hv, h.2.2.2.2.2.2.2.2⟩
  · simp only [am_run_s, bt, lf, am_in, am_ar, am_fit, am_ld, am_ct, Nat.reduceLT, Nat.reduceEqDiff, reduceIte, Nat.reduceAdd, Nat.reduceLeDiff, Nat.reduceSub, Bool.false_eq_true, if_true, if_false, ite_true, ite_false, List.length_cons, List.length_nil, Nat.zero_add, Nat.add_zero, and_true, true_and, true_or, or_true, and_self, Nat.le_refl, Nat.lt_irrefl, gI_sI, gL_sL, gQ_sQ, gI_sJ, gI_sL, gI_sQ, gL_sI, gL_sQ, gL_sJ, gQ_sI, gQ_sL, gQ_sJ, gN_sI, gN_sL, gN_sQ, gN_sJ, E_aald_0, E_cV_a, E_cV_b, E_c_0, E_getI_0, E_getL_0, E_getR_0, E_jz_0, E_kk, E_ldI_a, E_ldI_b, E_ldR_a, E_ldR_b, E_rI_0, E_stR_0, aL_91, am_cc, am_nl, am_ok, am_pop, am_rt, am_set, cC_10, cC_11, cC_6, cC_7, cC_91, rQ_91, rR_1200, rR_1206, rR_701, sN_91, kX11_put, ↓s_hasWord, bI_z, hw1, hx, not_false_eq_true, ↓s_refuse3]
    rw [eX12_put 40]
    simp only [am_run_s, bt, lf, am_in, am_ar, am_fit, am_ld, am_ct, Nat.reduceLT, Nat.reduceEqDiff, reduceIte, Nat.reduceAdd, Nat.reduceLeDiff, Nat.reduceSub, Bool.false_eq_true, if_true, if_false, ite_true, ite_false, List.length_cons, List.length_nil, Nat.zero_add, Nat.add_zero, and_true, true_and, true_or, or_true, and_self, Nat.le_refl, Nat.lt_irrefl, gI_sI, gL_sL, gQ_sQ, gI_sJ, gI_sL, gI_sQ, gL_sI, gL_sQ, gL_sJ, gQ_sI, gQ_sL, gQ_sJ, gN_sI, gN_sL, gN_sQ, gN_sJ, E_b2_0, E_cV_a, E_cV_b, E_c_0, E_getI_0, E_getR_0, E_iald_0, E_iast_0, E_inc_a, E_inc_b, E_jg_0, E_jl_0, E_jmp_0, E_jz_0, E_kk, E_l2_0, E_l2i_0, E_lald_0, E_ldI_a, E_ldI_b, E_ldR_a, E_ldR_b, E_lsh_0, E_putI_0, E_rI_0, E_stI_0, aL_40, aL_61, aL_85, am_cc, am_nl, am_ok, am_pop, am_rt, am_set, cC_12, cC_40, cC_61, cC_85, rR_1307, rR_1312, rR_1364, kX12_put, kX12_put_0, kX12_put_1, ↓s_isWord, bI_z, hw2, gN_sI, gI_sI, Nat.reduceEqDiff, reduceIte, hx, not_false_eq_true, ↓s_no3]
    exact ⟨⟨_, rfl, rfl⟩, h.refuse⟩
