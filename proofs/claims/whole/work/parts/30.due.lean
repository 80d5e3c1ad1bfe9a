/-! ===== when a word is due: the class's number; ranks that are told ===== -/
theorem seven : (7 : Int32) = nI 7 := by decide
theorem one' : (1 : Int32) = nI 1 := by decide
theorem dueX_val {x m : HS} (hw : v_wrd x m) (hl : v_lat x m) (hn : v_nxt x m) {i : Nat} (hi : i < gN x 10) (hq : gI m 39 i = 0 ∨ gI m 39 i = 1) :
    ∃ f n t l : Nat, gI m 42 i = nI f ∧ gI m 46 i = nI n ∧ gI m 41 i = nI t ∧ gI m 43 i = nI l ∧ f ≤ 100000 ∧ 100 ≤ t ∧ t ≤ 100000 ∧ l ≤ 1000 ∧ n ≤ 26600 ∧ f + n * t ≤ 2660000 ∧ dueX x i = nI (f + n * t + 7 * n % (l + 1)) := by
  obtain ⟨-, -, w1, -, w2, w3⟩ := hw i hi
  obtain ⟨l1, l, l2, l3, -⟩ := hl.1 i hi
  obtain ⟨n1, n, f, t, kk, n2, n3, n4, n5, b1, b2, b3, b4, n6⟩ := hn.1 i hi hq
  have hnt : n * 100 ≤ n * t := Nat.mul_le_mul_left n b2
  have hb : f + n * t ≤ 2660000 := by
    rcases n6 with rfl | n6
    · omega
    · omega
  refine ⟨f, n, t, l, n3, n2, n4, l2, b1, b2, b3, l3, by omega, hb, ?_⟩
  unfold dueX
  rw [w1, if_pos hq, w3, w2, n1, l1, n3, n2, n4, l2, seven, one']
  rw [pk_mul, pk_mul, nI_add, nI_add]
  rw [pk_rem (a := 7 * n) (d := l + 1) (by omega) (by omega) (by omega), nI_add]
theorem v_soo.zero {x m : HS} (hw : v_wrd x m) (hl : v_lat x m) (hn : v_nxt x m) (hr : v_rng x m) (h0 : gI x 1015 0 = 0) : v_soo x := by
  intro i hi
  rw [h0]
  by_cases hq : gI m 39 i = 0 ∨ gI m 39 i = 1
  · obtain ⟨f, n, t, l, -, -, -, -, -, -, -, c1, c2, c3, c4⟩ := dueX_val hw hl hn hi hq
    rw [c4]
    have : 7 * n % (l + 1) < l + 1 := Nat.mod_lt _ (by omega)
    exact nI_pos (by omega)
  · unfold dueX
    rw [(hw i hi).2.2.1, if_neg hq]
    split <;> decide
theorem rank_in (r : Int32) : (¬ r < 0 ∧ r < 536872960) ↔ (¬ r < 0 ∧ ¬ 536872959 < r) := by
  have ea : (536872960 : Int32).toInt = 536872960 := by decide
  have eb : (536872959 : Int32).toInt = 536872959 := by decide
  rw [Int32.lt_iff_toInt_lt (x := r) (y := 536872960), Int32.lt_iff_toInt_lt (x := 536872959), ea, eb]
  constructor
  · rintro ⟨h1, h2⟩; exact ⟨h1, by omega⟩
  · rintro ⟨h1, h2⟩; exact ⟨h1, by omega⟩
theorem rank_nI {r : Int32} (h : ¬ r < 0 ∧ r < 536872960) : ∃ n : Nat, r = nI n ∧ n < 536872960 := by
  obtain ⟨h1, h2⟩ := h
  have ea : (536872960 : Int32).toInt = 536872960 := by decide
  have e0 : (0 : Int32).toInt = 0 := by decide
  rw [Int32.lt_iff_toInt_lt, e0] at h1
  rw [Int32.lt_iff_toInt_lt, ea] at h2
  refine ⟨r.toInt.toNat, ?_, by omega⟩
  apply Int32.toInt_inj.mp
  rw [nI_toInt (by omega)]; omega
theorem lit_nI {x a b : Int32} {lo hi : Nat} (ha : a.toInt = lo) (hb : b.toInt = hi) (hh : hi < 2147483648) (h : ¬ x < a ∧ ¬ b < x) : ∃ n : Nat, x = nI n ∧ lo ≤ n ∧ n ≤ hi := by
  obtain ⟨h1, h2⟩ := h
  rw [Int32.lt_iff_toInt_lt, ha] at h1
  rw [Int32.lt_iff_toInt_lt, hb] at h2
  refine ⟨x.toInt.toNat, ?_, by omega, by omega⟩
  apply Int32.toInt_inj.mp
  rw [nI_toInt (by omega)]; omega
