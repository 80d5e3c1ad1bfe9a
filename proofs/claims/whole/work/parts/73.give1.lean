/-! ===== give: keys, counting, sorting, as functions ===== -/
theorem or_sum {a k : Nat} (b : Nat) (h : a < 2 ^ k) : nI (2 ^ k * b) ||| nI a = nI (2 ^ k * b + a) := by
  rw [Nat.two_pow_add_eq_or_of_lt h]
  apply Int32.toBitVec_inj.1
  show (nI (2 ^ k * b)).toBitVec ||| (nI a).toBitVec = (nI (2 ^ k * b ||| a)).toBitVec
  show BitVec.ofNat 32 (2 ^ k * b) ||| BitVec.ofNat 32 a = BitVec.ofNat 32 (2 ^ k * b ||| a)
  exact (BitVec.ofNat_or ..).symm
def kN (r : Nat) : Nat := if r < 2048 then r * 524288 else (r - 2048) / 262144 * 524288 + 262144 + (r - 2048) % 262144
theorem kI_val {r : Nat} (h : r < 536872960) : kI (nI r) = nI (kN r) := by
  unfold kI kN
  have e : (2048 : Int32) = nI 2048 := by decide
  by_cases q : r < 2048
  · rw [if_pos q, if_pos (by rw [e]; exact nI_lt q (by omega))]
    exact pk_shlN _ 19 (by decide) (by omega)
  · rw [if_neg q, if_neg (by rw [e]; exact nI_nlt (by omega) (by omega)), e, pk_sub (by omega)]
    have hd : r - 2048 < 536870912 := by omega
    generalize r - 2048 = m at hd
    rw [pk_shrN (by omega) _ 18 (by decide), pk_shlN (n := m / 2 ^ 18) _ 19 (by decide) (by omega), pk_andN (by omega) (m := 262143) 18 (by decide)]
    have e1 : nI (m / 2 ^ 18 * 2 ^ 19) ||| 262144 = nI (2 ^ 19 * (m / 2 ^ 18) + 262144) := by
      rw [show (262144 : Int32) = nI 262144 by decide, Nat.mul_comm, or_sum _ (by decide)]
    rw [e1]
    have e2 : 2 ^ 19 * (m / 2 ^ 18) + 262144 = 2 ^ 18 * (2 * (m / 2 ^ 18) + 1) := by omega
    rw [e2, or_sum _ (Nat.mod_lt _ (by decide))]
    congr 1
    omega
theorem kN_inj {r s : Nat} (h : kN r = kN s) : r = s := by
  unfold kN at h
  split at h <;> split at h <;> omega
theorem kN_bd {r : Nat} (h : r < 536872960) : kN r < 1073741824 := by
  unfold kN
  split <;> omega
/-- counting -/
theorem cntP_lt {P : Nat → Prop} {dP : ∀ i, Decidable (P i)} {a : Nat} : ∀ {n : Nat}, (∀ i, i < n → (P i ↔ i < a)) → a ≤ n → cntP P dP n = a
  | 0, _, h => by
    have : a = 0 := by omega
    rw [this]; rfl
  | n + 1, h, ha => by
    rw [cntP_s]
    by_cases q : a ≤ n
    · rw [cntP_lt (fun i hi => h i (by omega)) q, if_neg (fun z => absurd ((h n (by omega)).mp z) (by omega))]
      rfl
    · have e : a = n + 1 := by omega
      have := cntP_lt (P := P) (dP := dP) (a := n) (n := n) (fun i hi => ⟨fun _ => hi, fun _ => (h i (by omega)).mpr (by omega)⟩) (Nat.le_refl _)
      rw [this, if_pos ((h n (by omega)).mpr (by omega)), e]
/-- one put in at place p -/
theorem cntP_ins {P : Int32 → Prop} {dP : ∀ x, Decidable (P x)} {T T' : Nat → Int32} {t : Int32} {p : Nat} : ∀ {m : Nat}, p ≤ m → (∀ j, j ≤ m → T' j = if j < p then T j else if j = p then t else T (j - 1)) → cntP (fun j => P (T' j)) (fun j => dP (T' j)) (m + 1) = cntP (fun j => P (T j)) (fun j => dP (T j)) m + @ite _ (P t) (dP t) 1 0
  | 0, hp, h => by
    have e : p = 0 := by omega
    subst e
    have h0 := h 0 (by omega)
    rw [if_neg (by omega), if_pos rfl] at h0
    rw [cntP_s]
    show 0 + @ite _ (P (T' 0)) _ 1 0 = 0 + @ite _ (P t) _ 1 0
    rw [h0]
  | m + 1, hp, h => by
    rw [cntP_s (n := m + 1)]
    by_cases q : p = m + 1
    · subst q
      have h0 := h (m + 1) (by omega)
      rw [if_neg (by omega), if_pos rfl] at h0
      have e : cntP (fun j => P (T' j)) (fun j => dP (T' j)) (m + 1) = cntP (fun j => P (T j)) (fun j => dP (T j)) (m + 1) := by
        apply cntP_congr
        intro i hi
        have := h i (by omega)
        rw [if_pos hi] at this
        show P (T' i) ↔ P (T i)
        rw [this]
      rw [e]
      show _ + @ite _ (P (T' (m + 1))) _ 1 0 = _ + @ite _ (P t) _ 1 0
      rw [h0]
    · have ih := cntP_ins (m := m) (P := P) (dP := dP) (T := T) (T' := T') (t := t) (p := p) (by omega) (fun j hj => h j (by omega))
      have h0 := h (m + 1) (by omega)
      rw [if_neg (by omega), if_neg (by omega)] at h0
      rw [ih, cntP_s (n := m)]
      have e : T' (m + 1) = T m := h0
      show _ + @ite _ (P (T' (m + 1))) _ 1 0 = _
      rw [e]
      omega
theorem noinj : ∀ (m : Nat) (f : Nat → Nat), (∀ i, i < m + 1 → f i < m) → ∃ i j, i < m + 1 ∧ j < m + 1 ∧ i ≠ j ∧ f i = f j
  | 0, f, h => absurd (h 0 (by omega)) (by omega)
  | m + 1, f, h => by
    by_cases q : ∃ i, i < m + 1 ∧ f i = f (m + 1)
    · obtain ⟨i, i1, i2⟩ := q
      exact ⟨i, m + 1, by omega, by omega, by omega, i2⟩
    · have hne : ∀ i, i < m + 1 → f i ≠ f (m + 1) := fun i hi e => q ⟨i, hi, e⟩
      obtain ⟨i, j, hi, hj, hij, e⟩ := noinj m (fun i => if f (m + 1) < f i then f i - 1 else f i) (fun i hi => by
        have h1 := h i (by omega)
        have h2 := h (m + 1) (by omega)
        have h3 := hne i hi
        show (if f (m + 1) < f i then f i - 1 else f i) < m
        split <;> omega)
      have h3 := hne i hi
      have h4 := hne j hj
      refine ⟨i, j, by omega, by omega, hij, ?_⟩
      have e : (if f (m + 1) < f i then f i - 1 else f i) = (if f (m + 1) < f j then f j - 1 else f j) := e
      split at e <;> split at e <;> omega
theorem onto {n : Nat} {f : Nat → Nat} (h : ∀ i, i < n → f i < n) (hi : ∀ i j, i < n → j < n → i ≠ j → f i ≠ f j) {w : Nat} (hw : w < n) : ∃ i, i < n ∧ f i = w := by
  by_cases q : ∃ i, i < n ∧ f i = w
  · exact q
  · exfalso
    have hne : ∀ i, i < n → f i ≠ w := fun i hi e => q ⟨i, hi, e⟩
    obtain ⟨m, rfl⟩ : ∃ m, n = m + 1 := ⟨n - 1, by omega⟩
    obtain ⟨i, j, a1, a2, a3, e⟩ := noinj m (fun i => if w < f i then f i - 1 else f i) (fun i hi => by
      have h1 := h i hi
      have h3 := hne i hi
      show (if w < f i then f i - 1 else f i) < m
      split <;> omega)
    have h3 := hne i a1
    have h4 := hne j a2
    have h5 := hi i j a1 a2 a3
    have e : (if w < f i then f i - 1 else f i) = (if w < f j then f j - 1 else f j) := e
    split at e <;> split at e <;> omega
