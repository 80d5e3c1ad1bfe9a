/-! ===== reading: what is read, as a function ===== -/
/-- place, fault, how many alike, the latest, how many taken out -/
abbrev RS : Type := Nat × Int32 × Nat × Int32 × Nat
def skp (L : List Int32) (s : RS) : RS := if s.2.2.1 < 5 then s else if s.1 = L.length then (s.1, 6, s.2.2) else if L.getD s.1 0 = s.2.2.2.1 then (s.1, 2, s.2.2) else (s.1 + 1, s.2.1, 1, L.getD s.1 0, s.2.2.2.2 + 1)
def tk0 (L : List Int32) (s : RS) : RS × Option Int32 := if s.1 = L.length then ((s.1, 6, s.2.2), none) else ((s.1 + 1, s.2.1, (if L.getD s.1 0 = s.2.2.2.1 then s.2.2.1 + 1 else 1), L.getD s.1 0, s.2.2.2.2), some (L.getD s.1 0))
def tk1 (L : List Int32) (s : RS) : RS × Option Int32 := if (skp L s).2.1 = 0 then tk0 L (skp L s) else (skp L s, none)
def tkN (L : List Int32) : Nat → RS → Int32 → Int32 → RS × Option (Int32 × Int32)
  | 0, s, v, sm => (s, some (v, sm))
  | w + 1, s, v, sm => match (tk1 L s).2 with
    | none => ((tk1 L s).1, none)
    | some b => tkN L w (tk1 L s).1 (2 * v + b) (crcX sm b)
theorem tkN_0 (L : List Int32) (s : RS) (v sm : Int32) : tkN L 0 s v sm = (s, some (v, sm)) := rfl
theorem tkN_n {L : List Int32} {s : RS} (h : (tk1 L s).2 = none) (w : Nat) (v sm : Int32) : tkN L (w + 1) s v sm = ((tk1 L s).1, none) := by
  show (match (tk1 L s).2 with | none => ((tk1 L s).1, none) | some b => tkN L w (tk1 L s).1 (2 * v + b) (crcX sm b)) = _
  rw [h]
theorem tkN_s {L : List Int32} {s : RS} {b : Int32} (h : (tk1 L s).2 = some b) (w : Nat) (v sm : Int32) : tkN L (w + 1) s v sm = tkN L w (tk1 L s).1 (2 * v + b) (crcX sm b) := by
  show (match (tk1 L s).2 with | none => ((tk1 L s).1, none) | some b => tkN L w (tk1 L s).1 (2 * v + b) (crcX sm b)) = _
  rw [h]
def RV (L : List Int32) (s : RS) : Prop := s.1 ≤ L.length ∧ s.2.1 = 0 ∧ s.2.2.1 ≤ 5 ∧ (s.2.2.1 = 0 ∨ am_b s.2.2.2.1)
theorem RV_skp {L : List Int32} {s : RS} (h : RV L s) (ha : ab L) (h0 : (skp L s).2.1 = 0) : RV L (skp L s) ∧ (skp L s).2.2.1 ≤ 4 := by
  obtain ⟨pl, fa, al, la, tk⟩ := s
  obtain ⟨h1, h2, h3, h4⟩ := h
  dsimp only at h1 h2 h3 h4
  subst h2
  unfold skp at h0 ⊢
  dsimp only at h0 ⊢
  by_cases q1 : al < 5
  · rw [if_pos q1]; exact ⟨⟨h1, rfl, h3, h4⟩, by show al ≤ 4; omega⟩
  rw [if_neg q1] at h0 ⊢
  by_cases q2 : pl = L.length
  · rw [if_pos q2] at h0; exact absurd h0 (by show ¬ (6 : Int32) = 0; decide)
  rw [if_neg q2] at h0 ⊢
  by_cases q3 : L.getD pl 0 = la
  · rw [if_pos q3] at h0; exact absurd h0 (by show ¬ (2 : Int32) = 0; decide)
  rw [if_neg q3]
  exact ⟨⟨by show pl + 1 ≤ L.length; omega, rfl, by show (1 : Nat) ≤ 5; omega, Or.inr (ha.get pl)⟩, by show (1 : Nat) ≤ 4; omega⟩
theorem RV_tk1 {L : List Int32} {s : RS} (h : RV L s) (ha : ab L) {b : Int32} (hb : (tk1 L s).2 = some b) : RV L (tk1 L s).1 ∧ am_b b := by
  unfold tk1 at hb ⊢
  by_cases h0 : (skp L s).2.1 = 0
  · rw [if_pos h0] at hb ⊢
    obtain ⟨h1, h2⟩ := RV_skp h ha h0
    revert hb h1 h2
    generalize skp L s = s1
    intro hb h1 h2
    obtain ⟨pl, fa, al, la, tk⟩ := s1
    obtain ⟨g1, g2, g3, g4⟩ := h1
    dsimp only at g1 g2 g3 g4 h2
    subst g2
    unfold tk0 at hb ⊢
    dsimp only at hb ⊢
    by_cases q2 : pl = L.length
    · rw [if_pos q2] at hb; cases hb
    rw [if_neg q2] at hb ⊢
    have e : L.getD pl 0 = b := Option.some.inj hb
    refine ⟨⟨by show pl + 1 ≤ L.length; omega, rfl, ?_, Or.inr (ha.get pl)⟩, by rw [← e]; exact ha.get pl⟩
    show (if L.getD pl 0 = la then al + 1 else 1) ≤ 5
    split <;> omega
  · rw [if_neg h0] at hb; cases hb
theorem tk1_f {L : List Int32} {s : RS} (hb : (tk1 L s).2 = none) : ¬ (tk1 L s).1.2.1 = 0 := by
  unfold tk1 at hb ⊢
  by_cases h0 : (skp L s).2.1 = 0
  · rw [if_pos h0] at hb ⊢
    unfold tk0 at hb ⊢
    by_cases q2 : (skp L s).1 = L.length
    · rw [if_pos q2]
      show ¬ (6 : Int32) = 0
      decide
    · rw [if_neg q2] at hb; cases hb
  · rw [if_neg h0]; exact h0
theorem tkN_f {L : List Int32} : ∀ {w : Nat} {s : RS} {v sm : Int32}, (tkN L w s v sm).2 = none → ¬ (tkN L w s v sm).1.2.1 = 0
  | 0, s, v, sm, h => by cases h
  | w + 1, s, v, sm, h => by
    cases e : (tk1 L s).2 with
    | none => rw [tkN_n e]; exact tk1_f e
    | some b => rw [tkN_s e] at h ⊢; exact tkN_f h
theorem RV_tkN {L : List Int32} (ha : ab L) : ∀ {w : Nat} {s : RS} {v sm : Int32} {p : Int32 × Int32}, RV L s → (tkN L w s v sm).2 = some p → RV L (tkN L w s v sm).1
  | 0, s, v, sm, p, hs, h => hs
  | w + 1, s, v, sm, p, hs, h => by
    cases e : (tk1 L s).2 with
    | none => rw [tkN_n e] at h; cases h
    | some b => rw [tkN_s e] at h ⊢; exact RV_tkN ha (RV_tk1 hs ha e).1 h
theorem two_nI (x : Nat) {b : Int32} (hb : am_b b) : ∃ c : Nat, c ≤ 1 ∧ 2 * nI x + b = nI (2 * x + c) := by
  have e2 : (2 : Int32) = nI 2 := by decide
  rcases hb with rfl | rfl
  · exact ⟨0, by omega, by rw [e2, pk_mul]; show nI (2 * x) + nI 0 = _; rw [nI_add]⟩
  · exact ⟨1, by omega, by rw [e2, pk_mul]; show nI (2 * x) + nI 1 = _; rw [nI_add]⟩
theorem tkN_v {L : List Int32} (ha : ab L) : ∀ {w : Nat} {s : RS} {x : Nat} {sm : Int32} {p : Int32 × Int32}, RV L s → (tkN L w s (nI x) sm).2 = some p → ∃ y : Nat, p.1 = nI y ∧ y < (x + 1) * 2 ^ w
  | 0, s, x, sm, p, hs, h => by
    have e := Option.some.inj h
    exact ⟨x, by rw [← e], by omega⟩
  | w + 1, s, x, sm, p, hs, h => by
    cases e : (tk1 L s).2 with
    | none => rw [tkN_n e] at h; cases h
    | some b =>
      rw [tkN_s e] at h
      obtain ⟨g1, g2⟩ := RV_tk1 hs ha e
      obtain ⟨c, c1, c2⟩ := two_nI x g2
      rw [c2] at h
      obtain ⟨y, y1, y2⟩ := tkN_v ha g1 h
      refine ⟨y, y1, Nat.lt_of_lt_of_le y2 ?_⟩
      rw [Nat.pow_succ, Nat.mul_comm (2 ^ w) 2, ← Nat.mul_assoc]
      exact Nat.mul_le_mul_right _ (by omega)
theorem shl_or (v : Int32) {b : Int32} (hb : am_b b) : (v <<< ((1 : Int32) &&& 31)) ||| b = 2 * v + b := by
  have e : (v <<< ((1 : Int32) &&& 31)).toBitVec = v.toBitVec <<< 1 := by
    rw [Int32.toBitVec_shiftLeft]; rfl
  have e2 : v.toBitVec <<< 1 = 2#32 * v.toBitVec := by
    rw [BitVec.shiftLeft_eq_mul_twoPow, BitVec.mul_comm]; rfl
  apply Int32.toBitVec_inj.1
  show (v <<< ((1 : Int32) &&& 31)).toBitVec ||| b.toBitVec = 2#32 * v.toBitVec + b.toBitVec
  rw [← e2, e]
  rw [BitVec.add_eq_or_of_and_eq_zero]
  apply BitVec.eq_of_getLsbD_eq
  intro i hi
  rw [BitVec.getLsbD_and, BitVec.getLsbD_shiftLeft]
  rcases hb with rfl | rfl
  · simp
  · cases i with
    | zero => simp
    | succ i =>
      have : (Int32.toBitVec 1).getLsbD (i + 1) = false := by
        show (1#32).getLsbD (i + 1) = false
        rw [BitVec.getLsbD_one]; simp
      rw [this]; simp
