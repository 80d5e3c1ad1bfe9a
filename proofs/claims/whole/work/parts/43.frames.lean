/-! ===== both frames are one ===== -/
theorem by_bits (v : Int64) {k : Nat} (hk : k < 8) : nbM (bycM v k) 8 = nbX (byc v k) 8 := by
  rw [nbM_bl _ _ (by decide), nbX_bl _ _ (by decide)]
  congr 1
  apply bl_eq
  intro i hi
  have e1 : (v >>> ((8 * nI k).toInt64 &&& 63)).toBitVec = v.toBitVec.sshiftRight (8 * k) := by
    have hs : ((8 * nI k).toInt64 &&& 63).toBitVec.smod 64 = BitVec.ofNat 64 (8 * k) := by
      have : ∀ j : Fin 8, ((8 * nI j.1).toInt64 &&& 63).toBitVec.smod 64 = BitVec.ofNat 64 (8 * j.1) := by decide
      exact this ⟨k, hk⟩
    rw [Int64.toBitVec_shiftRight, hs, BitVec.sshiftRight_eq', BitVec.toNat_ofNat, Nat.mod_eq_of_lt (by omega)]
  have e2 : (byc v k).toBitVec = (v.toBitVec >>> (8 * k)).signExtend 32 := by
    show ((v.toUInt64 >>> ((8 * nI k).toInt64.toUInt64 &&& Int64.toUInt64 63)).toBitVec).signExtend 32 = _
    have hs : ((8 * nI k).toInt64.toUInt64 &&& Int64.toUInt64 63).toBitVec.toNat = 8 * k := by
      have : ∀ j : Fin 8, ((8 * nI j.1).toInt64.toUInt64 &&& Int64.toUInt64 63).toBitVec.toNat = 8 * j.1 := by decide
      exact this ⟨k, hk⟩
    rw [UInt64.toBitVec_shiftRight]
    show (v.toBitVec >>> ((((8 * nI k).toInt64.toUInt64 &&& Int64.toUInt64 63).toBitVec) % 64#64)).signExtend 32 = _
    rw [BitVec.ushiftRight_eq', BitVec.toNat_umod, hs]
    rw [show (64#64 : BitVec 64).toNat = 64 from rfl, Nat.mod_eq_of_lt (by omega)]
  rw [e2]
  show ((v >>> ((8 * nI k).toInt64 &&& 63)).toBitVec &&& 255#64).getLsbD i = _
  rw [e1, BitVec.getLsbD_and, BitVec.getLsbD_sshiftRight, BitVec.getLsbD_signExtend, BitVec.getLsbD_ushiftRight]
  have h255 : (255#64).getLsbD i = true := by
    have h : ∀ j : Fin 8, (255#64).getLsbD j.1 = true := by decide
    exact h ⟨i, hi⟩
  have h1 : ¬ 64 ≤ i := by omega
  have h2 : 8 * k + i < 64 := by omega
  have h3 : i < 32 := by omega
  have h4 : i < 64 := by omega
  simp [h255, h1, h2, h3, h4]
theorem by_eq (v : Int64) : ∀ k, k ≤ 8 → byM v k = byX v k
  | 0, _ => rfl
  | k + 1, h => by rw [byM_s, byX_s, by_bits v (by omega), by_eq v k (by omega)]
theorem pl_eq (r n : Int32) (v : Int64) {k : Nat} (hk : k ≤ 8) : plM r n v k = plX r n v k := by
  unfold plM plX
  have z0 : nbM 0 1 = nbX 0 1 := by decide
  have z1 : nbM 1 1 = nbX 1 1 := by decide
  rw [z0, z1, nb_small _ (by decide), nb_high, nb_low, nb_small _ (by decide), by_eq v k hk]
theorem byX_bb (v : Int64) : ∀ k, ∃ l : List Bool, byX v k = l.map bb
  | 0 => ⟨[], rfl⟩
  | k + 1 => by
    obtain ⟨l, hl⟩ := byX_bb v k
    exact ⟨bl (byc v k).toBitVec.getLsbD 8 ++ l, by rw [byX_s, nbX_bl _ _ (by decide), hl, List.map_append]⟩
def is_b (l : List Int32) : Prop := ∃ q : List Bool, l = q.map bb
theorem is_b.app {a b : List Int32} (ha : is_b a) (hb : is_b b) : is_b (a ++ b) := by
  obtain ⟨p, rfl⟩ := ha
  obtain ⟨q, rfl⟩ := hb
  exact ⟨p ++ q, by rw [List.map_append]⟩
theorem is_b.nb (v : Int32) {w : Nat} (h : w ≤ 32) : is_b (nbX v w) := ⟨_, nbX_bl v w h⟩
theorem plX_bb (r n : Int32) (v : Int64) (k : Nat) : is_b (plX r n v k) := by
  unfold plX
  refine (is_b.nb 0 (by decide)).app (is_b.app ?_ ((is_b.nb _ (by decide)).app (byX_bb v k)))
  split
  · exact (is_b.nb _ (by decide)).app (is_b.nb _ (by decide))
  · exact (is_b.nb _ (by decide)).app ((is_b.nb _ (by decide)).app (is_b.nb _ (by decide)))
theorem crc_same (r n : Int32) (v : Int64) {k : Nat} (hk : k ≤ 8) : crcL crcM (plM r n v k) 0 = crcL crcX (plX r n v k) 0 := by
  rw [pl_eq r n v hk]
  obtain ⟨l, hl⟩ := plX_bb r n v k
  rw [hl, crcL_eq]
theorem nbS_X (v : Int32) {w : Nat} (h : w ≤ 32) : nbS v w = nbX v w := by rw [nbS_bl v w h, nbX_bl v w h]
theorem fr_same (r n : Int32) (v : Int64) {k : Nat} (hk : k ≤ 8) : frLM (plM r n v k) = frL (plX r n v k) crcX := by
  unfold frLM frL frEM frE
  rw [crc_same r n v hk, pl_eq r n v hk, nbS_X _ (by decide)]
theorem fs_same (r n : Int32) (v : Int64) {k : Nat} (hk : k ≤ 8) : frSM (plM r n v k) = frS (plX r n v k) crcX := by
  unfold frSM frS
  rw [crc_same r n v hk, pl_eq r n v hk, nbS_X _ (by decide)]
/-- all are bits -/
def ab (l : List Int32) : Prop := ∀ x, x ∈ l → am_b x
theorem ab.app {a b : List Int32} (ha : ab a) (hb : ab b) : ab (a ++ b) := by
  intro x hx
  rcases List.mem_append.mp hx with h | h
  · exact ha x h
  · exact hb x h
theorem bb_b (c : Bool) : am_b (bb c) := by
  cases c
  · exact Or.inl rfl
  · exact Or.inr rfl
theorem is_b.ab {l : List Int32} (h : is_b l) : ab l := by
  obtain ⟨q, rfl⟩ := h
  intro x hx
  obtain ⟨c, -, rfl⟩ := List.mem_map.mp hx
  exact bb_b c
theorem ab_1 {b : Int32} (h : am_b b) : am_b (1 - b) := by
  rcases h with rfl | rfl
  · exact Or.inr rfl
  · exact Or.inl rfl
theorem ab_fst1 {b : Int32} {s : FS} (hb : am_b b) (hs : ab s.1) : ab (fst1 b s).1 := by
  unfold fst1
  by_cases q : (if b = s.2.2.2 then s.2.2.1 + 1 else 1) = 5
  · rw [if_pos q]
    refine hs.app ?_
    intro x hx
    rcases List.mem_cons.mp hx with rfl | hx
    · exact hb
    · rcases List.mem_cons.mp hx with rfl | hx
      · exact ab_1 hb
      · cases hx
  · rw [if_neg q]
    refine hs.app ?_
    intro x hx
    rcases List.mem_cons.mp hx with rfl | hx
    · exact hb
    · cases hx
theorem ab_fstL : ∀ {bs : List Int32} {s : FS}, ab bs → ab s.1 → ab (fstL bs s).1
  | [], _, _, hs => hs
  | b :: r, s, hb, hs => ab_fstL (bs := r) (s := fst1 b s) (fun x hx => hb x (List.mem_cons_of_mem _ hx)) (ab_fst1 (hb b List.mem_cons_self) hs)
theorem ab_tl : ∀ r j, ab (tl j r)
  | 0, _ => by intro x hx; cases hx
  | r + 1, j => by
    intro x hx
    rcases List.mem_cons.mp hx with rfl | hx
    · unfold tailV; split
      · exact Or.inl rfl
      · exact Or.inr rfl
    · exact ab_tl r (j + 1) x hx
theorem ab_frL {bs : List Int32} (f : Int32 → Int32 → Int32) (h : ab bs) : ab (frL bs f) := by
  unfold frL frE
  refine ab.app (ab_fstL (is_b.nb _ (by decide)).ab (ab_fstL h ?_)) (ab_tl _ _)
  intro x hx; cases hx
theorem ab.get {l : List Int32} (h : ab l) (j : Nat) : am_b (l.getD j 0) := by
  rcases Nat.lt_or_ge j l.length with q | q
  · rw [List.getD_eq_getElem?_getD, List.getElem?_eq_getElem q]
    exact h _ (List.getElem_mem q)
  · rw [List.getD_eq_getElem?_getD, List.getElem?_eq_none q]
    exact Or.inl rfl
theorem plX_len (r n : Int32) (v : Int64) (k : Nat) : (plX r n v k).length ≤ 35 + 8 * k ∧ 17 ≤ (plX r n v k).length := by
  unfold plX
  split
  · simp only [List.length_append, nbX_len, byX_len]; omega
  · simp only [List.length_append, nbX_len, byX_len]; omega
theorem frL_len (r n : Int32) (v : Int64) {k : Nat} (hk : k ≤ 8) : (frL (plX r n v k) crcX).length ≤ 160 ∧ 40 ≤ (frL (plX r n v k) crcX).length := by
  have F0 : FOK 0 fsE := ⟨rfl, by decide, by decide⟩
  have F1 := F0.stL (plX r n v k)
  have F2 := F1.stL (nbX (crcL crcX (plX r n v k) 0) 15)
  rw [nbX_len] at F2
  have hl := plX_len r n v k
  unfold frL frE
  rw [List.length_append, tl_len]
  have h1 := F2.1
  have h2 := F2.2.1
  omega
/-- the frame of word j, of the reference's registers -/
def plW (σ : HS) (j : Nat) : List Int32 := plX (gI σ 38 j) (gI σ 40 j) (gL σ 85 j) (gI σ 40 j).toNatClampNeg
def FL (σ : HS) (j : Nat) : List Int32 := frL (plW σ j) crcX
def FSn (σ : HS) (j : Nat) : Nat := frS (plW σ j) crcX
def FC (σ : HS) (j : Nat) : Int32 := crcL crcX (plW σ j) 0
theorem FL_ab (σ : HS) (j : Nat) : ab (FL σ j) := ab_frL _ (plX_bb _ _ _ _).ab
theorem Inv.fl {k : Nat} {σ : HS} (h : Inv k σ) {j : Nat} (hj : j < gN σ 10) : (FL σ j).length ≤ 160 ∧ 40 ≤ (FL σ j).length := by
  obtain ⟨-, ⟨n, hn, hn8⟩, -⟩ := h.2.1.2.2.2.2.2.2 j hj
  unfold FL plW
  rw [hn, nI_clamp (by omega)]
  exact frL_len _ _ _ hn8
theorem d_build {k : Nat} {σ : HS} (h : Inv k σ) {j : Nat} (hj : j < gN σ 10) {Q : PO} (hQ : ∀ σ', frm PFX σ σ' → RB σ' (FL σ j) (FSn σ j) (FC σ j) → Q none σ') : MM 16 [.inr (.inr (some (1, 0))), .inr (.inr (some (10, j)))] σ Q := by
  obtain ⟨-, ⟨n, hn, hn8⟩, -⟩ := h.2.1.2.2.2.2.2.2 j hj
  have hw := h.2.1.1 j hj
  have hn' : gI σ 1104 j = nI n := by rw [hw.2.2.2.1]; exact hn
  refine c_build hj hn8 hn' h.2.2.2.2.2.2.2.2 (fun σ' f r => hQ σ' f ?_)
  unfold FL FSn FC plW
  rw [hn, nI_clamp (by omega), ← (h.2.1.2.2.1.1 j hj).1, ← h.2.1.2.2.2.2.2.1.1 j hj]
  exact r
theorem d_buildM {k : Nat} {σ : HS} (h : Inv k σ) {j : Nat} (hj : j < gN σ 10) {Q : PO} (hQ : ∀ σ', frm PFM σ σ' → RBM σ' (FL σ j) (FSn σ j) (FC σ j) → Q none σ') : MM 154 [.inr (.inr (some (12, 0))), .inl (nI j)] σ Q := by
  obtain ⟨-, ⟨n, hn, hn8⟩, -⟩ := h.2.1.2.2.2.2.2.2 j hj
  have h24 := h.1.1.2.1
  refine c_buildM (by omega) hn8 hn (fun σ' f r => hQ σ' f ?_)
  unfold FL FSn FC plW
  rw [hn, nI_clamp (by omega), ← fr_same _ _ _ hn8, ← fs_same _ _ _ hn8, ← crc_same _ _ _ hn8]
  exact r
theorem frm.fl {σ σ' : HS} (h : frm PFX σ σ') (j : Nat) : plW σ' j = plW σ j := by
  unfold plW
  rw [h.gi rfl, h.gi rfl, h.gl]
