/-! ===== the state at the law's loop: what is fixed, and the invariant ===== -/
def ZF : List Nat := [20, 21, 1336, 1337, 1339, 1344, 1366]
def Zm (σ : HS) : Prop := (∀ f i, inL ZF f = false → gI σ f i = 0) ∧ ∀ f i, gL σ f i = 0
theorem Zm.sQ {σ : HS} (h : Zm σ) (f i : Nat) (v : Option (Nat × Nat)) : Zm (sQ σ f i v) := h
theorem Zm.sA {σ : HS} (h : Zm σ) (a : Nat) : Zm (sA σ a) := by
  refine ⟨fun f i hf => ?_, fun f i => ?_⟩
  · rw [gI_sA]
    split
    · rfl
    · exact h.1 f i hf
  · rw [gL_sA]
    split
    · rfl
    · exact h.2 f i
theorem Zm.sO {σ : HS} (h : Zm σ) (c i : Nat) : Zm (sO σ c i) := by
  refine ⟨fun f i' hf => ?_, fun f i' => ?_⟩
  · show (if f / 100 = c + 1 then (if i' = i then 0 else gI σ f i') else gI σ f i') = 0
    split
    · split
      · rfl
      · exact h.1 f i' hf
    · exact h.1 f i' hf
  · show (if f / 100 = c + 1 then (if i' = i then 0 else gL σ f i') else gL σ f i') = 0
    split
    · split
      · rfl
      · exact h.2 f i'
    · exact h.2 f i'
theorem Zm.sI {σ : HS} (h : Zm σ) (f i : Nat) (v : Int32) (hf : inL ZF f = true) : Zm (sI σ f i v) := by
  refine ⟨fun f' i' hf' => ?_, h.2⟩
  rw [gI_sI, if_neg (fun e => by rw [e, hf] at hf'; cases hf')]
  exact h.1 f' i' hf'
theorem Zm_T (xs : Nat → Int32) : Zm (stT xs) := by
  have h0 : Zm (st0 xs) := by
    refine ⟨fun f i hf => ?_, fun _ _ => rfl⟩
    show (if f = 20 then xs i else if f = 21 then tailV i else 0) = 0
    rw [if_neg (fun e => by rw [e] at hf; cases hf), if_neg (fun e => by rw [e] at hf; cases hf)]
  unfold stT iMod iObj iRow iDes iWir iLog iNoi iRea iTap iFra iRos
  repeat (first | exact h0 | apply Zm.sQ | apply Zm.sA | apply Zm.sO | refine Zm.sI ?_ _ _ _ rfl)
set_option maxRecDepth 8000 in
theorem stT_f (xs : Nat → Int32) : gN (stT xs) 3 = 0 ∧ gN (stT xs) 10 = 0 ∧ gQ (stT xs) 1008 0 = none ∧ gI (stT xs) 1344 0 = -1 ∧ gI (stT xs) 1366 0 = -1 ∧ (∀ j, gI (stT xs) 21 j = tailV j) ∧ ∀ j, gI (stT xs) 20 j = xs j := ⟨rfl, rfl, rfl, rfl, rfl, fun _ => rfl, fun _ => rfl⟩
theorem n00 : (0 : Int32) = nI 0 := by decide
theorem inv0 (xs : Nat → Int32) : Inv 0 (stT xs) := by
  obtain ⟨n3, n10, q8, u, rs, t21, t20⟩ := stT_f xs
  have z := (Zm_T xs).1
  have zl := (Zm_T xs).2
  generalize stT xs = σ at *
  have vw : ∀ {P : Nat → Prop}, ∀ i, i < gN σ 10 → P i := fun i hi => absurd hi (by rw [n10]; omega)
  have vn : ∀ {P : Nat → Prop}, ∀ i, i < gN σ 3 → P i := fun i hi => absurd hi (by rw [n3]; omega)
  have c0 : ∀ (p : Nat → Prop) (d : ∀ i, Decidable (p i)), (0 : Int32) = nI (cntP p d 0) := fun p d => by rw [cntP_0]; exact n00
  refine ⟨⟨⟨by rw [n3]; omega, by rw [n10]; omega, by rw [n3, z _ _ rfl]; exact n00, by rw [n3, z _ _ rfl]; exact n00, by rw [n10, z _ _ rfl]; exact n00, by rw [n10, z _ _ rfl]; exact n00⟩, fun j => by rw [z _ _ rfl, z _ _ rfl], vn, ⟨fun i => ⟨0, by rw [z _ _ rfl]; exact n00, by omega⟩, fun i _ => ⟨z _ _ rfl, z _ _ rfl, z _ _ rfl⟩⟩⟩, ⟨vw, vw, ⟨vw, fun i j hi => absurd hi (by rw [n10]; omega)⟩, ⟨vw, fun i _ => z _ _ rfl⟩, vw, ⟨vw, fun i _ => zl _ _⟩, vw⟩, ⟨⟨vw, fun i _ => z _ _ rfl⟩, ⟨vw, fun i _ => ⟨z _ _ rfl, z _ _ rfl⟩⟩, ⟨0, by rw [z _ _ rfl]; exact n00, by rw [z _ _ rfl]; exact n00, by omega⟩, ⟨vw, fun i _ => z _ _ rfl⟩, vw, vw, ⟨by rw [z _ _ rfl, z _ _ rfl], by rw [z _ _ rfl, z _ _ rfl], by rw [z _ _ rfl, z _ _ rfl], ?_, ?_, vw⟩, Or.inl ⟨q8, u⟩, ⟨0, by omega, by rw [z _ _ rfl]; exact n00, by rw [z _ _ rfl]; exact n00, fun j hj => absurd hj (by omega), fun i j _ hj => absurd hj (by omega), fun j hj => absurd hj (by omega), fun j hj => absurd hj (by omega)⟩, ⟨0, 0, by omega, by omega, by rw [z _ _ rfl]; exact n00, by rw [z _ _ rfl]; exact n00, by rw [z _ _ rfl]; exact n00, fun j hj => absurd hj (by omega)⟩⟩, ⟨0, by omega, by rw [z _ _ rfl]; exact n00, by rw [z _ _ rfl]; exact n00, fun j hj => absurd hj (by omega)⟩, ⟨by rw [z _ _ rfl, z _ _ rfl], Or.inl (z _ _ rfl), by rw [zl, zl], fun h => ?_⟩, ⟨by rw [z _ _ rfl, z _ _ rfl], 0, by rw [z _ _ rfl]; exact n00, Or.inl rfl, by omega⟩, ⟨by rw [z _ _ rfl, z _ _ rfl], Or.inl (z _ _ rfl), fun h => ?_⟩, ⟨Or.inl ⟨z _ _ rfl, rs⟩, fun j => ?_⟩, fun j _ => t21 j⟩
  · rw [n10, z _ _ rfl]; exact c0 _ _
  · rw [n3, z _ _ rfl]; exact c0 _ _
  · rw [z _ _ rfl] at h; exact absurd h (by decide)
  · rw [z _ _ rfl] at h; exact absurd h (by decide)
  · rw [z _ _ rfl]; decide
def EqC (σ σ' : HS) : Prop := σ.1 = σ'.1 ∧ σ.2.2.2 = σ'.2.2.2
theorem EqC.sQ {σ σ' : HS} (h : EqC σ σ') (f i : Nat) (v : Option (Nat × Nat)) : EqC (sQ σ f i v) (sQ σ' f i v) := by
  refine ⟨h.1, ?_⟩
  show (fun f' i' => if f' = f then (if i' = i then v else σ.2.2.2 f' i') else σ.2.2.2 f' i') = (fun f' i' => if f' = f then (if i' = i then v else σ'.2.2.2 f' i') else σ'.2.2.2 f' i')
  rw [h.2]
theorem EqC.sI {σ σ' : HS} (h : EqC σ σ') (f i : Nat) (v : Int32) : EqC (sI σ f i v) (sI σ' f i v) := h
theorem EqC.sA {σ σ' : HS} (h : EqC σ σ') (a : Nat) : EqC (sA σ a) (sA σ' a) := by
  refine ⟨?_, ?_⟩
  · show (fun c' => if c' = a then 1 else σ.1 c') = (fun c' => if c' = a then 1 else σ'.1 c')
    rw [h.1]
  · show (fun f' i' => if f' = a then none else σ.2.2.2 f' i') = (fun f' i' => if f' = a then none else σ'.2.2.2 f' i')
    rw [h.2]
theorem EqC.sO {σ σ' : HS} (h : EqC σ σ') (c i : Nat) : EqC (sO σ c i) (sO σ' c i) := by
  refine ⟨?_, ?_⟩
  · show (fun c' => if c' = c then i + 1 else σ.1 c') = (fun c' => if c' = c then i + 1 else σ'.1 c')
    rw [h.1]
  · show (fun f' i' => if f' / 100 = c + 1 then (if i' = i then none else σ.2.2.2 f' i') else σ.2.2.2 f' i') = (fun f' i' => if f' / 100 = c + 1 then (if i' = i then none else σ'.2.2.2 f' i') else σ'.2.2.2 f' i')
    rw [h.2]
theorem stT_e (xs : Nat → Int32) : EqC (stT xs) (stT (fun _ => 0)) := by
  have h0 : EqC (st0 xs) (st0 (fun _ => 0)) := ⟨rfl, rfl⟩
  unfold stT iMod iObj iRow iDes iWir iLog iNoi iRea iTap iFra iRos
  repeat (first | exact h0 | apply EqC.sQ | apply EqC.sA | apply EqC.sO | apply EqC.sI)
theorem stT_c (xs : Nat → Int32) : (stT xs).1 = (stT (fun _ => 0)).1 := (stT_e xs).1
theorem stT_q (xs : Nat → Int32) : (stT xs).2.2.2 = (stT (fun _ => 0)).2.2.2 := (stT_e xs).2
theorem gC_st (xs : Nat → Int32) (c : Nat) : gC S1 (stT xs) c = gC S0 (stT xs) c := by
  have e1 : gC S1 (stT xs) c = gC S1 (stT (fun _ => 0)) c := by unfold gC gN; rw [stT_c xs]
  have e2 : gC S0 (stT xs) c = gC S0 (stT (fun _ => 0)) c := by unfold gC gN; rw [stT_c xs]
  rw [e1, e2]
  rcases Nat.lt_or_ge c 92 with h | h
  · have : ∀ c : Fin 92, gC S1 (stT (fun _ => 0)) c.1 = gC S0 (stT (fun _ => 0)) c.1 := by decide +kernel
    exact this ⟨c, h⟩
  · have e3 : gC S1 (stT (fun _ => 0)) c = 0 := by
      have : S1.2.1 c = some 0 := by
        show cn1 c = some 0
        unfold cn1
        repeat rw [if_neg (by omega)]
      unfold gC
      rw [this]
    rw [e3, gC_0, if_neg (by omega)]
    unfold stT iMod
    simp only [gN_sQ, gN_sA, gN_sI, gN_sO]
    repeat' rw [if_neg (by omega)]
    rw [gN_iObj _ _ (by omega), gN_sO, if_neg (by omega), st0_n, if_neg (by omega)]
theorem gR_st (xs : Nat → Int32) : ∀ c, c < 13 → ∀ k, k < am_nf c → ∀ i, i < gC S0 (stT xs) c → am_kd (am_ty c k) = 2 → gR S1 (stT xs) (100 * (c + 1) + k) i = gR S0 (stT xs) (100 * (c + 1) + k) i := by
  intro c hc k hk i hi h2
  have e1 : ∀ f i, gR S1 (stT xs) f i = gR S1 (stT (fun _ => 0)) f i := fun f i => by unfold gR gQ; rw [stT_q xs]
  have e2 : ∀ f i, gR S0 (stT xs) f i = gR S0 (stT (fun _ => 0)) f i := fun f i => by unfold gR gQ; rw [stT_q xs]
  have e3 : gC S0 (stT xs) c = gC S0 (stT (fun _ => 0)) c := by unfold gC gN; rw [stT_c xs]
  rw [e3] at hi
  rw [e1, e2]
  have a1 : ∀ c : Fin 13, gC S0 (stT (fun _ => 0)) c.1 ≤ 1 ∧ ∀ k : Fin 80, k.1 < am_nf c.1 → 0 < gC S0 (stT (fun _ => 0)) c.1 → am_kd (am_ty c.1 k.1) = 2 → gR S1 (stT (fun _ => 0)) (100 * (c.1 + 1) + k.1) 0 = gR S0 (stT (fun _ => 0)) (100 * (c.1 + 1) + k.1) 0 := by decide +kernel
  have a2 : ∀ c : Fin 13, am_nf c.1 ≤ 80 := by decide +kernel
  obtain ⟨b1, b2⟩ := a1 ⟨c, hc⟩
  have hi0 : i = 0 := by
    have : gC S0 (stT (fun _ => 0)) c ≤ 1 := b1
    omega
  subst hi0
  exact b2 ⟨k, by have : am_nf c ≤ 80 := a2 ⟨c, hc⟩; omega⟩ hk hi h2
