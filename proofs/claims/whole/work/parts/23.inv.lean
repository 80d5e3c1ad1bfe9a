/-! ===== what holds between the class's registers (of x) and the reference's (of m) ===== -/
def v_cnt (x m : HS) : Prop := gN x 3 ≤ 10 ∧ gN x 10 ≤ 24 ∧ gI x 702 0 = nI (gN x 3) ∧ gI m 1313 0 = nI (gN x 3) ∧ gI x 703 0 = nI (gN x 10) ∧ gI m 1314 0 = nI (gN x 10)
def v_ref (x m : HS) : Prop := ∀ j : Nat, gI x 32 j = gI m 33 j
def v_nod (x m : HS) : Prop := ∀ i : Nat, i < gN x 3 → gQ x 90 i = some (3, i) ∧ gI x 400 i = nI i ∧ gI x 401 i = gI m 34 i ∧ gI x 402 i = gI m 35 i ∧ gI x 403 i = gI m 36 i
/-- nodes: counts stay small; behind the last one all is 0 -/
def v_nor (x m : HS) : Prop := (∀ i : Nat, ∃ c : Nat, gI m 34 i = nI c ∧ c ≤ 263) ∧ ∀ i : Nat, gN x 3 ≤ i → gI m 34 i = 0 ∧ gI m 35 i = 0 ∧ gI m 36 i = 0
/-- words: what is told of them -/
def v_wrd (x m : HS) : Prop := ∀ i : Nat, i < gN x 10 → gQ x 91 i = some (10, i) ∧ gI x 1100 i = nI i ∧ gI x 1103 i = gI m 39 i ∧ gI x 1104 i = gI m 40 i ∧ gI x 1105 i = gI m 41 i ∧ gI x 1106 i = gI m 42 i
def v_hom (x m : HS) : Prop := ∀ i : Nat, i < gN x 10 → ∃ h : Nat, h < gN x 3 ∧ gQ x 1101 i = some (3, h) ∧ gI m 37 i = nI h
def v_rnk (x m : HS) : Prop := (∀ i : Nat, i < gN x 10 → gI x 1102 i = gI m 38 i ∧ ∃ r : Nat, gI m 38 i = nI r ∧ r < 536872960) ∧ ∀ i j : Nat, i < gN x 10 → j < gN x 10 → i ≠ j → gI m 38 i ≠ gI m 38 j
def v_lat (x m : HS) : Prop := (∀ i : Nat, i < gN x 10 → gI x 1107 i = gI m 43 i ∧ ∃ r : Nat, gI m 43 i = nI r ∧ r ≤ 1000 ∧ (gI m 39 i ≠ 1 → r = 0)) ∧ ∀ i : Nat, gN x 10 ≤ i → gI m 43 i = 0
def v_due (x m : HS) : Prop := ∀ i : Nat, i < gN x 10 → gI x 1108 i = gI m 44 i ∧ ∃ r : Nat, gI m 44 i = nI r ∧ 1 ≤ r ∧ r ≤ 1000000
def v_val (x m : HS) : Prop := (∀ i : Nat, i < gN x 10 → gL x 1109 i = gL m 85 i) ∧ ∀ i : Nat, gN x 10 ≤ i → gL m 85 i = 0
def v_rng (x m : HS) : Prop := ∀ i : Nat, i < gN x 10 → (∃ k : Nat, gI m 39 i = nI k ∧ k ≤ 3) ∧ (∃ k : Nat, gI m 40 i = nI k ∧ k ≤ 8) ∧ (∃ k : Nat, gI m 41 i = nI k ∧ 100 ≤ k ∧ k ≤ 100000) ∧ ∃ k : Nat, gI m 42 i = nI k ∧ k ≤ 100000
/-- words: what runs -/
def v_wai (x m : HS) : Prop := (∀ i : Nat, i < gN x 10 → gI x 1110 i = gI m 72 i ∧ am_b (gI m 72 i) ∧ (gI m 72 i = 1 → gI x 1111 i = gI m 45 i)) ∧ ∀ i : Nat, gN x 10 ≤ i → gI m 72 i = 0
def v_tal (x m : HS) : Prop := (∀ i : Nat, i < gN x 10 → gI x 1112 i = gI m 49 i ∧ gI x 1113 i = gI m 50 i ∧ gI x 1114 i = gI m 51 i) ∧ ∀ i : Nat, gN x 10 ≤ i → gI m 49 i = 0 ∧ gI m 50 i = 0
def v_tck (k : Nat) (x m : HS) : Prop := ∃ t : Nat, gI x 1004 0 = nI t ∧ gI m 1342 0 = nI t ∧ t ≤ 5000 * k
/-- the tick from which on word i is due, as the class has it -/
def dueX (x : HS) (i : Nat) : Int32 := if gI x 1103 i = 0 ∨ gI x 1103 i = 1 then (gI x 1106 i + gI x 1115 i * gI x 1105 i) + (7 * gI x 1115 i - 7 * gI x 1115 i / (gI x 1107 i + 1) * (gI x 1107 i + 1)) else if gI x 1116 i = 0 then 2147483647 else 0
def v_nxt (x m : HS) : Prop := (∀ i : Nat, i < gN x 10 → (gI m 39 i = 0 ∨ gI m 39 i = 1) → gI x 1115 i = gI m 46 i ∧ ∃ n f t k : Nat, gI m 46 i = nI n ∧ gI m 42 i = nI f ∧ gI m 41 i = nI t ∧ gI m 1342 0 = nI k ∧ f ≤ 100000 ∧ 100 ≤ t ∧ t ≤ 100000 ∧ k ≤ 2560000 ∧ (n = 0 ∨ f + n * t ≤ k + t)) ∧ ∀ i : Nat, gN x 10 ≤ i → gI m 46 i = 0
def v_cal (x m : HS) : Prop := ∀ i : Nat, i < gN x 10 → am_b (gI x 1116 i) ∧ (gI m 39 i = 0 ∨ gI m 39 i = 1 → gI x 1116 i = 0) ∧ (gI m 39 i = 2 → gI x 1117 i = gI m 48 i ∧ (gI x 1116 i = 1 ↔ gI m 48 i = gI m 1342 0) ∧ ¬ gI m 1342 0 < gI m 48 i ∧ ¬ gI m 48 i < -1) ∧ (gI m 39 i = 3 → (gI x 1116 i = 1 ↔ gI m 47 i = gI m 1342 0) ∧ ¬ gI m 1342 0 < gI m 47 i)
def v_soo (x : HS) : Prop := ∀ i : Nat, i < gN x 10 → ¬ dueX x i < gI x 1015 0
/-- how many of the first n places hold -/
def cntP (p : Nat → Prop) (d : ∀ i, Decidable (p i)) : Nat → Nat
  | 0 => 0
  | n + 1 => cntP p d n + @ite _ (p n) (d n) 1 0
def v_wir (x m : HS) : Prop := gI x 1005 0 = gI m 1343 0 ∧ gI x 1006 0 = gI m 1348 0 ∧ gI x 1007 0 = gI m 1349 0 ∧ gI x 1013 0 = nI (cntP (fun i => gI m 72 i = 1) (fun _ => inferInstance) (gN x 10)) ∧ gI x 1014 0 = nI (cntP (fun i => ¬ gI m 34 i < 256) (fun _ => inferInstance) (gN x 3)) ∧ ∀ i : Nat, i < gN x 10 → ∀ h : Nat, gI m 37 i = nI h → h < 10 → ¬ gI m 34 h < 256 → gI m 72 i = 0
def v_cur (x m : HS) : Prop := (gQ x 1008 0 = none ∧ gI m 1344 0 = -1) ∨ ∃ w h : Nat, w < gN x 10 ∧ gQ x 1008 0 = some (10, w) ∧ gI m 1344 0 = nI w ∧ gI x 1009 0 = gI m 1347 0 ∧ gI x 1010 0 = gI m 1345 0 ∧ gI x 1011 0 = gI m 1346 0 ∧ am_b (gI m 1350 0) ∧ gI x 1012 0 = (if gI m 1350 0 = 1 then gI m 1346 0 - 8 else 2147483647) ∧ gI m 37 w = nI h ∧ h < 10 ∧ gI m 34 h < 256
def v_noi (x m : HS) : Prop := ∃ c : Nat, c ≤ 60 ∧ gI x 501 0 = nI c ∧ gI m 1352 0 = nI c ∧ (∀ j : Nat, j < c → ¬ gI x 30 j < gI x 1004 0) ∧ (∀ i j : Nat, i < j → j < c → gI x 30 i < gI x 30 j) ∧ (∀ j : Nat, j < c → ∃ i : Nat, i < c ∧ gI m 54 i = gI x 30 j) ∧ ∀ i : Nat, i < c → ∃ j : Nat, j < c ∧ gI x 30 j = gI m 54 i
def v_log (x m : HS) : Prop := ∃ kp nx : Nat, kp ≤ 40 ∧ nx < 40 ∧ gI x 304 0 = nI kp ∧ gI m 1357 0 = nI kp ∧ gI x 305 0 = nI nx ∧ ∀ i : Nat, i < kp → gI x 26 ((nx + 79 - i) % 40) = gI m 55 i ∧ gI x 27 ((nx + 79 - i) % 40) = gI m 56 i ∧ gI x 28 ((nx + 79 - i) % 40) = gI m 57 i ∧ gI x 29 ((nx + 79 - i) % 40) = gI m 58 i
def v_tap (x m : HS) : Prop := ∃ n : Nat, n ≤ 2000 ∧ gI x 901 0 = nI n ∧ gI m 1330 0 = nI n ∧ ∀ j : Nat, j < n → gI x 31 j = gI m 53 j ∧ am_b (gI m 53 j)
def v_rea (x m : HS) : Prop := gI x 601 0 = gI m 1341 0 ∧ am_b (gI m 1341 0) ∧ gL x 608 0 = gL m 1340 0 ∧ (gI m 1341 0 = 1 → gI x 603 0 = gI m 1331 0 ∧ gI x 604 0 = gI m 1336 0 ∧ gI x 605 0 = gI m 1337 0 ∧ gI x 607 0 = gI m 1338 0 ∧ gI x 606 0 = gI m 1339 0)
def v_dsk (x m : HS) : Prop := gI x 107 0 = gI m 1359 0 ∧ ∃ k : Nat, gI m 1359 0 = nI k ∧ (k = 0 ∨ 100 ≤ k) ∧ k ≤ 1000000
def v_ord (x m : HS) : Prop := gI x 106 0 = gI m 1361 0 ∧ am_b (gI m 1361 0) ∧ (gI m 1361 0 = 1 → (∀ i : Nat, i < gN x 10 → gI x 23 i = gI m 59 i ∧ ∃ p : Nat, p < gN x 10 ∧ gI m 59 i = nI p) ∧ ∀ i j : Nat, i < gN x 10 → j < gN x 10 → i ≠ j → gI m 59 i ≠ gI m 59 j)
def v_row (x m : HS) : Prop := ((gI x 802 0 = 0 ∧ gI m 1366 0 = -1) ∨ ∃ r : Nat, r ≤ 8 ∧ gI x 802 0 = 1 ∧ gI x 801 0 = nI r ∧ gI m 1366 0 = nI r ∧ ∀ j : Nat, j < r → gI x 80 j = gI m 61 j) ∧ ∀ j : Nat, (-128) ≤ gI x 80 j ∧ gI x 80 j ≤ 127
def tailV (j : Nat) : Int32 := if j = 1 then 0 else 1
def v_tai (x : HS) : Prop := ∀ j : Nat, j < 10 → gI x 21 j = tailV j
/-- in four groups -/
def v_A (x m : HS) : Prop := v_cnt x m ∧ v_ref x m ∧ v_nod x m ∧ v_nor x m
def v_B (x m : HS) : Prop := v_wrd x m ∧ v_hom x m ∧ v_rnk x m ∧ v_lat x m ∧ v_due x m ∧ v_val x m ∧ v_rng x m
def v_C (k : Nat) (x m : HS) : Prop := v_wai x m ∧ v_tal x m ∧ v_tck k x m ∧ v_nxt x m ∧ v_cal x m ∧ v_soo x ∧ v_wir x m ∧ v_cur x m ∧ v_noi x m ∧ v_log x m
def v_D (x m : HS) : Prop := v_tap x m ∧ v_rea x m ∧ v_dsk x m ∧ v_ord x m ∧ v_row x m ∧ v_tai x
def Inv2 (k : Nat) (x m : HS) : Prop := v_A x m ∧ v_B x m ∧ v_C k x m ∧ v_D x m
def Inv (k : Nat) (σ : HS) : Prop := Inv2 k σ σ
theorem v_tck.up {k : Nat} {x m : HS} (h : v_tck k x m) : v_tck (k + 1) x m := by
  obtain ⟨t, h1, h2, h3⟩ := h
  exact ⟨t, h1, h2, by omega⟩
theorem v_C.up {k : Nat} {x m : HS} (h : v_C k x m) : v_C (k + 1) x m := ⟨h.1, h.2.1, h.2.2.1.up, h.2.2.2⟩
theorem Inv.up {k : Nat} {σ : HS} (h : Inv k σ) : Inv (k + 1) σ := ⟨h.1, h.2.1, h.2.2.1.up, h.2.2.2⟩
def agI (r r2 : Option AV) : Prop := ∃ v : Int32, r = some (.inl v) ∧ r2 = some (.inl v)
def agL (r r2 : Option AV) : Prop := ∃ v : Int64, r = some (.inr (.inl v)) ∧ r2 = some (.inr (.inl v))
/-- one call of both: the same answer, and the registers agree again -/
def apiI (xm mm : Nat) (vs : List AV) : Prop := ∀ (k : Nat) (σ : HS), k < 512 → Inv k σ → MM xm (.inr (.inr (some (11, 0))) :: vs) σ (fun r σ' => MM mm (.inr (.inr (some (12, 0))) :: vs) σ' (fun r2 σ'' => agI r r2 ∧ Inv (k + 1) σ''))
def apiL (xm mm : Nat) (vs : List AV) : Prop := ∀ (k : Nat) (σ : HS), k < 512 → Inv k σ → MM xm (.inr (.inr (some (11, 0))) :: vs) σ (fun r σ' => MM mm (.inr (.inr (some (12, 0))) :: vs) σ' (fun r2 σ'' => agL r r2 ∧ Inv (k + 1) σ''))
/-- a refusal by both -/
theorem Inv.refuse {k j : Nat} {σ : HS} (h : Inv k σ) : Inv (k + 1) (sI (sI σ 32 j (gI σ 32 j + 1)) 33 j (gI σ 33 j + 1)) := by
  refine ⟨⟨h.1.1, ?_, h.1.2.2.1, h.1.2.2.2⟩, h.2.1, h.2.2.1.up, h.2.2.2⟩
  intro i
  have := h.1.2.1 i
  simp only [gI_sI, gL_sL, gQ_sQ, gI_sJ, gI_sL, gI_sQ, gL_sI, gL_sQ, gL_sJ, gQ_sI, gQ_sL, gQ_sJ, gN_sI, gN_sL, gN_sQ, gN_sJ, Nat.reduceLT, Nat.reduceEqDiff, reduceIte, Nat.reduceAdd, Nat.reduceLeDiff, Nat.reduceSub, Bool.false_eq_true, if_true, if_false, ite_true, ite_false, List.length_cons, List.length_nil, Nat.zero_add, Nat.add_zero, and_true, true_and, true_or, or_true, and_self, Nat.le_refl, Nat.lt_irrefl]
  by_cases e : i = j
  · subst e; simp [h.1.2.1 i]
  · simp [e, this]
