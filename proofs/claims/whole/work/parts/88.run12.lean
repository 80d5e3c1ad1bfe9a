/-! ===== the run: what a frame keeps of each v_ (by gen88.py) ===== -/
def inL (l : List Nat) (f : Nat) : Bool := l.any (fun g => Nat.beq f g)
theorem inL_mo {l l' : List Nat} (h : l.all (fun g => inL l' g) = true) (f : Nat) (hf : inL l' f = false) : inL l f = false := by
  cases e : inL l f with
  | false => rfl
  | true =>
    exfalso
    unfold inL at e
    obtain ⟨g, g1, g2⟩ := List.any_eq_true.mp e
    have g3 := Nat.eq_of_beq_eq_true g2
    have := List.all_eq_true.mp h g g1
    rw [← g3, hf] at this
    cases this
/-- all but the ints in P and the word that is under way -/
def frx (P : Nat → Bool) (σ σ' : HS) : Prop := σ'.1 = σ.1 ∧ σ'.2.2.1 = σ.2.2.1 ∧ (∀ f i, ¬ f = 1008 → σ'.2.2.2 f i = σ.2.2.2 f i) ∧ ∀ f i, P f = false → σ'.2.1 f i = σ.2.1 f i
theorem frx.rf {P : Nat → Bool} {σ : HS} : frx P σ σ := ⟨rfl, rfl, fun _ _ _ => rfl, fun _ _ _ => rfl⟩
theorem frx.tr {P : Nat → Bool} {a b c : HS} (h : frx P a b) (g : frx P b c) : frx P a c := ⟨g.1.trans h.1, g.2.1.trans h.2.1, fun f i hf => (g.2.2.1 f i hf).trans (h.2.2.1 f i hf), fun f i hf => (g.2.2.2 f i hf).trans (h.2.2.2 f i hf)⟩
theorem frm.x {P : Nat → Bool} {a b : HS} (h : frm P a b) : frx P a b := ⟨h.1, by rw [h.2.1], fun f i _ => by rw [h.2.1], h.2.2⟩
theorem frx.mo {P P' : Nat → Bool} {a b : HS} (h : frx P a b) (hp : ∀ f, P' f = false → P f = false) : frx P' a b := ⟨h.1, h.2.1, h.2.2.1, fun f i hf => h.2.2.2 f i (hp f hf)⟩
theorem frx.si {P : Nat → Bool} {a b : HS} (h : frx P a b) {f i : Nat} {v : Int32} (hf : P f = true) : frx P a (sI b f i v) := h.tr (frm.rf.si hf).x
theorem frx.sq {P : Nat → Bool} {a b : HS} (h : frx P a b) {i : Nat} {v : Option (Nat × Nat)} : frx P a (sQ b 1008 i v) := by
  refine ⟨h.1, h.2.1, fun f' i' hf' => ?_, h.2.2.2⟩
  show gQ (sQ b 1008 i v) f' i' = _
  rw [gQ_sQ, if_neg hf']
  exact h.2.2.1 f' i' hf'
theorem frx.gi {P : Nat → Bool} {a b : HS} (h : frx P a b) {f i : Nat} (hf : P f = false) : gI b f i = gI a f i := h.2.2.2 f i hf
theorem frx.gl {P : Nat → Bool} {a b : HS} (h : frx P a b) (f i : Nat) : gL b f i = gL a f i := by unfold gL; rw [h.2.1]
theorem frx.gq {P : Nat → Bool} {a b : HS} (h : frx P a b) {f i : Nat} (hf : ¬ f = 1008) : gQ b f i = gQ a f i := h.2.2.1 f i hf
theorem frx.gn {P : Nat → Bool} {a b : HS} (h : frx P a b) (c : Nat) : gN b c = gN a c := by unfold gN; rw [h.1]
theorem v_cnt.cg {P R : Nat → Bool} {x m x' m' : HS} (h : v_cnt x m) (f : frx P x x') (g : frm R m m') (hp : (P 702 || (P 703 || false)) = false) (hr : (R 1313 || (R 1314 || false)) = false) : v_cnt x' m' := by
  simp only [Bool.or_eq_false_iff] at hp hr
  have x0 : gI x' 702 = gI x 702 := funext (fun i => f.gi hp.1)
  have x1 : gI x' 703 = gI x 703 := funext (fun i => f.gi hp.2.1)
  have x2 : gI m' 1313 = gI m 1313 := funext (fun i => g.gi hr.1)
  have x3 : gI m' 1314 = gI m 1314 := funext (fun i => g.gi hr.2.1)
  unfold v_cnt at h ⊢
  rw [x0, x1, x2, x3, f.gn 3, f.gn 10]
  exact h
theorem v_ref.cg {P R : Nat → Bool} {x m x' m' : HS} (h : v_ref x m) (f : frx P x x') (g : frm R m m') (hp : (P 32 || false) = false) (hr : (R 33 || false) = false) : v_ref x' m' := by
  simp only [Bool.or_eq_false_iff] at hp hr
  have x0 : gI x' 32 = gI x 32 := funext (fun i => f.gi hp.1)
  have x1 : gI m' 33 = gI m 33 := funext (fun i => g.gi hr.1)
  unfold v_ref at h ⊢
  rw [x0, x1]
  exact h
theorem v_nod.cg {P R : Nat → Bool} {x m x' m' : HS} (h : v_nod x m) (f : frx P x x') (g : frm R m m') (hp : (P 400 || (P 401 || (P 402 || (P 403 || false)))) = false) (hr : (R 34 || (R 35 || (R 36 || false))) = false) : v_nod x' m' := by
  simp only [Bool.or_eq_false_iff] at hp hr
  have x0 : gI x' 400 = gI x 400 := funext (fun i => f.gi hp.1)
  have x1 : gI x' 401 = gI x 401 := funext (fun i => f.gi hp.2.1)
  have x2 : gI x' 402 = gI x 402 := funext (fun i => f.gi hp.2.2.1)
  have x3 : gI x' 403 = gI x 403 := funext (fun i => f.gi hp.2.2.2.1)
  have x4 : gI m' 34 = gI m 34 := funext (fun i => g.gi hr.1)
  have x5 : gI m' 35 = gI m 35 := funext (fun i => g.gi hr.2.1)
  have x6 : gI m' 36 = gI m 36 := funext (fun i => g.gi hr.2.2.1)
  have x7 : gQ x' 90 = gQ x 90 := funext (fun i => f.gq (by decide))
  unfold v_nod at h ⊢
  rw [x0, x1, x2, x3, x4, x5, x6, x7, f.gn 3]
  exact h
theorem v_nor.cg {P R : Nat → Bool} {x m x' m' : HS} (h : v_nor x m) (f : frx P x x') (g : frm R m m') (hp : false = false) (hr : (R 34 || (R 35 || (R 36 || false))) = false) : v_nor x' m' := by
  simp only [Bool.or_eq_false_iff] at hp hr
  have x0 : gI m' 34 = gI m 34 := funext (fun i => g.gi hr.1)
  have x1 : gI m' 35 = gI m 35 := funext (fun i => g.gi hr.2.1)
  have x2 : gI m' 36 = gI m 36 := funext (fun i => g.gi hr.2.2.1)
  unfold v_nor at h ⊢
  rw [x0, x1, x2, f.gn 3]
  exact h
theorem v_wrd.cg {P R : Nat → Bool} {x m x' m' : HS} (h : v_wrd x m) (f : frx P x x') (g : frm R m m') (hp : (P 1100 || (P 1103 || (P 1104 || (P 1105 || (P 1106 || false))))) = false) (hr : (R 39 || (R 40 || (R 41 || (R 42 || false)))) = false) : v_wrd x' m' := by
  simp only [Bool.or_eq_false_iff] at hp hr
  have x0 : gI x' 1100 = gI x 1100 := funext (fun i => f.gi hp.1)
  have x1 : gI x' 1103 = gI x 1103 := funext (fun i => f.gi hp.2.1)
  have x2 : gI x' 1104 = gI x 1104 := funext (fun i => f.gi hp.2.2.1)
  have x3 : gI x' 1105 = gI x 1105 := funext (fun i => f.gi hp.2.2.2.1)
  have x4 : gI x' 1106 = gI x 1106 := funext (fun i => f.gi hp.2.2.2.2.1)
  have x5 : gI m' 39 = gI m 39 := funext (fun i => g.gi hr.1)
  have x6 : gI m' 40 = gI m 40 := funext (fun i => g.gi hr.2.1)
  have x7 : gI m' 41 = gI m 41 := funext (fun i => g.gi hr.2.2.1)
  have x8 : gI m' 42 = gI m 42 := funext (fun i => g.gi hr.2.2.2.1)
  have x9 : gQ x' 91 = gQ x 91 := funext (fun i => f.gq (by decide))
  unfold v_wrd at h ⊢
  rw [x0, x1, x2, x3, x4, x5, x6, x7, x8, x9, f.gn 10]
  exact h
theorem v_hom.cg {P R : Nat → Bool} {x m x' m' : HS} (h : v_hom x m) (f : frx P x x') (g : frm R m m') (hp : false = false) (hr : (R 37 || false) = false) : v_hom x' m' := by
  simp only [Bool.or_eq_false_iff] at hp hr
  have x0 : gI m' 37 = gI m 37 := funext (fun i => g.gi hr.1)
  have x1 : gQ x' 1101 = gQ x 1101 := funext (fun i => f.gq (by decide))
  unfold v_hom at h ⊢
  rw [x0, x1, f.gn 10, f.gn 3]
  exact h
theorem v_rnk.cg {P R : Nat → Bool} {x m x' m' : HS} (h : v_rnk x m) (f : frx P x x') (g : frm R m m') (hp : (P 1102 || false) = false) (hr : (R 38 || false) = false) : v_rnk x' m' := by
  simp only [Bool.or_eq_false_iff] at hp hr
  have x0 : gI x' 1102 = gI x 1102 := funext (fun i => f.gi hp.1)
  have x1 : gI m' 38 = gI m 38 := funext (fun i => g.gi hr.1)
  unfold v_rnk at h ⊢
  rw [x0, x1, f.gn 10]
  exact h
theorem v_lat.cg {P R : Nat → Bool} {x m x' m' : HS} (h : v_lat x m) (f : frx P x x') (g : frm R m m') (hp : (P 1107 || false) = false) (hr : (R 43 || (R 39 || false)) = false) : v_lat x' m' := by
  simp only [Bool.or_eq_false_iff] at hp hr
  have x0 : gI x' 1107 = gI x 1107 := funext (fun i => f.gi hp.1)
  have x1 : gI m' 43 = gI m 43 := funext (fun i => g.gi hr.1)
  have x2 : gI m' 39 = gI m 39 := funext (fun i => g.gi hr.2.1)
  unfold v_lat at h ⊢
  rw [x0, x1, x2, f.gn 10]
  exact h
theorem v_due.cg {P R : Nat → Bool} {x m x' m' : HS} (h : v_due x m) (f : frx P x x') (g : frm R m m') (hp : (P 1108 || false) = false) (hr : (R 44 || false) = false) : v_due x' m' := by
  simp only [Bool.or_eq_false_iff] at hp hr
  have x0 : gI x' 1108 = gI x 1108 := funext (fun i => f.gi hp.1)
  have x1 : gI m' 44 = gI m 44 := funext (fun i => g.gi hr.1)
  unfold v_due at h ⊢
  rw [x0, x1, f.gn 10]
  exact h
theorem v_val.cg {P R : Nat → Bool} {x m x' m' : HS} (h : v_val x m) (f : frx P x x') (g : frm R m m') (hp : false = false) (hr : false = false) : v_val x' m' := by
  simp only [Bool.or_eq_false_iff] at hp hr
  have x0 : gL x' 1109 = gL x 1109 := funext (fun i => f.gl _ i)
  have x1 : gL m' 85 = gL m 85 := funext (fun i => g.gl _ i)
  unfold v_val at h ⊢
  rw [x0, x1, f.gn 10]
  exact h
theorem v_rng.cg {P R : Nat → Bool} {x m x' m' : HS} (h : v_rng x m) (f : frx P x x') (g : frm R m m') (hp : false = false) (hr : (R 39 || (R 40 || (R 41 || (R 42 || false)))) = false) : v_rng x' m' := by
  simp only [Bool.or_eq_false_iff] at hp hr
  have x0 : gI m' 39 = gI m 39 := funext (fun i => g.gi hr.1)
  have x1 : gI m' 40 = gI m 40 := funext (fun i => g.gi hr.2.1)
  have x2 : gI m' 41 = gI m 41 := funext (fun i => g.gi hr.2.2.1)
  have x3 : gI m' 42 = gI m 42 := funext (fun i => g.gi hr.2.2.2.1)
  unfold v_rng at h ⊢
  rw [x0, x1, x2, x3, f.gn 10]
  exact h
theorem v_wai.cg {P R : Nat → Bool} {x m x' m' : HS} (h : v_wai x m) (f : frx P x x') (g : frm R m m') (hp : (P 1110 || (P 1111 || false)) = false) (hr : (R 72 || (R 45 || false)) = false) : v_wai x' m' := by
  simp only [Bool.or_eq_false_iff] at hp hr
  have x0 : gI x' 1110 = gI x 1110 := funext (fun i => f.gi hp.1)
  have x1 : gI x' 1111 = gI x 1111 := funext (fun i => f.gi hp.2.1)
  have x2 : gI m' 72 = gI m 72 := funext (fun i => g.gi hr.1)
  have x3 : gI m' 45 = gI m 45 := funext (fun i => g.gi hr.2.1)
  unfold v_wai at h ⊢
  rw [x0, x1, x2, x3, f.gn 10]
  exact h
theorem v_tal.cg {P R : Nat → Bool} {x m x' m' : HS} (h : v_tal x m) (f : frx P x x') (g : frm R m m') (hp : (P 1112 || (P 1113 || (P 1114 || false))) = false) (hr : (R 49 || (R 50 || (R 51 || false))) = false) : v_tal x' m' := by
  simp only [Bool.or_eq_false_iff] at hp hr
  have x0 : gI x' 1112 = gI x 1112 := funext (fun i => f.gi hp.1)
  have x1 : gI x' 1113 = gI x 1113 := funext (fun i => f.gi hp.2.1)
  have x2 : gI x' 1114 = gI x 1114 := funext (fun i => f.gi hp.2.2.1)
  have x3 : gI m' 49 = gI m 49 := funext (fun i => g.gi hr.1)
  have x4 : gI m' 50 = gI m 50 := funext (fun i => g.gi hr.2.1)
  have x5 : gI m' 51 = gI m 51 := funext (fun i => g.gi hr.2.2.1)
  unfold v_tal at h ⊢
  rw [x0, x1, x2, x3, x4, x5, f.gn 10]
  exact h
theorem v_tck.cg {k : Nat} {P R : Nat → Bool} {x m x' m' : HS} (h : v_tck k x m) (f : frx P x x') (g : frm R m m') (hp : (P 1004 || false) = false) (hr : (R 1342 || false) = false) : v_tck k x' m' := by
  simp only [Bool.or_eq_false_iff] at hp hr
  have x0 : gI x' 1004 = gI x 1004 := funext (fun i => f.gi hp.1)
  have x1 : gI m' 1342 = gI m 1342 := funext (fun i => g.gi hr.1)
  unfold v_tck at h ⊢
  rw [x0, x1]
  exact h
theorem v_nxt.cg {P R : Nat → Bool} {x m x' m' : HS} (h : v_nxt x m) (f : frx P x x') (g : frm R m m') (hp : (P 1115 || false) = false) (hr : (R 39 || (R 46 || (R 42 || (R 41 || (R 1342 || false))))) = false) : v_nxt x' m' := by
  simp only [Bool.or_eq_false_iff] at hp hr
  have x0 : gI x' 1115 = gI x 1115 := funext (fun i => f.gi hp.1)
  have x1 : gI m' 39 = gI m 39 := funext (fun i => g.gi hr.1)
  have x2 : gI m' 46 = gI m 46 := funext (fun i => g.gi hr.2.1)
  have x3 : gI m' 42 = gI m 42 := funext (fun i => g.gi hr.2.2.1)
  have x4 : gI m' 41 = gI m 41 := funext (fun i => g.gi hr.2.2.2.1)
  have x5 : gI m' 1342 = gI m 1342 := funext (fun i => g.gi hr.2.2.2.2.1)
  unfold v_nxt at h ⊢
  rw [x0, x1, x2, x3, x4, x5, f.gn 10]
  exact h
theorem v_cal.cg {P R : Nat → Bool} {x m x' m' : HS} (h : v_cal x m) (f : frx P x x') (g : frm R m m') (hp : (P 1116 || (P 1117 || false)) = false) (hr : (R 39 || (R 48 || (R 1342 || (R 47 || false)))) = false) : v_cal x' m' := by
  simp only [Bool.or_eq_false_iff] at hp hr
  have x0 : gI x' 1116 = gI x 1116 := funext (fun i => f.gi hp.1)
  have x1 : gI x' 1117 = gI x 1117 := funext (fun i => f.gi hp.2.1)
  have x2 : gI m' 39 = gI m 39 := funext (fun i => g.gi hr.1)
  have x3 : gI m' 48 = gI m 48 := funext (fun i => g.gi hr.2.1)
  have x4 : gI m' 1342 = gI m 1342 := funext (fun i => g.gi hr.2.2.1)
  have x5 : gI m' 47 = gI m 47 := funext (fun i => g.gi hr.2.2.2.1)
  unfold v_cal at h ⊢
  rw [x0, x1, x2, x3, x4, x5, f.gn 10]
  exact h
theorem v_soo.cg {P : Nat → Bool} {x x' : HS} (h : v_soo x) (f : frx P x x') (hp : (P 1015 || (P 1103 || (P 1106 || (P 1115 || (P 1105 || (P 1107 || (P 1116 || false))))))) = false) : v_soo x' := by
  simp only [Bool.or_eq_false_iff] at hp
  have x0 : gI x' 1015 = gI x 1015 := funext (fun i => f.gi hp.1)
  have x1 : gI x' 1103 = gI x 1103 := funext (fun i => f.gi hp.2.1)
  have x2 : gI x' 1106 = gI x 1106 := funext (fun i => f.gi hp.2.2.1)
  have x3 : gI x' 1115 = gI x 1115 := funext (fun i => f.gi hp.2.2.2.1)
  have x4 : gI x' 1105 = gI x 1105 := funext (fun i => f.gi hp.2.2.2.2.1)
  have x5 : gI x' 1107 = gI x 1107 := funext (fun i => f.gi hp.2.2.2.2.2.1)
  have x6 : gI x' 1116 = gI x 1116 := funext (fun i => f.gi hp.2.2.2.2.2.2.1)
  unfold v_soo dueX at h ⊢
  rw [x0, x1, x2, x3, x4, x5, x6, f.gn 10]
  exact h
theorem v_wir.cg {P R : Nat → Bool} {x m x' m' : HS} (h : v_wir x m) (f : frx P x x') (g : frm R m m') (hp : (P 1005 || (P 1006 || (P 1007 || (P 1013 || (P 1014 || false))))) = false) (hr : (R 1343 || (R 1348 || (R 1349 || (R 72 || (R 34 || (R 37 || false)))))) = false) : v_wir x' m' := by
  simp only [Bool.or_eq_false_iff] at hp hr
  have x0 : gI x' 1005 = gI x 1005 := funext (fun i => f.gi hp.1)
  have x1 : gI x' 1006 = gI x 1006 := funext (fun i => f.gi hp.2.1)
  have x2 : gI x' 1007 = gI x 1007 := funext (fun i => f.gi hp.2.2.1)
  have x3 : gI x' 1013 = gI x 1013 := funext (fun i => f.gi hp.2.2.2.1)
  have x4 : gI x' 1014 = gI x 1014 := funext (fun i => f.gi hp.2.2.2.2.1)
  have x5 : gI m' 1343 = gI m 1343 := funext (fun i => g.gi hr.1)
  have x6 : gI m' 1348 = gI m 1348 := funext (fun i => g.gi hr.2.1)
  have x7 : gI m' 1349 = gI m 1349 := funext (fun i => g.gi hr.2.2.1)
  have x8 : gI m' 72 = gI m 72 := funext (fun i => g.gi hr.2.2.2.1)
  have x9 : gI m' 34 = gI m 34 := funext (fun i => g.gi hr.2.2.2.2.1)
  have x10 : gI m' 37 = gI m 37 := funext (fun i => g.gi hr.2.2.2.2.2.1)
  unfold v_wir at h ⊢
  rw [x0, x1, x2, x3, x4, x5, x6, x7, x8, x9, x10, f.gn 10, f.gn 3]
  exact h
theorem v_cur.cg {P R : Nat → Bool} {x m x' m' : HS} (h : v_cur x m) (f : frx P x x') (g : frm R m m') (hp : (P 1009 || (P 1010 || (P 1011 || (P 1012 || false)))) = false) (hr : (R 1344 || (R 1347 || (R 1345 || (R 1346 || (R 1350 || (R 37 || (R 34 || false))))))) = false) (hc : gQ x' 1008 0 = gQ x 1008 0) : v_cur x' m' := by
  simp only [Bool.or_eq_false_iff] at hp hr
  have x0 : gI x' 1009 = gI x 1009 := funext (fun i => f.gi hp.1)
  have x1 : gI x' 1010 = gI x 1010 := funext (fun i => f.gi hp.2.1)
  have x2 : gI x' 1011 = gI x 1011 := funext (fun i => f.gi hp.2.2.1)
  have x3 : gI x' 1012 = gI x 1012 := funext (fun i => f.gi hp.2.2.2.1)
  have x4 : gI m' 1344 = gI m 1344 := funext (fun i => g.gi hr.1)
  have x5 : gI m' 1347 = gI m 1347 := funext (fun i => g.gi hr.2.1)
  have x6 : gI m' 1345 = gI m 1345 := funext (fun i => g.gi hr.2.2.1)
  have x7 : gI m' 1346 = gI m 1346 := funext (fun i => g.gi hr.2.2.2.1)
  have x8 : gI m' 1350 = gI m 1350 := funext (fun i => g.gi hr.2.2.2.2.1)
  have x9 : gI m' 37 = gI m 37 := funext (fun i => g.gi hr.2.2.2.2.2.1)
  have x10 : gI m' 34 = gI m 34 := funext (fun i => g.gi hr.2.2.2.2.2.2.1)
  unfold v_cur at h ⊢
  rw [x0, x1, x2, x3, x4, x5, x6, x7, x8, x9, x10, hc, f.gn 10]
  exact h
theorem v_noi.cg {P R : Nat → Bool} {x m x' m' : HS} (h : v_noi x m) (f : frx P x x') (g : frm R m m') (hp : (P 501 || (P 30 || (P 1004 || false))) = false) (hr : (R 1352 || (R 54 || false)) = false) : v_noi x' m' := by
  simp only [Bool.or_eq_false_iff] at hp hr
  have x0 : gI x' 501 = gI x 501 := funext (fun i => f.gi hp.1)
  have x1 : gI x' 30 = gI x 30 := funext (fun i => f.gi hp.2.1)
  have x2 : gI x' 1004 = gI x 1004 := funext (fun i => f.gi hp.2.2.1)
  have x3 : gI m' 1352 = gI m 1352 := funext (fun i => g.gi hr.1)
  have x4 : gI m' 54 = gI m 54 := funext (fun i => g.gi hr.2.1)
  unfold v_noi at h ⊢
  rw [x0, x1, x2, x3, x4]
  exact h
theorem v_log.cg {P R : Nat → Bool} {x m x' m' : HS} (h : v_log x m) (f : frx P x x') (g : frm R m m') (hp : (P 304 || (P 305 || (P 26 || (P 27 || (P 28 || (P 29 || false)))))) = false) (hr : (R 1357 || (R 55 || (R 56 || (R 57 || (R 58 || false))))) = false) : v_log x' m' := by
  simp only [Bool.or_eq_false_iff] at hp hr
  have x0 : gI x' 304 = gI x 304 := funext (fun i => f.gi hp.1)
  have x1 : gI x' 305 = gI x 305 := funext (fun i => f.gi hp.2.1)
  have x2 : gI x' 26 = gI x 26 := funext (fun i => f.gi hp.2.2.1)
  have x3 : gI x' 27 = gI x 27 := funext (fun i => f.gi hp.2.2.2.1)
  have x4 : gI x' 28 = gI x 28 := funext (fun i => f.gi hp.2.2.2.2.1)
  have x5 : gI x' 29 = gI x 29 := funext (fun i => f.gi hp.2.2.2.2.2.1)
  have x6 : gI m' 1357 = gI m 1357 := funext (fun i => g.gi hr.1)
  have x7 : gI m' 55 = gI m 55 := funext (fun i => g.gi hr.2.1)
  have x8 : gI m' 56 = gI m 56 := funext (fun i => g.gi hr.2.2.1)
  have x9 : gI m' 57 = gI m 57 := funext (fun i => g.gi hr.2.2.2.1)
  have x10 : gI m' 58 = gI m 58 := funext (fun i => g.gi hr.2.2.2.2.1)
  unfold v_log at h ⊢
  rw [x0, x1, x2, x3, x4, x5, x6, x7, x8, x9, x10]
  exact h
theorem v_tap.cg {P R : Nat → Bool} {x m x' m' : HS} (h : v_tap x m) (f : frx P x x') (g : frm R m m') (hp : (P 901 || (P 31 || false)) = false) (hr : (R 1330 || (R 53 || false)) = false) : v_tap x' m' := by
  simp only [Bool.or_eq_false_iff] at hp hr
  have x0 : gI x' 901 = gI x 901 := funext (fun i => f.gi hp.1)
  have x1 : gI x' 31 = gI x 31 := funext (fun i => f.gi hp.2.1)
  have x2 : gI m' 1330 = gI m 1330 := funext (fun i => g.gi hr.1)
  have x3 : gI m' 53 = gI m 53 := funext (fun i => g.gi hr.2.1)
  unfold v_tap at h ⊢
  rw [x0, x1, x2, x3]
  exact h
theorem v_rea.cg {P R : Nat → Bool} {x m x' m' : HS} (h : v_rea x m) (f : frx P x x') (g : frm R m m') (hp : (P 601 || (P 603 || (P 604 || (P 605 || (P 607 || (P 606 || false)))))) = false) (hr : (R 1341 || (R 1331 || (R 1336 || (R 1337 || (R 1338 || (R 1339 || false)))))) = false) : v_rea x' m' := by
  simp only [Bool.or_eq_false_iff] at hp hr
  have x0 : gI x' 601 = gI x 601 := funext (fun i => f.gi hp.1)
  have x1 : gI x' 603 = gI x 603 := funext (fun i => f.gi hp.2.1)
  have x2 : gI x' 604 = gI x 604 := funext (fun i => f.gi hp.2.2.1)
  have x3 : gI x' 605 = gI x 605 := funext (fun i => f.gi hp.2.2.2.1)
  have x4 : gI x' 607 = gI x 607 := funext (fun i => f.gi hp.2.2.2.2.1)
  have x5 : gI x' 606 = gI x 606 := funext (fun i => f.gi hp.2.2.2.2.2.1)
  have x6 : gI m' 1341 = gI m 1341 := funext (fun i => g.gi hr.1)
  have x7 : gI m' 1331 = gI m 1331 := funext (fun i => g.gi hr.2.1)
  have x8 : gI m' 1336 = gI m 1336 := funext (fun i => g.gi hr.2.2.1)
  have x9 : gI m' 1337 = gI m 1337 := funext (fun i => g.gi hr.2.2.2.1)
  have x10 : gI m' 1338 = gI m 1338 := funext (fun i => g.gi hr.2.2.2.2.1)
  have x11 : gI m' 1339 = gI m 1339 := funext (fun i => g.gi hr.2.2.2.2.2.1)
  have x12 : gL x' 608 = gL x 608 := funext (fun i => f.gl _ i)
  have x13 : gL m' 1340 = gL m 1340 := funext (fun i => g.gl _ i)
  unfold v_rea at h ⊢
  rw [x0, x1, x2, x3, x4, x5, x6, x7, x8, x9, x10, x11, x12, x13]
  exact h
theorem v_dsk.cg {P R : Nat → Bool} {x m x' m' : HS} (h : v_dsk x m) (f : frx P x x') (g : frm R m m') (hp : (P 107 || false) = false) (hr : (R 1359 || false) = false) : v_dsk x' m' := by
  simp only [Bool.or_eq_false_iff] at hp hr
  have x0 : gI x' 107 = gI x 107 := funext (fun i => f.gi hp.1)
  have x1 : gI m' 1359 = gI m 1359 := funext (fun i => g.gi hr.1)
  unfold v_dsk at h ⊢
  rw [x0, x1]
  exact h
theorem v_ord.cg {P R : Nat → Bool} {x m x' m' : HS} (h : v_ord x m) (f : frx P x x') (g : frm R m m') (hp : (P 106 || (P 23 || false)) = false) (hr : (R 1361 || (R 59 || false)) = false) : v_ord x' m' := by
  simp only [Bool.or_eq_false_iff] at hp hr
  have x0 : gI x' 106 = gI x 106 := funext (fun i => f.gi hp.1)
  have x1 : gI x' 23 = gI x 23 := funext (fun i => f.gi hp.2.1)
  have x2 : gI m' 1361 = gI m 1361 := funext (fun i => g.gi hr.1)
  have x3 : gI m' 59 = gI m 59 := funext (fun i => g.gi hr.2.1)
  unfold v_ord at h ⊢
  rw [x0, x1, x2, x3, f.gn 10]
  exact h
theorem v_row.cg {P R : Nat → Bool} {x m x' m' : HS} (h : v_row x m) (f : frx P x x') (g : frm R m m') (hp : (P 802 || (P 801 || (P 80 || false))) = false) (hr : (R 1366 || (R 61 || false)) = false) : v_row x' m' := by
  simp only [Bool.or_eq_false_iff] at hp hr
  have x0 : gI x' 802 = gI x 802 := funext (fun i => f.gi hp.1)
  have x1 : gI x' 801 = gI x 801 := funext (fun i => f.gi hp.2.1)
  have x2 : gI x' 80 = gI x 80 := funext (fun i => f.gi hp.2.2.1)
  have x3 : gI m' 1366 = gI m 1366 := funext (fun i => g.gi hr.1)
  have x4 : gI m' 61 = gI m 61 := funext (fun i => g.gi hr.2.1)
  unfold v_row at h ⊢
  rw [x0, x1, x2, x3, x4]
  exact h
theorem v_tai.cg {P : Nat → Bool} {x x' : HS} (h : v_tai x) (f : frx P x x') (hp : (P 21 || false) = false) : v_tai x' := by
  simp only [Bool.or_eq_false_iff] at hp
  have x0 : gI x' 21 = gI x 21 := funext (fun i => f.gi hp.1)
  unfold v_tai at h ⊢
  rw [x0]
  exact h
/-- what a run never changes -/
def STc (x m : HS) : Prop := v_cnt x m ∧ v_ref x m ∧ v_B x m ∧ v_D x m
def PXR (f : Nat) : Bool := PFX f || inL [401, 402, 403, 1110, 1111, 1112, 1113, 1114, 1115, 1116, 1004, 1005, 1006, 1007, 1009, 1010, 1011, 1012, 1013, 1014, 1015, 501, 30, 304, 305, 26, 27, 28, 29] f
def PZR (f : Nat) : Bool := PHC f || (PCM f || (PNT f || (PSL f || (PHA f || inL [1344, 1345, 1346, 1347, 1350, 1342, 1343, 1348, 1349, 36, 49, 51, 54, 1352] f))))
theorem STc.cg {x m x' m' : HS} (h : STc x m) (f : frx PXR x x') (g : frm PZR m m') : STc x' m' := by
  obtain ⟨h1, h2, ⟨b1, b2, b3, b4, b5, b6, b7⟩, d1, d2, d3, d4, d5, d6⟩ := h
  exact ⟨h1.cg f g rfl rfl, h2.cg f g rfl rfl, ⟨b1.cg f g rfl rfl, b2.cg f g rfl rfl, b3.cg f g rfl rfl, b4.cg f g rfl rfl, b5.cg f g rfl rfl, b6.cg f g rfl rfl, b7.cg f g rfl rfl⟩, d1.cg f g rfl rfl, d2.cg f g rfl rfl, d3.cg f g rfl rfl, d4.cg f g rfl rfl, d5.cg f g rfl rfl, d6.cg f rfl⟩
