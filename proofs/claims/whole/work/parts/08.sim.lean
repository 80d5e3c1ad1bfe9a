/-! ===== the machine's heap as the registers' picture ===== -/
def cv (ad : Nat → Nat → Nat) : AV → Value
  | .inl x => .int x
  | .inr (.inl y) => .long y
  | .inr (.inr r) => va_rf (r.map (fun q => ad q.1 q.2))
/-- the locals -/
def lR (ad : Nat → Nat → Nat) (nL : Nat) (ls : ALs) (lsj : Array Slot) : Prop := ls.length = nL ∧ lsj.size = nL ∧ lv_wf lsj ∧ ∀ (k : Nat) (v : AV), am_ld ls k = some v → lsj[k]? = some (.val (cv ad v))
def lvl (ad : Nat → Nat → Nat) (ls : ALs) : List (Nat × Value) := (List.range ls.length).filterMap (fun k => (am_ld ls k).map (fun v => (k, cv ad v)))
theorem am_ld_lt : ∀ {ls : ALs} {k : Nat} {v : AV}, am_ld ls k = some v → k < ls.length
  | [], _, _, h => by simp [am_ld] at h
  | _ :: _, 0, _, _ => by simp
  | _ :: r, k + 1, v, h => by
    have := am_ld_lt (ls := r) (k := k) (v := v) (by simpa [am_ld] using h)
    simp; omega
theorem lvl_mem {ad : Nat → Nat → Nat} {ls : ALs} {k : Nat} {v : AV} (h : am_ld ls k = some v) : (k, cv ad v) ∈ lvl ad ls := by
  refine List.mem_filterMap.mpr ⟨k, List.mem_range.mpr (am_ld_lt h), ?_⟩
  rw [h]; rfl
theorem lvl_of {ad : Nat → Nat → Nat} {ls : ALs} {q : Nat × Value} (h : q ∈ lvl ad ls) : ∃ v, am_ld ls q.1 = some v ∧ q.2 = cv ad v := by
  obtain ⟨k, -, hk⟩ := List.mem_filterMap.mp h
  cases hv : am_ld ls k with
  | none => rw [hv] at hk; cases hk
  | some v => rw [hv] at hk; cases hk; exact ⟨v, hv, rfl⟩
theorem lR.has {ad : Nat → Nat → Nat} {nL : Nat} {ls : ALs} {lsj : Array Slot} (h : lR ad nL ls lsj) : lv_has lsj nL (lvl ad ls) := by
  refine ⟨h.2.1, h.2.2.1, fun q hq => ?_⟩
  obtain ⟨v, h1, h2⟩ := lvl_of hq
  rw [h2]
  exact h.2.2.2 _ _ h1
theorem am_set_len : ∀ (ls : ALs) (k : Nat) (v : Option AV), (am_set ls k v).length = ls.length
  | [], _, _ => rfl
  | _ :: _, 0, _ => rfl
  | _ :: r, k + 1, v => by simp [am_set, am_set_len r k v]
theorem am_ld_set : ∀ (ls : ALs) (k j : Nat) (x : Option AV), am_ld (am_set ls k x) j = if j = k then (if k < ls.length then x else none) else am_ld ls j
  | [], k, j, x => by simp [am_set, am_ld]
  | _ :: r, 0, 0, x => by simp [am_set, am_ld]
  | _ :: r, 0, j + 1, x => by simp [am_set, am_ld]
  | _ :: r, k + 1, 0, x => by simp [am_set, am_ld]
  | _ :: r, k + 1, j + 1, x => by
    simp only [am_set, am_ld, am_ld_set r k j x, List.length_cons]
    simp
theorem am_ok_lt {ls : ALs} : ∀ {k : Nat}, am_ok ls k → k < ls.length
  | 0, h => h
  | _ + 1, h => h.1
theorem cv_cat2 {ad : Nat → Nat → Nat} {v : AV} (h : (cv ad v).category = 2) : ∃ y, v = .inr (.inl y) := by
  match v with
  | .inl _ => cases h
  | .inr (.inl y) => exact ⟨y, rfl⟩
  | .inr (.inr none) => cases h
  | .inr (.inr (some _)) => cases h
theorem lR.st1 {ad : Nat → Nat → Nat} {nL : Nat} {ls : ALs} {lsj ls' : Array Slot} {k : Nat} {v : AV} {w : Value} (h : lR ad nL ls lsj) (ho : am_ok ls k) (hw : w = cv ad v)
    (h' : lv_has ls' nL ((k, w) :: (lvl ad ls).filter (fun q => !(q.1 == k) && !(q.1 + 1 == k && q.2.category == 2)))) : lR ad nL (am_set ls k (some v)) ls' := by
  refine ⟨by rw [am_set_len]; exact h.1, h'.1, h'.2.1, fun j x hj => ?_⟩
  rw [am_ld_set, if_pos (am_ok_lt ho)] at hj
  by_cases e : j = k
  · rw [if_pos e] at hj
    cases hj
    rw [e]
    have := h'.2.2 (k, w) List.mem_cons_self
    rw [hw] at this
    exact this
  · rw [if_neg e] at hj
    refine h'.2.2 (j, cv ad x) (List.mem_cons_of_mem _ (List.mem_filter.mpr ⟨lvl_mem hj, ?_⟩))
    simp only [Bool.and_eq_true, Bool.not_eq_true', beq_eq_false_iff_ne, ne_eq, Bool.and_eq_false_iff]
    refine ⟨e, ?_⟩
    by_cases e2 : j + 1 = k
    · right
      intro hc
      obtain ⟨y, rfl⟩ := cv_cat2 hc
      subst e2
      have h2 := ho.2
      rw [hj] at h2
      exact h2
    · left; exact e2
theorem lR.st2 {ad : Nat → Nat → Nat} {nL : Nat} {ls : ALs} {lsj ls' : Array Slot} {k : Nat} {v : AV} {w : Value} (h : lR ad nL ls lsj) (ho : am_ok ls k) (hw : w = cv ad v)
    (h' : lv_has ls' nL ((k, w) :: (lvl ad ls).filter (fun q => !(q.1 == k) && (!(q.1 == k + 1) && !(q.1 + 1 == k && q.2.category == 2))))) : lR ad nL (am_set (am_set ls k (some v)) (k + 1) none) ls' := by
  refine ⟨by rw [am_set_len, am_set_len]; exact h.1, h'.1, h'.2.1, fun j x hj => ?_⟩
  rw [am_ld_set, am_ld_set, if_pos (am_ok_lt ho)] at hj
  by_cases e1 : j = k + 1
  · rw [if_pos e1] at hj
    split at hj <;> cases hj
  · rw [if_neg e1] at hj
    by_cases e : j = k
    · rw [if_pos e] at hj
      cases hj
      rw [e]
      have := h'.2.2 (k, w) List.mem_cons_self
      rw [hw] at this
      exact this
    · rw [if_neg e] at hj
      refine h'.2.2 (j, cv ad x) (List.mem_cons_of_mem _ (List.mem_filter.mpr ⟨lvl_mem hj, ?_⟩))
      simp only [Bool.and_eq_true, Bool.not_eq_true', beq_eq_false_iff_ne, ne_eq, Bool.and_eq_false_iff]
      refine ⟨e, e1, ?_⟩
      by_cases e2 : j + 1 = k
      · right
        intro hc
        obtain ⟨y, rfl⟩ := cv_cat2 hc
        subst e2
        have h2 := ho.2
        rw [hj] at h2
        exact h2
      · left; exact e2
theorem am_fit_len : ∀ (n : Nat) (ls : ALs), (am_fit n ls).length = n
  | 0, _ => rfl
  | n + 1, [] => by simp [am_fit, am_fit_len n []]
  | n + 1, x :: r => by simp [am_fit, am_fit_len n r]
theorem am_ld_fit : ∀ (n : Nat) (ls : ALs) (k : Nat) (v : AV), am_ld (am_fit n ls) k = some v → am_ld ls k = some v
  | 0, _, _, _, h => by simp [am_fit, am_ld] at h
  | n + 1, [], 0, v, h => by simp [am_fit, am_ld] at h
  | n + 1, [], k + 1, v, h => by
    have := am_ld_fit n [] k v (by simpa [am_fit, am_ld] using h)
    simp [am_ld] at this
  | n + 1, x :: r, 0, v, h => by simpa [am_fit, am_ld] using h
  | n + 1, x :: r, k + 1, v, h => by
    have := am_ld_fit n r k v (by simpa [am_fit, am_ld] using h)
    simpa [am_ld] using this
theorem am_ld_ar {ad : Nat → Nat → Nat} : ∀ (vs : List AV) (k o : Nat) (v : AV), am_ld (am_ar vs) k = some v → (o + k, cv ad v) ∈ lv_args o (vs.map (cv ad))
  | [], k, o, v, h => by simp [am_ar, am_ld] at h
  | .inl x :: r, 0, o, v, h => by
    simp only [am_ar, am_ld, Option.some.injEq] at h
    subst h
    simp [lv_args]
  | .inl x :: r, k + 1, o, v, h => by
    have := am_ld_ar (ad := ad) r k (o + 1) v (by simpa [am_ar, am_ld] using h)
    have hc : (cv ad (.inl x)).category = 1 := rfl
    simp only [List.map_cons, lv_args]
    refine List.mem_cons_of_mem _ ?_
    rw [show o + (k + 1) = o + 1 + k by omega, hc]
    simpa using this
  | .inr (.inl x) :: r, 0, o, v, h => by
    simp only [am_ar, am_ld, Option.some.injEq] at h
    subst h
    simp [lv_args]
  | .inr (.inl x) :: r, 1, o, v, h => by simp [am_ar, am_ld] at h
  | .inr (.inl x) :: r, k + 2, o, v, h => by
    have := am_ld_ar (ad := ad) r k (o + 2) v (by simpa [am_ar, am_ld] using h)
    have hc : (cv ad (.inr (.inl x))).category = 2 := rfl
    simp only [List.map_cons, lv_args]
    refine List.mem_cons_of_mem _ ?_
    rw [show o + (k + 2) = o + 2 + k by omega, hc]
    simpa using this
  | .inr (.inr x) :: r, 0, o, v, h => by
    simp only [am_ar, am_ld, Option.some.injEq] at h
    subst h
    simp [lv_args]
  | .inr (.inr x) :: r, k + 1, o, v, h => by
    have := am_ld_ar (ad := ad) r k (o + 1) v (by simpa [am_ar, am_ld] using h)
    have hc : (cv ad (.inr (.inr x))).category = 1 := by cases x <;> rfl
    simp only [List.map_cons, lv_args]
    refine List.mem_cons_of_mem _ ?_
    rw [show o + (k + 1) = o + 1 + k by omega, hc]
    simpa using this
theorem lg_sl_len (ad : Nat → Nat → Nat) : ∀ vs : List AV, (lg_sl (vs.map (cv ad))).length = (am_ar vs).length
  | [] => rfl
  | .inl x :: r => by
    have := lg_sl_len ad r
    simp only [lg_sl, List.map_cons, List.flatMap_cons, cv, Value.category, List.length_append, am_ar, List.length_cons] at this ⊢
    simp [this]; omega
  | .inr (.inl x) :: r => by
    have := lg_sl_len ad r
    simp only [lg_sl, List.map_cons, List.flatMap_cons, cv, Value.category, List.length_append, am_ar, List.length_cons] at this ⊢
    simp [this]; omega
  | .inr (.inr x) :: r => by
    have := lg_sl_len ad r
    have hc : (cv ad (.inr (.inr x))).category = 1 := by cases x <;> rfl
    simp only [lg_sl, List.map_cons, List.flatMap_cons, hc, List.length_append, am_ar, List.length_cons] at this ⊢
    simp [this]; omega
theorem lR.entry {ad : Nat → Nat → Nat} {nL : Nat} {vs : List AV} (h : (am_ar vs).length ≤ nL) : lR ad nL (am_in nL vs) ((lg_sl (vs.map (cv ad)) ++ List.replicate (nL - (lg_sl (vs.map (cv ad))).length) Slot.unset).toArray) := by
  have h1 := lv_entry (vs.map (cv ad)) (n := nL) (by rw [lg_sl_len]; exact h)
  refine ⟨am_fit_len _ _, h1.1, h1.2.1, fun k v hk => ?_⟩
  have h2 := am_ld_ar (ad := ad) vs k 0 v (am_ld_fit _ _ _ _ hk)
  rw [Nat.zero_add] at h2
  exact h1.2.2 _ h2
theorem am_ct_eq (ad : Nat → Nat → Nat) : ∀ st : List AV, ((st.map (cv ad)).map fun v => v.category).sum = am_ct st
  | [] => rfl
  | .inl x :: r => by
    have := am_ct_eq ad r
    simp only [List.map_cons, List.sum_cons, am_ct, cv, Value.category] at this ⊢
    omega
  | .inr (.inl x) :: r => by
    have := am_ct_eq ad r
    simp only [List.map_cons, List.sum_cons, am_ct, cv, Value.category] at this ⊢
    omega
  | .inr (.inr x) :: r => by
    have := am_ct_eq ad r
    have hc : (cv ad (.inr (.inr x))).category = 1 := by cases x <;> rfl
    simp only [List.map_cons, List.sum_cons, am_ct] at this ⊢
    omega
theorem am_pop_eq : ∀ (n : Nat) (acc st vs r : List AV), am_pop n acc st = some (vs, r) → vs.reverse ++ r = acc.reverse ++ st ∧ vs.length = acc.length + n
  | 0, acc, st, vs, r, h => by
    simp only [am_pop, Option.some.injEq, Prod.mk.injEq] at h
    obtain ⟨rfl, rfl⟩ := h
    exact ⟨rfl, rfl⟩
  | n + 1, acc, [], vs, r, h => by simp [am_pop] at h
  | n + 1, acc, x :: st, vs, r, h => by
    have := am_pop_eq n (x :: acc) st vs r (by simpa [am_pop] using h)
    refine ⟨?_, ?_⟩
    · rw [this.1]; simp
    · rw [this.2]; simp; omega
/-! the cells -/
def am_kd : FieldType → Nat
  | .long => 1
  | .object _ => 2
  | .array _ => 2
  | _ => 0
def am_fv (S : SV) (σ : HS) (c k i : Nat) : AV := if am_kd (am_ty c k) = 0 then .inl (gI σ (100 * (c + 1) + k) i) else if am_kd (am_ty c k) = 1 then .inr (.inl (gL σ (100 * (c + 1) + k) i)) else .inr (.inr (gR S σ (100 * (c + 1) + k) i))
def am_fs (S : SV) (ad : Nat → Nat → Nat) (σ : HS) (c i : Nat) : List Value := (List.range (am_nf c)).map (fun k => cv ad (am_fv S σ c k i))
def am_tn (a : Nat) : Nat := if a < 70 then 0 else if a < 80 then 1 else if a < 85 then 2 else if a < 90 then 3 else if a = 90 then 4 else 5
def tysF (dT : Nat → ClassId) : List (ClassId × FieldType) := [(dT 0, .int), (dT 1, .boolean), (dT 2, .byte), (dT 3, .long), (dT 4, .object RX3), (dT 5, .object RX10)]
def am_av (S : SV) (ad : Nat → Nat → Nat) (σ : HS) (a : Nat) : vp_A := (S.2.2 a, if a < 85 then .inl (fun j => gI σ a j) else if a < 90 then .inr (.inl (fun j => gL σ a j)) else .inr (.inr (.inr (.inr (fun j => (gR S σ a j).map (fun q => ad q.1 q.2))))))
def am_ce (S : SV) (dT : Nat → ClassId) (ad : Nat → Nat → Nat) (σ : HS) (q : Nat × Nat) : va_E := if q.1 < 13 then .inr (q.1, am_fs S ad σ q.1 q.2) else .inl (dT (am_tn q.1), am_av S ad σ q.1)
def am_WL (S : SV) (dT : Nat → ClassId) (ad : Nat → Nat → Nat) (σ : HS) (it : List (Nat × Nat)) : va_W := it.map (fun q => (ad q.1 q.2, am_ce S dT ad σ q))
def am_id (q : Nat × Nat) : Prop := q.1 < 13 ∨ (22 ≤ q.1 ∧ q.1 < 92 ∧ q.2 = 0)
/-- what a cell refers to is there -/
def am_rv (S : SV) (σ : HS) (q : Nat × Nat) : Prop := (q.1 < 13 → ∀ k, k < am_nf q.1 → am_v S σ (am_fv S σ q.1 k q.2)) ∧ (90 ≤ q.1 → ∀ j, am_v S σ (.inr (.inr (gR S σ q.1 j))))
def am_Rel (S : SV) (G : va_G) (dT : Nat → ClassId) (A : Nat → Prop) (ad : Nat → Nat → Nat) (it : List (Nat × Nat)) (σ : HS) (H : Heap) : Prop :=
  va_P G vwCl (am_WL S dT ad σ it) H ∧ va_D A (am_WL S dT ad σ it) ∧ (∀ q, q ∈ it ↔ (am_id q ∧ q.2 < gC S σ q.1)) ∧ ∀ q ∈ it, am_rv S σ q
theorem am_WL_at {S : SV} {dT : Nat → ClassId} {ad : Nat → Nat → Nat} {σ : HS} {it : List (Nat × Nat)} {p : Nat} {q : Nat × Nat} (h : it[p]? = some q) : (am_WL S dT ad σ it)[p]? = some (ad q.1 q.2, am_ce S dT ad σ q) := by
  unfold am_WL
  rw [List.getElem?_map, h]
  rfl
theorem am_pos {S : SV} {G : va_G} {dT : Nat → ClassId} {A : Nat → Prop} {ad : Nat → Nat → Nat} {it : List (Nat × Nat)} {σ : HS} {H : Heap} (hR : am_Rel S G dT A ad it σ H) {q : Nat × Nat} (h1 : am_id q) (h2 : q.2 < gC S σ q.1) : ∃ p : Nat, it[p]? = some q ∧ (am_WL S dT ad σ it)[p]? = some (ad q.1 q.2, am_ce S dT ad σ q) := by
  obtain ⟨p, hp⟩ := List.getElem?_of_mem ((hR.2.2.1 q).mpr ⟨h1, h2⟩)
  exact ⟨p, hp, am_WL_at hp⟩
theorem am_inj {S : SV} {G : va_G} {dT : Nat → ClassId} {A : Nat → Prop} {ad : Nat → Nat → Nat} {it : List (Nat × Nat)} {σ : HS} {H : Heap} (hR : am_Rel S G dT A ad it σ H) {p p' : Nat} {q q' : Nat × Nat} (h1 : it[p]? = some q) (h2 : it[p']? = some q') (h : ad q.1 q.2 = ad q'.1 q'.2) : p = p' :=
  hR.2.1.1 p p' _ _ (am_WL_at h1) (am_WL_at h2) h
theorem am_inj' {S : SV} {G : va_G} {dT : Nat → ClassId} {A : Nat → Prop} {ad : Nat → Nat → Nat} {it : List (Nat × Nat)} {σ : HS} {H : Heap} (hR : am_Rel S G dT A ad it σ H) {q q' : Nat × Nat} (h1 : q ∈ it) (h2 : q' ∈ it) (h : ad q.1 q.2 = ad q'.1 q'.2) : q = q' := by
  obtain ⟨p, hp⟩ := List.getElem?_of_mem h1
  obtain ⟨p', hp'⟩ := List.getElem?_of_mem h2
  have := am_inj hR hp hp' h
  subst this
  exact Option.some.inj (hp.symm.trans hp')
/-- one cell's contents become others -/
theorem am_WL_set {S : SV} {G : va_G} {dT : Nat → ClassId} {A : Nat → Prop} {ad : Nat → Nat → Nat} {it : List (Nat × Nat)} {σ σ' : HS} {H : Heap} (hR : am_Rel S G dT A ad it σ H) {p : Nat} {q : Nat × Nat} (hp : it[p]? = some q) {e : va_E} (he : e = am_ce S dT ad σ' q) (ho : ∀ q', q' ∈ it → q' ≠ q → am_ce S dT ad σ' q' = am_ce S dT ad σ q') : (am_WL S dT ad σ it).set p (ad q.1 q.2, e) = am_WL S dT ad σ' it := by
  apply List.ext_getElem?
  intro j
  by_cases hj : j = p
  · subst hj
    have hl : j < (am_WL S dT ad σ it).length := (List.getElem?_eq_some_iff.mp (am_WL_at hp)).1
    rw [List.getElem?_set_self hl, am_WL_at hp, he]
  · rw [List.getElem?_set_ne (Ne.symm hj)]
    unfold am_WL
    rw [List.getElem?_map, List.getElem?_map]
    cases hq : it[j]? with
    | none => rfl
    | some q' =>
      have hne : q' ≠ q := by
        intro e0
        subst e0
        exact hj (am_inj hR hq hp rfl)
      simp only [Option.map_some]
      rw [ho q' (List.mem_of_getElem? hq) hne]
/-- the picture behind a change of one cell -/
theorem am_Rel.set {S : SV} {G : va_G} {dT : Nat → ClassId} {A : Nat → Prop} {ad : Nat → Nat → Nat} {it : List (Nat × Nat)} {σ σ' : HS} {H H1 : Heap} (hR : am_Rel S G dT A ad it σ H) {p : Nat} {q : Nat × Nat} (hp : it[p]? = some q) {e : va_E} (he : e = am_ce S dT ad σ' q) (ho : ∀ q', q' ∈ it → q' ≠ q → am_ce S dT ad σ' q' = am_ce S dT ad σ q') (hc : ∀ c, gC S σ' c = gC S σ c) (hv : ∀ q', q' ∈ it → am_rv S σ' q')
    (hP : va_P G vwCl ((am_WL S dT ad σ it).set p (ad q.1 q.2, e)) H1) (hD : va_D A ((am_WL S dT ad σ it).set p (ad q.1 q.2, e))) : am_Rel S G dT A ad it σ' H1 := by
  rw [am_WL_set hR hp he ho] at hP hD
  exact ⟨hP, hD, fun q => by rw [hc]; exact hR.2.2.1 q, hv⟩
theorem am_v_congr {S : SV} {σ σ' : HS} (hc : ∀ c, gC S σ' c = gC S σ c) {v : AV} (h : am_v S σ v) : am_v S σ' v := by
  match v, h with
  | .inl _, _ => trivial
  | .inr (.inl _), _ => trivial
  | .inr (.inr none), _ => trivial
  | .inr (.inr (some q)), h =>
    show q.2 < gC S σ' q.1
    rw [hc]; exact h
theorem gI_sI (σ : HS) (f i : Nat) (v : Int32) (f' i' : Nat) : gI (sI σ f i v) f' i' = if f' = f then (if i' = i then v else gI σ f' i') else gI σ f' i' := rfl
theorem gL_sL (σ : HS) (f i : Nat) (v : Int64) (f' i' : Nat) : gL (sL σ f i v) f' i' = if f' = f then (if i' = i then v else gL σ f' i') else gL σ f' i' := rfl
theorem gQ_sQ (σ : HS) (f i : Nat) (v : Option (Nat × Nat)) (f' i' : Nat) : gQ (sQ σ f i v) f' i' = if f' = f then (if i' = i then v else gQ σ f' i') else gQ σ f' i' := rfl
theorem gI_sJ (σ : HS) (f : Nat) (g : Nat → Int32) (f' i' : Nat) : gI (sJ σ f g) f' i' = if f' = f then g i' else gI σ f' i' := rfl
theorem gR_sQ (S : SV) (σ : HS) (f i : Nat) (v : Option (Nat × Nat)) (f' i' : Nat) (h : S.1 f = none) : gR S (sQ σ f i v) f' i' = if f' = f then (if i' = i then v else gR S σ f' i') else gR S σ f' i' := by
  unfold gR
  by_cases e : f' = f
  · subst e
    rw [h]
    rfl
  · cases S.1 f' with
    | none => rfl
    | some r => simp [e]
theorem am_nf_lt (c : Nat) : am_nf c < 100 := by
  unfold am_nf
  split <;> omega
theorem am_fs_set {S : SV} {ad : Nat → Nat → Nat} {σ σ' : HS} {c i k : Nat} {w : Value} (hw : w = cv ad (am_fv S σ' c k i)) (ho : ∀ k', k' < am_nf c → k' ≠ k → am_fv S σ' c k' i = am_fv S σ c k' i) : (am_fs S ad σ c i).set k w = am_fs S ad σ' c i := by
  apply List.ext_getElem?
  intro j
  unfold am_fs
  by_cases hj : j = k
  · subst hj
    by_cases hl : j < am_nf c
    · rw [List.getElem?_set_self (by simpa using hl), List.getElem?_map, List.getElem?_range hl, hw]; rfl
    · rw [List.getElem?_eq_none (by simp; omega), List.getElem?_eq_none (by simp; omega)]
  · rw [List.getElem?_set_ne (Ne.symm hj), List.getElem?_map, List.getElem?_map]
    by_cases hl : j < am_nf c
    · rw [List.getElem?_range hl]
      simp only [Option.map_some]
      rw [ho j hl hj]
    · rw [List.getElem?_eq_none (by simp; omega)]; rfl
theorem am_fs_at {S : SV} {ad : Nat → Nat → Nat} {σ : HS} {c i k : Nat} (hk : k < am_nf c) : (am_fs S ad σ c i)[k]? = some (cv ad (am_fv S σ c k i)) := by
  unfold am_fs
  rw [List.getElem?_map, List.getElem?_range hk]; rfl
theorem am_fs_len {S : SV} {ad : Nat → Nat → Nat} {σ : HS} {c i : Nat} : (am_fs S ad σ c i).length = am_nf c := by simp [am_fs]
theorem am_ce_o {S : SV} {dT : Nat → ClassId} {ad : Nat → Nat → Nat} {σ : HS} {c i : Nat} (h : c < 13) : am_ce S dT ad σ (c, i) = .inr (c, am_fs S ad σ c i) := if_pos h
theorem am_ce_a {S : SV} {dT : Nat → ClassId} {ad : Nat → Nat → Nat} {σ : HS} {a i : Nat} (h : 22 ≤ a) : am_ce S dT ad σ (a, i) = .inl (dT (am_tn a), am_av S ad σ a) := if_neg (by show ¬ a < 13; omega)
/-- a field of an object becomes another one -/
theorem am_Rel.put {S : SV} {G : va_G} {dT : Nat → ClassId} {A : Nat → Prop} {ad : Nat → Nat → Nat} {it : List (Nat × Nat)} {σ σ' : HS} {H H1 : Heap} (hR : am_Rel S G dT A ad it σ H) {p c i k : Nat} (hp : it[p]? = some (c, i)) (hc : c < 13) {w : Value} (hw : w = cv ad (am_fv S σ' c k i))
    (h1 : ∀ c' k' i', k' < am_nf c' → ¬ (c' = c ∧ k' = k ∧ i' = i) → am_fv S σ' c' k' i' = am_fv S σ c' k' i') (h2 : ∀ a, a < 100 → am_av S ad σ' a = am_av S ad σ a) (h2' : ∀ a j, a < 100 → gR S σ' a j = gR S σ a j) (h3 : ∀ c, gC S σ' c = gC S σ c) (h4 : am_v S σ (am_fv S σ' c k i))
    (hP : va_P G vwCl ((am_WL S dT ad σ it).set p (ad c i, .inr (c, (am_fs S ad σ c i).set k w))) H1) (hD : va_D A ((am_WL S dT ad σ it).set p (ad c i, .inr (c, (am_fs S ad σ c i).set k w)))) : am_Rel S G dT A ad it σ' H1 := by
  have hm : ∀ q', q' ∈ it → q'.1 < 100 := fun q' hq => by
    rcases ((hR.2.2.1 q').mp hq).1 with h | h <;> omega
  refine am_Rel.set hR (q := (c, i)) hp ?_ ?_ h3 ?_ hP hD
  · rw [am_ce_o hc, am_fs_set hw (fun k' hk' hne => h1 c k' i hk' (fun e => hne e.2.1))]
  · intro q' hq hne
    unfold am_ce
    by_cases h : q'.1 < 13
    · rw [if_pos h, if_pos h]
      congr 2
      unfold am_fs
      apply List.map_congr_left
      intro k' hk'
      rw [h1 q'.1 k' q'.2 (List.mem_range.mp hk') (fun e => hne (Prod.ext e.1 e.2.2))]
    · rw [if_neg h, if_neg h, h2 _ (hm _ hq)]
  · intro q' hq
    obtain ⟨r1, r2⟩ := hR.2.2.2 q' hq
    refine ⟨fun hl k' hk' => am_v_congr h3 ?_, fun hl j => am_v_congr h3 ?_⟩
    · by_cases e : q'.1 = c ∧ k' = k ∧ q'.2 = i
      · obtain ⟨e1, e2, e3⟩ := e
        rw [e1, e2, e3]
        exact h4
      · rw [h1 _ _ _ hk' e]
        exact r1 hl k' hk'
    · rw [h2' _ _ (hm _ hq)]
      exact r2 hl j
/-- an array's contents become others -/
theorem am_Rel.ast {S : SV} {G : va_G} {dT : Nat → ClassId} {A : Nat → Prop} {ad : Nat → Nat → Nat} {it : List (Nat × Nat)} {σ σ' : HS} {H H1 : Heap} (hR : am_Rel S G dT A ad it σ H) {p a : Nat} (hp : it[p]? = some (a, 0)) (ha : 22 ≤ a) {w : vp_A} (hw : w = am_av S ad σ' a)
    (h1 : ∀ c' k' i', k' < am_nf c' → am_fv S σ' c' k' i' = am_fv S σ c' k' i') (h2 : ∀ a', a' < 100 → a' ≠ a → am_av S ad σ' a' = am_av S ad σ a') (h2' : ∀ a' j, a' < 100 → am_v S σ (.inr (.inr (gR S σ a' j))) → am_v S σ (.inr (.inr (gR S σ' a' j)))) (h3 : ∀ c, gC S σ' c = gC S σ c)
    (hP : va_P G vwCl ((am_WL S dT ad σ it).set p (ad a 0, .inl (dT (am_tn a), w))) H1) (hD : va_D A ((am_WL S dT ad σ it).set p (ad a 0, .inl (dT (am_tn a), w)))) : am_Rel S G dT A ad it σ' H1 := by
  have hm : ∀ q', q' ∈ it → q'.1 < 100 ∧ (¬ q'.1 < 13 → q'.2 = 0) := fun q' hq => by
    rcases ((hR.2.2.1 q').mp hq).1 with h | h
    · exact ⟨by omega, fun h' => absurd h h'⟩
    · exact ⟨by omega, fun _ => h.2.2⟩
  refine am_Rel.set hR (q := (a, 0)) hp ?_ ?_ h3 ?_ hP hD
  · rw [am_ce_a ha, hw]
  · intro q' hq hne
    unfold am_ce
    by_cases h : q'.1 < 13
    · rw [if_pos h, if_pos h]
      congr 2
      unfold am_fs
      apply List.map_congr_left
      intro k' hk'
      rw [h1 q'.1 k' q'.2 (List.mem_range.mp hk')]
    · rw [if_neg h, if_neg h, h2 _ (hm _ hq).1 (fun e => hne (Prod.ext e ((hm _ hq).2 h)))]
  · intro q' hq
    obtain ⟨r1, r2⟩ := hR.2.2.2 q' hq
    refine ⟨fun hl k' hk' => am_v_congr h3 ?_, fun hl j => am_v_congr h3 ?_⟩
    · rw [h1 _ _ _ hk']
      exact r1 hl k' hk'
    · exact h2' _ _ (hm _ hq).1 (r2 hl j)
/-! which registers a store touches -/
theorem fv_sI {S : SV} {σ : HS} {c k i : Nat} {x : Int32} (hk : k < am_nf c) : ∀ c' k' i', k' < am_nf c' → ¬ (c' = c ∧ k' = k ∧ i' = i) → am_fv S (sI σ (100 * (c + 1) + k) i x) c' k' i' = am_fv S σ c' k' i' := by
  intro c' k' i' hk' hn
  have h1 := am_nf_lt c
  have h2 := am_nf_lt c'
  have e : gI (sI σ (100 * (c + 1) + k) i x) (100 * (c' + 1) + k') i' = gI σ (100 * (c' + 1) + k') i' := by
    rw [gI_sI]
    by_cases e1 : 100 * (c' + 1) + k' = 100 * (c + 1) + k
    · rw [if_pos e1]
      by_cases e2 : i' = i
      · exact absurd ⟨by omega, by omega, e2⟩ hn
      · rw [if_neg e2]
    · rw [if_neg e1]
  unfold am_fv
  rw [e]; rfl
theorem fv_sL {S : SV} {σ : HS} {c k i : Nat} {x : Int64} (hk : k < am_nf c) : ∀ c' k' i', k' < am_nf c' → ¬ (c' = c ∧ k' = k ∧ i' = i) → am_fv S (sL σ (100 * (c + 1) + k) i x) c' k' i' = am_fv S σ c' k' i' := by
  intro c' k' i' hk' hn
  have h1 := am_nf_lt c
  have h2 := am_nf_lt c'
  have e : gL (sL σ (100 * (c + 1) + k) i x) (100 * (c' + 1) + k') i' = gL σ (100 * (c' + 1) + k') i' := by
    rw [gL_sL]
    by_cases e1 : 100 * (c' + 1) + k' = 100 * (c + 1) + k
    · rw [if_pos e1]
      by_cases e2 : i' = i
      · exact absurd ⟨by omega, by omega, e2⟩ hn
      · rw [if_neg e2]
    · rw [if_neg e1]
  unfold am_fv
  rw [e]; rfl
theorem fv_sQ {S : SV} {σ : HS} {c k i : Nat} {x : Option (Nat × Nat)} (hS : S.1 (100 * (c + 1) + k) = none) (hk : k < am_nf c) : ∀ c' k' i', k' < am_nf c' → ¬ (c' = c ∧ k' = k ∧ i' = i) → am_fv S (sQ σ (100 * (c + 1) + k) i x) c' k' i' = am_fv S σ c' k' i' := by
  intro c' k' i' hk' hn
  have h1 := am_nf_lt c
  have h2 := am_nf_lt c'
  have e : gR S (sQ σ (100 * (c + 1) + k) i x) (100 * (c' + 1) + k') i' = gR S σ (100 * (c' + 1) + k') i' := by
    rw [gR_sQ _ _ _ _ _ _ _ hS]
    by_cases e1 : 100 * (c' + 1) + k' = 100 * (c + 1) + k
    · rw [if_pos e1]
      by_cases e2 : i' = i
      · exact absurd ⟨by omega, by omega, e2⟩ hn
      · rw [if_neg e2]
    · rw [if_neg e1]
  unfold am_fv
  rw [e]; rfl
theorem av_sI {S : SV} {ad : Nat → Nat → Nat} {σ : HS} {f i : Nat} {x : Int32} : ∀ a, a ≠ f → am_av S ad (sI σ f i x) a = am_av S ad σ a := by
  intro a h
  unfold am_av
  have e : (fun j => gI (sI σ f i x) a j) = fun j => gI σ a j := by
    funext j; rw [gI_sI, if_neg h]
  rw [e]; rfl
theorem av_sJ {S : SV} {ad : Nat → Nat → Nat} {σ : HS} {f : Nat} {g : Nat → Int32} : ∀ a, a ≠ f → am_av S ad (sJ σ f g) a = am_av S ad σ a := by
  intro a h
  unfold am_av
  have e : (fun j => gI (sJ σ f g) a j) = fun j => gI σ a j := by
    funext j; rw [gI_sJ, if_neg h]
  rw [e]; rfl
theorem av_sL {S : SV} {ad : Nat → Nat → Nat} {σ : HS} {f i : Nat} {x : Int64} : ∀ a, a ≠ f → am_av S ad (sL σ f i x) a = am_av S ad σ a := by
  intro a h
  unfold am_av
  have e : (fun j => gL (sL σ f i x) a j) = fun j => gL σ a j := by
    funext j; rw [gL_sL, if_neg h]
  rw [e]; rfl
theorem av_sQ {S : SV} {ad : Nat → Nat → Nat} {σ : HS} {f i : Nat} {x : Option (Nat × Nat)} (hS : S.1 f = none) : ∀ a, a ≠ f → am_av S ad (sQ σ f i x) a = am_av S ad σ a := by
  intro a h
  unfold am_av
  have e : (fun j => (gR S (sQ σ f i x) a j).map (fun q => ad q.1 q.2)) = fun j => (gR S σ a j).map (fun q => ad q.1 q.2) := by
    funext j; rw [gR_sQ _ _ _ _ _ _ _ hS, if_neg h]
  rw [e]; rfl
theorem fv_sIa {S : SV} {σ : HS} {a i : Nat} {x : Int32} (ha : a < 100) : ∀ c' k' i', k' < am_nf c' → am_fv S (sI σ a i x) c' k' i' = am_fv S σ c' k' i' := by
  intro c' k' i' hk'
  have e : gI (sI σ a i x) (100 * (c' + 1) + k') i' = gI σ (100 * (c' + 1) + k') i' := by rw [gI_sI, if_neg (by omega)]
  unfold am_fv
  rw [e]; rfl
theorem fv_sJa {S : SV} {σ : HS} {a : Nat} {g : Nat → Int32} (ha : a < 100) : ∀ c' k' i', k' < am_nf c' → am_fv S (sJ σ a g) c' k' i' = am_fv S σ c' k' i' := by
  intro c' k' i' hk'
  have e : gI (sJ σ a g) (100 * (c' + 1) + k') i' = gI σ (100 * (c' + 1) + k') i' := by rw [gI_sJ, if_neg (by omega)]
  unfold am_fv
  rw [e]; rfl
theorem fv_sLa {S : SV} {σ : HS} {a i : Nat} {x : Int64} (ha : a < 100) : ∀ c' k' i', k' < am_nf c' → am_fv S (sL σ a i x) c' k' i' = am_fv S σ c' k' i' := by
  intro c' k' i' hk'
  have e : gL (sL σ a i x) (100 * (c' + 1) + k') i' = gL σ (100 * (c' + 1) + k') i' := by rw [gL_sL, if_neg (by omega)]
  unfold am_fv
  rw [e]; rfl
theorem fv_sQa {S : SV} {σ : HS} {a i : Nat} {x : Option (Nat × Nat)} (hS : S.1 a = none) (ha : a < 100) : ∀ c' k' i', k' < am_nf c' → am_fv S (sQ σ a i x) c' k' i' = am_fv S σ c' k' i' := by
  intro c' k' i' hk'
  have e : gR S (sQ σ a i x) (100 * (c' + 1) + k') i' = gR S σ (100 * (c' + 1) + k') i' := by rw [gR_sQ _ _ _ _ _ _ _ hS, if_neg (by omega)]
  unfold am_fv
  rw [e]; rfl
