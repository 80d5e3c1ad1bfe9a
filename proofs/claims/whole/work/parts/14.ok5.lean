/-! ===== what is new: objects and arrays ===== -/
def am_up2 (ad : Nat → Nat → Nat) (c i q : Nat) : Nat → Nat → Nat := fun c' i' => if c' = c ∧ i' = i then q else ad c' i'
theorem am_up2_v {S : SV} {σ : HS} {ad : Nat → Nat → Nat} {c i q : Nat} (hi : gC S σ c ≤ i) {v : AV} (hv : am_v S σ v) : cv (am_up2 ad c i q) v = cv ad v := by
  match v, hv with
  | .inl _, _ => rfl
  | .inr (.inl _), _ => rfl
  | .inr (.inr none), _ => rfl
  | .inr (.inr (some x)), hv =>
    show va_rf (some (am_up2 ad c i q x.1 x.2)) = va_rf (some (ad x.1 x.2))
    unfold am_up2
    rw [if_neg]
    rintro ⟨h1, h2⟩
    have : x.2 < gC S σ x.1 := hv
    rw [h1, h2] at this
    omega
theorem am_up2_st {S : SV} {σ : HS} {ad ad' : Nat → Nat → Nat} (h : ∀ v, am_v S σ v → cv ad' v = cv ad v) : ∀ (st : List AV), am_vs S σ st → st.map (cv ad') = st.map (cv ad)
  | [], _ => rfl
  | v :: r, hv => by rw [List.map_cons, List.map_cons, h v hv.1, am_up2_st h r hv.2]
theorem am_vo_ld {S : SV} {σ : HS} : ∀ {ls : ALs} {k : Nat} {v : AV}, am_vo S σ ls → am_ld ls k = some v → am_v S σ v
  | [], k, v, _, h => by simp [am_ld] at h
  | none :: r, 0, v, _, h => by simp [am_ld] at h
  | none :: r, k + 1, v, hv, h => am_vo_ld (ls := r) (k := k) hv (by simpa [am_ld] using h)
  | some w :: r, 0, v, hv, h => by
    simp only [am_ld, Option.some.injEq] at h
    subst h
    exact hv.1
  | some w :: r, k + 1, v, hv, h => am_vo_ld (ls := r) (k := k) hv.2 (by simpa [am_ld] using h)
theorem lR.up {S : SV} {σ : HS} {ad ad' : Nat → Nat → Nat} {nL : Nat} {ls : ALs} {lsj : Array Slot} (h : lR ad nL ls lsj) (hv : am_vo S σ ls) (ha : ∀ v, am_v S σ v → cv ad' v = cv ad v) : lR ad' nL ls lsj :=
  ⟨h.1, h.2.1, h.2.2.1, fun k v hk => by rw [ha v (am_vo_ld hv hk)]; exact h.2.2.2 k v hk⟩
/-- the picture behind a cell that is new -/
theorem am_Rel.new {S : SV} {G : va_G} {dT : Nat → ClassId} {A : Nat → Prop} {ad : Nat → Nat → Nat} {it : List (Nat × Nat)} {σ σ' : HS} {H H1 : Heap} (hR : am_Rel S G dT A ad it σ H) {c i q : Nat} (hid : am_id (c, i)) (hi : gC S σ c = i) (hc : ∀ c', gC S σ' c' = if c' = c then i + 1 else gC S σ c') {e : va_E} (he : e = am_ce S dT (am_up2 ad c i q) σ' (c, i))
    (h1 : ∀ c' k' i', k' < am_nf c' → ¬ (c' = c ∧ i' = i) → am_fv S σ' c' k' i' = am_fv S σ c' k' i') (h2 : ∀ a, 22 ≤ a → a < 92 → a ≠ c → (∀ j, gI σ' a j = gI σ a j) ∧ (∀ j, gL σ' a j = gL σ a j) ∧ ∀ j, gR S σ' a j = gR S σ a j) (h4 : am_rv S σ' (c, i))
    (hP : va_P G vwCl ((am_WL S dT ad σ it) ++ [(q, e)]) H1) (hD : va_D A ((am_WL S dT ad σ it) ++ [(q, e)])) : am_Rel S G dT A (am_up2 ad c i q) (it ++ [(c, i)]) σ' H1 := by
  have hni : ∀ q' ∈ it, ¬ (q'.1 = c ∧ q'.2 = i) := by
    rintro ⟨a1, a2⟩ hq ⟨e1, e2⟩
    have := ((hR.2.2.1 _).mp hq).2
    dsimp only at this e1 e2
    subst e1; subst e2
    omega
  have hv : ∀ v, am_v S σ v → cv (am_up2 ad c i q) v = cv ad v := fun v h => am_up2_v (by omega) h
  have hvv : ∀ v, am_v S σ v → am_v S σ' v := by
    intro v h
    match v, h with
    | .inl _, _ => trivial
    | .inr (.inl _), _ => trivial
    | .inr (.inr none), _ => trivial
    | .inr (.inr (some x)), h =>
      show x.2 < gC S σ' x.1
      have h0 : x.2 < gC S σ x.1 := h
      rw [hc]
      by_cases e0 : x.1 = c
      · rw [if_pos e0]; rw [e0] at h0; omega
      · rw [if_neg e0]; exact h0
  have hW : am_WL S dT (am_up2 ad c i q) σ' (it ++ [(c, i)]) = am_WL S dT ad σ it ++ [(q, e)] := by
    unfold am_WL
    rw [List.map_append]
    congr 1
    · apply List.map_congr_left
      intro q' hq
      have hn := hni q' hq
      have e1 : am_up2 ad c i q q'.1 q'.2 = ad q'.1 q'.2 := if_neg hn
      rw [e1]
      congr 1
      unfold am_ce
      obtain ⟨r1, r2⟩ := hR.2.2.2 q' hq
      by_cases h13 : q'.1 < 13
      · rw [if_pos h13, if_pos h13]
        congr 2
        unfold am_fs
        apply List.map_congr_left
        intro k' hk'
        have hk2 := List.mem_range.mp hk'
        rw [h1 _ _ _ hk2 hn]
        exact hv _ (r1 h13 k' hk2)
      · rw [if_neg h13, if_neg h13]
        congr 2
        have hidq := ((hR.2.2.1 _).mp hq).1
        have h22 : 22 ≤ q'.1 ∧ q'.1 < 92 ∧ q'.2 = 0 := by
          rcases hidq with h | h
          · exact absurd h h13
          · exact h
        have hne : q'.1 ≠ c := by
          intro e0
          have := ((hR.2.2.1 _).mp hq).2
          rw [e0, hi] at this
          rcases hid with h | h
          · dsimp only at h; omega
          · have h0 : i = 0 := h.2.2
            omega
        obtain ⟨x1, x2, x3⟩ := h2 _ h22.1 h22.2.1 hne
        unfold am_av
        congr 1
        split
        · congr 1; funext j; exact x1 j
        · split
          · congr 2; funext j; exact x2 j
          · rename_i n1 n2
            congr 5
            funext j
            rw [x3]
            have hr := r2 (by omega) j
            cases hg : gR S σ q'.1 j with
            | none => rfl
            | some x =>
              rw [hg] at hr
              have := hv _ hr
              simp only [cv, va_rf, Option.map_some, Value.ref.injEq] at this
              simp only [Option.map_some, this]
    · simp only [List.map_cons, List.map_nil]
      rw [he]
      congr 2
      exact if_pos ⟨rfl, rfl⟩
  refine ⟨by rw [hW]; exact hP, by rw [hW]; exact hD, fun q' => ?_, fun q' hq => ?_⟩
  · rw [List.mem_append, hR.2.2.1 q', List.mem_singleton, hc]
    constructor
    · rintro (⟨g1, g2⟩ | rfl)
      · refine ⟨g1, ?_⟩
        split
        · rename_i e0; rw [e0] at g2; omega
        · exact g2
      · exact ⟨hid, by rw [if_pos rfl]; show i < i + 1; omega⟩
    · rintro ⟨g1, g2⟩
      split at g2
      · rename_i e0
        by_cases e2 : q'.2 = i
        · exact Or.inr (Prod.ext e0 e2)
        · exact Or.inl ⟨g1, by rw [e0]; omega⟩
      · exact Or.inl ⟨g1, g2⟩
  · rcases List.mem_append.mp hq with hq | hq
    · obtain ⟨r1, r2⟩ := hR.2.2.2 q' hq
      have hn := hni q' hq
      refine ⟨fun h13 k hk => ?_, fun h90 j => ?_⟩
      · rw [h1 _ _ _ hk hn]
        exact hvv _ (r1 h13 k hk)
      · have hidq := ((hR.2.2.1 _).mp hq).1
        have h22 : 22 ≤ q'.1 ∧ q'.1 < 92 ∧ q'.2 = 0 := by
          rcases hidq with h | h
          · omega
          · exact h
        have hne : q'.1 ≠ c := by
          intro e0
          have := ((hR.2.2.1 _).mp hq).2
          rw [e0, hi] at this
          rcases hid with h | h
          · dsimp only at h; omega
          · have h0 : i = 0 := h.2.2
            omega
        rw [(h2 _ h22.1 h22.2.1 hne).2.2]
        exact hvv _ (r2 h90 j)
    · rw [List.mem_singleton.mp hq]
      exact h4
/-- behind something new: what holds of the frame -/
theorem am_Iv.new {S : SV} {κ : KI} {s : State} {G : va_G} {dT : Nat → ClassId} {A : Nat → Prop} {ad0 ad : Nat → Nat → Nat} {σ0 σ σ' : HS} {ls : ALs} {a b : Nat} {it it' : List (Nat × Nat)} {H H1 : Heap} {locs locs1 : List Loc} {lsj : Array Slot} (I : am_Iv S κ s G dT A ad0 σ0 ls σ a b ad it H locs lsj) {c i q n : Nat} (hi : gC S σ c = i) (h20 : c ≠ 20) (h21 : c ≠ 21) (hc : ∀ c', gC S σ' c' = if c' = c then i + 1 else gC S σ c') (hv : am_vo S σ ls) (hro : am_ro σ0 σ → am_ro σ0 σ') (ha : a + 1 ≤ κ.2.2.2.2.1) (hb : b + n ≤ κ.2.2.2.2.2.1)
    (hR : am_Rel S G dT A (am_up2 ad c i q) it' σ' H1) (hS : va_S A s.heap H1 locs1) : am_Iv S κ s G dT A ad0 σ0 ls σ' (a + 1) (b + n) (am_up2 ad c i q) it' H1 locs1 lsj := by
  refine ⟨hR, hro I.2.1, ⟨fun c' i' h => ?_, ?_, ?_⟩, fun h => (by omega), I.2.2.2.2.1.up hv (fun v h => am_up2_v (by omega) h), hS, ha, hb⟩
  · obtain ⟨g1, g2⟩ := I.2.2.1.1 c' i' h
    refine ⟨?_, ?_⟩
    · rw [hc]
      split
      · rename_i e0; rw [e0] at g1; omega
      · exact g1
    · rw [← g2]
      unfold am_up2
      rw [if_neg]
      rintro ⟨e1, e2⟩
      rw [e1, e2] at g1
      omega
  · rw [← I.2.2.1.2.1]; unfold am_up2; rw [if_neg]; rintro ⟨e1, -⟩; exact h20 e1.symm
  · rw [← I.2.2.1.2.2]; unfold am_up2; rw [if_neg]; rintro ⟨e1, -⟩; exact h21 e1.symm
theorem gC_sO {S : SV} {σ : HS} {c i : Nat} (h : S.2.1 c = none) (c' : Nat) : gC S (sO σ c i) c' = if c' = c then i + 1 else gC S σ c' := by
  unfold gC
  by_cases e : c' = c
  · subst e
    rw [h, if_pos rfl]
    exact if_pos rfl
  · rw [if_neg e]
    cases S.2.1 c' with
    | none => exact if_neg e
    | some n => rfl
theorem gC_sA {S : SV} {σ : HS} {c : Nat} (h : S.2.1 c = none) (c' : Nat) : gC S (sA σ c) c' = if c' = c then 0 + 1 else gC S σ c' := by
  unfold gC
  by_cases e : c' = c
  · subst e
    rw [h, if_pos rfl]
    exact if_pos rfl
  · rw [if_neg e]
    cases S.2.1 c' with
    | none => exact if_neg e
    | some n => rfl
theorem gI_sO (σ : HS) (c i f' i' : Nat) : gI (sO σ c i) f' i' = if f' / 100 = c + 1 then (if i' = i then 0 else gI σ f' i') else gI σ f' i' := rfl
theorem gL_sO (σ : HS) (c i f' i' : Nat) : gL (sO σ c i) f' i' = if f' / 100 = c + 1 then (if i' = i then 0 else gL σ f' i') else gL σ f' i' := rfl
theorem gQ_sO (σ : HS) (c i f' i' : Nat) : gQ (sO σ c i) f' i' = if f' / 100 = c + 1 then (if i' = i then none else gQ σ f' i') else gQ σ f' i' := rfl
theorem gR_sO (S : SV) (σ : HS) (c i f' i' : Nat) (h : ¬ (f' / 100 = c + 1 ∧ i' = i)) : gR S (sO σ c i) f' i' = gR S σ f' i' := by
  unfold gR
  cases S.1 f' with
  | some r => rfl
  | none =>
    show gQ (sO σ c i) f' i' = gQ σ f' i'
    rw [gQ_sO]
    split
    · rename_i e
      rw [if_neg (fun z => h ⟨e, z⟩)]
    · rfl
theorem am_fv_sO_other {S : SV} {σ : HS} {c i : Nat} : ∀ c' k' i', k' < am_nf c' → ¬ (c' = c ∧ i' = i) → am_fv S (sO σ c i) c' k' i' = am_fv S σ c' k' i' := by
  intro c' k' i' hk' hn
  have h2 := am_nf_lt c'
  have hdiv : (100 * (c' + 1) + k') / 100 = c' + 1 := by omega
  have e1 : gI (sO σ c i) (100 * (c' + 1) + k') i' = gI σ (100 * (c' + 1) + k') i' := by
    rw [gI_sO, hdiv]
    split
    · rw [if_neg (fun z => hn ⟨by omega, z⟩)]
    · rfl
  have e2 : gL (sO σ c i) (100 * (c' + 1) + k') i' = gL σ (100 * (c' + 1) + k') i' := by
    rw [gL_sO, hdiv]
    split
    · rw [if_neg (fun z => hn ⟨by omega, z⟩)]
    · rfl
  have e3 : gR S (sO σ c i) (100 * (c' + 1) + k') i' = gR S σ (100 * (c' + 1) + k') i' := gR_sO S σ c i _ _ (fun z => hn ⟨by omega, z.2⟩)
  unfold am_fv
  rw [e1, e2, e3]
theorem am_fv_sO_new {S : SV} {σ : HS} {c i k : Nat} (hk : k < am_nf c) (hS : am_kd (am_ty c k) = 2 → S.1 (100 * (c + 1) + k) = none) (hfl : am_ty c k ≠ .float ∧ am_ty c k ≠ .double) : am_v S (sO σ c i) (am_fv S (sO σ c i) c k i) ∧ ∀ ad, cv ad (am_fv S (sO σ c i) c k i) = defaultValue (am_ty c k) := by
  have h2 := am_nf_lt c
  have hdiv : (100 * (c + 1) + k) / 100 = c + 1 := by omega
  have e1 : gI (sO σ c i) (100 * (c + 1) + k) i = 0 := by rw [gI_sO, hdiv, if_pos rfl, if_pos rfl]
  have e2 : gL (sO σ c i) (100 * (c + 1) + k) i = 0 := by rw [gL_sO, hdiv, if_pos rfl, if_pos rfl]
  have e3 : am_kd (am_ty c k) = 2 → gR S (sO σ c i) (100 * (c + 1) + k) i = none := by
    intro h
    unfold gR
    rw [hS h]
    show gQ (sO σ c i) (100 * (c + 1) + k) i = none
    rw [gQ_sO, hdiv, if_pos rfl, if_pos rfl]
  have hf : (am_fv S (sO σ c i) c k i = .inl 0 ∧ am_kd (am_ty c k) = 0) ∨ (am_fv S (sO σ c i) c k i = .inr (.inl 0) ∧ am_kd (am_ty c k) = 1) ∨ (am_fv S (sO σ c i) c k i = .inr (.inr none) ∧ am_kd (am_ty c k) = 2) := by
    unfold am_fv
    rw [e1, e2]
    by_cases g0 : am_kd (am_ty c k) = 0
    · rw [if_pos g0]; exact Or.inl ⟨rfl, g0⟩
    · rw [if_neg g0]
      by_cases g1 : am_kd (am_ty c k) = 1
      · rw [if_pos g1]; exact Or.inr (Or.inl ⟨rfl, g1⟩)
      · have g2 : am_kd (am_ty c k) = 2 := by
          generalize am_ty c k = t at g0 g1 ⊢
          cases t <;> simp_all [am_kd]
        rw [if_neg g1, e3 g2]; exact Or.inr (Or.inr ⟨rfl, g2⟩)
  rcases hf with ⟨e, g⟩ | ⟨e, g⟩ | ⟨e, g⟩ <;> rw [e]
  · refine ⟨trivial, fun ad => ?_⟩
    generalize hty : am_ty c k = t at g hfl
    cases t <;> first | rfl | exact absurd rfl hfl.1 | exact absurd rfl hfl.2 | (simp [am_kd] at g)
  · refine ⟨trivial, fun ad => ?_⟩
    generalize hty : am_ty c k = t at g
    cases t <;> first | rfl | (simp [am_kd] at g)
  · refine ⟨trivial, fun ad => ?_⟩
    generalize hty : am_ty c k = t at g
    cases t <;> first | rfl | (simp [am_kd] at g)

theorem o_new {S : SV} {l : Launch} {κ : KI} {pc c ix N : Nat} {Cn : String} {T : u_T} {ty : Nat → FieldType} (L : am_CL c Cn T N ty) (hS : S.2.1 c = none → ∀ k, k < N → (am_kd (ty k) = 2 → S.1 (100 * (c + 1) + k) = none) ∧ ty k ≠ .float ∧ ty k ≠ .double) (h1 : Cond.classLink κ.1.cls ix Cn ∈ TB) (h2 : Cond.instantiable Cn N ∈ TB) (h3 : Cond.initialized Cn ∈ TB) (hd : decode κ.2.1 pc = .ok (.new ix, 3)) : am_Ok S l κ pc (i_new S c N κ.2.2.2.2.1 κ.2.2.2.2.2.1 (pc + 3)) := by
  intro p e R s m args below meth cd G dT A ad0 σ0 Qf Q C Rt ls st σ a b h ad it H locs lsj I
  obtain ⟨e1, e2, e3, e4, e5, h6⟩ := h
  obtain ⟨hc, hcl, hN, hty, hin, htk, hnm⟩ := L
  have hg : gC S σ c = gN σ c := by unfold gC; rw [e1]
  have hnew : ∀ k, k < N → am_v S (sO σ c (gN σ c)) (am_fv S (sO σ c (gN σ c)) c k (gN σ c)) ∧ ∀ ad, cv ad (am_fv S (sO σ c (gN σ c)) c k (gN σ c)) = defaultValue (am_ty c k) := fun k hk => by
    have := hS e1 k hk
    rw [hty] at this
    exact am_fv_sO_new (by rw [← hN]; exact hk) this.1 this.2
  have hcc := C.2.2.2.2.2.2.2.2.2.1
  have hcs := C.2.2.2.2.2.2.2.2.2.2.1
  refine va_new (fs := am_fs S ad (sO σ c (gN σ c)) c (gN σ c)) C.1 C.2.1 C.2.2.2.2.1 hin ty htk C.2.2.2.1 (C.2.2.2.2.1 _ h1) (C.2.2.2.2.1 _ h2) (C.2.2.2.2.1 _ h3) C.2.2.2.2.2.1.1 I.1.1 I.1.2.1 I.2.2.2.2.2.1 C.2.2.2.2.2.2.2.1 hcl (fun j hj => ?_) (by omega) (by omega) hd (fun q H1 hP hD hS2 => ?_)
  · rw [hty, ← (hnew j hj).2 ad]
    unfold vp_V
    rw [List.getD_eq_getElem?_getD, am_fs_at (by rw [← hN]; exact hj)]
    rfl
  · have hce : (.inr (c, am_fs S ad (sO σ c (gN σ c)) c (gN σ c)) : va_E) = am_ce S dT (am_up2 ad c (gN σ c) q) (sO σ c (gN σ c)) (c, gN σ c) := by
      rw [am_ce_o hc]
      congr 2
      unfold am_fs
      apply List.map_congr_left
      intro k hk
      have hk2 : k < N := by rw [hN]; exact List.mem_range.mp hk
      rw [(hnew k hk2).2, (hnew k hk2).2]
    have hRel := am_Rel.new (σ' := sO σ c (gN σ c)) I.1 (Or.inl hc) hg (gC_sO e1) hce am_fv_sO_other (fun a ha1 ha2 _ => ⟨fun j => by rw [gI_sO, if_neg (by omega)], fun j => by rw [gL_sO, if_neg (by omega)], fun j => gR_sO S σ c _ a j (fun z => by omega)⟩) ⟨fun _ k hk => (hnew k (by rw [hN]; exact hk)).1, fun h90 => (by dsimp only at h90; omega)⟩ hP hD
    have h7 := h6 _ _ H1 locs lsj (I.new hg (by omega) (by omega) (gC_sO e1) e2 (fun hr => ⟨fun j => by rw [gI_sO, if_neg (by omega)]; exact hr.1 j, fun j => by rw [gI_sO, if_neg (by omega)]; exact hr.2 j⟩) e4 e5 hRel hS2)
    have hst : List.map (cv (am_up2 ad c (gN σ c) q)) (.inr (.inr (some (c, gN σ c))) :: st) = .ref q :: st.map (cv ad) := by
      rw [List.map_cons, am_up2_st (fun v hv => am_up2_v (by omega) hv) st e3]
      congr 1
      show va_rf (some (am_up2 ad c (gN σ c) q c (gN σ c))) = .ref q
      unfold am_up2
      rw [if_pos ⟨rfl, rfl⟩]; rfl
    rw [hst] at h7
    exact h7
theorem gI_sA (σ : HS) (a f' i' : Nat) : gI (sA σ a) f' i' = if f' = a then 0 else gI σ f' i' := rfl
theorem gL_sA (σ : HS) (a f' i' : Nat) : gL (sA σ a) f' i' = if f' = a then 0 else gL σ f' i' := rfl
theorem gR_sA (S : SV) (σ : HS) (a f' i' : Nat) (h : S.1 a = none) : gR S (sA σ a) f' i' = if f' = a then none else gR S σ f' i' := by
  unfold gR
  by_cases e : f' = a
  · subst e
    rw [h, if_pos rfl]
    exact if_pos rfl
  · rw [if_neg e]
    cases S.1 f' with
    | none => exact if_neg e
    | some r => rfl
theorem am_fv_sA {S : SV} {σ : HS} {a : Nat} (hS : S.1 a = none) (ha : a < 100) : ∀ c' k' i', k' < am_nf c' → am_fv S (sA σ a) c' k' i' = am_fv S σ c' k' i' := by
  intro c' k' i' hk'
  have hne : ¬ 100 * (c' + 1) + k' = a := by omega
  have e1 : gI (sA σ a) (100 * (c' + 1) + k') i' = gI σ (100 * (c' + 1) + k') i' := by rw [gI_sA, if_neg hne]
  have e2 : gL (sA σ a) (100 * (c' + 1) + k') i' = gL σ (100 * (c' + 1) + k') i' := by rw [gL_sA, if_neg hne]
  have e3 : gR S (sA σ a) (100 * (c' + 1) + k') i' = gR S σ (100 * (c' + 1) + k') i' := by rw [gR_sA _ _ _ _ _ hS, if_neg hne]
  unfold am_fv
  rw [e1, e2, e3]
/-- behind a new array -/
theorem am_newa {S : SV} {κ : KI} {s : State} {G : va_G} {dT : Nat → ClassId} {A : Nat → Prop} {ad0 ad : Nat → Nat → Nat} {σ0 σ : HS} {ls : ALs} {st : List AV} {a b : Nat} {it : List (Nat × Nat)} {H H1 : Heap} {locs : List Loc} {lsj : Array Slot} (I : am_Iv S κ s G dT A ad0 σ0 ls σ a b ad it H locs lsj) {x q : Nat} (hx : 22 ≤ x) (hx2 : x < 92) (e1 : S.2.1 x = none) (e2 : S.1 x = none) (e3 : gN σ x = 0) (e4 : am_vo S σ ls) (e5 : am_vs S σ st) (ha : a + 1 ≤ κ.2.2.2.2.1) (hb : b + S.2.2 x ≤ κ.2.2.2.2.2.1)
    (hP : va_P G vwCl ((am_WL S dT ad σ it) ++ [(q, .inl (dT (am_tn x), am_av S (am_up2 ad x 0 q) (sA σ x) x))]) H1) (hD : va_D A ((am_WL S dT ad σ it) ++ [(q, .inl (dT (am_tn x), am_av S (am_up2 ad x 0 q) (sA σ x) x))])) (hS : va_S A s.heap H1 locs) :
    am_Iv S κ s G dT A ad0 σ0 ls (sA σ x) (a + 1) (b + S.2.2 x) (am_up2 ad x 0 q) (it ++ [(x, 0)]) H1 locs lsj ∧ List.map (cv (am_up2 ad x 0 q)) (.inr (.inr (some (x, 0))) :: st) = .ref q :: st.map (cv ad) := by
  have hg : gC S σ x = 0 := by unfold gC; rw [e1]; exact e3
  have hRel := am_Rel.new (σ' := sA σ x) I.1 (c := x) (i := 0) (q := q) (Or.inr ⟨hx, hx2, rfl⟩) hg (gC_sA e1) (by rw [am_ce_a hx]) (fun c' k' i' hk' _ => am_fv_sA e2 (by omega) c' k' i' hk') (fun a ha1 ha2 hne => ⟨fun j => by rw [gI_sA, if_neg hne], fun j => by rw [gL_sA, if_neg hne], fun j => by rw [gR_sA _ _ _ _ _ e2, if_neg hne]⟩) ⟨fun h13 => (by dsimp only at h13; omega), fun _ j => by rw [gR_sA _ _ _ _ _ e2, if_pos rfl]; trivial⟩ hP hD
  refine ⟨I.new hg (by omega) (by omega) (gC_sA e1) e4 (fun hr => ⟨fun j => by rw [gI_sA, if_neg (by omega)]; exact hr.1 j, fun j => by rw [gI_sA, if_neg (by omega)]; exact hr.2 j⟩) ha hb hRel hS, ?_⟩
  rw [List.map_cons, am_up2_st (fun v hv => am_up2_v (by omega) hv) st e5]
  congr 1
  show va_rf (some (am_up2 ad x 0 q x 0)) = .ref q
  unfold am_up2
  rw [if_pos ⟨rfl, rfl⟩]; rfl
theorem am_cA {G : va_G} {dT : Nat → ClassId} {s : State} {tys : List (ClassId × FieldType)} {cA : ClassId} {ty : FieldType} {t0 : Nat} {x : ClassId} (hK : va_K G vwCl (tysF dT) s) (ht : (tysF dT)[t0]? = some (x, ty)) (hK2 : va_K G vwCl (tys ++ [(cA, ty)]) s) : cA = x := by
  have h1 := (hK.2 t0 _ ht).2
  have h2 := (hK2.2 tys.length (cA, ty) (by rw [List.getElem?_append_right (Nat.le_refl _), Nat.sub_self]; rfl)).2
  dsimp only at h1 h2
  cases ty with
  | object Cn =>
    obtain ⟨_, _, -, -, -, g1⟩ := h1
    obtain ⟨_, _, -, -, -, g2⟩ := h2
    exact Option.some.inj (g2.symm.trans g1)
  | _ => exact Option.some.inj (h2.symm.trans h1)
theorem o_newI {S : SV} {l : Launch} {κ : KI} {pc x : Nat} {at' : ArrayType} {ty : FieldType} {t0 : Nat} (hty : newarray.typeOf at' = ty) (hx : 22 ≤ x) (hx2 : x < 85) (ht0 : ∀ dT : Nat → ClassId, (tysF dT)[t0]? = some (dT (am_tn x), ty)) (hdv : defaultValue ty = .int 0) (hl : S.2.2 x < 2 ^ 31) (hcb : S.2.2 x * componentBytes ty ≤ 536870912) (hw : Cond.arrayClass (newarray.typeOf at') ∈ TB) (hd : decode κ.2.1 pc = .ok (.newarray at', 2)) : am_Ok S l κ pc (i_newa S x κ.2.2.2.2.1 κ.2.2.2.2.2.1 (pc + 2)) := by
  intro p e R s m args below meth cd G dT A ad0 σ0 Qf Q C Rt ls st σ a b h ad it H locs lsj I
  unfold i_newa at h
  split at h
  · rename_i n r
    obtain ⟨e1, e2, en, e3, e4, e5, e6, e7, h8⟩ := h
    have hcc := C.2.2.2.2.2.2.2.2.2.1
    have hcs := C.2.2.2.2.2.2.2.2.2.2.1
    subst en
    refine va_newa (a0 := (S.2.2 x, .inl (fun _ => 0))) (ty := ty) C.1 C.2.1 (C.2.2.2.2.1 _ hw) hty C.2.2.2.2.2.1.1 I.1.1 I.1.2.1 I.2.2.2.2.2.1 C.2.2.2.2.2.2.2.1 (fun cA => by rw [vp_cell_i, hdv]) (nI_pos hl) (nI_clamp hl) hcb (by omega) (by omega) hd (fun q cA H1 hK2 hP hD hS2 => ?_)
    have hcA : cA = dT (am_tn x) := am_cA C.2.2.2.2.2.1.1 (ht0 dT) hK2
    subst hcA
    have hav : ((S.2.2 x, .inl (fun _ => 0)) : vp_A) = am_av S (am_up2 ad x 0 q) (sA σ x) x := by
      rw [am_avI hx2]
      congr 2
      funext j
      rw [gI_sA, if_pos rfl]
    rw [hav] at hP hD
    obtain ⟨g1, g2⟩ := am_newa (st := r) I hx (by omega) e1 e2 e3 e4 e5 e6 e7 hP hD hS2
    have h9 := h8 _ _ H1 locs lsj g1
    rw [g2] at h9
    exact h9
  · exact h.elim
theorem o_newL {S : SV} {l : Launch} {κ : KI} {pc x : Nat} (hx : 85 ≤ x) (hx2 : x < 90) (hl : S.2.2 x < 2 ^ 31) (hcb : S.2.2 x * componentBytes .long ≤ 536870912) (hw : Cond.arrayClass .long ∈ TB) (hd : decode κ.2.1 pc = .ok (.newarray .long, 2)) : am_Ok S l κ pc (i_newa S x κ.2.2.2.2.1 κ.2.2.2.2.2.1 (pc + 2)) := by
  intro p e R s m args below meth cd G dT A ad0 σ0 Qf Q C Rt ls st σ a b h ad it H locs lsj I
  unfold i_newa at h
  split at h
  · rename_i n r
    obtain ⟨e1, e2, en, e3, e4, e5, e6, e7, h8⟩ := h
    have hcc := C.2.2.2.2.2.2.2.2.2.1
    have hcs := C.2.2.2.2.2.2.2.2.2.2.1
    subst en
    refine va_newa (a0 := (S.2.2 x, .inr (.inl (fun _ => 0)))) (atype := .long) (ty := .long) C.1 C.2.1 (C.2.2.2.2.1 _ hw) rfl C.2.2.2.2.2.1.1 I.1.1 I.1.2.1 I.2.2.2.2.2.1 C.2.2.2.2.2.2.2.1 (fun cA => by rw [vp_cell_l]; rfl) (nI_pos hl) (nI_clamp hl) hcb (by omega) (by omega) hd (fun q cA H1 hK2 hP hD hS2 => ?_)
    have hcA : cA = dT (am_tn x) := am_cA C.2.2.2.2.2.1.1 (am_tyL hx hx2) hK2
    subst hcA
    have hav : ((S.2.2 x, .inr (.inl (fun _ => 0))) : vp_A) = am_av S (am_up2 ad x 0 q) (sA σ x) x := by
      rw [am_avL hx hx2]
      congr 3
      funext j
      rw [gL_sA, if_pos rfl]
    rw [hav] at hP hD
    obtain ⟨g1, g2⟩ := am_newa (st := r) I (by omega) (by omega) e1 e2 e3 e4 e5 e6 e7 hP hD hS2
    have h9 := h8 _ _ H1 locs lsj g1
    rw [g2] at h9
    exact h9
  · exact h.elim
theorem o_newQ {S : SV} {l : Launch} {κ : KI} {pc x ix : Nat} {Cn : String} {t0 : Nat} (hx : 90 ≤ x) (hx2 : x < 92) (ht0 : ∀ dT : Nat → ClassId, (tysF dT)[t0]? = some (dT (am_tn x), .object Cn)) (hao : Cn = RX3 ∨ Cn = RX10) (hl : S.2.2 x < 2 ^ 31) (hcb : S.2.2 x * 4 ≤ 536870912) (hw : Cond.classLink κ.1.cls ix Cn ∈ TB) (hd : decode κ.2.1 pc = .ok (.anewarray ix, 3)) : am_Ok S l κ pc (i_newa S x κ.2.2.2.2.1 κ.2.2.2.2.2.1 (pc + 3)) := by
  intro p e R s m args below meth cd G dT A ad0 σ0 Qf Q C Rt ls st σ a b h ad it H locs lsj I
  unfold i_newa at h
  split at h
  · rename_i n r
    obtain ⟨e1, e2, en, e3, e4, e5, e6, e7, h8⟩ := h
    have hcc := C.2.2.2.2.2.2.2.2.2.1
    have hcs := C.2.2.2.2.2.2.2.2.2.2.1
    subst en
    have hov : va_AO Cn s := by rcases hao with rfl | rfl; exact C.2.2.2.2.2.1.2.2.1; exact C.2.2.2.2.2.1.2.2.2.1
    refine va_newq C.1 C.2.1 C.2.2.2.1 (C.2.2.2.2.1 _ hw) hov C.2.2.2.2.2.1.1 I.1.1 I.1.2.1 I.2.2.2.2.2.1 C.2.2.2.2.2.2.2.1 (nI_pos hl) (nI_clamp hl) hcb (by omega) (by omega) hd (fun q cA H1 hK2 hP hD hS2 => ?_)
    have hcA : cA = dT (am_tn x) := am_cA C.2.2.2.2.2.1.1 (ht0 dT) hK2
    subst hcA
    have hav : ((S.2.2 x, .inr (.inr (.inr (.inr (fun _ => none))))) : vp_A) = am_av S (am_up2 ad x 0 q) (sA σ x) x := by
      rw [am_avR hx]
      congr 6
      funext j
      rw [gR_sA _ _ _ _ _ e2, if_pos rfl]; rfl
    rw [hav] at hP hD
    obtain ⟨g1, g2⟩ := am_newa (st := r) I (by omega) (by omega) e1 e2 e3 e4 e5 e6 e7 hP hD hS2
    have h9 := h8 _ _ H1 locs lsj g1
    rw [g2] at h9
    exact h9
  · exact h.elim
