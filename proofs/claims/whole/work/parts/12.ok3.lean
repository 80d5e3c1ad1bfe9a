theorem o_lookup {S : SV} {l : Launch} {κ : KI} {pc : Nat} {ps : List (Int32 × Nat)} {d len : Nat} {dflt : Int} {prs : Array (Int × Int)} (ht : (pc : Int) + dflt = (d : Int)) (hs : (prs.toList.zip (prs.toList.drop 1)).all (fun (a, next) => a.1 < next.1) = true) (hp : prs.toList = ps.map (fun q => (q.1.toInt, (q.2 : Int) - pc))) (hd : decode κ.2.1 pc = .ok (.lookupswitch dflt prs, len)) : am_Ok S l κ pc (i_sw ps d) := by
  intro p e R s m args below meth c G dT A ad0 σ0 Qf Q C Rt ls st σ a b h ad it H locs lsj I
  unfold i_sw at h
  split at h
  · rename_i x r
    have key : ∀ ps : List (Int32 × Nat), am_sw x d (am_AW S κ p l e R s m args below meth c G dT A ad0 σ0 Qf) ls r σ a b ps → ∃ t : Nat, (pc : Int) + Op.lookupswitch.offset (ps.map (fun q => (q.1.toInt, (q.2 : Int) - pc))) dflt x.toInt = t ∧ am_AW S κ p l e R s m args below meth c G dT A ad0 σ0 Qf t ls r σ a b := by
      intro ps
      induction ps with
      | nil => intro h; exact ⟨d, ht, h⟩
      | cons q ps ih =>
        intro h
        rw [List.map_cons, Op.lookupswitch.offset_cons]
        unfold am_sw at h
        by_cases hx : x = q.1
        · rw [if_pos hx] at h
          rw [if_pos (by rw [hx])]
          exact ⟨q.2, by omega, h⟩
        · rw [if_neg hx] at h
          rw [if_neg (fun z => hx (Int32.toInt_inj.mp z.symm))]
          exact ih h
    obtain ⟨t, h1, h2⟩ := key ps h
    exact lv_lookup C.1 C.2.1 hd hs (by rw [hp]) h1 (h2 ad it H locs lsj I)
  · exact h.elim
/-! stores into fields -/
theorem am_roI {σ0 σ : HS} {f i : Nat} {x : Int32} (h : am_ro σ0 σ) (hf : 22 ≤ f) : am_ro σ0 (sI σ f i x) :=
  ⟨fun j => by rw [gI_sI, if_neg (by omega)]; exact h.1 j, fun j => by rw [gI_sI, if_neg (by omega)]; exact h.2 j⟩
theorem am_roJ {σ0 σ : HS} {f : Nat} {g : Nat → Int32} (h : am_ro σ0 σ) (hf : 22 ≤ f) : am_ro σ0 (sJ σ f g) :=
  ⟨fun j => by rw [gI_sJ, if_neg (by omega)]; exact h.1 j, fun j => by rw [gI_sJ, if_neg (by omega)]; exact h.2 j⟩
/-- a store into a field, of any kind: the new state σ' -/
theorem am_put {S : SV} {l : Launch} {κ : KI} {pc c k ix : Nat} {Cn : String} {T : u_T} {N : Nat} {ty : Nat → FieldType} (L : am_CL c Cn T N ty) (hk : k < N) (hw : Cond.fieldLink κ.1.cls ix (T k).1 (T k).2.1 (T k).2.2.1 ∈ TB) (hfin : (T k).2.2.2 = false ∨ ((T k).2.2.2 = true ∧ κ.1.name = "<init>" ∧ (T k).1 = κ.1.cls)) (hd : decode κ.2.1 pc = .ok (.putfield ix, 3))
    {p : Program} {e : Env} {R : Room} {s : State} {m : MethodId} {args : Array Value} {below : List Frame} {meth : Method} {cd : Code} {G : va_G} {dT : Nat → ClassId} {A : Nat → Prop} {ad0 : Nat → Nat → Nat} {σ0 : HS} {Qf : State → Prop} (C : am_Cx κ p R s m args meth cd G dT A ad0 σ0)
    {ls : ALs} {r : List AV} {σ σ' : HS} {a b i : Nat} (hi : i < gC S σ c) {v : AV} (hv : v = am_fv S σ' c k i) (hn : ∀ ad, narrow (ty k) (cv ad v) = cv ad v) (hft : ∀ ad, fits (ty k) (cv ad v) = true)
    (h1 : ∀ c' k' i', k' < am_nf c' → ¬ (c' = c ∧ k' = k ∧ i' = i) → am_fv S σ' c' k' i' = am_fv S σ c' k' i') (h2 : ∀ ad a, a < 100 → am_av S ad σ' a = am_av S ad σ a) (h2' : ∀ a j, a < 100 → gR S σ' a j = gR S σ a j) (h3 : ∀ c, gC S σ' c = gC S σ c) (h4 : am_v S σ v) (h5 : am_ro σ0 σ → am_ro σ0 σ')
    (h : am_AW S κ p l e R s m args below meth cd G dT A ad0 σ0 Qf (pc + 3) ls r σ' a b) : am_AW S κ p l e R s m args below meth cd G dT A ad0 σ0 Qf pc ls (v :: .inr (.inr (some (c, i))) :: r) σ a b := by
  intro ad it H locs lsj I
  obtain ⟨hc, hcl, hN, hty, hin, htk, hnm⟩ := L
  obtain ⟨q0, g1, g2⟩ := am_pos I.1 (q := (c, i)) (Or.inl hc) hi
  rw [am_ce_o hc] at g2
  have hex : am_ex S σ0 σ' ad0 ad := ⟨fun c' i' hq => ⟨by rw [h3]; exact (I.2.2.1.1 c' i' hq).1, (I.2.2.1.1 c' i' hq).2⟩, I.2.2.1.2⟩
  have fin : ∀ (H1 : Heap) (locs1 : List Loc), va_P G vwCl ((am_WL S dT ad σ it).set q0 (ad c i, .inr (c, (am_fs S ad σ c i).set k (cv ad v)))) H1 → va_D A ((am_WL S dT ad σ it).set q0 (ad c i, .inr (c, (am_fs S ad σ c i).set k (cv ad v)))) → va_S A s.heap H1 locs1 → W p l e R s m args below meth cd H1 locs1 a b Qf (F0 m (pc + 3) lsj (r.map (cv ad))) := by
    intro H1 locs1 hP hD hS
    refine h ad it H1 locs1 lsj ⟨am_Rel.put I.1 g1 hc (by rw [hv]) h1 (h2 ad) h2' h3 (by rw [← hv]; exact h4) hP hD, h5 I.2.1, hex, I.2.2.2.1, I.2.2.2.2.1, hS, I.2.2.2.2.2.2⟩
  rcases hfin with hf | ⟨hf, hf2, hf3⟩
  · exact va_put C.1 C.2.1 C.2.2.2.2.1 hin ty htk hnm C.2.2.2.1 C.2.2.2.2.2.1.1 I.1.1 I.1.2.1 I.2.2.2.2.2.1 q0 g2 hcl k hk (C.2.2.2.2.1 _ hw) (fun _ h => h) hf (htk k hk) (hn ad) (hft ad) (by rw [am_fs_len, ← hN]; exact hk) hd fin
  · exact va_putF C.1 C.2.1 C.2.2.2.2.1 hin ty htk hnm C.2.2.2.1 C.2.2.2.2.2.1.1 I.1.1 I.1.2.1 I.2.2.2.2.2.1 q0 g2 hcl k hk (C.2.2.2.2.1 _ hw) (fun _ h => h) hf (C.2.2.2.2.2.2.2.2.1.trans hf2) hf3 (htk k hk) (hn ad) (hft ad) (by rw [am_fs_len, ← hN]; exact hk) hd fin
theorem o_putI {S : SV} {l : Launch} {κ : KI} {pc c k f ix : Nat} {Cn : String} {T : u_T} {N : Nat} {ty : Nat → FieldType} (L : am_CL c Cn T N ty) (hk : k < N) (hf : 100 * (c + 1) + k = f) (h0 : ty k = .int) (hw : Cond.fieldLink κ.1.cls ix (T k).1 (T k).2.1 (T k).2.2.1 ∈ TB) (hfin : (T k).2.2.2 = false ∨ ((T k).2.2.2 = true ∧ κ.1.name = "<init>" ∧ (T k).1 = κ.1.cls)) (hd : decode κ.2.1 pc = .ok (.putfield ix, 3)) : am_Ok S l κ pc (i_putI S c f (pc + 3)) := by
  intro p e R s m args below meth cd G dT A ad0 σ0 Qf Q C Rt ls st σ a b h
  unfold i_putI at h
  split at h
  · rename_i x q r
    obtain ⟨e1, e2, h3⟩ := h
    obtain ⟨q1, q2⟩ := q
    dsimp only at e1 e2 h3
    subst e1
    subst hf
    have hkN : k < am_nf q1 := by rw [← L.2.2.1]; exact hk
    refine am_put (σ' := sI σ (100 * (q1 + 1) + k) q2 x) L hk hw hfin hd C e2 ?_ (fun ad => by rw [h0]; rfl) (fun ad => by rw [h0]; rfl) (fv_sI hkN) (fun ad a ha => av_sI a (by omega)) (fun _ _ _ => rfl) (fun _ => rfl) trivial (fun h => am_roI h (by omega)) h3
    unfold am_fv
    rw [← L.2.2.2.1 k, h0, if_pos (show am_kd .int = 0 from rfl), gI_sI, if_pos rfl, if_pos rfl]
  · exact h.elim
theorem o_putZ {S : SV} {l : Launch} {κ : KI} {pc c k f ix : Nat} {Cn : String} {T : u_T} {N : Nat} {ty : Nat → FieldType} (L : am_CL c Cn T N ty) (hk : k < N) (hf : 100 * (c + 1) + k = f) (h0 : ty k = .boolean) (hw : Cond.fieldLink κ.1.cls ix (T k).1 (T k).2.1 (T k).2.2.1 ∈ TB) (hfin : (T k).2.2.2 = false ∨ ((T k).2.2.2 = true ∧ κ.1.name = "<init>" ∧ (T k).1 = κ.1.cls)) (hd : decode κ.2.1 pc = .ok (.putfield ix, 3)) : am_Ok S l κ pc (i_putZ S c f (pc + 3)) := by
  intro p e R s m args below meth cd G dT A ad0 σ0 Qf Q C Rt ls st σ a b h
  unfold i_putZ at h
  split at h
  · rename_i x q r
    obtain ⟨e0, e1, e2, h3⟩ := h
    obtain ⟨q1, q2⟩ := q
    dsimp only at e1 e2 h3
    subst e1
    subst hf
    have hkN : k < am_nf q1 := by rw [← L.2.2.1]; exact hk
    refine am_put (σ' := sI σ (100 * (q1 + 1) + k) q2 x) L hk hw hfin hd C e2 ?_ (fun ad => by rw [h0]; rcases e0 with rfl | rfl <;> rfl) (fun ad => by rw [h0]; rcases e0 with rfl | rfl <;> rfl) (fv_sI hkN) (fun ad a ha => av_sI a (by omega)) (fun _ _ _ => rfl) (fun _ => rfl) trivial (fun h => am_roI h (by omega)) h3
    unfold am_fv
    rw [← L.2.2.2.1 k, h0, if_pos (show am_kd .boolean = 0 from rfl), gI_sI, if_pos rfl, if_pos rfl]
  · exact h.elim
theorem o_putL {S : SV} {l : Launch} {κ : KI} {pc c k f ix : Nat} {Cn : String} {T : u_T} {N : Nat} {ty : Nat → FieldType} (L : am_CL c Cn T N ty) (hk : k < N) (hf : 100 * (c + 1) + k = f) (h0 : ty k = .long) (hw : Cond.fieldLink κ.1.cls ix (T k).1 (T k).2.1 (T k).2.2.1 ∈ TB) (hfin : (T k).2.2.2 = false ∨ ((T k).2.2.2 = true ∧ κ.1.name = "<init>" ∧ (T k).1 = κ.1.cls)) (hd : decode κ.2.1 pc = .ok (.putfield ix, 3)) : am_Ok S l κ pc (i_putL S c f (pc + 3)) := by
  intro p e R s m args below meth cd G dT A ad0 σ0 Qf Q C Rt ls st σ a b h
  unfold i_putL at h
  split at h
  · rename_i x q r
    obtain ⟨e1, e2, h3⟩ := h
    obtain ⟨q1, q2⟩ := q
    dsimp only at e1 e2 h3
    subst e1
    subst hf
    have hkN : k < am_nf q1 := by rw [← L.2.2.1]; exact hk
    refine am_put (σ' := sL σ (100 * (q1 + 1) + k) q2 x) L hk hw hfin hd C e2 ?_ (fun ad => by rw [h0]; rfl) (fun ad => by rw [h0]; rfl) (fv_sL hkN) (fun ad a ha => av_sL a (by omega)) (fun _ _ _ => rfl) (fun _ => rfl) trivial (fun h => h) h3
    unfold am_fv
    rw [← L.2.2.2.1 k, h0, if_neg (show ¬ am_kd .long = 0 by decide), if_pos (show am_kd .long = 1 from rfl), gL_sL, if_pos rfl, if_pos rfl]
  · exact h.elim
theorem o_putR {S : SV} {l : Launch} {κ : KI} {pc c k f ix : Nat} {Cn : String} {T : u_T} {N : Nat} {ty : Nat → FieldType} (L : am_CL c Cn T N ty) (hk : k < N) (hf : 100 * (c + 1) + k = f) (h0 : (∃ n, ty k = .object n) ∨ ∃ t, ty k = .array t) (hw : Cond.fieldLink κ.1.cls ix (T k).1 (T k).2.1 (T k).2.2.1 ∈ TB) (hfin : (T k).2.2.2 = false ∨ ((T k).2.2.2 = true ∧ κ.1.name = "<init>" ∧ (T k).1 = κ.1.cls)) (hd : decode κ.2.1 pc = .ok (.putfield ix, 3)) : am_Ok S l κ pc (i_putR S c f (pc + 3)) := by
  intro p e R s m args below meth cd G dT A ad0 σ0 Qf Q C Rt ls st σ a b h
  unfold i_putR at h
  split at h
  · rename_i x q r
    obtain ⟨e0, e3, e1, e2, h3⟩ := h
    obtain ⟨q1, q2⟩ := q
    dsimp only at e1 e2 h3
    subst e1
    subst hf
    have hkN : k < am_nf q1 := by rw [← L.2.2.1]; exact hk
    have hk2 : am_kd (ty k) = 2 := by rcases h0 with ⟨n, h⟩ | ⟨t, h⟩ <;> rw [h] <;> rfl
    refine am_put (σ' := sQ σ (100 * (q1 + 1) + k) q2 x) L hk hw hfin hd C e2 ?_ (fun ad => by rcases h0 with ⟨n, h⟩ | ⟨t, h⟩ <;> rw [h] <;> cases x <;> rfl) (fun ad => by rcases h0 with ⟨n, h⟩ | ⟨t, h⟩ <;> rw [h] <;> cases x <;> rfl) (fv_sQ e0 hkN) (fun ad a ha => av_sQ e0 a (by omega)) (fun a j ha => by rw [gR_sQ _ _ _ _ _ _ _ e0, if_neg (by omega)]) (fun _ => rfl) e3 (fun h => h) h3
    unfold am_fv
    rw [← L.2.2.2.1 k, hk2, if_neg (by decide), if_neg (by decide), gR_sQ _ _ _ _ _ _ _ e0, if_pos rfl, if_pos rfl]
  · exact h.elim
/-! arrays -/
theorem am_tyI {dT : Nat → ClassId} {a : Nat} (h : a < 70) : (tysF dT)[0]? = some (dT (am_tn a), .int) := by
  unfold am_tn; rw [if_pos h]; rfl
theorem am_tyZ {dT : Nat → ClassId} {a : Nat} (h1 : 70 ≤ a) (h : a < 80) : (tysF dT)[1]? = some (dT (am_tn a), .boolean) := by
  unfold am_tn; rw [if_neg (by omega), if_pos h]; rfl
theorem am_tyB {dT : Nat → ClassId} {a : Nat} (h1 : 80 ≤ a) (h : a < 85) : (tysF dT)[2]? = some (dT (am_tn a), .byte) := by
  unfold am_tn; rw [if_neg (by omega), if_neg (by omega), if_pos h]; rfl
theorem am_tyL {dT : Nat → ClassId} {a : Nat} (h1 : 85 ≤ a) (h : a < 90) : (tysF dT)[3]? = some (dT (am_tn a), .long) := by
  unfold am_tn; rw [if_neg (by omega), if_neg (by omega), if_neg (by omega), if_pos h]; rfl
theorem am_tyN {dT : Nat → ClassId} : (tysF dT)[4]? = some (dT (am_tn 90), .object RX3) := rfl
theorem am_tyW {dT : Nat → ClassId} : (tysF dT)[5]? = some (dT (am_tn 91), .object RX10) := rfl
theorem am_avI {S : SV} {ad : Nat → Nat → Nat} {σ : HS} {a : Nat} (h : a < 85) : am_av S ad σ a = (S.2.2 a, .inl (fun j => gI σ a j)) := by
  unfold am_av; rw [if_pos h]
theorem am_avL {S : SV} {ad : Nat → Nat → Nat} {σ : HS} {a : Nat} (h1 : 85 ≤ a) (h : a < 90) : am_av S ad σ a = (S.2.2 a, .inr (.inl (fun j => gL σ a j))) := by
  unfold am_av; rw [if_neg (by omega), if_pos h]
theorem am_avR {S : SV} {ad : Nat → Nat → Nat} {σ : HS} {a : Nat} (h1 : 90 ≤ a) : am_av S ad σ a = (S.2.2 a, .inr (.inr (.inr (.inr (fun j => (gR S σ a j).map (fun q => ad q.1 q.2)))))) := by
  unfold am_av; rw [if_neg (by omega), if_neg (by omega)]
theorem o_iald {S : SV} {l : Launch} {κ : KI} {pc : Nat} (hS21 : S.2.2 21 = 10) (hd : decode κ.2.1 pc = .ok (.iaload, 1)) : am_Ok S l κ pc (i_iald S (pc + 1)) := by
  intro p e R s m args below meth cd G dT A ad0 σ0 Qf Q C Rt ls st σ a b h ad it H locs lsj I
  unfold i_iald at h
  split at h
  · rename_i i q r
    obtain ⟨q1, q2⟩ := q
    dsimp only at h
    obtain ⟨e1, e2, e3, e4, e5, h6⟩ := h
    subst e3
    by_cases h21 : q1 = 21
    · subst h21
      have hX := C.2.2.2.2.2.2.1
      have h7 := h6 ad it H locs lsj I
      have hf : gI σ 21 = gI σ0 21 := funext I.2.1.2
      rw [hf, show List.map (cv ad) (Sum.inl (gI σ0 21 i.toNatClampNeg) :: r) = .int (gI σ0 21 i.toNatClampNeg) :: r.map (cv ad) from rfl] at h7
      have := va_sld (rest := r.map (cv ad)) (ls := lsj) C.1 C.2.1 hX (C.2.2.2.2.2.1.2.2.2.2.2.2) (C.2.2.2.2.2.1.2.2.2.2.2.1) I.2.2.2.2.2.1 (by rw [← hS21]; exact e5) hd h7
      rw [← I.2.2.1.2.2] at this
      exact this
    · obtain ⟨q0, g1, g2⟩ := am_pos I.1 (q := (q1, 0)) (Or.inr ⟨by show 22 ≤ q1; omega, by show q1 < 92; omega, rfl⟩) e4
      rw [am_ce_a (by omega), am_avI (by omega)] at g2
      exact va_iald C.1 C.2.1 C.2.2.2.2.2.1.1 I.1.1 q0 0 g2 (am_tyI e2) e5 hd (h6 ad it H locs lsj I)
  · exact h.elim
theorem o_bald {S : SV} {l : Launch} {κ : KI} {pc : Nat} (hd : decode κ.2.1 pc = .ok (.baload, 1)) : am_Ok S l κ pc (i_bald S (pc + 1)) := by
  intro p e R s m args below meth cd G dT A ad0 σ0 Qf Q C Rt ls st σ a b h ad it H locs lsj I
  unfold i_bald at h
  split at h
  · rename_i i q r
    obtain ⟨q1, q2⟩ := q
    dsimp only at h
    obtain ⟨e1, e2, e3, e4, e5, h6⟩ := h
    subst e3
    obtain ⟨q0, g1, g2⟩ := am_pos I.1 (q := (q1, 0)) (Or.inr ⟨by show 22 ≤ q1; omega, by show q1 < 92; omega, rfl⟩) e4
    rw [am_ce_a (by omega), am_avI (by omega)] at g2
    by_cases hz : q1 < 80
    · exact va_zald C.1 C.2.1 C.2.2.2.2.2.1.1 I.1.1 q0 1 g2 (am_tyZ e1 hz) e5 hd (h6 ad it H locs lsj I)
    · exact va_bald C.1 C.2.1 C.2.2.2.2.2.1.1 I.1.1 q0 2 g2 (am_tyB (by omega) e2) e5 hd (h6 ad it H locs lsj I)
  · exact h.elim
theorem o_lald {S : SV} {l : Launch} {κ : KI} {pc : Nat} (hd : decode κ.2.1 pc = .ok (.laload, 1)) : am_Ok S l κ pc (i_lald S (pc + 1)) := by
  intro p e R s m args below meth cd G dT A ad0 σ0 Qf Q C Rt ls st σ a b h ad it H locs lsj I
  unfold i_lald at h
  split at h
  · rename_i i q r
    obtain ⟨q1, q2⟩ := q
    dsimp only at h
    obtain ⟨e1, e2, e3, e4, e5, h6⟩ := h
    subst e3
    obtain ⟨q0, g1, g2⟩ := am_pos I.1 (q := (q1, 0)) (Or.inr ⟨by show 22 ≤ q1; omega, by show q1 < 92; omega, rfl⟩) e4
    rw [am_ce_a (by omega), am_avL e1 e2] at g2
    exact va_lald C.1 C.2.1 C.2.2.2.2.2.1.1 I.1.1 q0 3 g2 (am_tyL e1 e2) e5 hd (h6 ad it H locs lsj I)
  · exact h.elim
theorem o_aald {S : SV} {l : Launch} {κ : KI} {pc : Nat} (hd : decode κ.2.1 pc = .ok (.aaload, 1)) : am_Ok S l κ pc (i_aald S (pc + 1)) := by
  intro p e R s m args below meth cd G dT A ad0 σ0 Qf Q C Rt ls st σ a b h ad it H locs lsj I
  unfold i_aald at h
  split at h
  · rename_i i q r
    obtain ⟨q1, q2⟩ := q
    dsimp only at h
    obtain ⟨e1, e2, e3, e4, e5, h6⟩ := h
    subst e3
    obtain ⟨q0, g1, g2⟩ := am_pos I.1 (q := (q1, 0)) (Or.inr ⟨by show 22 ≤ q1; omega, by show q1 < 92; omega, rfl⟩) e4
    rw [am_ce_a (by omega), am_avR e1] at g2
    rcases (show q1 = 90 ∨ q1 = 91 by omega) with rfl | rfl
    · exact va_aldq C.1 C.2.1 C.2.2.2.2.2.1.1 I.1.1 q0 4 g2 am_tyN e5 hd (h6 ad it H locs lsj I)
    · exact va_aldq C.1 C.2.1 C.2.2.2.2.2.1.1 I.1.1 q0 5 g2 am_tyW e5 hd (h6 ad it H locs lsj I)
  · exact h.elim
