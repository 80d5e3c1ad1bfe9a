/-! ===== stores into arrays, lengths, copies ===== -/
/-- a store into an array, of any kind: the new state σ' -/
theorem am_astI {S : SV} {κ : KI} {s : State} {G : va_G} {dT : Nat → ClassId} {A : Nat → Prop} {ad0 ad : Nat → Nat → Nat} {σ0 σ σ' : HS} {ls : ALs} {a b q1 q0 : Nat} {it : List (Nat × Nat)} {H H1 : Heap} {locs locs1 : List Loc} {lsj : Array Slot} {w : vp_A} (I : am_Iv S κ s G dT A ad0 σ0 ls σ a b ad it H locs lsj) (g1 : it[q0]? = some (q1, 0)) (h22 : 22 ≤ q1) (hw : w = am_av S ad σ' q1)
    (h1 : ∀ c' k' i', k' < am_nf c' → am_fv S σ' c' k' i' = am_fv S σ c' k' i') (h2 : ∀ a', a' < 100 → a' ≠ q1 → am_av S ad σ' a' = am_av S ad σ a') (h2' : ∀ a' j, a' < 100 → am_v S σ (.inr (.inr (gR S σ a' j))) → am_v S σ (.inr (.inr (gR S σ' a' j)))) (h3 : ∀ c, gC S σ' c = gC S σ c) (h5 : am_ro σ0 σ → am_ro σ0 σ')
    (hP : va_P G vwCl ((am_WL S dT ad σ it).set q0 (ad q1 0, .inl (dT (am_tn q1), w))) H1) (hD : va_D A ((am_WL S dT ad σ it).set q0 (ad q1 0, .inl (dT (am_tn q1), w)))) (hS : va_S A s.heap H1 locs1) : am_Iv S κ s G dT A ad0 σ0 ls σ' a b ad it H1 locs1 lsj :=
  ⟨am_Rel.ast I.1 g1 h22 hw h1 h2 h2' h3 hP hD, h5 I.2.1, ⟨fun c' i' hq => ⟨by rw [h3]; exact (I.2.2.1.1 c' i' hq).1, (I.2.2.1.1 c' i' hq).2⟩, I.2.2.1.2⟩, I.2.2.2.1, I.2.2.2.2.1, hS, I.2.2.2.2.2.2⟩
theorem am_updI {σ : HS} {a i : Nat} {x : Int32} : upd (fun j => gI σ a j) i x = fun j => gI (sI σ a i x) a j := by
  funext j
  rw [gI_sI, if_pos rfl]; rfl
theorem am_updL {σ : HS} {a i : Nat} {x : Int64} : vp_updL (fun j => gL σ a j) i x = fun j => gL (sL σ a i x) a j := by
  funext j
  rw [gL_sL, if_pos rfl]; rfl
theorem o_iast {S : SV} {l : Launch} {κ : KI} {pc : Nat} (hd : decode κ.2.1 pc = .ok (.iastore, 1)) : am_Ok S l κ pc (i_iast S (pc + 1)) := by
  intro p e R s m args below meth cd G dT A ad0 σ0 Qf Q C Rt ls st σ a b h ad it H locs lsj I
  unfold i_iast at h
  split at h
  · rename_i x i q r
    obtain ⟨q1, q2⟩ := q
    dsimp only at h
    obtain ⟨e1, e2, e3, e4, e5, h6⟩ := h
    subst e3
    obtain ⟨q0, g1, g2⟩ := am_pos I.1 (q := (q1, 0)) (Or.inr ⟨by show 22 ≤ q1; omega, by show q1 < 92; omega, rfl⟩) e4
    rw [am_ce_a (by omega), am_avI (by omega)] at g2
    refine va_iast C.1 C.2.1 C.2.2.2.2.2.1.1 I.1.1 I.1.2.1 I.2.2.2.2.2.1 q0 0 g2 (am_tyI e2) e5 hd (fun H1 locs1 hP hD hS => h6 ad it H1 locs1 lsj (am_astI I g1 e1 ?_ (fv_sIa (by omega)) (fun a' _ hn => av_sI a' hn) (fun _ _ _ h => h) (fun _ => rfl) (fun h => am_roI h e1) hP hD hS))
    rw [am_avI (by omega), am_updI]
  · exact h.elim
theorem o_bast {S : SV} {l : Launch} {κ : KI} {pc : Nat} (hd : decode κ.2.1 pc = .ok (.bastore, 1)) : am_Ok S l κ pc (i_bast S (pc + 1)) := by
  intro p e R s m args below meth cd G dT A ad0 σ0 Qf Q C Rt ls st σ a b h ad it H locs lsj I
  unfold i_bast at h
  split at h
  · rename_i x i q r
    obtain ⟨q1, q2⟩ := q
    dsimp only at h
    obtain ⟨e3, e4, e5, h6⟩ := h
    subst e3
    by_cases hz : q1 < 80
    · rw [if_pos hz] at h6
      obtain ⟨e1, eb, h6⟩ := h6
      obtain ⟨q0, g1, g2⟩ := am_pos I.1 (q := (q1, 0)) (Or.inr ⟨by show 22 ≤ q1; omega, by show q1 < 92; omega, rfl⟩) e4
      rw [am_ce_a (by omega), am_avI (by omega)] at g2
      refine va_zast C.1 C.2.1 C.2.2.2.2.2.1.1 I.1.1 I.1.2.1 I.2.2.2.2.2.1 q0 1 g2 (am_tyZ e1 hz) e5 hd (fun H1 locs1 hP hD hS => h6 ad it H1 locs1 lsj (am_astI I g1 (by omega) ?_ (fv_sIa (by omega)) (fun a' _ hn => av_sI a' hn) (fun _ _ _ h => h) (fun _ => rfl) (fun h => am_roI h (by omega)) hP hD hS))
      have hx : vp_nar .boolean x = x := by rcases eb with rfl | rfl <;> rfl
      rw [am_avI (by omega), hx, am_updI]
    · rw [if_neg hz] at h6
      obtain ⟨e1, h6⟩ := h6
      obtain ⟨q0, g1, g2⟩ := am_pos I.1 (q := (q1, 0)) (Or.inr ⟨by show 22 ≤ q1; omega, by show q1 < 92; omega, rfl⟩) e4
      rw [am_ce_a (by omega), am_avI (by omega)] at g2
      refine va_bast C.1 C.2.1 C.2.2.2.2.2.1.1 I.1.1 I.1.2.1 I.2.2.2.2.2.1 q0 2 g2 (am_tyB (by omega) e1) e5 hd (fun H1 locs1 hP hD hS => h6 ad it H1 locs1 lsj (am_astI I g1 (by omega) ?_ (fv_sIa (by omega)) (fun a' _ hn => av_sI a' hn) (fun _ _ _ h => h) (fun _ => rfl) (fun h => am_roI h (by omega)) hP hD hS))
      rw [am_avI (by omega), vp_nar_byte, am_updI]
  · exact h.elim
theorem o_last {S : SV} {l : Launch} {κ : KI} {pc : Nat} (hd : decode κ.2.1 pc = .ok (.lastore, 1)) : am_Ok S l κ pc (i_last S (pc + 1)) := by
  intro p e R s m args below meth cd G dT A ad0 σ0 Qf Q C Rt ls st σ a b h ad it H locs lsj I
  unfold i_last at h
  split at h
  · rename_i x i q r
    obtain ⟨q1, q2⟩ := q
    dsimp only at h
    obtain ⟨e1, e2, e3, e4, e5, h6⟩ := h
    subst e3
    obtain ⟨q0, g1, g2⟩ := am_pos I.1 (q := (q1, 0)) (Or.inr ⟨by show 22 ≤ q1; omega, by show q1 < 92; omega, rfl⟩) e4
    rw [am_ce_a (by omega), am_avL e1 e2] at g2
    refine va_last C.1 C.2.1 C.2.2.2.2.2.1.1 I.1.1 I.1.2.1 I.2.2.2.2.2.1 q0 3 g2 (am_tyL e1 e2) e5 hd (fun H1 locs1 hP hD hS => h6 ad it H1 locs1 lsj (am_astI I g1 (by omega) ?_ (fv_sLa (by omega)) (fun a' _ hn => av_sL a' hn) (fun _ _ _ h => h) (fun _ => rfl) (fun h => h) hP hD hS))
    rw [am_avL e1 e2, am_updL]
  · exact h.elim
theorem o_aast {S : SV} {l : Launch} {κ : KI} {pc : Nat} (hd : decode κ.2.1 pc = .ok (.aastore, 1)) : am_Ok S l κ pc (i_aast S (pc + 1)) := by
  intro p e R s m args below meth cd G dT A ad0 σ0 Qf Q C Rt ls st σ a b h ad it H locs lsj I
  unfold i_aast at h
  split at h
  · rename_i x i q r
    obtain ⟨q1, q2⟩ := q
    dsimp only at h
    obtain ⟨es, ek, ex, e3, e4, e5, h6⟩ := h
    subst e3
    have hq1 : q1 = 90 ∨ q1 = 91 := by rcases ek with ⟨h, -⟩ | ⟨h, -⟩ <;> omega
    obtain ⟨q0, g1, g2⟩ := am_pos I.1 (q := (q1, 0)) (Or.inr ⟨by show 22 ≤ q1; omega, by show q1 < 92; omega, rfl⟩) e4
    rw [am_ce_a (by omega), am_avR (by omega)] at g2
    have hx13 : x.1 < 13 := by rcases ek with ⟨-, h⟩ | ⟨-, h⟩ <;> omega
    obtain ⟨k0, k1, k2⟩ := am_pos I.1 (q := x) (Or.inl hx13) ex
    obtain ⟨x1, x2⟩ := x
    dsimp only at ek ex hx13 k2
    rw [am_ce_o hx13] at k2
    have hup : va_up (fun j => (gR S σ q1 j).map (fun q => ad q.1 q.2)) i.toNatClampNeg (some (ad x1 x2)) = fun j => (gR S (sQ σ q1 i.toNatClampNeg (some (x1, x2))) q1 j).map (fun q => ad q.1 q.2) := by
      funext j
      rw [gR_sQ _ _ _ _ _ _ _ es, if_pos rfl]
      unfold va_up
      split <;> rfl
    have fin : ∀ (H1 : Heap) (locs1 : List Loc), va_P G vwCl ((am_WL S dT ad σ it).set q0 (ad q1 0, .inl (dT (am_tn q1), S.2.2 q1, .inr (.inr (.inr (.inr (va_up (fun j => (gR S σ q1 j).map (fun q => ad q.1 q.2)) i.toNatClampNeg (some (ad x1 x2)))))))) ) H1 → va_D A ((am_WL S dT ad σ it).set q0 (ad q1 0, .inl (dT (am_tn q1), S.2.2 q1, .inr (.inr (.inr (.inr (va_up (fun j => (gR S σ q1 j).map (fun q => ad q.1 q.2)) i.toNatClampNeg (some (ad x1 x2)))))))) ) → va_S A s.heap H1 locs1 → W p l e R s m args below meth cd H1 locs1 a b Qf (F0 m (pc + 1) lsj (r.map (cv ad))) := by
      intro H1 locs1 hP hD hS
      refine h6 ad it H1 locs1 lsj (am_astI I g1 (by omega) ?_ (fv_sQa es (by omega)) (fun a' _ hn => av_sQ es a' hn) (fun a' j _ hv => ?_) (fun _ => rfl) (fun h => h) hP hD hS)
      · rw [am_avR (by omega), hup]
      · rw [gR_sQ _ _ _ _ _ _ _ es]
        split
        · split
          · exact ex
          · exact hv
        · exact hv
    rcases ek with ⟨rfl, rfl⟩ | ⟨rfl, rfl⟩
    · exact va_astq (r := (RX3, TX3, 4)) C.1 C.2.1 C.2.2.2.2.2.1.1 I.1.1 I.1.2.1 I.2.2.2.2.2.1 q0 4 k0 3 g2 am_tyN k2 rfl e5 hd fin
    · exact va_astq (r := (RX10, TX10, 18)) C.1 C.2.1 C.2.2.2.2.2.1.1 I.1.1 I.1.2.1 I.2.2.2.2.2.1 q0 5 k0 10 g2 am_tyW k2 rfl e5 hd fin
  · exact h.elim
theorem am_tyX (dT : Nat → ClassId) (a : Nat) : ∃ (t0 : Nat) (ty : FieldType), (tysF dT)[t0]? = some (dT (am_tn a), ty) := by
  unfold am_tn
  split
  · exact ⟨0, _, rfl⟩
  · split
    · exact ⟨1, _, rfl⟩
    · split
      · exact ⟨2, _, rfl⟩
      · split
        · exact ⟨3, _, rfl⟩
        · split
          · exact ⟨4, _, rfl⟩
          · exact ⟨5, _, rfl⟩
theorem o_alen {S : SV} {l : Launch} {κ : KI} {pc : Nat} (hS21 : S.2.2 21 = 10) (hd : decode κ.2.1 pc = .ok (.arraylength, 1)) : am_Ok S l κ pc (i_alen S (pc + 1)) := by
  intro p e R s m args below meth cd G dT A ad0 σ0 Qf Q C Rt ls st σ a b h ad it H locs lsj I
  unfold i_alen at h
  split at h
  · rename_i q r
    obtain ⟨q1, q2⟩ := q
    dsimp only at h
    obtain ⟨e1, e2, e3, e4, h6⟩ := h
    subst e3
    by_cases h21 : q1 = 21
    · subst h21
      have h7 := h6 ad it H locs lsj I
      rw [hS21] at h7
      have := va_slen (rest := r.map (cv ad)) (ls := lsj) C.1 C.2.1 C.2.2.2.2.2.2.1 (C.2.2.2.2.2.1.2.2.2.2.2.2) (C.2.2.2.2.2.1.2.2.2.2.2.1) I.2.2.2.2.2.1 hd h7
      rw [← I.2.2.1.2.2] at this
      exact this
    · obtain ⟨q0, g1, g2⟩ := am_pos I.1 (q := (q1, 0)) (Or.inr ⟨by show 22 ≤ q1; omega, by show q1 < 92; omega, rfl⟩) e4
      rw [am_ce_a (by omega)] at g2
      obtain ⟨t0, ty, ht⟩ := am_tyX dT q1
      exact va_alen C.1 C.2.1 C.2.2.2.2.2.1.1 I.1.1 q0 t0 g2 ht rfl hd (h6 ad it H locs lsj I)
  · exact h.elim
theorem o_copy {S : SV} {l : Launch} {κ : KI} {pc ix : Nat} (hw : Cond.methodLink κ.1.cls ix arraycopyName ∈ TB) (hn : Cond.native arraycopyName ∈ TB) (hs : Cond.static arraycopyName ∈ TB) (hi : Cond.initialized "java/lang/System" ∈ TB) (hf : 1 ≤ κ.2.2.2.2.2.2.1) (hl : 60 ≤ κ.2.2.2.2.2.2.2) (hd : decode κ.2.1 pc = .ok (.invokestatic ix, 3)) : am_Ok S l κ pc (i_copy S (pc + 3)) := by
  intro p e R s m args below meth cd G dT A ad0 σ0 Qf Q C Rt ls st σ a b h ad it H locs lsj I
  unfold i_copy at h
  split at h
  · rename_i k dp q sp q' r
    obtain ⟨e0, ek, e3, e4, ec, c1, c2, c3, c4, c5, h6⟩ := h
    subst e0
    obtain ⟨q1, q2⟩ := q
    dsimp only at ek e3 e4 c4 c5 h6
    subst e3
    have hct : ((r.map (cv ad)).map fun v => v.category).sum + (nativeFrameWords "java/lang/System" "arraycopy" 5 + 11) ≤ R.locals := by
      rw [am_ct_eq]
      have : nativeFrameWords "java/lang/System" "arraycopy" 5 = 7 := by decide +kernel
      rw [this]
      have := C.2.2.2.2.2.2.2.2.2.2.2.2
      omega
    have hlo := C.2.2.2.2.2.2.2.2.2.2.2.1
    have h22 : 22 ≤ q1 ∧ q1 < 85 := by rcases ek with h | h <;> omega
    obtain ⟨q0, g1, g2⟩ := am_pos I.1 (q := (q1, 0)) (Or.inr ⟨by show 22 ≤ q1; omega, by show q1 < 92; omega, rfl⟩) e4
    rw [am_ce_a (by omega), am_avI (by omega)] at g2
    have hml : cd.maxLocals = lsj.size := C.2.2.1.trans I.2.2.2.2.1.2.1.symm
    have fin : ∀ (H1 : Heap) (locs1 : List Loc), va_P G vwCl ((am_WL S dT ad σ it).set q0 (ad q1 0, .inl (dT (am_tn q1), S.2.2 q1, .inl (va_cpy (fun j => gI σ q1 j) (fun j => gI σ q1 j) sp.toNatClampNeg dp.toNatClampNeg k.toNatClampNeg)))) H1 → va_D A ((am_WL S dT ad σ it).set q0 (ad q1 0, .inl (dT (am_tn q1), S.2.2 q1, .inl (va_cpy (fun j => gI σ q1 j) (fun j => gI σ q1 j) sp.toNatClampNeg dp.toNatClampNeg k.toNatClampNeg)))) → va_S A s.heap H1 locs1 → W p l e R s m args below meth cd H1 locs1 a b Qf (F0 m (pc + 3) lsj (r.map (cv ad))) := by
      intro H1 locs1 hP hD hS
      refine h6 ad it H1 locs1 lsj (am_astI I g1 h22.1 ?_ (fv_sJa (by omega)) (fun a' _ hn => av_sJ a' hn) (fun _ _ _ h => h) (fun _ => rfl) (fun h => am_roJ h h22.1) hP hD hS)
      rw [am_avI (by omega)]
      congr 2
      funext j
      rw [gI_sJ, if_pos rfl]
    rcases ek with ⟨-, hk⟩ | ⟨hk, hk2⟩
    · exact va_copyi C.1 C.2.1 hml C.2.2.2.1 (C.2.2.2.2.1 _ hw) (C.2.2.2.2.1 _ hn) (C.2.2.2.2.1 _ hs) (C.2.2.2.2.1 _ hi) C.2.2.2.2.2.1.1 I.1.1 I.1.2.1 I.2.2.2.2.2.1 q0 q0 0 0 g2 g2 (am_tyI hk) (am_tyI hk) rfl c1 c2 c3 c4 c5 (fun _ _ => rfl) (by omega) hct hd fin
    · subst hk
      exact va_copyi C.1 C.2.1 hml C.2.2.2.1 (C.2.2.2.2.1 _ hw) (C.2.2.2.2.1 _ hn) (C.2.2.2.2.1 _ hs) (C.2.2.2.2.1 _ hi) C.2.2.2.2.2.1.1 I.1.1 I.1.2.1 I.2.2.2.2.2.1 q0 q0 2 2 g2 g2 (am_tyB (by omega) (by omega)) (am_tyB (by omega) (by omega)) rfl c1 c2 c3 c4 c5 (fun j _ => by simp [fits, (hk2 _).1, (hk2 _).2]) (by omega) hct hd fin
  · exact h.elim
theorem o_max {S : SV} {l : Launch} {κ : KI} {pc ix : Nat} (hw : Cond.methodLink κ.1.cls ix Lib.Math.max.name ∈ TB) (hs : Cond.static Lib.Math.max.name ∈ TB) (hi : Cond.initialized "java/lang/Math" ∈ TB) (hc : Cond.code Lib.Math.max.name Lib.Math.max.code 2 (some .int) ∈ TB) (hf : 1 ≤ κ.2.2.2.2.2.2.1) (hl : 21 ≤ κ.2.2.2.2.2.2.2) (hd : decode κ.2.1 pc = .ok (.invokestatic ix, 3)) : am_Ok S l κ pc (i_max (pc + 3)) := by
  intro p e R s m args below meth cd G dT A ad0 σ0 Qf Q C Rt ls st σ a b h ad it H locs lsj I
  unfold i_max at h
  split at h
  · rename_i y x r
    have h1 := C.2.2.2.2.2.2.2.2.2.2.2.2
    have h2 := C.2.2.2.2.2.2.2.2.2.2.2.1
    have h3 := C.2.2.2.2.2.2.2.2.2.1
    have h4 := C.2.2.2.2.2.2.2.2.2.2.1
    have h5 := I.2.2.2.2.2.2
    exact va_mmax C.1 C.2.1 (C.2.2.1.trans I.2.2.2.2.1.2.1.symm) C.2.2.2.1 (C.2.2.2.2.1 _ hw) (C.2.2.2.2.1 _ hs) (C.2.2.2.2.1 _ hi) (C.2.2.2.2.1 _ hc) (by omega) (by rw [am_ct_eq]; omega) (by omega) (by omega) hd (h.2 ad it H locs lsj I)
  · exact h.elim
theorem o_min {S : SV} {l : Launch} {κ : KI} {pc ix : Nat} (hw : Cond.methodLink κ.1.cls ix Lib.Math.min.name ∈ TB) (hs : Cond.static Lib.Math.min.name ∈ TB) (hi : Cond.initialized "java/lang/Math" ∈ TB) (hc : Cond.code Lib.Math.min.name Lib.Math.min.code 2 (some .int) ∈ TB) (hf : 1 ≤ κ.2.2.2.2.2.2.1) (hl : 21 ≤ κ.2.2.2.2.2.2.2) (hd : decode κ.2.1 pc = .ok (.invokestatic ix, 3)) : am_Ok S l κ pc (i_min (pc + 3)) := by
  intro p e R s m args below meth cd G dT A ad0 σ0 Qf Q C Rt ls st σ a b h ad it H locs lsj I
  unfold i_min at h
  split at h
  · rename_i y x r
    have h1 := C.2.2.2.2.2.2.2.2.2.2.2.2
    have h2 := C.2.2.2.2.2.2.2.2.2.2.2.1
    have h3 := C.2.2.2.2.2.2.2.2.2.1
    have h4 := C.2.2.2.2.2.2.2.2.2.2.1
    have h5 := I.2.2.2.2.2.2
    exact va_mmin C.1 C.2.1 (C.2.2.1.trans I.2.2.2.2.1.2.1.symm) C.2.2.2.1 (C.2.2.2.2.1 _ hw) (C.2.2.2.2.1 _ hs) (C.2.2.2.2.1 _ hi) (C.2.2.2.2.1 _ hc) (by omega) (by rw [am_ct_eq]; omega) (by omega) (by omega) hd (h.2 ad it H locs lsj I)
  · exact h.elim
theorem o_cO {S : SV} {l : Launch} {κ : KI} {pc ix : Nat} (hw : Cond.methodLink κ.1.cls ix objectInit ∈ TB) (hs : Cond.instanceMethod objectInit ∈ TB) (hc : Cond.code objectInit ⟨#[0xb1]⟩ 1 none ∈ TB) (hf : 1 ≤ κ.2.2.2.2.2.2.1) (hl : 20 ≤ κ.2.2.2.2.2.2.2) (hd : decode κ.2.1 pc = .ok (.invokespecial ix, 3)) : am_Ok S l κ pc (i_cO (pc + 3)) := by
  intro p e R s m args below meth cd G dT A ad0 σ0 Qf Q C Rt ls st σ a b h ad it H locs lsj I
  unfold i_cO at h
  split at h
  · rename_i q r
    have h1 := C.2.2.2.2.2.2.2.2.2.2.2.2
    have h2 := C.2.2.2.2.2.2.2.2.2.2.2.1
    refine W.objInit C.1 C.2.1 C.2.2.2.1 (C.2.2.2.2.1 _ hw) (C.2.2.2.2.1 _ hs) (C.2.2.2.2.1 _ hc) rfl (I.2.2.2.2.1.2.1.trans C.2.2.1.symm) (a := ad q.1 q.2) (rest := r.map (cv ad)) rfl hd (by omega) ?_ (h.2 ad it H locs lsj I)
    have h3 : 2 * (F0 m pc lsj (List.map (cv ad) (.inr (.inr (some q)) :: r))).monitorRoom = 0 := rfl
    rw [h3, am_ct_eq]; omega
  · exact h.elim
/-! ===== ends ===== -/
theorem o_rV {S : SV} {l : Launch} {κ : KI} {pc : Nat} (hr : κ.2.2.2.1 = none) (hd : decode κ.2.1 pc = .ok (.return_, 1)) : am_Ok S l κ pc i_rV := by
  intro p e R s m args below meth cd G dT A ad0 σ0 Qf Q C Rt ls st σ a b h ad it H locs lsj I
  unfold i_rV at h
  split at h
  · exact Rt pc none ls σ a b ad it H locs lsj I h ⟨hr, hd⟩
  · exact h.elim
theorem o_rI {S : SV} {l : Launch} {κ : KI} {pc : Nat} (hr : κ.2.2.2.1 = some .int) (hd : decode κ.2.1 pc = .ok (.ireturn, 1)) : am_Ok S l κ pc i_rI := by
  intro p e R s m args below meth cd G dT A ad0 σ0 Qf Q C Rt ls st σ a b h ad it H locs lsj I
  unfold i_rI at h
  split at h
  · exact Rt pc (some (.inl _)) ls σ a b ad it H locs lsj I h ⟨Or.inl hr, hd⟩
  · exact h.elim
theorem o_rZ {S : SV} {l : Launch} {κ : KI} {pc : Nat} (hr : κ.2.2.2.1 = some .boolean) (hd : decode κ.2.1 pc = .ok (.ireturn, 1)) : am_Ok S l κ pc i_rZ := by
  intro p e R s m args below meth cd G dT A ad0 σ0 Qf Q C Rt ls st σ a b h ad it H locs lsj I
  unfold i_rZ at h
  split at h
  · exact Rt pc (some (.inl _)) ls σ a b ad it H locs lsj I h.2 ⟨Or.inr ⟨hr, h.1⟩, hd⟩
  · exact h.elim
theorem o_rL {S : SV} {l : Launch} {κ : KI} {pc : Nat} (hr : κ.2.2.2.1 = some .long) (hd : decode κ.2.1 pc = .ok (.lreturn, 1)) : am_Ok S l κ pc i_rL := by
  intro p e R s m args below meth cd G dT A ad0 σ0 Qf Q C Rt ls st σ a b h ad it H locs lsj I
  unfold i_rL at h
  split at h
  · exact Rt pc (some (.inr (.inl _))) ls σ a b ad it H locs lsj I h ⟨hr, hd⟩
  · exact h.elim
theorem o_rR {S : SV} {l : Launch} {κ : KI} {pc : Nat} (hr : ∃ n, κ.2.2.2.1 = some (.object n)) (hd : decode κ.2.1 pc = .ok (.areturn, 1)) : am_Ok S l κ pc i_rR := by
  intro p e R s m args below meth cd G dT A ad0 σ0 Qf Q C Rt ls st σ a b h ad it H locs lsj I
  unfold i_rR at h
  split at h
  · exact Rt pc (some (.inr (.inr _))) ls σ a b ad it H locs lsj I h ⟨hr, hd⟩
  · exact h.elim
