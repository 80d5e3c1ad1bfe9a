/-! ===== calls ===== -/
theorem am_callg {p : Program} {l : Launch} {e : Env} {R : Room} {s : State} {m : MethodId} {args : Array Value} {below : List Frame} {meth : Method} {c : Code} {H : Heap} {locs : List Loc} {cells slots mc ms : Nat} {Q : State → Prop} {pc : Nat} {ls : Array Slot} {st0 rest : List Value} {Qa : State → Outcome → State → Prop} {free : Addr → Prop}
    (hr : va_Run p l e R s m args below meth c H locs cells slots mc ms (F0 m pc ls st0) rest Qa free)
    (kk : ∀ (v : Option Value) (st₀ t : State) (H1 : Heap) (L : List Loc), st₀.heap = H → t.heap = H1 → Qa st₀ (.returned v) t → (∀ q ∈ L, free q.base) → W p l e R s m args below meth c H1 (locs ++ L) (cells + mc) (slots + ms) Q (F0 m (pc + 3) ls (v.toList ++ rest))) : W p l e R s m args below meth c H locs cells slots Q (F0 m pc ls st0) := by
  intro T hT X
  obtain ⟨v, st₀, t, T', L, h0, X', hL, e1, e2, hq, hs⟩ := hr T hT X
  obtain ⟨t2, a1, b1⟩ := kk v st₀ t T'.heap L h0 e1.symm hq hL T' rfl X'
  exact ⟨t2, hs t2 a1, b1⟩
/-- what the caller finds behind a call -/
theorem am_back {S : SV} {κ : KI} {p : Program} {l : Launch} {e : Env} {R : Room} {s : State} {m : MethodId} {args : Array Value} {below : List Frame} {meth : Method} {cd : Code} {G : va_G} {dT : Nat → ClassId} {A : Nat → Prop} {ad0 : Nat → Nat → Nat} {σ0 : HS} {Qf : State → Prop} {pc : Nat} {ls : ALs} {r : List AV} {σ : HS} {a b mc ms : Nat}
    {ad : Nat → Nat → Nat} {it : List (Nat × Nat)} {H : Heap} {locs : List Loc} {lsj : Array Slot} (I : am_Iv S κ s G dT A ad0 σ0 ls σ a b ad it H locs lsj) (hv : mc = 0 ∨ am_vo S σ ls ∧ am_vs S σ r) (ha : a + mc ≤ κ.2.2.2.2.1) (hb : b + ms ≤ κ.2.2.2.2.2.1) {ag : Array Value} {st0 : List Value}
    (hr : va_Run p l e R s m args below meth cd H locs a b mc ms (F0 m pc lsj st0) (r.map (cv ad)) (am_Qc S G dT A ad σ mc (fun x σ' => am_AW S κ p l e R s m args below meth cd G dT A ad0 σ0 Qf (pc + 3) ls (am_rt x r) σ' (a + mc) (b + ms)) ag) A) : W p l e R s m args below meth cd H locs a b Qf (F0 m pc lsj st0) := by
  refine am_callg hr (fun v st₀ t H1 L h0 h1 hq hL => ?_)
  obtain ⟨⟨x, σ', ad', it', hx, hk, hRel, hro, hex, had⟩, hF⟩ := hq
  have hxv : v = x.map (cv ad') := Outcome.returned.inj hx
  subst h1
  have hS : va_S A s.heap t.heap (locs ++ L) := by
    refine ⟨Nat.le_trans I.2.2.2.2.2.1.1 (by rw [← h0]; exact hF.1), fun q hq1 hq2 => ?_, fun q hq => ?_⟩
    · rw [hF.2 q (by rw [h0]; exact Nat.lt_of_lt_of_le hq1 I.2.2.2.2.2.1.1) hq2, h0]
      exact I.2.2.2.2.2.1.2.1 q hq1 hq2
    · rcases List.mem_append.mp hq with h | h
      · exact I.2.2.2.2.2.1.2.2 q h
      · exact hL q h
  have hcv : ∀ w, am_v S σ w → cv ad' w = cv ad w := by
    intro w hw
    match w, hw with
    | .inl _, _ => rfl
    | .inr (.inl _), _ => rfl
    | .inr (.inr none), _ => rfl
    | .inr (.inr (some q)), hw =>
      show va_rf (some (ad' q.1 q.2)) = va_rf (some (ad q.1 q.2))
      rw [(hex.1 q.1 q.2 hw).2]
  have hst : r.map (cv ad') = r.map (cv ad) := by
    rcases hv with h | h
    · rw [had h]
    · exact am_up2_st hcv r h.2
  have hls : lR ad' κ.2.2.1 ls lsj := by
    rcases hv with h | h
    · rw [had h]; exact I.2.2.2.2.1
    · exact I.2.2.2.2.1.up h.1 hcv
  have hIv : am_Iv S κ s G dT A ad0 σ0 ls σ' (a + mc) (b + ms) ad' it' t.heap (locs ++ L) lsj := by
    refine ⟨hRel, ⟨fun j => (hro.1 j).trans (I.2.1.1 j), fun j => (hro.2 j).trans (I.2.1.2 j)⟩, ⟨fun c' i' h => ?_, hex.2.1.trans I.2.2.1.2.1, hex.2.2.trans I.2.2.1.2.2⟩, fun h => ?_, hls, hS, ha, hb⟩
    · obtain ⟨g1, g2⟩ := I.2.2.1.1 c' i' h
      exact ⟨(hex.1 c' i' g1).1, (hex.1 c' i' g1).2.trans g2⟩
    · rw [had (by omega)]
      exact I.2.2.2.1 (by omega)
  have h2 := hk ad' it' t.heap (locs ++ L) lsj hIv
  have h3 : List.map (cv ad') (am_rt x r) = v.toList ++ r.map (cv ad) := by
    rw [hxv]
    cases x with
    | none => exact hst
    | some w => rw [← hst]; rfl
  rw [h3] at h2
  exact h2
/-- what is said of a method that is called -/
def am_CF (κ : KI) (n : Nat) : Prop := Cond.code κ.1 κ.2.1 κ.2.2.1 κ.2.2.2.1 ∈ TB ∧ Cond.initialized κ.1.cls ∈ TB ∧ κ.1.cls ≠ "java/lang/invoke/MethodHandle" ∧ κ.1.cls ≠ "java/lang/invoke/VarHandle" ∧ (parseMethodDescriptor κ.1.desc).map (fun d => d.parameters.length) = some n
theorem am_goodK {κ : KI} {n : Nat} (h : am_CF κ n) : GoodIn TB (wsK κ) := by
  intro w hw
  rcases List.mem_cons.mp hw with rfl | hw
  · exact ⟨h.1, TB_good _ h.1⟩
  · exact ⟨hw, TB_good _ hw⟩
theorem am_blind {S : SV} {G : va_G} {dT : Nat → ClassId} {A : Nat → Prop} {ad : Nat → Nat → Nat} {it : List (Nat × Nat)} {σ : HS} {av : List Value} : FrameBlind (va_Pc av (am_Pc S G dT A ad it σ)) := by
  intro a U g mk h
  exact ⟨h.1, h.2.1, h.2.2.1.calling, va_X.moved (u := U) (U := U.calling g mk a) (Vm.Alike.refl U.vm) h.2.2.2.1, h.2.2.2.2⟩
/-- the callee's start, out of the caller's state -/
theorem am_pre {S : SV} {κ : KI} {p : Program} {R : Room} {s : State} {m : MethodId} {args : Array Value} {meth : Method} {cd : Code} {G : va_G} {dT : Nat → ClassId} {A : Nat → Prop} {ad0 : Nat → Nat → Nat} {σ0 : HS} (C : am_Cx κ p R s m args meth cd G dT A ad0 σ0) {ls : ALs} {σ : HS} {a b : Nat} {ad : Nat → Nat → Nat} {it : List (Nat × Nat)} {H : Heap} {locs : List Loc} {lsj : Array Slot} (I : am_Iv S κ s G dT A ad0 σ0 ls σ a b ad it H locs lsj) {U : State} (hU : U.heap = H) (hW : s.WarmedH U.vm) : am_Pc S G dT A ad it σ U := by
  have hS : va_S A s.heap U.heap locs := by rw [hU]; exact I.2.2.2.2.2.1
  have h21 : ad 21 0 = ad0 21 0 := I.2.2.1.2.2
  have hf : gI σ 21 = gI σ0 21 := funext I.2.1.2
  have hKK := C.2.2.2.2.2.1
  refine ⟨by rw [hU]; exact I.1, ?_, ?_, fun q hq => C.2.2.2.2.2.2.2.1 q (Nat.le_trans hS.1 hq)⟩
  · rw [h21]
    exact hKK.to hS hW
  · rw [h21, hf]
    exact (va_X.moved hW.alike C.2.2.2.2.2.2.1).kept (hS.2.1 _ hKK.2.2.2.2.2.2 hKK.2.2.2.2.2.1)
theorem am_room (m : MethodId) (pc : Nat) (lsj : Array Slot) (st : List Value) (ad : Nat → Nat → Nat) {r : List AV} (h : am_ct r ≤ 8) : 2 * (F0 m pc lsj st).monitorRoom + ((r.map (cv ad)).map fun v => v.category).sum ≤ 8 := by
  have h3 : 2 * (F0 m pc lsj st).monitorRoom = 0 := rfl
  rw [h3, am_ct_eq]; omega
theorem o_cV {S : SV} {l : Launch} {κ : KI} {pc ix y n : Nat} {κ' : KI} {c : Nat} {Cn : String} {T : u_T} {N : Nat} {ty : Nat → FieldType} (L : am_CL c Cn T N ty) (hy : mi y = κ') (F : am_CF κ' n) (hC : κ'.1.cls = Cn) (h1 : Cond.methodLink κ.1.cls ix κ'.1 ∈ TB) (h2 : Cond.instanceMethod κ'.1 ∈ TB) (h3 : Cond.selects κ'.1.cls κ'.1 κ'.1 ∈ TB) (h4 : κ'.2.2.2.2.2.2.1 + 1 ≤ κ.2.2.2.2.2.2.1) (h5 : 8 + (κ'.2.2.1 + 11) + κ'.2.2.2.2.2.2.2 ≤ κ.2.2.2.2.2.2.2) (hd : decode κ.2.1 pc = .ok (.invokevirtual ix, 3)) :
    am_Ok S l κ pc (i_cV S c y (n + 1) κ'.2.2.1 κ'.2.2.2.2.1 κ'.2.2.2.2.2.1 κ.2.2.2.2.1 κ.2.2.2.2.2.1 (pc + 3)) := by
  intro p e R s m args below meth cd G dT A ad0 σ0 Qf Q C Rt ls st σ a b h ad it H locs lsj I
  unfold i_cV at h
  split at h
  · rename_i q vs r hpop
    obtain ⟨e1, e2, ⟨e3, e4, e5, e6, e7⟩, hm⟩ := h
    obtain ⟨g1, g2⟩ := am_pop_eq _ _ _ _ _ hpop
    obtain ⟨q1, q2⟩ := q
    dsimp only at e1 e2
    subst e1
    have hM := hm (by rw [hy]; exact e3) ad it
    rw [hy] at hM
    have hcc := C.2.2.2.2.2.2.2.2.2.1
    have hcs := C.2.2.2.2.2.2.2.2.2.2.1
    have hcf := C.2.2.2.2.2.2.2.2.2.2.2.1
    have hcl := C.2.2.2.2.2.2.2.2.2.2.2.2
    obtain ⟨k0, k1, k2⟩ := am_pos I.1 (q := (q1, q2)) (Or.inl L.1) e2
    rw [am_ce_o L.1] at k2
    have hcw : CallW R s args κ.1.cls Cn ix κ'.1 κ'.2.1 κ'.2.2.1 κ'.2.2.2.1 (wsK κ') (rmK κ') κ'.2.2.2.2.1 κ'.2.2.2.2.2.1 n := by
      subst hC
      refine ⟨callB_of n C.2.2.2.2.1 (am_goodK F) rfl rfl rfl (C.2.2.2.2.1 _ F.2.1) (C.2.2.2.2.1 _ h1) F.2.2 ⟨?_, ?_⟩, C.2.2.2.2.1 _ h2, C.2.2.2.2.1 _ h3⟩
      · show κ'.2.2.2.2.2.2.1 + 1 ≤ R.frames; omega
      · show 8 + (κ'.2.2.1 + 11) + κ'.2.2.2.2.2.2.2 ≤ R.locals; omega
    have hst : st.map (cv ad) = (vs.map (cv ad)).reverse ++ .ref (ad q1 q2) :: r.map (cv ad) := by
      rw [show st = (.inr (.inr (some (q1, q2))) :: vs).reverse ++ r from by rw [g1]; rfl]
      simp [cv, va_rf]
    refine am_back I e5 e6 e7 (va_runV (As := vs.map (cv ad)) (rest := r.map (cv ad)) (b := ad q1 q2) ⟨C.1, C.2.1, C.2.2.1, C.2.2.2.1, C.2.2.2.2.1⟩ hM hcw ⟨am_blind, va_recv C.2.2.2.2.2.1.1 I.1.1 L.2.1 k2, fun U hU hW => ⟨rfl, am_pre C I hU hW⟩⟩ rfl (by rw [List.length_map]; simp at g2; omega) I.2.2.2.2.1.2.1 (by exact hst) (am_room m pc lsj _ ad e4) hd ⟨by omega, by omega⟩)
  · exact h.elim
theorem o_cS {S : SV} {l : Launch} {κ : KI} {pc ix y n : Nat} {κ' : KI} (hy : mi y = κ') (F : am_CF κ' n) (h1 : Cond.methodLink κ.1.cls ix κ'.1 ∈ TB) (h2 : Cond.static κ'.1 ∈ TB) (h4 : κ'.2.2.2.2.2.2.1 + 1 ≤ κ.2.2.2.2.2.2.1) (h5 : 8 + (κ'.2.2.1 + 11) + κ'.2.2.2.2.2.2.2 ≤ κ.2.2.2.2.2.2.2) (hd : decode κ.2.1 pc = .ok (.invokestatic ix, 3)) :
    am_Ok S l κ pc (i_cS S y n κ'.2.2.1 κ'.2.2.2.2.1 κ'.2.2.2.2.2.1 κ.2.2.2.2.1 κ.2.2.2.2.2.1 (pc + 3)) := by
  intro p e R s m args below meth cd G dT A ad0 σ0 Qf Q C Rt ls st σ a b h ad it H locs lsj I
  unfold i_cS at h
  split at h
  · rename_i vs r hpop
    obtain ⟨⟨e3, e4, e5, e6, e7⟩, hm⟩ := h
    obtain ⟨g1, g2⟩ := am_pop_eq _ _ _ _ _ hpop
    have hM := hm (by rw [hy]; exact e3) ad it
    rw [hy] at hM
    have hcc := C.2.2.2.2.2.2.2.2.2.1
    have hcs := C.2.2.2.2.2.2.2.2.2.2.1
    have hcf := C.2.2.2.2.2.2.2.2.2.2.2.1
    have hcl := C.2.2.2.2.2.2.2.2.2.2.2.2
    have hcw : CallB R s args κ.1.cls ix κ'.1 κ'.2.1 κ'.2.2.1 κ'.2.2.2.1 (wsK κ') (rmK κ') κ'.2.2.2.2.1 κ'.2.2.2.2.2.1 n ∧ (Cond.static κ'.1).before args s = true := by
      refine ⟨callB_of n C.2.2.2.2.1 (am_goodK F) rfl rfl rfl (C.2.2.2.2.1 _ F.2.1) (C.2.2.2.2.1 _ h1) F.2.2 ⟨?_, ?_⟩, C.2.2.2.2.1 _ h2⟩
      · show κ'.2.2.2.2.2.2.1 + 1 ≤ R.frames; omega
      · show 8 + (κ'.2.2.1 + 11) + κ'.2.2.2.2.2.2.2 ≤ R.locals; omega
    have hst : st.map (cv ad) = (vs.map (cv ad)).reverse ++ r.map (cv ad) := by
      rw [show st = vs.reverse ++ r from by rw [g1]; rfl]
      simp
    refine am_back I e5 e6 e7 (va_runS (As := vs.map (cv ad)) (rest := r.map (cv ad)) ⟨C.1, C.2.1, C.2.2.1, C.2.2.2.1, C.2.2.2.2.1⟩ hM hcw ⟨am_blind, fun U hU hW => ⟨rfl, am_pre C I hU hW⟩⟩ rfl (by rw [List.length_map]; simp at g2; omega) I.2.2.2.2.1.2.1 (by exact hst) (am_room m pc lsj _ ad e4) hd ⟨by omega, by omega⟩)
  · exact h.elim
theorem o_cSN {S : SV} {l : Launch} {κ : KI} {pc ix y n : Nat} {κ' : KI} {host : String} (hy : mi y = κ') (F : am_CF κ' n) (h1 : Cond.methodLinkNest κ.1.cls ix κ'.1 host ∈ nW) (h2 : Cond.static κ'.1 ∈ TB) (h4 : κ'.2.2.2.2.2.2.1 + 1 ≤ κ.2.2.2.2.2.2.1) (h5 : 8 + (κ'.2.2.1 + 11) + κ'.2.2.2.2.2.2.2 ≤ κ.2.2.2.2.2.2.2) (hd : decode κ.2.1 pc = .ok (.invokestatic ix, 3)) :
    am_Ok S l κ pc (i_cS S y n κ'.2.2.1 κ'.2.2.2.2.1 κ'.2.2.2.2.2.1 κ.2.2.2.2.1 κ.2.2.2.2.2.1 (pc + 3)) := by
  intro p e R s m args below meth cd G dT A ad0 σ0 Qf Q C Rt ls st σ a b h ad it H locs lsj I
  unfold i_cS at h
  split at h
  · rename_i vs r hpop
    obtain ⟨⟨e3, e4, e5, e6, e7⟩, hm⟩ := h
    obtain ⟨g1, g2⟩ := am_pop_eq _ _ _ _ _ hpop
    have hM := hm (by rw [hy]; exact e3) ad it
    rw [hy] at hM
    have hcc := C.2.2.2.2.2.2.2.2.2.1
    have hcs := C.2.2.2.2.2.2.2.2.2.2.1
    have hcf := C.2.2.2.2.2.2.2.2.2.2.2.1
    have hcl := C.2.2.2.2.2.2.2.2.2.2.2.2
    have hcw : va_CN R s args κ.1.cls ix κ'.1 host κ'.2.1 κ'.2.2.1 κ'.2.2.2.1 (wsK κ') (rmK κ') κ'.2.2.2.2.1 κ'.2.2.2.2.2.1 n ∧ (Cond.static κ'.1).before args s = true ∧ True := by
      refine ⟨va_cnB n C.2.2.2.2.1 (am_goodK F) rfl rfl rfl (C.2.2.2.2.2.1.2.1 _ h1) (C.2.2.2.2.1 _ F.2.1) F.2.2 ⟨?_, ?_⟩, C.2.2.2.2.1 _ h2, trivial⟩
      · show κ'.2.2.2.2.2.2.1 + 1 ≤ R.frames; omega
      · show 8 + (κ'.2.2.1 + 11) + κ'.2.2.2.2.2.2.2 ≤ R.locals; omega
    have hst : st.map (cv ad) = (vs.map (cv ad)).reverse ++ r.map (cv ad) := by
      rw [show st = vs.reverse ++ r from by rw [g1]; rfl]
      simp
    refine am_back I e5 e6 e7 (va_runSN (As := vs.map (cv ad)) (rest := r.map (cv ad)) ⟨C.1, C.2.1, C.2.2.1, C.2.2.2.1, C.2.2.2.2.1⟩ hM hcw ⟨am_blind, fun U hU hW => ⟨rfl, am_pre C I hU hW⟩⟩ rfl (by rw [List.length_map]; simp at g2; omega) I.2.2.2.2.1.2.1 (by exact hst) (am_room m pc lsj _ ad e4) hd ⟨by omega, by omega⟩)
  · exact h.elim
theorem o_cI {S : SV} {l : Launch} {κ : KI} {pc ix y n : Nat} {κ' : KI} (hy : mi y = κ') (F : am_CF κ' n) (hret : κ'.2.2.2.1 = none) (hnm : κ'.1.name = "<init>") (h1 : Cond.methodLink κ.1.cls ix κ'.1 ∈ TB) (h2 : Cond.instanceMethod κ'.1 ∈ TB) (h4 : κ'.2.2.2.2.2.2.1 + 1 ≤ κ.2.2.2.2.2.2.1) (h5 : 8 + (κ'.2.2.1 + 11) + κ'.2.2.2.2.2.2.2 ≤ κ.2.2.2.2.2.2.2) (hd : decode κ.2.1 pc = .ok (.invokespecial ix, 3)) :
    am_Ok S l κ pc (i_cI S y (n + 1) κ'.2.2.1 κ'.2.2.2.2.1 κ'.2.2.2.2.2.1 κ.2.2.2.2.1 κ.2.2.2.2.2.1 (pc + 3)) := by
  intro p e R s m args below meth cd G dT A ad0 σ0 Qf Q C Rt ls st σ a b h ad it H locs lsj I
  unfold i_cI at h
  split at h
  · rename_i q vs r hpop
    obtain ⟨⟨e3, e4, e5, e6, e7⟩, hm⟩ := h
    obtain ⟨g1, g2⟩ := am_pop_eq _ _ _ _ _ hpop
    have hM := hm (by rw [hy]; exact e3) ad it
    rw [hy] at hM
    have hcc := C.2.2.2.2.2.2.2.2.2.1
    have hcs := C.2.2.2.2.2.2.2.2.2.2.1
    have hcf := C.2.2.2.2.2.2.2.2.2.2.2.1
    have hcl := C.2.2.2.2.2.2.2.2.2.2.2.2
    have hcw : CallB R s args κ.1.cls ix κ'.1 κ'.2.1 κ'.2.2.1 none (wsK κ') (rmK κ') κ'.2.2.2.2.1 κ'.2.2.2.2.2.1 n ∧ κ'.1.name = "<init>" ∧ (Cond.instanceMethod κ'.1).before args s = true := by
      refine ⟨callB_of (ws' := TB) n C.2.2.2.2.1 (am_goodK F) (by unfold wsK; rw [hret]) rfl rfl (C.2.2.2.2.1 _ F.2.1) (C.2.2.2.2.1 _ h1) F.2.2 ⟨?_, ?_⟩, hnm, C.2.2.2.2.1 _ h2⟩
      · show κ'.2.2.2.2.2.2.1 + 1 ≤ R.frames; omega
      · show 8 + (κ'.2.2.1 + 11) + κ'.2.2.2.2.2.2.2 ≤ R.locals; omega
    have hst : st.map (cv ad) = (vs.map (cv ad)).reverse ++ .ref (ad q.1 q.2) :: r.map (cv ad) := by
      rw [show st = (.inr (.inr (some q)) :: vs).reverse ++ r from by rw [g1]; rfl]
      simp [cv, va_rf]
    refine am_back I e5 e6 e7 (va_runI (As := vs.map (cv ad)) (rest := r.map (cv ad)) (b := ad q.1 q.2) ⟨C.1, C.2.1, C.2.2.1, C.2.2.2.1, C.2.2.2.2.1⟩ hM hcw ⟨am_blind, fun U hU hW => ⟨rfl, am_pre C I hU hW⟩⟩ rfl (by rw [List.length_map]; simp at g2; omega) I.2.2.2.2.1.2.1 (by exact hst) (am_room m pc lsj _ ad e4) hd ⟨by omega, by omega⟩)
  · exact h.elim
theorem o_cIN {S : SV} {l : Launch} {κ : KI} {pc ix y n : Nat} {κ' : KI} {host : String} (hy : mi y = κ') (F : am_CF κ' n) (hret : κ'.2.2.2.1 = none) (hnm : κ'.1.name = "<init>") (h1 : Cond.methodLinkNest κ.1.cls ix κ'.1 host ∈ nW) (h2 : Cond.instanceMethod κ'.1 ∈ TB) (h4 : κ'.2.2.2.2.2.2.1 + 1 ≤ κ.2.2.2.2.2.2.1) (h5 : 8 + (κ'.2.2.1 + 11) + κ'.2.2.2.2.2.2.2 ≤ κ.2.2.2.2.2.2.2) (hd : decode κ.2.1 pc = .ok (.invokespecial ix, 3)) :
    am_Ok S l κ pc (i_cI S y (n + 1) κ'.2.2.1 κ'.2.2.2.2.1 κ'.2.2.2.2.2.1 κ.2.2.2.2.1 κ.2.2.2.2.2.1 (pc + 3)) := by
  intro p e R s m args below meth cd G dT A ad0 σ0 Qf Q C Rt ls st σ a b h ad it H locs lsj I
  unfold i_cI at h
  split at h
  · rename_i q vs r hpop
    obtain ⟨⟨e3, e4, e5, e6, e7⟩, hm⟩ := h
    obtain ⟨g1, g2⟩ := am_pop_eq _ _ _ _ _ hpop
    have hM := hm (by rw [hy]; exact e3) ad it
    rw [hy] at hM
    have hcc := C.2.2.2.2.2.2.2.2.2.1
    have hcs := C.2.2.2.2.2.2.2.2.2.2.1
    have hcf := C.2.2.2.2.2.2.2.2.2.2.2.1
    have hcl := C.2.2.2.2.2.2.2.2.2.2.2.2
    have hcw : va_CN R s args κ.1.cls ix κ'.1 host κ'.2.1 κ'.2.2.1 none (wsK κ') (rmK κ') κ'.2.2.2.2.1 κ'.2.2.2.2.2.1 n ∧ κ'.1.name = "<init>" ∧ (Cond.instanceMethod κ'.1).before args s = true := by
      refine ⟨va_cnB (ws' := TB) n C.2.2.2.2.1 (am_goodK F) (by unfold wsK; rw [hret]) rfl rfl (C.2.2.2.2.2.1.2.1 _ h1) (C.2.2.2.2.1 _ F.2.1) F.2.2 ⟨?_, ?_⟩, hnm, C.2.2.2.2.1 _ h2⟩
      · show κ'.2.2.2.2.2.2.1 + 1 ≤ R.frames; omega
      · show 8 + (κ'.2.2.1 + 11) + κ'.2.2.2.2.2.2.2 ≤ R.locals; omega
    have hst : st.map (cv ad) = (vs.map (cv ad)).reverse ++ .ref (ad q.1 q.2) :: r.map (cv ad) := by
      rw [show st = (.inr (.inr (some q)) :: vs).reverse ++ r from by rw [g1]; rfl]
      simp [cv, va_rf]
    refine am_back I e5 e6 e7 (va_runIN (As := vs.map (cv ad)) (rest := r.map (cv ad)) (b := ad q.1 q.2) ⟨C.1, C.2.1, C.2.2.1, C.2.2.2.1, C.2.2.2.2.1⟩ hM hcw ⟨am_blind, fun U hU hW => ⟨rfl, am_pre C I hU hW⟩⟩ rfl (by rw [List.length_map]; simp at g2; omega) I.2.2.2.2.1.2.1 (by exact hst) (am_room m pc lsj _ ad e4) hd ⟨by omega, by omega⟩)
  · exact h.elim
