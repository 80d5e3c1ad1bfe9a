/-! ===== the simulation: what the transformers say, the machine does ===== -/
theorem am_Met_mo {S : SV} {l : Launch} {G : va_G} {dT : Nat → ClassId} {A : Nat → Prop} : am_mo (am_Met S l G dT A) := by
  intro y vs σ Q Q' hq h hl ad it p e ha hc hk s m args below hf happ hP hK
  obtain ⟨k, o, h1, h2, h3, ⟨⟨⟨r, σ', ad', it', g1, g2, g3⟩, g4⟩, g5⟩⟩ := h hl ad it p e ha hc hk s m args below hf happ hP hK
  exact ⟨k, o, h1, h2, h3, ⟨⟨⟨r, σ', ad', it', g1, hq r σ' g2, g3⟩, g4⟩, g5⟩⟩
theorem am_rt_mq {S : SV} {κ : KI} {p : Program} {l : Launch} {e : Env} {R : Room} {s : State} {m : MethodId} {args : Array Value} {below : List Frame} {meth : Method} {c : Code} {G : va_G} {dT : Nat → ClassId} {A : Nat → Prop} {ad0 : Nat → Nat → Nat} {σ0 : HS} {Q : PO} (C : am_Cx κ p R s m args meth c G dT A ad0 σ0) (hr : meth.sig.returnType = κ.2.2.2.1) (hlocks : meth.locks = false) :
    am_Rt S κ p l e R s m args below meth c G dT A ad0 σ0 (MQ below (am_Qc S G dT A ad0 σ0 κ.2.2.2.2.1 Q) args s κ.2.2.2.2.1 κ.2.2.2.2.2.1 A) Q := by
  intro pc v ls σ a b ad it H locs lsj I hQ hd
  have hq : ∀ t : State, t.heap = H → s.WarmedH t.vm → am_Qc S G dT A ad0 σ0 κ.2.2.2.2.1 Q args s (.returned (v.map (cv ad))) t := fun t ht hW =>
    ⟨⟨v, σ, ad, it, rfl, hQ, by rw [ht]; exact I.1, I.2.1, I.2.2.1, fun h0 => I.2.2.2.1 (by have := I.2.2.2.2.2.2.1; omega)⟩, I.2.2.2.2.2.1.F ht⟩
  have hS := I.2.2.2.2.2.1
  refine W.widen (k := κ.2.2.2.2.1) (n := κ.2.2.2.2.2.1) I.2.2.2.2.2.2.1 I.2.2.2.2.2.2.2 ?_
  match v, hd, hq with
  | none, hd, hq => exact W.vret C.1 C.2.1 (hr.trans hd.1) hq hS.2.2 hd.2
  | some (.inl x), hd, hq =>
    rcases hd.1 with h1 | ⟨h1, h2⟩
    · exact W.iret C.1 C.2.1 (hr.trans h1) hq hS.2.2 hd.2
    · exact W.zret C.1 C.2.1 (hr.trans h1) (by rcases h2 with rfl | rfl <;> rfl) hq hS.2.2 hd.2
  | some (.inr (.inl x)), hd, hq => exact W.lret C.1 C.2.1 (hr.trans hd.1) hq hS.2.2 hd.2
  | some (.inr (.inr none)), hd, hq =>
    obtain ⟨⟨n, h1⟩, h2⟩ := hd
    exact W.aret C.1 C.2.1 (hr.trans h1) (Or.inl ⟨n, rfl⟩) (Or.inl rfl) hq hS.2.2 h2
  | some (.inr (.inr (some x))), hd, hq =>
    obtain ⟨⟨n, h1⟩, h2⟩ := hd
    exact W.aret C.1 C.2.1 (hr.trans h1) (Or.inl ⟨n, rfl⟩) (Or.inr ⟨_, rfl⟩) hq hS.2.2 h2
/-- a walk from a place, out of what the transformers come to -/
theorem am_T_AW {S : SV} {l : Launch} {κ : KI} {cd : Nat → Bool × PT} (hok : am_Okc S l κ cd) {p : Program} {e : Env} {R : Room} {s : State} {m : MethodId} {args : Array Value} {below : List Frame} {meth : Method} {c : Code} {G : va_G} {dT : Nat → ClassId} {A : Nat → Prop} {ad0 : Nat → Nat → Nat} {σ0 : HS} {Qf : State → Prop} {Q : PO} (C : am_Cx κ p R s m args meth c G dT A ad0 σ0) (Rt : am_Rt S κ p l e R s m args below meth c G dT A ad0 σ0 Qf Q)
    {pc : Nat} {ls : ALs} {st : List AV} {σ : HS} {a b : Nat} (h : am_T cd (am_Met S l G dT A) Q pc ls st σ a b) : am_AW S κ p l e R s m args below meth c G dT A ad0 σ0 Qf pc ls st σ a b :=
  h (am_AW S κ p l e R s m args below meth c G dT A ad0 σ0 Qf) (fun pc ls st σ a b h => hok pc p e R s m args below meth c G dT A ad0 σ0 Qf Q C Rt ls st σ a b h)
theorem am_sim {S : SV} {l : Launch} {G : va_G} {dT : Nat → ClassId} {A : Nat → Prop} (hok : ∀ y, am_Okc S l (mi y) (prog S y).2) (hnl : ∀ y, (prog S y).1 = (mi y).2.2.1) (hpl : ∀ y, plainName (mi y).1.cls = true) {y : Nat} {vs : List AV} {σ : HS} {Q : PO} (h : am_M (prog S) y vs σ Q) : am_Met S l G dT A y vs σ Q := by
  refine h (am_Met S l G dT A) am_Met_mo ?_
  intro y vs σ Q hT hl ad it
  refine Met.ofW (cc := (mi y).2.1) (maxL := (mi y).2.2.1) (ret := (mi y).2.2.2.1) (hpl y) rfl ?_
  intro p e s m args below meth c s₁ B hml hv
  obtain ⟨rfl, hRel, hKK, hX, hA⟩ := hv
  have hts := atoms_spec (ws := wsK (mi y)) B.pre
  have C : am_Cx (mi y) p (headSpec (wsK (mi y)) (rmK (mi y))).room s m (vs.map (cv ad)).toArray meth c G dT A ad σ :=
    ⟨B.exec, B.bytes, hml, findClass_of_methodNamed B.named, fun w hw => hts w (List.mem_cons_of_mem _ hw), hKK, hX, hA, (name_of_methodNamed B.named B.method).1, Nat.le_refl _, Nat.le_refl _, Nat.le_refl _, Nat.le_refl _⟩
  have hAW := am_T_AW (hok y) (e := e) (below := below) C (am_rt_mq C B.returns B.notSynchronized) hT
  rw [lg_entry_eq]
  rw [hnl y] at hAW
  exact hAW ad it s.heap [] _ ⟨hRel, ⟨fun _ => rfl, fun _ => rfl⟩, ⟨fun _ _ h => ⟨h, rfl⟩, rfl, rfl⟩, fun _ => rfl, lR.entry hl, va_S.rf, Nat.zero_le _, Nat.zero_le _⟩
