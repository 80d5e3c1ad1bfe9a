/-! ===== branches on references, switches, fields, arrays ===== -/
theorem o_jnull {S : SV} {l : Launch} {κ : KI} {pc : Nat} {off : Int} {tgt : Nat} (ht : (pc : Int) + off = (tgt : Int)) (hd : decode κ.2.1 pc = .ok (.ifnull off, 3)) : am_Ok S l κ pc (i_jnull tgt (pc + 3)) := by
  intro p e R s m args below meth c G dT A ad0 σ0 Qf Q C Rt ls st σ a b h ad it H locs lsj I
  unfold i_jnull at h
  split at h
  · exact lv_ifnullN C.1 C.2.1 hd ht (h ad it H locs lsj I)
  · exact lv_ifnull C.1 C.2.1 hd (h ad it H locs lsj I)
  · exact h.elim
theorem o_jnonnull {S : SV} {l : Launch} {κ : KI} {pc : Nat} {off : Int} {tgt : Nat} (ht : (pc : Int) + off = (tgt : Int)) (hd : decode κ.2.1 pc = .ok (.ifnonnull off, 3)) : am_Ok S l κ pc (i_jnull (pc + 3) tgt) := by
  intro p e R s m args below meth c G dT A ad0 σ0 Qf Q C Rt ls st σ a b h ad it H locs lsj I
  unfold i_jnull at h
  split at h
  · exact lv_ifnonnullN C.1 C.2.1 hd (h ad it H locs lsj I)
  · exact lv_ifnonnull C.1 C.2.1 hd ht (h ad it H locs lsj I)
  · exact h.elim
theorem am_same {S : SV} {G : va_G} {dT : Nat → ClassId} {A : Nat → Prop} {ad : Nat → Nat → Nat} {it : List (Nat × Nat)} {σ : HS} {H : Heap} (hR : am_Rel S G dT A ad it σ H) {x y : Option (Nat × Nat)} (hx : am_vi S σ x) (hy : am_vi S σ y) (h : x.map (fun q => ad q.1 q.2) = y.map (fun q => ad q.1 q.2)) : x = y := by
  cases x with
  | none => cases y with
    | none => rfl
    | some q => cases h
  | some q => cases y with
    | none => cases h
    | some q' =>
      simp only [Option.map_some, Option.some.injEq] at h
      rw [am_inj' hR ((hR.2.2.1 q).mpr hx) ((hR.2.2.1 q').mpr hy) h]
theorem o_jsame {S : SV} {l : Launch} {κ : KI} {pc : Nat} {off : Int} {tgt : Nat} (ht : (pc : Int) + off = (tgt : Int)) (hd : decode κ.2.1 pc = .ok (.if_acmp .eq off, 3)) : am_Ok S l κ pc (i_jsame S tgt (pc + 3)) := by
  intro p e R s m args below meth c G dT A ad0 σ0 Qf Q C Rt ls st σ a b h ad it H locs lsj I
  unfold i_jsame at h
  split at h
  · rename_i y x r
    obtain ⟨h1, h2, h3⟩ := h
    refine lv_acmp_eq (rx := x.map (fun q => ad q.1 q.2)) (ry := y.map (fun q => ad q.1 q.2)) C.1 C.2.1 hd ht (fun q => ?_) (fun q => ?_)
    · rw [if_pos (am_same I.1 h2 h1 q)] at h3
      exact h3 ad it H locs lsj I
    · rw [if_neg (fun z => q (by rw [z]))] at h3
      exact h3 ad it H locs lsj I
  · exact h.elim
theorem o_jdiff {S : SV} {l : Launch} {κ : KI} {pc : Nat} {off : Int} {tgt : Nat} (ht : (pc : Int) + off = (tgt : Int)) (hd : decode κ.2.1 pc = .ok (.if_acmp .ne off, 3)) : am_Ok S l κ pc (i_jsame S (pc + 3) tgt) := by
  intro p e R s m args below meth c G dT A ad0 σ0 Qf Q C Rt ls st σ a b h ad it H locs lsj I
  unfold i_jsame at h
  split at h
  · rename_i y x r
    obtain ⟨h1, h2, h3⟩ := h
    refine lv_acmp_ne (rx := x.map (fun q => ad q.1 q.2)) (ry := y.map (fun q => ad q.1 q.2)) C.1 C.2.1 hd ht (fun q => ?_) (fun q => ?_)
    · rw [if_neg (fun z => q (by rw [z]))] at h3
      exact h3 ad it H locs lsj I
    · rw [if_pos (am_same I.1 h2 h1 q)] at h3
      exact h3 ad it H locs lsj I
  · exact h.elim
theorem am_sw_or {x : Int32} {d : Nat} {K : KT} {ls : ALs} {st : List AV} {σ : HS} {a b : Nat} : ∀ ps : List (Int32 × Nat), am_sw x d K ls st σ a b ps → (∃ q ∈ ps, x = q.1 ∧ K q.2 ls st σ a b) ∨ ((∀ q ∈ ps, x ≠ q.1) ∧ K d ls st σ a b)
  | [], h => Or.inr ⟨fun q hq => (by cases hq), h⟩
  | q :: r, h => by
    unfold am_sw at h
    split at h
    · rename_i e
      exact Or.inl ⟨q, List.mem_cons_self, e, h⟩
    · rename_i e
      rcases am_sw_or r h with ⟨q', h1, h2⟩ | ⟨h1, h2⟩
      · exact Or.inl ⟨q', List.mem_cons_of_mem _ h1, h2⟩
      · refine Or.inr ⟨fun q' hq => ?_, h2⟩
        rcases List.mem_cons.mp hq with rfl | hq
        · exact e
        · exact h1 q' hq
def am_tsw (ps : List (Int32 × Nat)) (pc : Nat) (lo hi : Int) (offs : Array Int) : Bool :=
  ps.all (fun q => decide (¬ q.1.toInt < lo) && decide (¬ hi < q.1.toInt) && decide (offs[(q.1.toInt - lo).toNat]? = some ((q.2 : Int) - pc))) &&
  (List.range (hi - lo + 1).toNat).all (fun i => ps.any (fun q => decide (q.1.toInt = lo + i)))
theorem o_table {S : SV} {l : Launch} {κ : KI} {pc : Nat} {ps : List (Int32 × Nat)} {d len : Nat} {dflt lo hi : Int} {offs : Array Int} (ht : (pc : Int) + dflt = (d : Int)) (hp : am_tsw ps pc lo hi offs = true) (hd : decode κ.2.1 pc = .ok (.tableswitch dflt lo hi offs, len)) : am_Ok S l κ pc (i_sw ps d) := by
  intro p e R s m args below meth c G dT A ad0 σ0 Qf Q C Rt ls st σ a b h ad it H locs lsj I
  simp only [am_tsw, Bool.and_eq_true, List.all_eq_true, decide_eq_true_eq, List.any_eq_true] at hp
  obtain ⟨hp1, hp2⟩ := hp
  unfold i_sw at h
  split at h
  · rename_i x r
    rcases am_sw_or ps h with ⟨q, h1, h2, h3⟩ | ⟨h1, h3⟩
    · obtain ⟨⟨g1, g2⟩, g3⟩ := hp1 q h1
      subst h2
      exact lv_tableIn C.1 C.2.1 hd g1 g2 g3 (by omega) (h3 ad it H locs lsj I)
    · refine lv_tableOut C.1 C.2.1 hd ?_ ht (h3 ad it H locs lsj I)
      rcases Int.lt_or_le x.toInt lo with g1 | g1
      · exact Or.inl g1
      · rcases Int.lt_or_le hi x.toInt with g2 | g2
        · exact Or.inr g2
        · exfalso
          obtain ⟨q, hq, hq2⟩ := hp2 (x.toInt - lo).toNat (List.mem_range.mpr (by omega))
          exact h1 q hq (Int32.toInt_inj.mp (by rw [hq2]; omega))
  · exact h.elim
/-! fields -/
def am_CL (c : Nat) (Cn : String) (T : u_T) (N : Nat) (ty : Nat → FieldType) : Prop := c < 13 ∧ vwCl[c]? = some (Cn, T, N) ∧ N = am_nf c ∧ (∀ k, ty k = am_ty c k) ∧ (∀ w ∈ u_ws Cn T N, w ∈ TB) ∧ (∀ k, k < N → parseFieldDescriptor (T k).2.2.1 = some (ty k)) ∧ (∀ a, a < N → ∀ b, b < N → a ≠ b → (T a).2.1 ≠ (T b).2.1)
theorem am_get {S : SV} {l : Launch} {κ : KI} {pc c k ix : Nat} {Cn : String} {T : u_T} {N : Nat} {ty : Nat → FieldType} (L : am_CL c Cn T N ty) (hk : k < N) (hw : Cond.fieldLink κ.1.cls ix (T k).1 (T k).2.1 (T k).2.2.1 ∈ TB) (hd : decode κ.2.1 pc = .ok (.getfield ix, 3))
    {p : Program} {e : Env} {R : Room} {s : State} {m : MethodId} {args : Array Value} {below : List Frame} {meth : Method} {cd : Code} {G : va_G} {dT : Nat → ClassId} {A : Nat → Prop} {ad0 : Nat → Nat → Nat} {σ0 : HS} {Qf : State → Prop} (C : am_Cx κ p R s m args meth cd G dT A ad0 σ0)
    {ls : ALs} {r : List AV} {σ : HS} {a b i : Nat} (hi : i < gC S σ c) (h : am_AW S κ p l e R s m args below meth cd G dT A ad0 σ0 Qf (pc + 3) ls (am_fv S σ c k i :: r) σ a b) : am_AW S κ p l e R s m args below meth cd G dT A ad0 σ0 Qf pc ls (.inr (.inr (some (c, i))) :: r) σ a b := by
  intro ad it H locs lsj I
  obtain ⟨hc, hcl, hN, hty, hin, -, -⟩ := L
  obtain ⟨q0, h1, h2⟩ := am_pos I.1 (q := (c, i)) (Or.inl hc) hi
  rw [am_ce_o hc] at h2
  exact va_get C.1 C.2.1 C.2.2.2.2.1 hin C.2.2.2.1 C.2.2.2.2.2.1.1 I.1.1 q0 h2 hcl k hk (C.2.2.2.2.1 _ hw) (fun _ h => h) (am_fs_at (by rw [← hN]; exact hk)) hd (h ad it H locs lsj I)
theorem o_getI {S : SV} {l : Launch} {κ : KI} {pc c k f ix : Nat} {Cn : String} {T : u_T} {N : Nat} {ty : Nat → FieldType} (L : am_CL c Cn T N ty) (hk : k < N) (hf : 100 * (c + 1) + k = f) (h0 : am_kd (ty k) = 0) (hw : Cond.fieldLink κ.1.cls ix (T k).1 (T k).2.1 (T k).2.2.1 ∈ TB) (hd : decode κ.2.1 pc = .ok (.getfield ix, 3)) : am_Ok S l κ pc (i_getI S c f (pc + 3)) := by
  intro p e R s m args below meth cd G dT A ad0 σ0 Qf Q C Rt ls st σ a b h
  unfold i_getI at h
  split at h
  · rename_i q r
    obtain ⟨e1, e2, h3⟩ := h
    obtain ⟨q1, q2⟩ := q
    dsimp only at e1 e2 h3
    subst e1
    refine am_get L hk hw hd C e2 ?_
    unfold am_fv
    rw [← L.2.2.2.1 k, h0, if_pos rfl, hf]
    exact h3
  · exact h.elim
theorem o_getL {S : SV} {l : Launch} {κ : KI} {pc c k f ix : Nat} {Cn : String} {T : u_T} {N : Nat} {ty : Nat → FieldType} (L : am_CL c Cn T N ty) (hk : k < N) (hf : 100 * (c + 1) + k = f) (h0 : am_kd (ty k) = 1) (hw : Cond.fieldLink κ.1.cls ix (T k).1 (T k).2.1 (T k).2.2.1 ∈ TB) (hd : decode κ.2.1 pc = .ok (.getfield ix, 3)) : am_Ok S l κ pc (i_getL S c f (pc + 3)) := by
  intro p e R s m args below meth cd G dT A ad0 σ0 Qf Q C Rt ls st σ a b h
  unfold i_getL at h
  split at h
  · rename_i q r
    obtain ⟨e1, e2, h3⟩ := h
    obtain ⟨q1, q2⟩ := q
    dsimp only at e1 e2 h3
    subst e1
    refine am_get L hk hw hd C e2 ?_
    unfold am_fv
    rw [← L.2.2.2.1 k, h0, if_neg (by decide), if_pos rfl, hf]
    exact h3
  · exact h.elim
theorem o_getR {S : SV} {l : Launch} {κ : KI} {pc c k f ix : Nat} {Cn : String} {T : u_T} {N : Nat} {ty : Nat → FieldType} (L : am_CL c Cn T N ty) (hk : k < N) (hf : 100 * (c + 1) + k = f) (h0 : am_kd (ty k) = 2) (hw : Cond.fieldLink κ.1.cls ix (T k).1 (T k).2.1 (T k).2.2.1 ∈ TB) (hd : decode κ.2.1 pc = .ok (.getfield ix, 3)) : am_Ok S l κ pc (i_getR S c f (pc + 3)) := by
  intro p e R s m args below meth cd G dT A ad0 σ0 Qf Q C Rt ls st σ a b h
  unfold i_getR at h
  split at h
  · rename_i q r
    obtain ⟨e1, e2, h3⟩ := h
    obtain ⟨q1, q2⟩ := q
    dsimp only at e1 e2 h3
    subst e1
    refine am_get L hk hw hd C e2 ?_
    unfold am_fv
    rw [← L.2.2.2.1 k, h0, if_neg (by decide), if_neg (by decide), hf]
    exact h3
  · exact h.elim
