/-! ===== the machine: what is fixed once the objects stand; the script is kept ===== -/
theorem am_kd3 (t : FieldType) : am_kd t = 0 ∨ am_kd t = 1 ∨ am_kd t = 2 := by
  cases t
  all_goals first | exact Or.inl rfl | exact Or.inr (Or.inl rfl) | exact Or.inr (Or.inr rfl)
theorem am_v_c {S S' : SV} {σ : HS} (hC : ∀ c, gC S' σ c = gC S σ c) {v : AV} (h : am_v S σ v) : am_v S' σ v := by
  match v, h with
  | .inl _, _ => trivial
  | .inr (.inl _), _ => trivial
  | .inr (.inr none), _ => trivial
  | .inr (.inr (some q)), h =>
    show q.2 < gC S' σ q.1
    rw [hC]
    exact h
theorem am_Rel.sw {G : va_G} {dT : Nat → ClassId} {A : Nat → Prop} {ad : Nat → Nat → Nat} {it : List (Nat × Nat)} {σ : HS} {H : Heap} (hC : ∀ c, gC S1 σ c = gC S0 σ c) (hR : ∀ c, c < 13 → ∀ k, k < am_nf c → ∀ i, i < gC S0 σ c → am_kd (am_ty c k) = 2 → gR S1 σ (100 * (c + 1) + k) i = gR S0 σ (100 * (c + 1) + k) i) (h : am_Rel S0 G dT A ad it σ H) : am_Rel S1 G dT A ad it σ H := by
  obtain ⟨h1, h2, h3, h4⟩ := h
  have hfv : ∀ c i k, c < 13 → k < am_nf c → i < gC S0 σ c → am_fv S1 σ c k i = am_fv S0 σ c k i := by
    intro c i k hc hk hi
    unfold am_fv
    rcases am_kd3 (am_ty c k) with e | e | e
    · rw [if_pos e, if_pos e]
    · have n0 : ¬ am_kd (am_ty c k) = 0 := by rw [e]; decide
      rw [if_neg n0, if_neg n0, if_pos e, if_pos e]
    · have n0 : ¬ am_kd (am_ty c k) = 0 := by rw [e]; decide
      have n1 : ¬ am_kd (am_ty c k) = 1 := by rw [e]; decide
      rw [if_neg n0, if_neg n0, if_neg n1, if_neg n1, hR c hc k hk i hi e]
  have hce : ∀ q, q ∈ it → am_ce S1 dT ad σ q = am_ce S0 dT ad σ q := by
    intro q hq
    obtain ⟨hid, hlt⟩ := (h3 q).mp hq
    unfold am_ce
    by_cases hc : q.1 < 13
    · rw [if_pos hc, if_pos hc]
      have : am_fs S1 ad σ q.1 q.2 = am_fs S0 ad σ q.1 q.2 := by
        unfold am_fs
        refine List.map_congr_left (fun k hk => ?_)
        rw [hfv q.1 q.2 k hc (List.mem_range.mp hk) hlt]
      rw [this]
    · rw [if_neg hc, if_neg hc]
      have : am_av S1 ad σ q.1 = am_av S0 ad σ q.1 := by
        unfold am_av
        rcases Nat.lt_or_ge q.1 85 with z | z
        · rw [if_pos z, if_pos z]; rfl
        · have n85 : ¬ q.1 < 85 := by omega
          rw [if_neg n85, if_neg n85]
          rcases Nat.lt_or_ge q.1 90 with y | y
          · rw [if_pos y, if_pos y]; rfl
          · have n90 : ¬ q.1 < 90 := by omega
            rw [if_neg n90, if_neg n90]
            have hq2 : q.1 = 90 ∨ q.1 = 91 := by
              rcases hid with x | ⟨-, x, -⟩
              · omega
              · omega
            rcases hq2 with e | e
            · rw [e]; rfl
            · rw [e]; rfl
      rw [this]
  have hWL : am_WL S1 dT ad σ it = am_WL S0 dT ad σ it := by
    unfold am_WL
    exact List.map_congr_left (fun q hq => by rw [hce q hq])
  refine ⟨by rw [hWL]; exact h1, by rw [hWL]; exact h2, fun q => by rw [hC]; exact h3 q, fun q hq => ?_⟩
  obtain ⟨hid, hlt⟩ := (h3 q).mp hq
  refine ⟨fun hc k hk => ?_, fun h90 j => ?_⟩
  · rw [hfv q.1 q.2 k hc hk hlt]
    exact am_v_c hC ((h4 q hq).1 hc k hk)
  · have hq2 : q.1 = 90 ∨ q.1 = 91 := by
      rcases hid with x | ⟨-, x, -⟩
      · omega
      · omega
    have := (h4 q hq).2 h90 j
    rcases hq2 with e | e
    · rw [e] at this ⊢; exact am_v_c hC this
    · rw [e] at this ⊢; exact am_v_c hC this
theorem am_Met_ro {S : SV} {l : Launch} {G : va_G} {dT : Nat → ClassId} {A : Nat → Prop} {y : Nat} {vs : List AV} {σ : HS} {Q : PO} (h : am_Met S l G dT A y vs σ (fun r σ' => am_ro σ σ' → Q r σ')) : am_Met S l G dT A y vs σ Q := by
  intro hl ad it p e ha hc hk s m args below hf happ hP hK
  obtain ⟨k, o, h1, h2, h3, ⟨⟨⟨r, σ', ad', it', g1, g2, g3, g3', g3''⟩, g4⟩, g5⟩⟩ := h hl ad it p e ha hc hk s m args below hf happ hP hK
  exact ⟨k, o, h1, h2, h3, ⟨⟨⟨r, σ', ad', it', g1, g2 g3', g3, g3', g3''⟩, g4⟩, g5⟩⟩
theorem MR_le {l : Launch} {G : va_G} {dT : Nat → ClassId} {A : Nat → Prop} : am_le MR (am_Met S1 l G dT A) := fun _ _ _ _ h => am_Met_ro (sim1 h)
theorem arr_known {args : Array Value} {s : State} {ty : FieldType} (h : (Cond.arrayClass ty).before args s = true) : ∃ cA : ClassId, ArrOfT s cA ty ∧ s.vm.findClass ("[" ++ ty.toString) = some cA := by
  obtain ⟨cA, kA, comp, h1, h2, h3⟩ := Cond.arrayClass_spec h
  exact ⟨cA, fun n z => ⟨fun k h => (by cases h), kA, h2, comp, h3⟩, h1⟩
theorem arr_knownO {args : Array Value} {s : State} {C : String} (h : (Cond.arrayOver (.object C)).before args s = true) : ∃ cA : ClassId, ArrOfT s cA (.object C) ∧ va_RA s cA (.object C) := by
  obtain ⟨comp, cA, kA, h1, -, h2, h3, h4⟩ := Cond.arrayOver_spec h
  exact ⟨cA, fun n z => ⟨fun k h => (by cases h), kA, h2, comp, h3⟩, kA, comp, h2, h3, h1, h4⟩
theorem len_of {args : Array Value} {s : State} {tm : Term} {t N : Nat} {cell : Cell} (hN : N < 2 ^ 31) (ht : tm.eval args s none [] s = some (.ref t)) (hat : s.arrayAt? t = some cell) (hlen : (Term.length tm).eval args s none [] s = some (.int (Int32.ofNat N))) : cell.slots.size = N := by
  have e : (Term.length tm).eval args s none [] s = (if cell.slots.size < 2 ^ 31 then some (Value.int cell.slots.size.toInt32) else none) := by
    simp only [Term.eval, ht, hat, Option.bind_eq_bind, Option.bind_some, Option.pure_def]
  rw [e] at hlen
  split at hlen
  · rename_i hs
    have := Value.int.inj (Option.some.inj hlen)
    exact (nI_eq hs hN).mp this
  · cases hlen
/-- the static array's ten ints -/
theorem tail_known {args : Array Value} {s : State} {tm : Term} {A : Nat → Prop} (harr : (Cond.arrayOf tm .int).before args s = true) (hlen : (Term.length tm).eval args s none [] s = some (.int (Int32.ofNat 10))) (hel : ∀ j : Nat, j < 10 → (Term.elem tm (.int (Int32.ofNat j))).eval args s none [] s = some (.int (tailV j))) (hA : ∀ a : Nat, a < s.heap.size → ¬ A a) : ∃ t : Nat, tm.eval args s none [] s = some (.ref t) ∧ va_X t 10 tailV s s.heap ∧ t < s.heap.size := by
  obtain ⟨t, ht, cell, h1, h2, h3, h4, h5, h6, h7⟩ := va_Tof (N := 10) (f := fun j => .int (tailV j)) (A := A) (by decide) harr hlen hel hA
  obtain ⟨t', cell', g1, g2, g3⟩ := Term.length_spec hlen
  have et : t' = t := by
    have := g1.symm.trans ht
    injection this with this
    injection this
  subst et
  obtain ⟨g4, -⟩ := State.arrayAt?_spec g2
  have ec : cell' = cell := Option.some.inj (g4.symm.trans h1)
  subst ec
  exact ⟨t', ht, ⟨cell', h1, h2, h3, len_of (by decide) ht g2 hlen, h6⟩, (Array.getElem?_eq_some_iff.mp h1).1⟩
