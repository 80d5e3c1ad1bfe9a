/-! ===== a method's walk by transformers: what holds at each place ===== -/
def TB : List Cond := lw_tbl.filter goodWord
def isNest : Cond → Bool
  | .methodLinkNest _ _ _ _ => true
  | .fieldLinkNest _ _ _ _ _ _ => true
  | _ => false
def nW : List Cond := lw_tbl.filter isNest
theorem nW_warm {w : Cond} (hw : w ∈ nW) {s U : State} (hW : s.WarmedH U.vm) (h : va_Nw w s) : va_Nw w U := by
  have h1 := (List.mem_filter.mp hw).2
  cases w <;> first | exact va_Nw.warmM hW h | exact va_Nw.warmF hW h | cases h1
theorem TB_good : ∀ w ∈ TB, (w.onTables && w.keeps) = true ∨ ∃ ty, w = .arrayClass ty := fun _ h => good_of_word (List.mem_filter.mp h).2
/-- what the tables say of classes and arrays, and of the one static array -/
def am_KK (G : va_G) (dT : Nat → ClassId) (A : Nat → Prop) (tb : Nat) (U : State) : Prop :=
  va_K G vwCl (tysF dT) U ∧ (∀ w ∈ nW, va_Nw w U) ∧ va_AO RX3 U ∧ va_AO RX10 U ∧ va_Z "RankWire" "TAIL" "[I" (.ref tb) A U U.heap ∧ ¬ A tb ∧ tb < U.heap.size
theorem am_KK.to {G : va_G} {dT : Nat → ClassId} {A : Nat → Prop} {tb : Nat} {s U : State} {locs : List Loc} (h : am_KK G dT A tb s) (hS : va_S A s.heap U.heap locs) (hW : s.WarmedH U.vm) : am_KK G dT A tb U :=
  ⟨va_K.moved hW.alike h.1, fun w hw => nW_warm hw hW (h.2.1 w hw), h.2.2.1.moved hW.alike, h.2.2.2.1.moved hW.alike, va_Z.moved hW.alike (h.2.2.2.2.1.kept (fun a h1 h2 => hS.2.1 a h1 h2)), h.2.2.2.2.2.1, Nat.lt_of_lt_of_le h.2.2.2.2.2.2 hS.1⟩
theorem am_KK.calling {G : va_G} {dT : Nat → ClassId} {A : Nat → Prop} {tb : Nat} {U : State} {g : JFrame} {mk : MethodId} {a : Array Value} (h : am_KK G dT A tb U) : am_KK G dT A tb (U.calling g mk a) :=
  ⟨va_K.moved (u := U) (U := U.calling g mk a) (Vm.Alike.refl U.vm) h.1, fun w hw => nW_warm (s := U) (U := U.calling g mk a) hw (State.WarmedH.refl U) (h.2.1 w hw), va_AO.moved (u := U) (U := U.calling g mk a) (Vm.Alike.refl U.vm) h.2.2.1, va_AO.moved (u := U) (U := U.calling g mk a) (Vm.Alike.refl U.vm) h.2.2.2.1, va_Z.moved (u := U) (U := U.calling g mk a) (Vm.Alike.refl U.vm) h.2.2.2.2.1, h.2.2.2.2.2.1, h.2.2.2.2.2.2⟩
def am_ro (σ0 σ : HS) : Prop := (∀ j, gI σ 20 j = gI σ0 20 j) ∧ ∀ j, gI σ 21 j = gI σ0 21 j
def am_ex (S : SV) (σ0 σ : HS) (ad0 ad : Nat → Nat → Nat) : Prop := (∀ c i, i < gC S σ0 c → i < gC S σ c ∧ ad c i = ad0 c i) ∧ ad 20 0 = ad0 20 0 ∧ ad 21 0 = ad0 21 0
def am_Qc (S : SV) (G : va_G) (dT : Nat → ClassId) (A : Nat → Prop) (ad0 : Nat → Nat → Nat) (σ0 : HS) (mc : Nat) (Q : PO) : Array Value → State → Outcome → State → Prop := fun _ st oc t =>
  (∃ (r : Option AV) (σ' : HS) (ad' : Nat → Nat → Nat) (it' : List (Nat × Nat)), oc = .returned (r.map (cv ad')) ∧ Q r σ' ∧ am_Rel S G dT A ad' it' σ' t.heap ∧ am_ro σ0 σ' ∧ am_ex S σ0 σ' ad0 ad' ∧ (mc = 0 → ad' = ad0)) ∧ va_F A st t
def wsK (κ : KI) : List Cond := Cond.code κ.1 κ.2.1 κ.2.2.1 κ.2.2.2.1 :: TB
def rmK (κ : KI) : Room := { frames := κ.2.2.2.2.2.2.1, cells := κ.2.2.2.2.1, slots := κ.2.2.2.2.2.1, locals := κ.2.2.2.2.2.2.2 }
def am_Pc (S : SV) (G : va_G) (dT : Nat → ClassId) (A : Nat → Prop) (ad : Nat → Nat → Nat) (it : List (Nat × Nat)) (σ : HS) : State → Prop := fun U => am_Rel S G dT A ad it σ U.heap ∧ am_KK G dT A (ad 21 0) U ∧ va_X (ad 21 0) 10 (gI σ 21) U U.heap ∧ ∀ q, U.heap.size ≤ q → A q
/-- the contract of method y, for these arguments, this state, this end -/
def am_Met (S : SV) (l : Launch) (G : va_G) (dT : Nat → ClassId) (A : Nat → Prop) : OR := fun y vs σ Q => (am_ar vs).length ≤ (mi y).2.2.1 → ∀ (ad : Nat → Nat → Nat) (it : List (Nat × Nat)),
  Met l (mi y).1 (wsK (mi y)) (rmK (mi y)) (va_Pc (vs.map (cv ad)) (am_Pc S G dT A ad it σ)) (am_Qc S G dT A ad σ (mi y).2.2.2.2.1 Q) (mi y).2.2.2.2.1 (mi y).2.2.2.2.2.1 A
def am_Cx (κ : KI) (p : Program) (R : Room) (s : State) (m : MethodId) (args : Array Value) (meth : Method) (c : Code) (G : va_G) (dT : Nat → ClassId) (A : Nat → Prop) (ad0 : Nat → Nat → Nat) (σ0 : HS) : Prop :=
  p.tables.exec = Jvm.exec ∧ c.code = κ.2.1 ∧ c.maxLocals = κ.2.2.1 ∧ s.vm.findClass κ.1.cls = some m.cls ∧ (∀ w ∈ TB, w.before args s = true) ∧ am_KK G dT A (ad0 21 0) s ∧ va_X (ad0 21 0) 10 (gI σ0 21) s s.heap ∧ (∀ q, s.heap.size ≤ q → A q) ∧ meth.name = κ.1.name ∧
  κ.2.2.2.2.1 ≤ R.cells ∧ κ.2.2.2.2.2.1 ≤ R.slots ∧ κ.2.2.2.2.2.2.1 ≤ R.frames ∧ κ.2.2.2.2.2.2.2 ≤ R.locals
def am_Iv (S : SV) (κ : KI) (s : State) (G : va_G) (dT : Nat → ClassId) (A : Nat → Prop) (ad0 : Nat → Nat → Nat) (σ0 : HS) (ls : ALs) (σ : HS) (a b : Nat) (ad : Nat → Nat → Nat) (it : List (Nat × Nat)) (H : Heap) (locs : List Loc) (lsj : Array Slot) : Prop :=
  am_Rel S G dT A ad it σ H ∧ am_ro σ0 σ ∧ am_ex S σ0 σ ad0 ad ∧ (a = 0 → ad = ad0) ∧ lR ad κ.2.2.1 ls lsj ∧ va_S A s.heap H locs ∧ a ≤ κ.2.2.2.2.1 ∧ b ≤ κ.2.2.2.2.2.1
section AW
variable (S : SV) (κ : KI) (p : Program) (l : Launch) (e : Env) (R : Room) (s : State) (m : MethodId) (args : Array Value) (below : List Frame) (meth : Method) (c : Code) (G : va_G) (dT : Nat → ClassId) (A : Nat → Prop) (ad0 : Nat → Nat → Nat) (σ0 : HS) (Qf : State → Prop)
/-- the machine comes to Qf from this place with these locals, this stack, this state -/
def am_AW : KT := fun pc ls st σ a b => ∀ (ad : Nat → Nat → Nat) (it : List (Nat × Nat)) (H : Heap) (locs : List Loc) (lsj : Array Slot), am_Iv S κ s G dT A ad0 σ0 ls σ a b ad it H locs lsj → W p l e R s m args below meth c H locs a b Qf (F0 m pc lsj (st.map (cv ad)))
def am_rd (pc : Nat) (v : Option AV) : Prop := match v with
  | none => κ.2.2.2.1 = none ∧ decode κ.2.1 pc = .ok (.return_, 1)
  | some (.inl x) => (κ.2.2.2.1 = some .int ∨ (κ.2.2.2.1 = some .boolean ∧ am_b x)) ∧ decode κ.2.1 pc = .ok (.ireturn, 1)
  | some (.inr (.inl _)) => κ.2.2.2.1 = some .long ∧ decode κ.2.1 pc = .ok (.lreturn, 1)
  | some (.inr (.inr _)) => (∃ n, κ.2.2.2.1 = some (.object n)) ∧ decode κ.2.1 pc = .ok (.areturn, 1)
def am_Rt (Q : PO) : Prop := ∀ (pc : Nat) (v : Option AV) (ls : ALs) (σ : HS) (a b : Nat) (ad : Nat → Nat → Nat) (it : List (Nat × Nat)) (H : Heap) (locs : List Loc) (lsj : Array Slot), am_Iv S κ s G dT A ad0 σ0 ls σ a b ad it H locs lsj → Q v σ → am_rd κ pc v → W p l e R s m args below meth c H locs a b Qf (F0 m pc lsj ((am_rt v []).map (cv ad)))
end AW
/-- the transformer is right at this place of this method -/
def am_Ok (S : SV) (l : Launch) (κ : KI) (pc : Nat) (t : PT) : Prop := ∀ (p : Program) (e : Env) (R : Room) (s : State) (m : MethodId) (args : Array Value) (below : List Frame) (meth : Method) (c : Code) (G : va_G) (dT : Nat → ClassId) (A : Nat → Prop) (ad0 : Nat → Nat → Nat) (σ0 : HS) (Qf : State → Prop) (Q : PO),
  am_Cx κ p R s m args meth c G dT A ad0 σ0 → am_Rt S κ p l e R s m args below meth c G dT A ad0 σ0 Qf Q → ∀ (ls : ALs) (st : List AV) (σ : HS) (a b : Nat),
    t (am_Met S l G dT A) Q (am_AW S κ p l e R s m args below meth c G dT A ad0 σ0 Qf) ls st σ a b → am_AW S κ p l e R s m args below meth c G dT A ad0 σ0 Qf pc ls st σ a b
def am_Okc (S : SV) (l : Launch) (κ : KI) (cd : Nat → Bool × PT) : Prop := ∀ pc, am_Ok S l κ pc (cd pc).2
theorem ok_no {S : SV} {l : Launch} {κ : KI} {pc : Nat} : am_Ok S l κ pc i_no := fun _ _ _ _ _ _ _ _ _ _ _ _ _ _ _ _ _ _ _ _ _ _ _ h => h.elim
theorem ok_bt {S : SV} {l : Launch} {κ : KI} {k : Nat} {x y : Nat → Bool × PT} (hx : am_Okc S l κ x) (hy : am_Okc S l κ y) : am_Okc S l κ (bt k x y) := by
  intro pc
  unfold bt
  split
  · exact hx pc
  · exact hy pc
theorem ok_lf {S : SV} {l : Launch} {κ : KI} {k : Nat} {h : Bool} {t : PT} (ht : am_Ok S l κ k t) : am_Okc S l κ (lf k h t) := by
  intro pc
  unfold lf
  split
  · rename_i e
    subst e
    exact ht
  · exact ok_no
theorem ok_no_iff {h : Bool} : ((h, i_no) : Bool × PT).2 = i_no := rfl
