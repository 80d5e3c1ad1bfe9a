/-! THE CLAIM OUT OF ONE WALK OF THE LAW'S BODY. Your part is whole_start (and what it stands on); all else here is the same for every law, but numbers. -/
def R_law : String := "RankWireLaw"
def lw_P (b : Addr) (xs : List Int32) (args : Array Value) (s : State) : Prop := args = #[.ref b] ∧ s.IntsAt b xs ∧ xs.length ≤ 3072 ∧ (Jvm.Cond.and given_1 narrow_1).before args s = true
def lw_Q (_ : Array Value) (s : State) (o : Outcome) (t : State) : Prop := o = .returned (some (.int 1)) ∧ Framed s o t [] 600000 7302250
def lw_Z (below : List Frame) (a : Array Value) (s : State) : State → Prop := fun t => ∃ o, t.status = .running ∧ Ended t below o ∧ lw_Q a s o t
/-- the law's own end, with 1 on the stack, nothing written that was there before, its room as the claim has it -/
theorem lw_ret {p : Program} {l : Launch} {e : Env} {s : State} {m : MethodId} {below : List Frame} {meth : Method} {c : Code} {b : Nat} (hx : p.tables.exec = Jvm.exec) (hb : c.code = code) (hr : meth.sig.returnType = ret) (hlocks : meth.locks = false) {pc : Nat} {H : Heap} {ls : Array Slot} (hdg : decode code pc = .ok (.ireturn, 1)) : W p l e room_1 s m #[Value.ref b] below meth c H [] 600000 7302250 (lw_Z below #[Value.ref b] s) (F0 m pc ls [.int 1]) := by
  intro T hT X
  obtain ⟨fs, hret, hrun, hended, hW, hframe⟩ := X.leave (v := some (.int 1)) (hlocks := hlocks) (fun h => by rw [hr] at h; cases h)
  have hmeth' : T.vm.method? m = some meth := X.method'
  refine ⟨T.setFrames fs, ?_, .returned (some (.int 1)), hrun, hended, rfl, ⟨_, rfl⟩, hW, hframe⟩
  jvm_step X.here [X.here.top, hx, hb, hdg, hmeth', hr, ret, narrow_b1]
  (try refine ⟨rfl, ?_⟩); (try refine ⟨rfl, ?_⟩)
  first | (intro acts; rw [hret _ acts rfl rfl rfl]) | rw [hret _ _ rfl rfl rfl]
  exact Steps.refl _
/-- what holds at the law's entry: the machine, the code, the tables' words (any of lw_tbl by 'hts w (by decide +kernel)'), the script of L ints xs at the cell b, what the Statement gives of the start (any of its parts by flat_of_before) -/
def lw_At (p : Program) (s : State) (m : MethodId) (meth : Method) (c : Code) (b L : Nat) (xs : Nat → Int32) : Prop :=
  p.tables.exec = Jvm.exec ∧ c.code = code ∧ meth.sig.returnType = ret ∧ c.maxLocals = 4 ∧ s.vm.findClass R_law = some m.cls ∧ (∀ w ∈ lw_tbl, w.before #[Value.ref b] s = true) ∧ va_X b L xs s s.heap ∧ b < s.heap.size ∧ meth.locks = false ∧ (Jvm.Cond.and given_1 narrow_1).before #[Value.ref b] s = true
/-- the end of the law: nothing that was there is written -/
theorem law_Rt {S : SV} {p : Program} {l : Launch} {e : Env} {s : State} {m : MethodId} {below : List Frame} {meth : Method} {c : Code} {b : Nat} {G : va_G} {dT : Nat → ClassId} {ad0 : Nat → Nat → Nat} {σ0 : HS} {nm : String} (hx : p.tables.exec = Jvm.exec) (hb : c.code = code) (hr : meth.sig.returnType = ret) (hlocks : meth.locks = false) : am_Rt S (nL_law nm) p l e room_1 s m #[Value.ref b] below meth c G dT (fun q : Nat => s.heap.size ≤ q) ad0 σ0 (lw_Z below #[Value.ref b] s) (fun r _ => r = some (.inl 1)) := by
  intro pc v ls σ a b' ad it H locs lsj I hQ hd
  subst hQ
  refine va_forget (fun q hq => I.2.2.2.2.2.1.2.2 q hq) ?_
  refine W.widen (k := 600000) (n := 7302250) I.2.2.2.2.2.2.1 I.2.2.2.2.2.2.2 ?_
  exact lw_ret hx hb hr hlocks hd.2
theorem nest_at {w : Cond} (h1 : isNest w = true) {args : Array Value} {s : State} (h : w.before args s = true) : va_Nw w s := by
  cases w <;> first | exact h | cases h1
set_option maxHeartbeats 1000000 in
theorem whole_start {p : Program} {e : Env} {s : State} {m : MethodId} {below : List Frame} {meth : Method} {c : Code} (l : Launch) (hflags : l.flags = flags0) {b L : Nat} {xs : Nat → Int32} (hL : L ≤ 3072) (C0 : lw_At p s m meth c b L xs) : W p l e room_1 s m #[Value.ref b] below meth c s.heap [] 0 0 (lw_Z below #[Value.ref b] s) (entryFrame m ([Value.ref b] : List Value).toArray 4) := by
  obtain ⟨hx, hb, hr, hml, hown, hts, hX, hbl, hlocks, hgv⟩ := C0
  have hTB : ∀ w ∈ TB, w.before #[Value.ref b] s = true := fun w hw => hts w (List.mem_filter.mp hw).1
  have hA0 : ∀ a : Nat, a < s.heap.size → ¬ (fun q : Nat => s.heap.size ≤ q) a := fun a h => Nat.not_le.mpr h
  obtain ⟨c0, i0, k0⟩ := u_known (C := RX0) (T := TX0) (N := 10) (n := 10) hTB hin0 (hts (.instantiable RX0 10) (by decide +kernel))
  obtain ⟨c1, i1, k1⟩ := u_known (C := RX1) (T := TX1) (N := 7) (n := 7) hTB hin1 (hts (.instantiable RX1 7) (by decide +kernel))
  obtain ⟨c2, i2, k2⟩ := u_known (C := RX2) (T := TX2) (N := 6) (n := 6) hTB hin2 (hts (.instantiable RX2 6) (by decide +kernel))
  obtain ⟨c3, i3, k3⟩ := u_known (C := RX3) (T := TX3) (N := 4) (n := 4) hTB hin3 (hts (.instantiable RX3 4) (by decide +kernel))
  obtain ⟨c4, i4, k4⟩ := u_known (C := RX4) (T := TX4) (N := 2) (n := 2) hTB hin4 (hts (.instantiable RX4 2) (by decide +kernel))
  obtain ⟨c5, i5, k5⟩ := u_known (C := RX5) (T := TX5) (N := 12) (n := 12) hTB hin5 (hts (.instantiable RX5 12) (by decide +kernel))
  obtain ⟨c6, i6, k6⟩ := u_known (C := RX6) (T := TX6) (N := 4) (n := 4) hTB hin6 (hts (.instantiable RX6 4) (by decide +kernel))
  obtain ⟨c7, i7, k7⟩ := u_known (C := RX7) (T := TX7) (N := 3) (n := 3) hTB hin7 (hts (.instantiable RX7 3) (by decide +kernel))
  obtain ⟨c8, i8, k8⟩ := u_known (C := RX8) (T := TX8) (N := 2) (n := 2) hTB hin8 (hts (.instantiable RX8 2) (by decide +kernel))
  obtain ⟨c9, i9, k9⟩ := u_known (C := RX9) (T := TX9) (N := 16) (n := 16) hTB hin9 (hts (.instantiable RX9 16) (by decide +kernel))
  obtain ⟨c10, i10, k10⟩ := u_known (C := RX10) (T := TX10) (N := 18) (n := 18) hTB hin10 (hts (.instantiable RX10 18) (by decide +kernel))
  obtain ⟨c11, i11, k11⟩ := u_known (C := RX11) (T := TX11) (N := 8) (n := 8) hTB hin11 (hts (.instantiable RX11 8) (by decide +kernel))
  obtain ⟨c12, i12, k12⟩ := u_known (C := RX12) (T := TX12) (N := 67) (n := 67) hTB hin12 (hts (.instantiable RX12 67) (by decide +kernel))
  obtain ⟨G, hKc⟩ : ∃ G : va_G, ∀ (k : Nat) (q : vw_C), vwCl[k]? = some q → u_Kn s q.1 q.2.1 q.2.2 (G.1 k) (G.2 k) := by
    refine ⟨(fun k => if k = 0 then c0 else if k = 1 then c1 else if k = 2 then c2 else if k = 3 then c3 else if k = 4 then c4 else if k = 5 then c5 else if k = 6 then c6 else if k = 7 then c7 else if k = 8 then c8 else if k = 9 then c9 else if k = 10 then c10 else if k = 11 then c11 else c12, fun k => if k = 0 then i0 else if k = 1 then i1 else if k = 2 then i2 else if k = 3 then i3 else if k = 4 then i4 else if k = 5 then i5 else if k = 6 then i6 else if k = 7 then i7 else if k = 8 then i8 else if k = 9 then i9 else if k = 10 then i10 else if k = 11 then i11 else i12), ?_⟩
    intro k q hq
    match k, hq with
    | 0, hq => cases hq; exact k0
    | 1, hq => cases hq; exact k1
    | 2, hq => cases hq; exact k2
    | 3, hq => cases hq; exact k3
    | 4, hq => cases hq; exact k4
    | 5, hq => cases hq; exact k5
    | 6, hq => cases hq; exact k6
    | 7, hq => cases hq; exact k7
    | 8, hq => cases hq; exact k8
    | 9, hq => cases hq; exact k9
    | 10, hq => cases hq; exact k10
    | 11, hq => cases hq; exact k11
    | 12, hq => cases hq; exact k12
    | k + 13, hq => simp [vwCl] at hq
  obtain ⟨t0, a0, f0⟩ := arr_known (ty := .int) (hTB _ w6)
  obtain ⟨t1, a1, f1⟩ := arr_known (ty := .boolean) (hTB _ w3)
  obtain ⟨t2, a2, f2⟩ := arr_known (ty := .byte) (hTB _ w184)
  obtain ⟨t3, a3, f3⟩ := arr_known (ty := .long) (hTB _ w528)
  have ao4 := hts (.arrayOver (.object RX3)) (by decide +kernel)
  obtain ⟨t4, a4, f4⟩ := arr_knownO ao4
  have ao5 := hts (.arrayOver (.object RX10)) (by decide +kernel)
  obtain ⟨t5, a5, f5⟩ := arr_knownO ao5
  obtain ⟨dT, hty⟩ : ∃ dT : Nat → ClassId, ∀ (k : Nat) (q : ClassId × FieldType), (tysF dT)[k]? = some q → ArrOfT s q.1 q.2 ∧ va_RA s q.1 q.2 := by
    refine ⟨fun k => if k = 0 then t0 else if k = 1 then t1 else if k = 2 then t2 else if k = 3 then t3 else if k = 4 then t4 else t5, ?_⟩
    intro k q hq
    match k, hq with
    | 0, hq => cases hq; exact ⟨a0, f0⟩
    | 1, hq => cases hq; exact ⟨a1, f1⟩
    | 2, hq => cases hq; exact ⟨a2, f2⟩
    | 3, hq => cases hq; exact ⟨a3, f3⟩
    | 4, hq => cases hq; exact ⟨a4, f4⟩
    | 5, hq => cases hq; exact ⟨a5, f5⟩
    | k + 6, hq => simp [tysF] at hq
  have hs := flat_of_before _ hgv
  have harr : (Cond.arrayOf (.static "RankWire" "TAIL" "[I") .int).before #[Value.ref b] s = true := hs _ (by decide +kernel)
  have hlen := va_eqt (hs (Cond.eq (.length (.static "RankWire" "TAIL" "[I")) (.int (Int32.ofNat 10))) (by decide +kernel))
  have hel : ∀ j : Nat, j < 10 → (Term.elem (.static "RankWire" "TAIL" "[I") (.int (Int32.ofNat j))).eval #[Value.ref b] s none [] s = some (.int (tailV j)) := by
    intro j hj
    match j, hj with
    | 0, _ => exact va_eqt (hs (Cond.eq (.elem (.static "RankWire" "TAIL" "[I") (.int (Int32.ofNat 0))) (.int (tailV 0))) (by decide +kernel))
    | 1, _ => exact va_eqt (hs (Cond.eq (.elem (.static "RankWire" "TAIL" "[I") (.int (Int32.ofNat 1))) (.int (tailV 1))) (by decide +kernel))
    | 2, _ => exact va_eqt (hs (Cond.eq (.elem (.static "RankWire" "TAIL" "[I") (.int (Int32.ofNat 2))) (.int (tailV 2))) (by decide +kernel))
    | 3, _ => exact va_eqt (hs (Cond.eq (.elem (.static "RankWire" "TAIL" "[I") (.int (Int32.ofNat 3))) (.int (tailV 3))) (by decide +kernel))
    | 4, _ => exact va_eqt (hs (Cond.eq (.elem (.static "RankWire" "TAIL" "[I") (.int (Int32.ofNat 4))) (.int (tailV 4))) (by decide +kernel))
    | 5, _ => exact va_eqt (hs (Cond.eq (.elem (.static "RankWire" "TAIL" "[I") (.int (Int32.ofNat 5))) (.int (tailV 5))) (by decide +kernel))
    | 6, _ => exact va_eqt (hs (Cond.eq (.elem (.static "RankWire" "TAIL" "[I") (.int (Int32.ofNat 6))) (.int (tailV 6))) (by decide +kernel))
    | 7, _ => exact va_eqt (hs (Cond.eq (.elem (.static "RankWire" "TAIL" "[I") (.int (Int32.ofNat 7))) (.int (tailV 7))) (by decide +kernel))
    | 8, _ => exact va_eqt (hs (Cond.eq (.elem (.static "RankWire" "TAIL" "[I") (.int (Int32.ofNat 8))) (.int (tailV 8))) (by decide +kernel))
    | 9, _ => exact va_eqt (hs (Cond.eq (.elem (.static "RankWire" "TAIL" "[I") (.int (Int32.ofNat 9))) (.int (tailV 9))) (by decide +kernel))
    | j + 10, hj => exact absurd hj (by omega)
  obtain ⟨tb, htb, hXt, htl⟩ := tail_known harr hlen hel hA0
  have hZ : va_Z "RankWire" "TAIL" "[I" (.ref tb) (fun q : Nat => s.heap.size ≤ q) s s.heap := va_Zref (hts (.laysStatic "RankWire" "TAIL" "[I") (by decide +kernel)) (hts (.initialized "RankWire") (by decide +kernel)) htb hA0
  have KK : am_KK G dT (fun q : Nat => s.heap.size ≤ q) tb s := ⟨⟨hKc, hty⟩, fun w hw => nest_at (List.mem_filter.mp hw).2 (hts w (List.mem_filter.mp hw).1), va_AO.of ao4, va_AO.of ao5, hZ, hA0 tb htl, htl⟩
  obtain ⟨ad0, e20, e21⟩ : ∃ ad0 : Nat → Nat → Nat, ad0 20 0 = b ∧ ad0 21 0 = tb := ⟨fun a _ => if a = 20 then b else tb, rfl, rfl⟩
  have C : am_Cx (nL_law meth.name) p room_1 s m #[Value.ref b] meth c G dT (fun q : Nat => s.heap.size ≤ q) ad0 (st0 xs) := ⟨hx, hb, hml, hown, hTB, by rw [e21]; exact KK, by rw [e21]; exact hXt, fun q h => h, rfl, Nat.le_refl _, Nat.le_refl _, Nat.le_refl _, Nat.le_refl _⟩
  have X : va_X (ad0 20 0) L (gI (st0 xs) 20) s s.heap ∧ ¬ (fun q : Nat => s.heap.size ≤ q) (ad0 20 0) ∧ ad0 20 0 < s.heap.size := by
    rw [e20]
    exact ⟨hX, hA0 b hbl, hbl⟩
  have hT : am_T (KL S1 L) MR (fun r _ => r = some (.inl 1)) 18 (lsL 0) [] (stT xs) 61 5709 := l_law hL (fun _ => rfl) 512 0 61 5709 (stT xs) (by omega) (by omega) (by omega) (by omega) (inv0 xs)
  have h18 : am_AW S0 (nL_law meth.name) p l e room_1 s m #[Value.ref b] below meth c G dT (fun q : Nat => s.heap.size ≤ q) ad0 (st0 xs) (lw_Z below #[Value.ref b] s) 18 (lsL 0) [] (stT xs) 61 5709 := by
    intro ad it H locs lsj I
    obtain ⟨I1, I2, I3, I4, I5, I6, I7, I8⟩ := I
    obtain ⟨-, -, -, -, -, t21, t20⟩ := stT_f xs
    have x21 : ad 21 0 = ad0 21 0 := I3.2.2
    have x20 : ad 20 0 = ad0 20 0 := I3.2.1
    have g21 : gI (stT xs) 21 = gI (st0 xs) 21 := funext t21
    have g20 : gI (stT xs) 20 = gI (st0 xs) 20 := funext t20
    have C1 : am_Cx (nL_law meth.name) p room_1 s m #[Value.ref b] meth c G dT (fun q : Nat => s.heap.size ≤ q) ad (stT xs) := by
      obtain ⟨u1, u2, u3, u4, u5, u6, u7, u8⟩ := C
      exact ⟨u1, u2, u3, u4, u5, by rw [x21]; exact u6, by rw [x21, g21]; exact u7, u8⟩
    have X1 : va_X (ad 20 0) L (gI (stT xs) 20) s s.heap ∧ ¬ (fun q : Nat => s.heap.size ≤ q) (ad 20 0) ∧ ad 20 0 < s.heap.size := by
      rw [x20, g20]; exact X
    have hAW : am_AW S1 (nL_law meth.name) p l e room_1 s m #[Value.ref b] below meth c G dT (fun q : Nat => s.heap.size ≤ q) ad (stT xs) (lw_Z below #[Value.ref b] s) 18 (lsL 0) [] (stT xs) 61 5709 :=
      hT (am_AW S1 (nL_law meth.name) p l e room_1 s m #[Value.ref b] below meth c G dT (fun q : Nat => s.heap.size ≤ q) ad (stT xs) (lw_Z below #[Value.ref b] s)) (fun pc ls st σ a b' h => okL_law sv1 pc p e room_1 s m #[Value.ref b] below meth c G dT (fun q : Nat => s.heap.size ≤ q) ad (stT xs) (lw_Z below #[Value.ref b] s) _ C1 X1 (law_Rt hx hb hr hlocks) ls st σ a b' (gL_law S1 L 600000 7302250 pc _ _ _ _ _ _ ls st σ a b' MR_mo MR_le (fun _ _ h => h) (fun _ _ _ _ _ _ h => h) h))
    exact hAW ad it H locs lsj ⟨I1.sw (gC_st xs) (gR_st xs), ⟨fun _ => rfl, fun _ => rfl⟩, ⟨fun _ _ h => ⟨h, rfl⟩, rfl, rfl⟩, fun _ => rfl, I5, I6, I7, I8⟩
  have h0 := l_start (I := am_AW S0 (nL_law meth.name) p l e room_1 s m #[Value.ref b] below meth c G dT (fun q : Nat => s.heap.size ≤ q) ad0 (st0 xs) (lw_Z below #[Value.ref b] s)) (M := am_Met S0 l G dT (fun q : Nat => s.heap.size ≤ q)) (Q := fun r _ => r = some (.inl 1)) (fun pc ls st σ a b' h => okL_law sv0 pc p e room_1 s m #[Value.ref b] below meth c G dT (fun q : Nat => s.heap.size ≤ q) ad0 (st0 xs) (lw_Z below #[Value.ref b] s) _ C X (law_Rt hx hb hr hlocks) ls st σ a b' h) (fun y vs σ Q' h => sim0 h) h18
  have hRel : am_Rel S0 G dT (fun q : Nat => s.heap.size ≤ q) ad0 [] (st0 xs) s.heap := by
    refine ⟨fun k q h => ?_, ⟨fun i j p q h => ?_, fun k q h => ?_⟩, fun q => ⟨fun h => absurd h List.not_mem_nil, fun h => ?_⟩, fun q h => absurd h List.not_mem_nil⟩
    · simp [am_WL] at h
    · simp [am_WL] at h
    · simp [am_WL] at h
    · exfalso
      obtain ⟨h1, h2⟩ := h
      rw [gC_0, st0_n] at h2
      rcases h1 with z | ⟨z, -, -⟩
      · rw [if_neg (by omega), if_neg (by omega)] at h2
        omega
      · rw [if_neg (by omega), if_neg (by omega)] at h2
        omega
  have hv : ([Value.ref b] : List Value) = ([.inr (.inr (some (20, 0)))] : List AV).map (cv ad0) := by
    show [Value.ref b] = [Value.ref (ad0 20 0)]
    rw [e20]
  rw [hv, lg_entry_eq]
  have hE := h0 ad0 [] s.heap [] _ ⟨hRel, ⟨fun _ => rfl, fun _ => rfl⟩, ⟨fun _ _ h => ⟨h, rfl⟩, rfl, rfl⟩, fun _ => rfl, lR.entry (vs := [.inr (.inr (some (20, 0)))]) (nL := 4) (by decide), va_S.rf, Nat.zero_le _, Nat.zero_le _⟩
  rw [← hv] at hE ⊢
  exact hE
set_option maxHeartbeats 4000000 in
theorem lw_walk (l : Launch) (hflags : l.flags = flags0) (b : Addr) (xs : List Int32) : MetFree l x (headSpec (Jvm.Cond.code x code maxLocals ret :: tables_1) room_1) (lw_P b xs) (fun _ _ _ _ _ => True) lw_Q := by
  refine MetFree.of_bodyS (code := code) (maxLocals := maxLocals) (ret := ret) (by decide) ?_ ?_
  · intro args s m h hn
    obtain ⟨meth, c, h1, h2, h3, h4, h5, h6, -, -⟩ := Cond.code_spec hn (atoms_spec (ws := Jvm.Cond.code x code maxLocals ret :: tables_1) h _ List.mem_cons_self)
    exact ⟨meth, c, h1, h2, h3, h4, h5, h6⟩
  · intro p e s m args below meth c s₁ B hml0 hP _
    obtain ⟨rfl, hx, hbd, hgv⟩ := hP
    obtain ⟨scr, harrAt, hlist, hof, hsmall⟩ := hx
    obtain ⟨hcb, hkn, -, -⟩ := State.arrayAt?_spec harrAt
    have hown : s.vm.findClass R_law = some m.cls := findClass_of_methodNamed B.named
    have hts0 : ∀ c ∈ (Jvm.Cond.code x code maxLocals ret :: tables_1), c.before #[Value.ref b] s = true := atoms_spec (ws := Jvm.Cond.code x code maxLocals ret :: tables_1) B.pre
    have hts : ∀ w ∈ lw_tbl, w.before #[Value.ref b] s = true := k2_hts_sels lw_privs (fun w hw => hts0 w (List.mem_cons_of_mem _ hw)) lw_privs_ok
    have hml : c.maxLocals = 4 := B.maxLocals_eq (hts0 _ List.mem_cons_self)
    have X₀ : Stand p l e room_1 s m #[Value.ref b] below meth c s₁ [] 0 0 := Stand.of_body B
    have hh0 : s₁.heap = s.heap := by rw [B.state]; rfl
    have hsz : scr.slots.size = xs.length := by rw [← Array.length_toList, hlist, List.length_map]
    have hval : ∀ j : Nat, j < xs.length → scr.slots[j]? = some (.int (xs.getD j 0)) := fun j hj => by
      rw [← Array.getElem?_toList, hlist]
      simp [hj]
    have hbl : b < s.heap.size := (Array.getElem?_eq_some_iff.mp hcb).1
    have hX : va_X b xs.length (fun j => xs.getD j 0) s s.heap := ⟨scr, hcb, hof, hkn, hsz, hval⟩
    have K : W p l e room_1 s m #[Value.ref b] below meth c s₁.heap [] 0 0 (lw_Z below #[Value.ref b] s) (entryFrame m ([Value.ref b] : List Value).toArray 4) := by
      rw [hh0]
      exact whole_start l hflags hbd ⟨B.exec, B.bytes, B.returns, hml, hown, hts, hX, hbl, B.notSynchronized, hgv⟩
    obtain ⟨t, a1, o, b1, b2, b3⟩ := K s₁ rfl X₀
    exact ⟨t, o, a1, b1, b2, b3⟩
theorem lw_pre_spec {args : Array Value} {s : State} (h : (Jvm.Cond.and given_1 narrow_1).before args s = true) (hr : rest_1_c.before args s = true) : ∃ (b : Addr) (xs : List Int32), lw_P b xs args s := by
  have hs := flat_of_before _ h
  have hq := flat_of_before _ hr
  have hc : (Cond.count 1).before args s = true := hs _ (by decide +kernel)
  have harr : (Cond.arrayOf (.arg 0) .int).before args s = true := hs _ (by decide +kernel)
  have hle : (Cond.le (.length (.arg 0)) (.int 3072)).before args s = true := hs _ (by decide +kernel)
  have hlen : (Cond.isInt (.length (.arg 0))).before args s = true := hq _ (by decide +kernel)
  have hall : (Cond.all (.arg 0) (.isInt (.elem (.arg 0) (.index 0)))).before args s = true := hq _ (by decide +kernel)
  obtain ⟨b, xs, hb, hx⟩ := State.ints_of_pre rfl harr hlen hall
  have hsm : xs.length < 2 ^ 31 := hx.choose_spec.2.2.2
  have hev : (Term.length (.arg 0)).eval args s none [] s = some (.int xs.length.toInt32) := hx.length_eval hb
  have hv := Cond.le_ints hev (show (Term.int 3072).eval args s none [] s = some (.int 3072) from rfl)
  have hd : xs.length.toInt32 ≤ 3072 := by
    simpa [Cond.before, Cond.holds, hv] using hle
  have hN : xs.length ≤ 3072 := (Int32.ofNat_le_ofNat hsm (by decide)).mp (show Int32.ofNat xs.length ≤ Int32.ofNat 3072 from hd)
  exact ⟨b, xs, Cond.one_arg hc (show args[0]? = some (.ref b) from hb), hx, hN, h⟩
theorem lw_comes (l : Launch) (hflags : l.flags = flags0) : Comes l x (Jvm.Cond.code x code maxLocals ret :: tables_1) room_1 (fun tb e args s => Calls_1 tb e args s ∧ rest_1 tb e args s ∧ Pre_1 tb e args s)
    (fun _ _ args s o t => lw_Q args s o t) := by
  intro p e ha hc hk s m args below hf hfit hheap happ hpre
  obtain ⟨b, xs, hP⟩ := lw_pre_spec hpre.2.2 hpre.2.1
  obtain ⟨k, o, h1, h2, h3, hQ⟩ := lw_walk l hflags b xs p e ha hc hk s m args below hf ((Spec.applies_iff_loose hf).mp happ).1 hP trivial
  exact ⟨k, o, h1, h2, h3, hQ⟩
theorem lw_frame {s t : State} {o : Outcome} {args : Array Value} (h : Framed s o t [] 600000 7302250) :
    Framed s o t (fieldLocs frame_1_writes args s ++ arrayLocs frame_1_arrays args s ++ staticLocs frame_1_statics s) 600000 7302250 := h
theorem lw_limb (L : Cond) (hL : ∀ (args : Array Value) (s t : State), L.after args s (.returned (some (.int 1))) t = true) :
    ArmFor flags0 classFile x code maxLocals ret World_1 tables_1 room_1 Calls_1 rest_1 Pre_1
      (fun tb e a s o t => postC L tb e a s o t ∧ Framed s o t (fieldLocs frame_1_writes a s ++ arrayLocs frame_1_arrays a s ++ staticLocs frame_1_statics s) 600000 7302250) := by
  intro l hflags _ _ p e ha hc hk s m args below hf hfit hheap happ hpre
  obtain ⟨k, o, h1, h2, h3, rfl, hF⟩ := lw_comes l hflags p e ha hc hk s m args below hf hfit hheap happ hpre
  exact ⟨k, _, h1, h2, h3, hL args s _, lw_frame hF⟩
theorem i_vc : Claimed_1_1 ∧ Claimed_1_2 := ⟨lw_limb limb_1_1 (fun args s t => by simp [limb_1_1, Cond.after, Cond.holds, Cond.value]), lw_limb limb_1_2 (fun args s t => Cond.after_iff.mpr (by
  first | (rw [show limb_1_2 = Cond.eq .result (.int 1) from rfl, Cond.eq_ints (x := 1) (y := 1) rfl rfl]; simp; done) | (simp [limb_1_2, Cond.value, Term.eval]; done)))⟩
