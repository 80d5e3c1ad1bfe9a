theorem am_nlt {x y : Int32} (h : y ≤ x) : ¬ x < y := by
  rw [Int32.le_iff_toInt_le] at h; rw [Int32.lt_iff_toInt_lt]; omega
theorem am_ltn {x y : Int32} (h : ¬ y ≤ x) : x < y := by
  rw [Int32.le_iff_toInt_le] at h; rw [Int32.lt_iff_toInt_lt]; omega
/-! ===== each kind of instruction: its transformer is right ===== -/
theorem o_iconst {S : SV} {l : Launch} {κ : KI} {pc : Nat} {n : Int} {v : Int32} (hv : Int32.ofInt n = v) (hd : decode κ.2.1 pc = .ok (.iconst n, 1))  : am_Ok S l κ pc (i_c (.inl v) (pc + 1)) := by
  intro p e R s m args below meth c G dT A ad0 σ0 Qf Q C Rt ls st σ a b h ad it H locs lsj I
  exact lv_iconst C.1 C.2.1 hd hv (h ad it H locs lsj I)
theorem o_bipush {S : SV} {l : Launch} {κ : KI} {pc : Nat} {n : Int} {v : Int32} (hv : (Int8.ofInt n).toInt32 = v) (hd : decode κ.2.1 pc = .ok (.bipush n, 2))  : am_Ok S l κ pc (i_c (.inl v) (pc + 2)) := by
  intro p e R s m args below meth c G dT A ad0 σ0 Qf Q C Rt ls st σ a b h ad it H locs lsj I
  exact lv_bipush C.1 C.2.1 hd hv (h ad it H locs lsj I)
theorem o_sipush {S : SV} {l : Launch} {κ : KI} {pc : Nat} {n : Int} {v : Int32} (hv : (Int16.ofInt n).toInt32 = v) (hd : decode κ.2.1 pc = .ok (.sipush n, 3))  : am_Ok S l κ pc (i_c (.inl v) (pc + 3)) := by
  intro p e R s m args below meth c G dT A ad0 σ0 Qf Q C Rt ls st σ a b h ad it H locs lsj I
  exact lv_sipush C.1 C.2.1 hd hv (h ad it H locs lsj I)
theorem o_lconst {S : SV} {l : Launch} {κ : KI} {pc : Nat} {n : Fin 2} {v : Int64} (hv : Int64.ofNat (n : Nat) = v) (hd : decode κ.2.1 pc = .ok (.lconst n, 1))  : am_Ok S l κ pc (i_c (.inr (.inl v)) (pc + 1)) := by
  intro p e R s m args below meth c G dT A ad0 σ0 Qf Q C Rt ls st σ a b h ad it H locs lsj I
  exact lv_lconst C.1 C.2.1 hd hv (h ad it H locs lsj I)
theorem o_null {S : SV} {l : Launch} {κ : KI} {pc : Nat} (hd : decode κ.2.1 pc = .ok (.aconst_null, 1))  : am_Ok S l κ pc (i_c (.inr (.inr none)) (pc + 1)) := by
  intro p e R s m args below meth c G dT A ad0 σ0 Qf Q C Rt ls st σ a b h ad it H locs lsj I
  exact lv_null C.1 C.2.1 hd (h ad it H locs lsj I)
theorem o_ldc {S : SV} {l : Launch} {κ : KI} {pc : Nat} {ix : Nat} {v : Int32} (hw : Cond.constant κ.1.cls ix v ∈ TB) (hd : decode κ.2.1 pc = .ok (.ldc ix, 2))  : am_Ok S l κ pc (i_c (.inl v) (pc + 2)) := by
  intro p e R s m args below meth c G dT A ad0 σ0 Qf Q C Rt ls st σ a b h ad it H locs lsj I
  exact lv_ldc C.1 C.2.1 C.2.2.2.1 (C.2.2.2.2.1 _ hw) hd (h ad it H locs lsj I)
theorem o_ldcw {S : SV} {l : Launch} {κ : KI} {pc : Nat} {ix : Nat} {v : Int32} (hw : Cond.constant κ.1.cls ix v ∈ TB) (hd : decode κ.2.1 pc = .ok (.ldc_w ix, 3))  : am_Ok S l κ pc (i_c (.inl v) (pc + 3)) := by
  intro p e R s m args below meth c G dT A ad0 σ0 Qf Q C Rt ls st σ a b h ad it H locs lsj I
  exact lv_ldcw C.1 C.2.1 C.2.2.2.1 (C.2.2.2.2.1 _ hw) hd (h ad it H locs lsj I)
theorem o_ldc2 {S : SV} {l : Launch} {κ : KI} {pc : Nat} {ix : Nat} {v : Int64} (hw : Cond.constantLong κ.1.cls ix v ∈ TB) (hd : decode κ.2.1 pc = .ok (.ldc2_w ix, 3))  : am_Ok S l κ pc (i_c (.inr (.inl v)) (pc + 3)) := by
  intro p e R s m args below meth c G dT A ad0 σ0 Qf Q C Rt ls st σ a b h ad it H locs lsj I
  exact lv_ldc2 C.1 C.2.1 C.2.2.2.1 (C.2.2.2.2.1 _ hw) hd (h ad it H locs lsj I)
theorem o_tail {S : SV} {l : Launch} {κ : KI} {pc : Nat} {ix : Nat} (hw : Cond.fieldLinkNest κ.1.cls ix "RankWire" "TAIL" "[I" "RankWire" ∈ nW) (hd : decode κ.2.1 pc = .ok (.getstatic ix, 3))  : am_Ok S l κ pc (i_c (.inr (.inr (some (21, 0)))) (pc + 3)) := by
  intro p e R s m args below meth c G dT A ad0 σ0 Qf Q C Rt ls st σ a b h ad it H locs lsj I
  have hZ := C.2.2.2.2.2.1.2.2.2.2.1
  have h1 := h ad it H locs lsj I
  rw [← I.2.2.1.2.2] at hZ
  exact va_getsN C.1 C.2.1 hZ I.2.2.2.2.2.1 C.2.2.2.1 (va_Nw.use rfl (C.2.2.2.2.2.1.2.1 _ hw)) (fun _ h => h) hd h1
theorem o_ldIn {S : SV} {l : Launch} {κ : KI} {pc : Nat} {k : Fin 4} {i : Nat} (hi : (k : Nat) = i) (hd : decode κ.2.1 pc = .ok (.iload_n k, 1))  : am_Ok S l κ pc (i_ldI i (pc + 1)) := by
  intro p e R s m args below meth c G dT A ad0 σ0 Qf Q C Rt ls st σ a b h ad it H locs lsj I
  unfold i_ldI at h
  split at h
  · rename_i x hk; exact lv_iload_n C.1 C.2.1 hd hi (I.2.2.2.2.1.2.2.2 _ _ hk) (h ad it H locs lsj I)
  · exact h.elim
theorem o_ldI {S : SV} {l : Launch} {κ : KI} {pc : Nat} {i : Nat} (hd : decode κ.2.1 pc = .ok (.iload i, 2))  : am_Ok S l κ pc (i_ldI i (pc + 2)) := by
  intro p e R s m args below meth c G dT A ad0 σ0 Qf Q C Rt ls st σ a b h ad it H locs lsj I
  unfold i_ldI at h
  split at h
  · rename_i x hk; exact lv_iload C.1 C.2.1 hd (I.2.2.2.2.1.2.2.2 _ _ hk) (h ad it H locs lsj I)
  · exact h.elim
theorem o_ldLn {S : SV} {l : Launch} {κ : KI} {pc : Nat} {k : Fin 4} {i : Nat} (hi : (k : Nat) = i) (hd : decode κ.2.1 pc = .ok (.lload_n k, 1))  : am_Ok S l κ pc (i_ldL i (pc + 1)) := by
  intro p e R s m args below meth c G dT A ad0 σ0 Qf Q C Rt ls st σ a b h ad it H locs lsj I
  unfold i_ldL at h
  split at h
  · rename_i x hk; exact lv_lload_n C.1 C.2.1 hd hi (I.2.2.2.2.1.2.2.2 _ _ hk) (h ad it H locs lsj I)
  · exact h.elim
theorem o_ldL {S : SV} {l : Launch} {κ : KI} {pc : Nat} {i : Nat} (hd : decode κ.2.1 pc = .ok (.lload i, 2))  : am_Ok S l κ pc (i_ldL i (pc + 2)) := by
  intro p e R s m args below meth c G dT A ad0 σ0 Qf Q C Rt ls st σ a b h ad it H locs lsj I
  unfold i_ldL at h
  split at h
  · rename_i x hk; exact lv_lload C.1 C.2.1 hd (I.2.2.2.2.1.2.2.2 _ _ hk) (h ad it H locs lsj I)
  · exact h.elim
theorem o_ldRn {S : SV} {l : Launch} {κ : KI} {pc : Nat} {k : Fin 4} {i : Nat} (hi : (k : Nat) = i) (hd : decode κ.2.1 pc = .ok (.aload_n k, 1))  : am_Ok S l κ pc (i_ldR i (pc + 1)) := by
  intro p e R s m args below meth c G dT A ad0 σ0 Qf Q C Rt ls st σ a b h ad it H locs lsj I
  unfold i_ldR at h
  split at h
  · rename_i x hk
    have h2 := I.2.2.2.2.1.2.2.2 _ _ hk
    have h3 := h ad it H locs lsj I
    cases x with
    | none => exact lv_aload_nN C.1 C.2.1 hd hi h2 h3
    | some q => exact lv_aload_n C.1 C.2.1 hd hi h2 h3
  · exact h.elim
theorem o_ldR {S : SV} {l : Launch} {κ : KI} {pc : Nat} {i : Nat} (hd : decode κ.2.1 pc = .ok (.aload i, 2))  : am_Ok S l κ pc (i_ldR i (pc + 2)) := by
  intro p e R s m args below meth c G dT A ad0 σ0 Qf Q C Rt ls st σ a b h ad it H locs lsj I
  unfold i_ldR at h
  split at h
  · rename_i x hk
    have h2 := I.2.2.2.2.1.2.2.2 _ _ hk
    have h3 := h ad it H locs lsj I
    cases x with
    | none => exact lv_aloadN C.1 C.2.1 hd h2 h3
    | some q => exact lv_aload C.1 C.2.1 hd h2 h3
  · exact h.elim
theorem o_stIn {S : SV} {l : Launch} {κ : KI} {pc : Nat} {k : Fin 4} {i : Nat} (hi : (k : Nat) = i) (hd : decode κ.2.1 pc = .ok (.istore_n k, 1))  : am_Ok S l κ pc (i_stI i (pc + 1)) := by
  intro p e R s m args below meth c G dT A ad0 σ0 Qf Q C Rt ls st σ a b h ad it H locs lsj I
  unfold i_stI at h
  split at h
  · rename_i x r
    exact lv_istore_n C.1 C.2.1 hd hi I.2.2.2.2.1.has (by rw [← I.2.2.2.2.1.1]; exact am_ok_lt h.1) rfl (fun ls' hl' => by have hl2 := I.2.2.2.2.1.st1 (v := .inl x) h.1 rfl hl'; exact h.2 ad it H locs ls' ⟨I.1, I.2.1, I.2.2.1, I.2.2.2.1, hl2, I.2.2.2.2.2⟩)
  · exact h.elim
theorem o_stI {S : SV} {l : Launch} {κ : KI} {pc : Nat} {i : Nat} (hd : decode κ.2.1 pc = .ok (.istore i, 2))  : am_Ok S l κ pc (i_stI i (pc + 2)) := by
  intro p e R s m args below meth c G dT A ad0 σ0 Qf Q C Rt ls st σ a b h ad it H locs lsj I
  unfold i_stI at h
  split at h
  · rename_i x r
    exact lv_istore C.1 C.2.1 hd I.2.2.2.2.1.has (by rw [← I.2.2.2.2.1.1]; exact am_ok_lt h.1) rfl (fun ls' hl' => by have hl2 := I.2.2.2.2.1.st1 (v := .inl x) h.1 rfl hl'; exact h.2 ad it H locs ls' ⟨I.1, I.2.1, I.2.2.1, I.2.2.2.1, hl2, I.2.2.2.2.2⟩)
  · exact h.elim
theorem o_stLn {S : SV} {l : Launch} {κ : KI} {pc : Nat} {k : Fin 4} {i : Nat} (hi : (k : Nat) = i) (hd : decode κ.2.1 pc = .ok (.lstore_n k, 1))  : am_Ok S l κ pc (i_stL i (pc + 1)) := by
  intro p e R s m args below meth c G dT A ad0 σ0 Qf Q C Rt ls st σ a b h ad it H locs lsj I
  unfold i_stL at h
  split at h
  · rename_i x r
    exact lv_lstore_n C.1 C.2.1 hd hi I.2.2.2.2.1.has (by rw [← I.2.2.2.2.1.1]; exact h.2.1) rfl (fun ls' hl' => by have hl2 := I.2.2.2.2.1.st2 (v := .inr (.inl x)) h.1 rfl hl'; exact h.2.2 ad it H locs ls' ⟨I.1, I.2.1, I.2.2.1, I.2.2.2.1, hl2, I.2.2.2.2.2⟩)
  · exact h.elim
theorem o_stL {S : SV} {l : Launch} {κ : KI} {pc : Nat} {i : Nat} (hd : decode κ.2.1 pc = .ok (.lstore i, 2))  : am_Ok S l κ pc (i_stL i (pc + 2)) := by
  intro p e R s m args below meth c G dT A ad0 σ0 Qf Q C Rt ls st σ a b h ad it H locs lsj I
  unfold i_stL at h
  split at h
  · rename_i x r
    exact lv_lstore C.1 C.2.1 hd I.2.2.2.2.1.has (by rw [← I.2.2.2.2.1.1]; exact h.2.1) rfl (fun ls' hl' => by have hl2 := I.2.2.2.2.1.st2 (v := .inr (.inl x)) h.1 rfl hl'; exact h.2.2 ad it H locs ls' ⟨I.1, I.2.1, I.2.2.1, I.2.2.2.1, hl2, I.2.2.2.2.2⟩)
  · exact h.elim
theorem o_stRn {S : SV} {l : Launch} {κ : KI} {pc : Nat} {k : Fin 4} {i : Nat} (hi : (k : Nat) = i) (hd : decode κ.2.1 pc = .ok (.astore_n k, 1))  : am_Ok S l κ pc (i_stR i (pc + 1)) := by
  intro p e R s m args below meth c G dT A ad0 σ0 Qf Q C Rt ls st σ a b h ad it H locs lsj I
  unfold i_stR at h
  split at h
  · rename_i x r
    cases x with
    | none => exact lv_astore_nN C.1 C.2.1 hd hi I.2.2.2.2.1.has (by rw [← I.2.2.2.2.1.1]; exact am_ok_lt h.1) rfl (fun ls' hl' => by have hl2 := I.2.2.2.2.1.st1 (v := .inr (.inr none)) h.1 rfl hl'; exact h.2 ad it H locs ls' ⟨I.1, I.2.1, I.2.2.1, I.2.2.2.1, hl2, I.2.2.2.2.2⟩)
    | some q => exact lv_astore_n C.1 C.2.1 hd hi I.2.2.2.2.1.has (by rw [← I.2.2.2.2.1.1]; exact am_ok_lt h.1) rfl (fun ls' hl' => by have hl2 := I.2.2.2.2.1.st1 (v := .inr (.inr (some q))) h.1 rfl hl'; exact h.2 ad it H locs ls' ⟨I.1, I.2.1, I.2.2.1, I.2.2.2.1, hl2, I.2.2.2.2.2⟩)
  · exact h.elim
theorem o_stR {S : SV} {l : Launch} {κ : KI} {pc : Nat} {i : Nat} (hd : decode κ.2.1 pc = .ok (.astore i, 2))  : am_Ok S l κ pc (i_stR i (pc + 2)) := by
  intro p e R s m args below meth c G dT A ad0 σ0 Qf Q C Rt ls st σ a b h ad it H locs lsj I
  unfold i_stR at h
  split at h
  · rename_i x r
    cases x with
    | none => exact lv_astoreN C.1 C.2.1 hd I.2.2.2.2.1.has (by rw [← I.2.2.2.2.1.1]; exact am_ok_lt h.1) rfl (fun ls' hl' => by have hl2 := I.2.2.2.2.1.st1 (v := .inr (.inr none)) h.1 rfl hl'; exact h.2 ad it H locs ls' ⟨I.1, I.2.1, I.2.2.1, I.2.2.2.1, hl2, I.2.2.2.2.2⟩)
    | some q => exact lv_astore C.1 C.2.1 hd I.2.2.2.2.1.has (by rw [← I.2.2.2.2.1.1]; exact am_ok_lt h.1) rfl (fun ls' hl' => by have hl2 := I.2.2.2.2.1.st1 (v := .inr (.inr (some q))) h.1 rfl hl'; exact h.2 ad it H locs ls' ⟨I.1, I.2.1, I.2.2.1, I.2.2.2.1, hl2, I.2.2.2.2.2⟩)
  · exact h.elim
theorem o_iinc {S : SV} {l : Launch} {κ : KI} {pc : Nat} {i : Nat} {n : Int} {v : Int32} (hv : Int32.ofInt n = v) (hd : decode κ.2.1 pc = .ok (.iinc i n, 3))  : am_Ok S l κ pc (i_inc i v (pc + 3)) := by
  intro p e R s m args below meth c G dT A ad0 σ0 Qf Q C Rt ls st σ a b h ad it H locs lsj I
  unfold i_inc at h
  split at h
  · rename_i x hk
    obtain ⟨j, hj⟩ := List.getElem?_of_mem (lvl_mem (ad := ad) hk)
    exact lv_iinc (v := x + v) C.1 C.2.1 hd I.2.2.2.2.1.has hj (by rw [hv]) (by rw [← I.2.2.2.2.1.1]; exact am_ok_lt h.1) rfl (fun ls' hl' => by have hl2 := I.2.2.2.2.1.st1 (v := .inl (x + v)) h.1 rfl hl'; exact h.2 ad it H locs ls' ⟨I.1, I.2.1, I.2.2.1, I.2.2.2.1, hl2, I.2.2.2.2.2⟩)
  · exact h.elim
theorem o_iadd {S : SV} {l : Launch} {κ : KI} {pc : Nat} (hd : decode κ.2.1 pc = .ok (.iadd, 1))  : am_Ok S l κ pc (i_b2 (fun x y => x + y) (pc + 1)) := by
  intro p e R s m args below meth c G dT A ad0 σ0 Qf Q C Rt ls st σ a b h ad it H locs lsj I
  unfold i_b2 at h
  split at h
  · exact lv_iadd C.1 C.2.1 hd (h ad it H locs lsj I)
  · exact h.elim
theorem o_isub {S : SV} {l : Launch} {κ : KI} {pc : Nat} (hd : decode κ.2.1 pc = .ok (.isub, 1))  : am_Ok S l κ pc (i_b2 (fun x y => x - y) (pc + 1)) := by
  intro p e R s m args below meth c G dT A ad0 σ0 Qf Q C Rt ls st σ a b h ad it H locs lsj I
  unfold i_b2 at h
  split at h
  · exact lv_isub C.1 C.2.1 hd (h ad it H locs lsj I)
  · exact h.elim
theorem o_imul {S : SV} {l : Launch} {κ : KI} {pc : Nat} (hd : decode κ.2.1 pc = .ok (.imul, 1))  : am_Ok S l κ pc (i_b2 (fun x y => x * y) (pc + 1)) := by
  intro p e R s m args below meth c G dT A ad0 σ0 Qf Q C Rt ls st σ a b h ad it H locs lsj I
  unfold i_b2 at h
  split at h
  · exact lv_imul C.1 C.2.1 hd (h ad it H locs lsj I)
  · exact h.elim
theorem o_iand {S : SV} {l : Launch} {κ : KI} {pc : Nat} (hd : decode κ.2.1 pc = .ok (.iand, 1))  : am_Ok S l κ pc (i_b2 (fun x y => x &&& y) (pc + 1)) := by
  intro p e R s m args below meth c G dT A ad0 σ0 Qf Q C Rt ls st σ a b h ad it H locs lsj I
  unfold i_b2 at h
  split at h
  · exact lv_iand C.1 C.2.1 hd (h ad it H locs lsj I)
  · exact h.elim
theorem o_ior {S : SV} {l : Launch} {κ : KI} {pc : Nat} (hd : decode κ.2.1 pc = .ok (.ior, 1))  : am_Ok S l κ pc (i_b2 (fun x y => x ||| y) (pc + 1)) := by
  intro p e R s m args below meth c G dT A ad0 σ0 Qf Q C Rt ls st σ a b h ad it H locs lsj I
  unfold i_b2 at h
  split at h
  · exact lv_ior C.1 C.2.1 hd (h ad it H locs lsj I)
  · exact h.elim
theorem o_ixor {S : SV} {l : Launch} {κ : KI} {pc : Nat} (hd : decode κ.2.1 pc = .ok (.ixor, 1))  : am_Ok S l κ pc (i_b2 (fun x y => x ^^^ y) (pc + 1)) := by
  intro p e R s m args below meth c G dT A ad0 σ0 Qf Q C Rt ls st σ a b h ad it H locs lsj I
  unfold i_b2 at h
  split at h
  · exact lv_ixor C.1 C.2.1 hd (h ad it H locs lsj I)
  · exact h.elim
theorem o_ishl {S : SV} {l : Launch} {κ : KI} {pc : Nat} (hd : decode κ.2.1 pc = .ok (.ishl, 1))  : am_Ok S l κ pc (i_b2 (fun x y => x <<< (y &&& 31)) (pc + 1)) := by
  intro p e R s m args below meth c G dT A ad0 σ0 Qf Q C Rt ls st σ a b h ad it H locs lsj I
  unfold i_b2 at h
  split at h
  · exact lv_ishl C.1 C.2.1 hd (h ad it H locs lsj I)
  · exact h.elim
theorem o_ishr {S : SV} {l : Launch} {κ : KI} {pc : Nat} (hd : decode κ.2.1 pc = .ok (.ishr, 1))  : am_Ok S l κ pc (i_b2 (fun x y => x >>> (y &&& 31)) (pc + 1)) := by
  intro p e R s m args below meth c G dT A ad0 σ0 Qf Q C Rt ls st σ a b h ad it H locs lsj I
  unfold i_b2 at h
  split at h
  · exact lv_ishr C.1 C.2.1 hd (h ad it H locs lsj I)
  · exact h.elim
theorem o_iushr {S : SV} {l : Launch} {κ : KI} {pc : Nat} (hd : decode κ.2.1 pc = .ok (.iushr, 1))  : am_Ok S l κ pc (i_b2 (fun x y => (x.toUInt32 >>> (y.toUInt32 &&& Int32.toUInt32 31)).toInt32) (pc + 1)) := by
  intro p e R s m args below meth c G dT A ad0 σ0 Qf Q C Rt ls st σ a b h ad it H locs lsj I
  unfold i_b2 at h
  split at h
  · exact lv_iushr C.1 C.2.1 hd rfl (h ad it H locs lsj I)
  · exact h.elim
theorem o_idiv {S : SV} {l : Launch} {κ : KI} {pc : Nat} (hd : decode κ.2.1 pc = .ok (.idiv, 1))  : am_Ok S l κ pc (i_b2n (fun x y => x / y) (pc + 1)) := by
  intro p e R s m args below meth c G dT A ad0 σ0 Qf Q C Rt ls st σ a b h ad it H locs lsj I
  unfold i_b2n at h
  split at h
  · exact lv_idiv C.1 C.2.1 hd h.1 (h.2 ad it H locs lsj I)
  · exact h.elim
theorem o_irem {S : SV} {l : Launch} {κ : KI} {pc : Nat} (hd : decode κ.2.1 pc = .ok (.irem, 1))  : am_Ok S l κ pc (i_b2n (fun x y => x - x / y * y) (pc + 1)) := by
  intro p e R s m args below meth c G dT A ad0 σ0 Qf Q C Rt ls st σ a b h ad it H locs lsj I
  unfold i_b2n at h
  split at h
  · exact lv_irem C.1 C.2.1 hd h.1 (h.2 ad it H locs lsj I)
  · exact h.elim
theorem o_ineg {S : SV} {l : Launch} {κ : KI} {pc : Nat} (hd : decode κ.2.1 pc = .ok (.ineg, 1))  : am_Ok S l κ pc (i_u1 (fun x => -x) (pc + 1)) := by
  intro p e R s m args below meth c G dT A ad0 σ0 Qf Q C Rt ls st σ a b h ad it H locs lsj I
  unfold i_u1 at h
  split at h
  · exact lv_ineg C.1 C.2.1 hd (h ad it H locs lsj I)
  · exact h.elim
theorem o_i2b {S : SV} {l : Launch} {κ : KI} {pc : Nat} (hd : decode κ.2.1 pc = .ok (.i2b, 1))  : am_Ok S l κ pc (i_u1 (fun x => x.toInt8.toInt32) (pc + 1)) := by
  intro p e R s m args below meth c G dT A ad0 σ0 Qf Q C Rt ls st σ a b h ad it H locs lsj I
  unfold i_u1 at h
  split at h
  · exact lv_i2b C.1 C.2.1 hd rfl (h ad it H locs lsj I)
  · exact h.elim
theorem o_ladd {S : SV} {l : Launch} {κ : KI} {pc : Nat} (hd : decode κ.2.1 pc = .ok (.ladd, 1))  : am_Ok S l κ pc (i_l2 (fun x y => x + y) (pc + 1)) := by
  intro p e R s m args below meth c G dT A ad0 σ0 Qf Q C Rt ls st σ a b h ad it H locs lsj I
  unfold i_l2 at h
  split at h
  · exact lv_ladd C.1 C.2.1 hd (h ad it H locs lsj I)
  · exact h.elim
theorem o_lsub {S : SV} {l : Launch} {κ : KI} {pc : Nat} (hd : decode κ.2.1 pc = .ok (.lsub, 1))  : am_Ok S l κ pc (i_l2 (fun x y => x - y) (pc + 1)) := by
  intro p e R s m args below meth c G dT A ad0 σ0 Qf Q C Rt ls st σ a b h ad it H locs lsj I
  unfold i_l2 at h
  split at h
  · exact lv_lsub C.1 C.2.1 hd (h ad it H locs lsj I)
  · exact h.elim
theorem o_lmul {S : SV} {l : Launch} {κ : KI} {pc : Nat} (hd : decode κ.2.1 pc = .ok (.lmul, 1))  : am_Ok S l κ pc (i_l2 (fun x y => x * y) (pc + 1)) := by
  intro p e R s m args below meth c G dT A ad0 σ0 Qf Q C Rt ls st σ a b h ad it H locs lsj I
  unfold i_l2 at h
  split at h
  · exact lv_lmul C.1 C.2.1 hd (h ad it H locs lsj I)
  · exact h.elim
theorem o_land {S : SV} {l : Launch} {κ : KI} {pc : Nat} (hd : decode κ.2.1 pc = .ok (.land, 1))  : am_Ok S l κ pc (i_l2 (fun x y => x &&& y) (pc + 1)) := by
  intro p e R s m args below meth c G dT A ad0 σ0 Qf Q C Rt ls st σ a b h ad it H locs lsj I
  unfold i_l2 at h
  split at h
  · exact lv_land C.1 C.2.1 hd (h ad it H locs lsj I)
  · exact h.elim
theorem o_lor {S : SV} {l : Launch} {κ : KI} {pc : Nat} (hd : decode κ.2.1 pc = .ok (.lor, 1))  : am_Ok S l κ pc (i_l2 (fun x y => x ||| y) (pc + 1)) := by
  intro p e R s m args below meth c G dT A ad0 σ0 Qf Q C Rt ls st σ a b h ad it H locs lsj I
  unfold i_l2 at h
  split at h
  · exact lv_lor C.1 C.2.1 hd (h ad it H locs lsj I)
  · exact h.elim
theorem o_ldiv {S : SV} {l : Launch} {κ : KI} {pc : Nat} (hd : decode κ.2.1 pc = .ok (.ldiv, 1))  : am_Ok S l κ pc (i_l2n (fun x y => x / y) (pc + 1)) := by
  intro p e R s m args below meth c G dT A ad0 σ0 Qf Q C Rt ls st σ a b h ad it H locs lsj I
  unfold i_l2n at h
  split at h
  · exact lv_ldiv C.1 C.2.1 hd h.1 (h.2 ad it H locs lsj I)
  · exact h.elim
theorem o_lrem {S : SV} {l : Launch} {κ : KI} {pc : Nat} (hd : decode κ.2.1 pc = .ok (.lrem, 1))  : am_Ok S l κ pc (i_l2n (fun x y => x - x / y * y) (pc + 1)) := by
  intro p e R s m args below meth c G dT A ad0 σ0 Qf Q C Rt ls st σ a b h ad it H locs lsj I
  unfold i_l2n at h
  split at h
  · exact lv_lrem C.1 C.2.1 hd h.1 (h.2 ad it H locs lsj I)
  · exact h.elim
theorem o_lshl {S : SV} {l : Launch} {κ : KI} {pc : Nat} (hd : decode κ.2.1 pc = .ok (.lshl, 1))  : am_Ok S l κ pc (i_lsh (fun x y => x <<< (y.toInt64 &&& 63)) (pc + 1)) := by
  intro p e R s m args below meth c G dT A ad0 σ0 Qf Q C Rt ls st σ a b h ad it H locs lsj I
  unfold i_lsh at h
  split at h
  · exact lv_lshl C.1 C.2.1 hd rfl (h ad it H locs lsj I)
  · exact h.elim
theorem o_lshr {S : SV} {l : Launch} {κ : KI} {pc : Nat} (hd : decode κ.2.1 pc = .ok (.lshr, 1))  : am_Ok S l κ pc (i_lsh (fun x y => x >>> (y.toInt64 &&& 63)) (pc + 1)) := by
  intro p e R s m args below meth c G dT A ad0 σ0 Qf Q C Rt ls st σ a b h ad it H locs lsj I
  unfold i_lsh at h
  split at h
  · exact lv_lshr C.1 C.2.1 hd rfl (h ad it H locs lsj I)
  · exact h.elim
theorem o_lushr {S : SV} {l : Launch} {κ : KI} {pc : Nat} (hd : decode κ.2.1 pc = .ok (.lushr, 1))  : am_Ok S l κ pc (i_lsh (fun x y => (x.toUInt64 >>> (y.toInt64.toUInt64 &&& Int64.toUInt64 63)).toInt64) (pc + 1)) := by
  intro p e R s m args below meth c G dT A ad0 σ0 Qf Q C Rt ls st σ a b h ad it H locs lsj I
  unfold i_lsh at h
  split at h
  · exact lv_lushr C.1 C.2.1 hd rfl (h ad it H locs lsj I)
  · exact h.elim
theorem o_i2l {S : SV} {l : Launch} {κ : KI} {pc : Nat} (hd : decode κ.2.1 pc = .ok (.i2l, 1))  : am_Ok S l κ pc (i_i2l (pc + 1)) := by
  intro p e R s m args below meth c G dT A ad0 σ0 Qf Q C Rt ls st σ a b h ad it H locs lsj I
  unfold i_i2l at h
  split at h
  · exact lv_i2l C.1 C.2.1 hd rfl (h ad it H locs lsj I)
  · exact h.elim
theorem o_l2i {S : SV} {l : Launch} {κ : KI} {pc : Nat} (hd : decode κ.2.1 pc = .ok (.l2i, 1))  : am_Ok S l κ pc (i_l2i (pc + 1)) := by
  intro p e R s m args below meth c G dT A ad0 σ0 Qf Q C Rt ls st σ a b h ad it H locs lsj I
  unfold i_l2i at h
  split at h
  · exact lv_l2i C.1 C.2.1 hd rfl (h ad it H locs lsj I)
  · exact h.elim
theorem o_lcmp {S : SV} {l : Launch} {κ : KI} {pc : Nat} (hd : decode κ.2.1 pc = .ok (.lcmp, 1))  : am_Ok S l κ pc (i_lcmp (pc + 1)) := by
  intro p e R s m args below meth c G dT A ad0 σ0 Qf Q C Rt ls st σ a b h ad it H locs lsj I
  unfold i_lcmp at h
  split at h
  · exact W.lcmp C.1 C.2.1 hd (h ad it H locs lsj I)
  · exact h.elim
theorem o_dup {S : SV} {l : Launch} {κ : KI} {pc : Nat} (hd : decode κ.2.1 pc = .ok (.dup, 1))  : am_Ok S l κ pc (i_dup (pc + 1)) := by
  intro p e R s m args below meth c G dT A ad0 σ0 Qf Q C Rt ls st σ a b h ad it H locs lsj I
  unfold i_dup at h
  split at h
  · exact lv_dup C.1 C.2.1 hd rfl (h ad it H locs lsj I)
  · rename_i x r; exact lv_dup C.1 C.2.1 hd (by cases x <;> rfl) (h ad it H locs lsj I)
  · exact h.elim
theorem o_pop {S : SV} {l : Launch} {κ : KI} {pc : Nat} (hd : decode κ.2.1 pc = .ok (.pop, 1))  : am_Ok S l κ pc (i_pop (pc + 1)) := by
  intro p e R s m args below meth c G dT A ad0 σ0 Qf Q C Rt ls st σ a b h ad it H locs lsj I
  unfold i_pop at h
  split at h
  · exact lv_pop C.1 C.2.1 hd rfl (h ad it H locs lsj I)
  · rename_i x r; exact lv_pop C.1 C.2.1 hd (by cases x <;> rfl) (h ad it H locs lsj I)
  · exact h.elim
theorem o_dup2 {S : SV} {l : Launch} {κ : KI} {pc : Nat} (hd : decode κ.2.1 pc = .ok (.dup2, 1))  : am_Ok S l κ pc (i_dup2 (pc + 1)) := by
  intro p e R s m args below meth c G dT A ad0 σ0 Qf Q C Rt ls st σ a b h ad it H locs lsj I
  unfold i_dup2 at h
  split at h
  · rename_i x y r; exact lv_dup2_11 C.1 C.2.1 hd rfl (by cases y <;> rfl) (h ad it H locs lsj I)
  · exact h.elim
theorem o_goto {S : SV} {l : Launch} {κ : KI} {pc : Nat} {off : Int} {tgt : Nat} (ht : (pc : Int) + off = (tgt : Int)) (hd : decode κ.2.1 pc = .ok (.goto off, 3))  : am_Ok S l κ pc (i_jmp tgt) := by
  intro p e R s m args below meth c G dT A ad0 σ0 Qf Q C Rt ls st σ a b h ad it H locs lsj I
  exact lv_goto C.1 C.2.1 hd ht (h ad it H locs lsj I)
theorem o_ifeq {S : SV} {l : Launch} {κ : KI} {pc : Nat} {off : Int} {tgt : Nat} (ht : (pc : Int) + off = (tgt : Int)) (hd : decode κ.2.1 pc = .ok (.ifCond .eq off, 3))  : am_Ok S l κ pc (i_jz tgt (pc + 3)) := by
  intro p e R s m args below meth c G dT A ad0 σ0 Qf Q C Rt ls st σ a b h ad it H locs lsj I
  unfold i_jz at h
  split at h
  · rename_i x r
    exact lv_if_eq C.1 C.2.1 hd ht (fun q => by rw [if_pos q] at h; exact h ad it H locs lsj I) (fun q => by rw [if_neg q] at h; exact h ad it H locs lsj I)
  · exact h.elim
theorem o_ifne {S : SV} {l : Launch} {κ : KI} {pc : Nat} {off : Int} {tgt : Nat} (ht : (pc : Int) + off = (tgt : Int)) (hd : decode κ.2.1 pc = .ok (.ifCond .ne off, 3))  : am_Ok S l κ pc (i_jz (pc + 3) tgt) := by
  intro p e R s m args below meth c G dT A ad0 σ0 Qf Q C Rt ls st σ a b h ad it H locs lsj I
  unfold i_jz at h
  split at h
  · rename_i x r
    exact lv_if_ne C.1 C.2.1 hd ht (fun q => by rw [if_neg q] at h; exact h ad it H locs lsj I) (fun q => by rw [if_pos q] at h; exact h ad it H locs lsj I)
  · exact h.elim
theorem o_iflt {S : SV} {l : Launch} {κ : KI} {pc : Nat} {off : Int} {tgt : Nat} (ht : (pc : Int) + off = (tgt : Int)) (hd : decode κ.2.1 pc = .ok (.ifCond .lt off, 3))  : am_Ok S l κ pc (i_jn tgt (pc + 3)) := by
  intro p e R s m args below meth c G dT A ad0 σ0 Qf Q C Rt ls st σ a b h ad it H locs lsj I
  unfold i_jn at h
  split at h
  · rename_i x r
    exact lv_if_lt C.1 C.2.1 hd ht (fun q => by rw [if_pos q] at h; exact h ad it H locs lsj I) (fun q => by rw [if_neg q] at h; exact h ad it H locs lsj I)
  · exact h.elim
theorem o_ifge {S : SV} {l : Launch} {κ : KI} {pc : Nat} {off : Int} {tgt : Nat} (ht : (pc : Int) + off = (tgt : Int)) (hd : decode κ.2.1 pc = .ok (.ifCond .ge off, 3))  : am_Ok S l κ pc (i_jn (pc + 3) tgt) := by
  intro p e R s m args below meth c G dT A ad0 σ0 Qf Q C Rt ls st σ a b h ad it H locs lsj I
  unfold i_jn at h
  split at h
  · rename_i x r
    exact lv_if_ge C.1 C.2.1 hd ht (fun q => by rw [if_neg (am_nlt q)] at h; exact h ad it H locs lsj I) (fun q => by rw [if_pos (am_ltn q)] at h; exact h ad it H locs lsj I)
  · exact h.elim
theorem o_ifgt {S : SV} {l : Launch} {κ : KI} {pc : Nat} {off : Int} {tgt : Nat} (ht : (pc : Int) + off = (tgt : Int)) (hd : decode κ.2.1 pc = .ok (.ifCond .gt off, 3))  : am_Ok S l κ pc (i_jp tgt (pc + 3)) := by
  intro p e R s m args below meth c G dT A ad0 σ0 Qf Q C Rt ls st σ a b h ad it H locs lsj I
  unfold i_jp at h
  split at h
  · rename_i x r
    exact lv_if_gt C.1 C.2.1 hd ht (fun q => by rw [if_pos q] at h; exact h ad it H locs lsj I) (fun q => by rw [if_neg q] at h; exact h ad it H locs lsj I)
  · exact h.elim
theorem o_ifle {S : SV} {l : Launch} {κ : KI} {pc : Nat} {off : Int} {tgt : Nat} (ht : (pc : Int) + off = (tgt : Int)) (hd : decode κ.2.1 pc = .ok (.ifCond .le off, 3))  : am_Ok S l κ pc (i_jp (pc + 3) tgt) := by
  intro p e R s m args below meth c G dT A ad0 σ0 Qf Q C Rt ls st σ a b h ad it H locs lsj I
  unfold i_jp at h
  split at h
  · rename_i x r
    exact lv_if_le C.1 C.2.1 hd ht (fun q => by rw [if_neg (am_nlt q)] at h; exact h ad it H locs lsj I) (fun q => by rw [if_pos (am_ltn q)] at h; exact h ad it H locs lsj I)
  · exact h.elim
theorem o_icmpeq {S : SV} {l : Launch} {κ : KI} {pc : Nat} {off : Int} {tgt : Nat} (ht : (pc : Int) + off = (tgt : Int)) (hd : decode κ.2.1 pc = .ok (.if_icmp .eq off, 3))  : am_Ok S l κ pc (i_je tgt (pc + 3)) := by
  intro p e R s m args below meth c G dT A ad0 σ0 Qf Q C Rt ls st σ a b h ad it H locs lsj I
  unfold i_je at h
  split at h
  · rename_i y x r
    exact lv_icmp_eq C.1 C.2.1 hd ht (fun q => by rw [if_pos q] at h; exact h ad it H locs lsj I) (fun q => by rw [if_neg q] at h; exact h ad it H locs lsj I)
  · exact h.elim
theorem o_icmpne {S : SV} {l : Launch} {κ : KI} {pc : Nat} {off : Int} {tgt : Nat} (ht : (pc : Int) + off = (tgt : Int)) (hd : decode κ.2.1 pc = .ok (.if_icmp .ne off, 3))  : am_Ok S l κ pc (i_je (pc + 3) tgt) := by
  intro p e R s m args below meth c G dT A ad0 σ0 Qf Q C Rt ls st σ a b h ad it H locs lsj I
  unfold i_je at h
  split at h
  · rename_i y x r
    exact lv_icmp_ne C.1 C.2.1 hd ht (fun q => by rw [if_neg q] at h; exact h ad it H locs lsj I) (fun q => by rw [if_pos q] at h; exact h ad it H locs lsj I)
  · exact h.elim
theorem o_icmplt {S : SV} {l : Launch} {κ : KI} {pc : Nat} {off : Int} {tgt : Nat} (ht : (pc : Int) + off = (tgt : Int)) (hd : decode κ.2.1 pc = .ok (.if_icmp .lt off, 3))  : am_Ok S l κ pc (i_jl tgt (pc + 3)) := by
  intro p e R s m args below meth c G dT A ad0 σ0 Qf Q C Rt ls st σ a b h ad it H locs lsj I
  unfold i_jl at h
  split at h
  · rename_i y x r
    exact lv_icmp_lt C.1 C.2.1 hd ht (fun q => by rw [if_pos q] at h; exact h ad it H locs lsj I) (fun q => by rw [if_neg q] at h; exact h ad it H locs lsj I)
  · exact h.elim
theorem o_icmpge {S : SV} {l : Launch} {κ : KI} {pc : Nat} {off : Int} {tgt : Nat} (ht : (pc : Int) + off = (tgt : Int)) (hd : decode κ.2.1 pc = .ok (.if_icmp .ge off, 3))  : am_Ok S l κ pc (i_jl (pc + 3) tgt) := by
  intro p e R s m args below meth c G dT A ad0 σ0 Qf Q C Rt ls st σ a b h ad it H locs lsj I
  unfold i_jl at h
  split at h
  · rename_i y x r
    exact lv_icmp_ge C.1 C.2.1 hd ht (fun q => by rw [if_neg (am_nlt q)] at h; exact h ad it H locs lsj I) (fun q => by rw [if_pos (am_ltn q)] at h; exact h ad it H locs lsj I)
  · exact h.elim
theorem o_icmpgt {S : SV} {l : Launch} {κ : KI} {pc : Nat} {off : Int} {tgt : Nat} (ht : (pc : Int) + off = (tgt : Int)) (hd : decode κ.2.1 pc = .ok (.if_icmp .gt off, 3))  : am_Ok S l κ pc (i_jg tgt (pc + 3)) := by
  intro p e R s m args below meth c G dT A ad0 σ0 Qf Q C Rt ls st σ a b h ad it H locs lsj I
  unfold i_jg at h
  split at h
  · rename_i y x r
    exact lv_icmp_gt C.1 C.2.1 hd ht (fun q => by rw [if_pos q] at h; exact h ad it H locs lsj I) (fun q => by rw [if_neg q] at h; exact h ad it H locs lsj I)
  · exact h.elim
theorem o_icmple {S : SV} {l : Launch} {κ : KI} {pc : Nat} {off : Int} {tgt : Nat} (ht : (pc : Int) + off = (tgt : Int)) (hd : decode κ.2.1 pc = .ok (.if_icmp .le off, 3))  : am_Ok S l κ pc (i_jg (pc + 3) tgt) := by
  intro p e R s m args below meth c G dT A ad0 σ0 Qf Q C Rt ls st σ a b h ad it H locs lsj I
  unfold i_jg at h
  split at h
  · rename_i y x r
    exact lv_icmp_le C.1 C.2.1 hd ht (fun q => by rw [if_neg (am_nlt q)] at h; exact h ad it H locs lsj I) (fun q => by rw [if_pos (am_ltn q)] at h; exact h ad it H locs lsj I)
  · exact h.elim
