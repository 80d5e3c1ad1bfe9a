/-! ===== the desk: least numbers, as functions ===== -/
def isL (f : Nat → Nat) (a : Nat) : Option Nat → Prop
  | some r => f r = r ∧ r ≤ 30000 ∧ a ≤ r ∧ ∀ w, a ≤ w → f w ≤ w → r ≤ w
  | none => ∀ w, a ≤ w → w ≤ 30000 → ¬ f w ≤ w
theorem isL.uq {f : Nat → Nat} {a : Nat} : ∀ {r r' : Option Nat}, isL f a r → isL f a r' → r = r'
  | none, none, _, _ => rfl
  | none, some y, h, h' => absurd (by rw [h'.1]; exact Nat.le_refl _) (h y h'.2.2.1 h'.2.1)
  | some x, none, h, h' => absurd (by rw [h.1]; exact Nat.le_refl _) (h' x h.2.2.1 h.2.1)
  | some x, some y, h, h' => by
    have h1 := h.2.2.2 y h'.2.2.1 (by rw [h'.1]; exact Nat.le_refl _)
    have h2 := h'.2.2.2 x h.2.2.1 (by rw [h.1]; exact Nat.le_refl _)
    rw [Nat.le_antisymm h1 h2]
theorem isL.cg {f g : Nat → Nat} {a : Nat} (e : ∀ w, a ≤ w → f w = g w) : ∀ {r : Option Nat}, isL f a r → isL g a r
  | none, h => fun w h1 h2 h3 => h w h1 h2 (by rw [e w h1]; exact h3)
  | some r, h => ⟨by rw [← e r h.2.2.1]; exact h.1, h.2.1, h.2.2.1, fun w h1 h2 => h.2.2.2 w h1 (by rw [e w h1]; exact h2)⟩
/-- it may be sought from further on, if nothing lies between -/
theorem isL.dn {f : Nat → Nat} {a b : Nat} (hab : a ≤ b) (h : ∀ w, a ≤ w → f w ≤ w → b ≤ w) : ∀ {r : Option Nat}, isL f b r → isL f a r
  | none, g => fun w h1 h2 h3 => g w (h w h1 h3) h2 h3
  | some _, g => ⟨g.1, g.2.1, Nat.le_trans hab g.2.2.1, fun w h1 h2 => g.2.2.2 w (h w h1 h2) h2⟩
def mono (f : Nat → Nat) : Prop := ∀ x y, x ≤ y → f x ≤ f y
def onat : Option Nat → Int32
  | none => -1
  | some r => nI r
def dsum (g : Nat → Nat) : Nat → Nat
  | 0 => 0
  | n + 1 => dsum g n + g n
theorem dsum_s (g : Nat → Nat) (n : Nat) : dsum g (n + 1) = dsum g n + g n := rfl
theorem dsum_le {g g' : Nat → Nat} : ∀ {n : Nat}, (∀ k, k < n → g k ≤ g' k) → dsum g n ≤ dsum g' n
  | 0, _ => Nat.le_refl _
  | n + 1, h => Nat.add_le_add (dsum_le (fun k hk => h k (by omega))) (h n (by omega))
theorem dsum_bd {g : Nat → Nat} {b : Nat} : ∀ {n : Nat}, (∀ k, k < n → g k ≤ b) → dsum g n ≤ n * b
  | 0, _ => by simp [dsum]
  | n + 1, h => by
    have h1 := dsum_bd (n := n) (fun k hk => h k (by omega))
    have h2 := h n (by omega)
    rw [dsum_s, Nat.succ_mul]
    omega
/-- one of the sum's parts stands apart -/
theorem dsum_one {g g' : Nat → Nat} {d : Nat} : ∀ {n : Nat}, (∀ k, k < n → k ≠ d → g' k = g k) → g' d = g d + 0 → dsum g' n = dsum g n
  | 0, _, _ => rfl
  | n + 1, h, hd => by
    rw [dsum_s, dsum_s, dsum_one (n := n) (fun k hk hn => h k (by omega) hn) hd]
    by_cases e : n = d
    · rw [e, hd]; rfl
    · rw [h n (by omega) e]
theorem dsum_add {g g' : Nat → Nat} {d e : Nat} : ∀ {n : Nat}, d < n → (∀ k, k < n → k ≠ d → g' k = g k) → g' d = g d + e → dsum g' n = dsum g n + e
  | 0, hd, _, _ => absurd hd (by omega)
  | n + 1, hd, h, he => by
    rw [dsum_s, dsum_s]
    by_cases q : n = d
    · subst q
      have : dsum g' n = dsum g n := by
        have : ∀ m, m ≤ n → dsum g' m = dsum g m := by
          intro m
          induction m with
          | zero => intro _; rfl
          | succ m ih => intro hm; rw [dsum_s, dsum_s, ih (by omega), h m (by omega) (by omega)]
        exact this n (Nat.le_refl _)
      rw [this, he]; omega
    · rw [dsum_add (n := n) (by omega) (fun k hk hn => h k (by omega) hn) he, h n (by omega) q]; omega
/-- what the desk looks at: how many, C, T, J, EVERY -/
abbrev DC : Type := Nat × (Nat → Nat) × (Nat → Nat) × (Nat → Nat) × Nat
def DOK (d : DC) : Prop := d.1 ≤ 24 ∧ (∀ k, k < d.1 → 40 ≤ d.2.1 k ∧ d.2.1 k ≤ 200) ∧ (∀ k, k < d.1 → 100 ≤ d.2.2.1 k ∧ d.2.2.1 k ≤ 100000) ∧ (∀ k, k < d.1 → d.2.2.2.1 k ≤ 1000) ∧ (d.2.2.2.2 = 0 ∨ 100 ≤ d.2.2.2.2) ∧ d.2.2.2.2 ≤ 1000000
def plc (d : DC) (w k : Nat) : Nat := (w + d.2.2.2.1 k + d.2.2.1 k) / d.2.2.1 k
def hsm (d : DC) (H : Nat → Bool) (w n : Nat) : Nat := dsum (fun k => if H k = true then plc d w k * d.2.1 k else 0) n
def bL (d : DC) (H : Nat → Bool) (wd : Nat) : Nat → Nat
  | 0 => 0
  | k + 1 => if H k = true then bL d H wd k else if k = wd then bL d H wd k else if bL d H wd k < d.2.1 k then d.2.1 k else bL d H wd k
def bG (d : DC) (H : Nat → Bool) (wd : Nat) : Nat → Nat
  | 0 => d.2.1 wd
  | k + 1 => if H k = true then (if bG d H wd k < d.2.1 k then d.2.1 k else bG d H wd k) else bG d H wd k
def flt (d : DC) (H : Nat → Bool) (wd w : Nat) : Nat := if d.2.2.2.2 = 0 then 0 else (w + d.2.2.2.2) / d.2.2.2.2 * (18 + bG d H wd d.1)
def fBz (d : DC) (H : Nat → Bool) (wd w : Nat) : Nat := bL d H wd d.1 - 1 + flt d H wd w + plc d (w - 1) wd * d.2.1 wd + hsm d H (w - 1) d.1
def fWq (d : DC) (H : Nat → Bool) (wd q w : Nat) : Nat := bL d H wd d.1 - 1 + flt d H wd w + q * d.2.1 wd + hsm d H w d.1
theorem plc_mo (d : DC) {x y : Nat} (h : x ≤ y) (k : Nat) : plc d x k ≤ plc d y k := Nat.div_le_div_right (by omega)
theorem hsm_mo (d : DC) (H : Nat → Bool) {x y : Nat} (h : x ≤ y) (n : Nat) : hsm d H x n ≤ hsm d H y n := by
  apply dsum_le
  intro k _
  split
  · exact Nat.mul_le_mul_right _ (plc_mo d h k)
  · exact Nat.le_refl _
theorem flt_mo (d : DC) (H : Nat → Bool) (wd : Nat) {x y : Nat} (h : x ≤ y) : flt d H wd x ≤ flt d H wd y := by
  unfold flt
  split
  · exact Nat.le_refl _
  · exact Nat.mul_le_mul_right _ (Nat.div_le_div_right (by omega))
theorem fBz_mo (d : DC) (H : Nat → Bool) (wd : Nat) : mono (fBz d H wd) := by
  intro x y h
  unfold fBz
  have h1 := flt_mo d H wd h
  have h2 := Nat.mul_le_mul_right (d.2.1 wd) (plc_mo d (show x - 1 ≤ y - 1 by omega) wd)
  have h3 := hsm_mo d H (show x - 1 ≤ y - 1 by omega) d.1
  omega
theorem fWq_mo (d : DC) (H : Nat → Bool) (wd q : Nat) : mono (fWq d H wd q) := by
  intro x y h
  unfold fWq
  have h1 := flt_mo d H wd h
  have h3 := hsm_mo d H h d.1
  omega
theorem fWq_q (d : DC) (H : Nat → Bool) (wd : Nat) {q q' : Nat} (h : q ≤ q') (w : Nat) : fWq d H wd q w ≤ fWq d H wd q' w := by
  unfold fWq
  have := Nat.mul_le_mul_right (d.2.1 wd) h
  omega
theorem bL_bd {d : DC} (h : DOK d) (H : Nat → Bool) (wd : Nat) : ∀ n, n ≤ d.1 → bL d H wd n ≤ 200
  | 0, _ => by simp [bL]
  | n + 1, hn => by
    have h1 := bL_bd h H wd n (by omega)
    have h2 := (h.2.1 n (by omega)).2
    unfold bL
    split
    · exact h1
    · split
      · exact h1
      · split <;> omega
theorem bG_bd {d : DC} (h : DOK d) (H : Nat → Bool) {wd : Nat} (hw : wd < d.1) : ∀ n, n ≤ d.1 → bG d H wd n ≤ 200 ∧ 40 ≤ bG d H wd n
  | 0, _ => by
    have := h.2.1 wd hw
    unfold bG; omega
  | n + 1, hn => by
    have h1 := bG_bd h H hw n (by omega)
    have h2 := h.2.1 n (by omega)
    unfold bG
    split
    · split <;> omega
    · exact h1
theorem plc_bd {d : DC} (h : DOK d) {w k : Nat} (hw : w ≤ 30000) (hk : k < d.1) : plc d w k ≤ 311 := by
  have h1 := h.2.2.1 k hk
  have h2 := h.2.2.2.1 k hk
  unfold plc
  have h3 : (w + d.2.2.2.1 k + d.2.2.1 k) / d.2.2.1 k = (w + d.2.2.2.1 k) / d.2.2.1 k + 1 := Nat.add_div_right _ (by omega)
  rw [h3]
  have h4 : (w + d.2.2.2.1 k) / d.2.2.1 k ≤ 31000 / 100 := Nat.le_trans (Nat.div_le_div_right (show w + d.2.2.2.1 k ≤ 31000 by omega)) (Nat.div_le_div_left h1.1 (by omega))
  omega
theorem plC_bd {d : DC} (h : DOK d) {w k : Nat} (hw : w ≤ 30000) (hk : k < d.1) : plc d w k * d.2.1 k ≤ 62200 := by
  have h1 := plc_bd h hw hk
  have h2 := (h.2.1 k hk).2
  exact Nat.le_trans (Nat.mul_le_mul h1 h2) (by omega)
theorem hsm_bd {d : DC} (h : DOK d) (H : Nat → Bool) {w n : Nat} (hw : w ≤ 30000) (hn : n ≤ d.1) : hsm d H w n ≤ 1492800 := by
  have h1 : hsm d H w n ≤ n * 62200 := by
    apply dsum_bd
    intro k hk
    split
    · exact plC_bd h hw (by omega)
    · omega
  have h2 := h.1
  have h3 : n * 62200 ≤ 24 * 62200 := Nat.mul_le_mul_right _ (by omega)
  omega
theorem flt_bd {d : DC} (h : DOK d) (H : Nat → Bool) {wd w : Nat} (hw : w ≤ 30000) (hd : wd < d.1) : flt d H wd w ≤ 66000 := by
  unfold flt
  split
  · omega
  · have h1 : 100 ≤ d.2.2.2.2 := by
      rcases h.2.2.2.2.1 with z | z
      · contradiction
      · exact z
    have h2 := (bG_bd h H hd d.1 (Nat.le_refl _)).1
    have h3 : (w + d.2.2.2.2) / d.2.2.2.2 = w / d.2.2.2.2 + 1 := Nat.add_div_right _ (by omega)
    have h4 : w / d.2.2.2.2 ≤ 30000 / 100 := Nat.le_trans (Nat.div_le_div_right hw) (Nat.div_le_div_left h1 (by omega))
    have h5 : (w + d.2.2.2.2) / d.2.2.2.2 ≤ 301 := by rw [h3]; omega
    exact Nat.le_trans (Nat.mul_le_mul h5 (show 18 + bG d H wd d.1 ≤ 218 by omega)) (by omega)
