/-! ===== what evaluation uses ===== -/
theorem am_run_s (cd : Nat → Bool × PT) (M : OR) (Q : PO) (n pc : Nat) (ls : ALs) (st : List AV) (σ : HS) (a b : Nat) : am_run cd M Q (n + 1) pc ls st σ a b = if (cd pc).1 = true then am_T cd M Q pc ls st σ a b else (cd pc).2 M Q (am_run cd M Q n) ls st σ a b := propext ⟨fun h => h, fun h => h⟩
theorem E_c_0 (v : AV) (n : Nat) (M : OR) (Q : PO) (K : KT) (ls : ALs) (st : List AV) (σ : HS) (a b : Nat) : i_c v n M Q K ls st σ a b = (K n ls (v :: st) σ a b) := propext ⟨fun h => h, fun h => h⟩
def m_ldI (n : Nat) (K : KT) (ls : ALs) (st : List AV) (σ : HS) (a b : Nat) : Option AV → Prop
  | some (.inl x) => K n ls (.inl x :: st) σ a b
  | _ => False
theorem E_ldI_a (k n : Nat) (M : OR) (Q : PO) (K : KT) (ls : ALs) (st : List AV) (σ : HS) (a b : Nat) : i_ldI k n M Q K ls st σ a b = m_ldI n K ls st σ a b (am_ld ls k) := propext ⟨fun h => h, fun h => h⟩
theorem E_ldI_b (n : Nat) (K : KT) (ls : ALs) (st : List AV) (σ : HS) (a b : Nat) (x : Int32) : m_ldI n K ls st σ a b (some (.inl x)) = (K n ls (.inl x :: st) σ a b) := propext ⟨fun h => h, fun h => h⟩
def m_ldL (n : Nat) (K : KT) (ls : ALs) (st : List AV) (σ : HS) (a b : Nat) : Option AV → Prop
  | some (.inr (.inl x)) => K n ls (.inr (.inl x) :: st) σ a b
  | _ => False
theorem E_ldL_a (k n : Nat) (M : OR) (Q : PO) (K : KT) (ls : ALs) (st : List AV) (σ : HS) (a b : Nat) : i_ldL k n M Q K ls st σ a b = m_ldL n K ls st σ a b (am_ld ls k) := propext ⟨fun h => h, fun h => h⟩
theorem E_ldL_b (n : Nat) (K : KT) (ls : ALs) (st : List AV) (σ : HS) (a b : Nat) (x : Int64) : m_ldL n K ls st σ a b (some (.inr (.inl x))) = (K n ls (.inr (.inl x) :: st) σ a b) := propext ⟨fun h => h, fun h => h⟩
def m_ldR (n : Nat) (K : KT) (ls : ALs) (st : List AV) (σ : HS) (a b : Nat) : Option AV → Prop
  | some (.inr (.inr x)) => K n ls (.inr (.inr x) :: st) σ a b
  | _ => False
theorem E_ldR_a (k n : Nat) (M : OR) (Q : PO) (K : KT) (ls : ALs) (st : List AV) (σ : HS) (a b : Nat) : i_ldR k n M Q K ls st σ a b = m_ldR n K ls st σ a b (am_ld ls k) := propext ⟨fun h => h, fun h => h⟩
theorem E_ldR_b (n : Nat) (K : KT) (ls : ALs) (st : List AV) (σ : HS) (a b : Nat) (x : Option (Nat × Nat)) : m_ldR n K ls st σ a b (some (.inr (.inr x))) = (K n ls (.inr (.inr x) :: st) σ a b) := propext ⟨fun h => h, fun h => h⟩
theorem E_stI_0 (k n : Nat) (M : OR) (Q : PO) (K : KT) (ls : ALs) (σ : HS) (a b : Nat) (r : List AV) (x : Int32) : i_stI k n M Q K ls (.inl x :: r) σ a b = (am_ok ls k ∧ K n (am_set ls k (some (.inl x))) r σ a b) := propext ⟨fun h => h, fun h => h⟩
theorem E_stL_0 (k n : Nat) (M : OR) (Q : PO) (K : KT) (ls : ALs) (σ : HS) (a b : Nat) (r : List AV) (x : Int64) : i_stL k n M Q K ls (.inr (.inl x) :: r) σ a b = (am_ok ls k ∧ k + 1 < ls.length ∧ K n (am_set (am_set ls k (some (.inr (.inl x)))) (k + 1) none) r σ a b) := propext ⟨fun h => h, fun h => h⟩
theorem E_stR_0 (k n : Nat) (M : OR) (Q : PO) (K : KT) (ls : ALs) (σ : HS) (a b : Nat) (r : List AV) (x : Option (Nat × Nat)) : i_stR k n M Q K ls (.inr (.inr x) :: r) σ a b = (am_ok ls k ∧ K n (am_set ls k (some (.inr (.inr x)))) r σ a b) := propext ⟨fun h => h, fun h => h⟩
def m_inc (d : Int32) (k : Nat) (n : Nat) (K : KT) (ls : ALs) (st : List AV) (σ : HS) (a b : Nat) : Option AV → Prop
  | some (.inl x) => am_ok ls k ∧ K n (am_set ls k (some (.inl (x + d)))) st σ a b
  | _ => False
theorem E_inc_a (k : Nat) (d : Int32) (n : Nat) (M : OR) (Q : PO) (K : KT) (ls : ALs) (st : List AV) (σ : HS) (a b : Nat) : i_inc k d n M Q K ls st σ a b = m_inc d k n K ls st σ a b (am_ld ls k) := propext ⟨fun h => h, fun h => h⟩
theorem E_inc_b (d : Int32) (k : Nat) (n : Nat) (K : KT) (ls : ALs) (st : List AV) (σ : HS) (a b : Nat) (x : Int32) : m_inc d k n K ls st σ a b (some (.inl x)) = (am_ok ls k ∧ K n (am_set ls k (some (.inl (x + d)))) st σ a b) := propext ⟨fun h => h, fun h => h⟩
theorem E_b2_0 (f : Int32 → Int32 → Int32) (n : Nat) (M : OR) (Q : PO) (K : KT) (ls : ALs) (σ : HS) (a b : Nat) (r : List AV) (x : Int32) (y : Int32) : i_b2 f n M Q K ls (.inl y :: .inl x :: r) σ a b = (K n ls (.inl (f x y) :: r) σ a b) := propext ⟨fun h => h, fun h => h⟩
theorem E_b2n_0 (f : Int32 → Int32 → Int32) (n : Nat) (M : OR) (Q : PO) (K : KT) (ls : ALs) (σ : HS) (a b : Nat) (r : List AV) (x : Int32) (y : Int32) : i_b2n f n M Q K ls (.inl y :: .inl x :: r) σ a b = (¬ y = 0 ∧ K n ls (.inl (f x y) :: r) σ a b) := propext ⟨fun h => h, fun h => h⟩
theorem E_u1_0 (f : Int32 → Int32) (n : Nat) (M : OR) (Q : PO) (K : KT) (ls : ALs) (σ : HS) (a b : Nat) (r : List AV) (x : Int32) : i_u1 f n M Q K ls (.inl x :: r) σ a b = (K n ls (.inl (f x) :: r) σ a b) := propext ⟨fun h => h, fun h => h⟩
theorem E_l2_0 (f : Int64 → Int64 → Int64) (n : Nat) (M : OR) (Q : PO) (K : KT) (ls : ALs) (σ : HS) (a b : Nat) (r : List AV) (x : Int64) (y : Int64) : i_l2 f n M Q K ls (.inr (.inl y) :: .inr (.inl x) :: r) σ a b = (K n ls (.inr (.inl (f x y)) :: r) σ a b) := propext ⟨fun h => h, fun h => h⟩
theorem E_l2n_0 (f : Int64 → Int64 → Int64) (n : Nat) (M : OR) (Q : PO) (K : KT) (ls : ALs) (σ : HS) (a b : Nat) (r : List AV) (x : Int64) (y : Int64) : i_l2n f n M Q K ls (.inr (.inl y) :: .inr (.inl x) :: r) σ a b = (¬ y = 0 ∧ K n ls (.inr (.inl (f x y)) :: r) σ a b) := propext ⟨fun h => h, fun h => h⟩
theorem E_lsh_0 (f : Int64 → Int32 → Int64) (n : Nat) (M : OR) (Q : PO) (K : KT) (ls : ALs) (σ : HS) (a b : Nat) (r : List AV) (x : Int64) (y : Int32) : i_lsh f n M Q K ls (.inl y :: .inr (.inl x) :: r) σ a b = (K n ls (.inr (.inl (f x y)) :: r) σ a b) := propext ⟨fun h => h, fun h => h⟩
theorem E_i2l_0 (n : Nat) (M : OR) (Q : PO) (K : KT) (ls : ALs) (σ : HS) (a b : Nat) (r : List AV) (x : Int32) : i_i2l n M Q K ls (.inl x :: r) σ a b = (K n ls (.inr (.inl x.toInt64) :: r) σ a b) := propext ⟨fun h => h, fun h => h⟩
theorem E_l2i_0 (n : Nat) (M : OR) (Q : PO) (K : KT) (ls : ALs) (σ : HS) (a b : Nat) (r : List AV) (x : Int64) : i_l2i n M Q K ls (.inr (.inl x) :: r) σ a b = (K n ls (.inl x.toInt32 :: r) σ a b) := propext ⟨fun h => h, fun h => h⟩
theorem E_lcmp_0 (n : Nat) (M : OR) (Q : PO) (K : KT) (ls : ALs) (σ : HS) (a b : Nat) (r : List AV) (x : Int64) (y : Int64) : i_lcmp n M Q K ls (.inr (.inl y) :: .inr (.inl x) :: r) σ a b = (K n ls (.inl (lg_cmp x y) :: r) σ a b) := propext ⟨fun h => h, fun h => h⟩
theorem E_dup_0 (n : Nat) (M : OR) (Q : PO) (K : KT) (ls : ALs) (σ : HS) (a b : Nat) (r : List AV) (x : Int32) : i_dup n M Q K ls (.inl x :: r) σ a b = (K n ls (.inl x :: .inl x :: r) σ a b) := propext ⟨fun h => h, fun h => h⟩
theorem E_dup_1 (n : Nat) (M : OR) (Q : PO) (K : KT) (ls : ALs) (σ : HS) (a b : Nat) (r : List AV) (x : Option (Nat × Nat)) : i_dup n M Q K ls (.inr (.inr x) :: r) σ a b = (K n ls (.inr (.inr x) :: .inr (.inr x) :: r) σ a b) := propext ⟨fun h => h, fun h => h⟩
theorem E_dup2_0 (n : Nat) (M : OR) (Q : PO) (K : KT) (ls : ALs) (σ : HS) (a b : Nat) (r : List AV) (x : Int32) (y : Option (Nat × Nat)) : i_dup2 n M Q K ls (.inl x :: .inr (.inr y) :: r) σ a b = (K n ls (.inl x :: .inr (.inr y) :: .inl x :: .inr (.inr y) :: r) σ a b) := propext ⟨fun h => h, fun h => h⟩
theorem E_pop_0 (n : Nat) (M : OR) (Q : PO) (K : KT) (ls : ALs) (σ : HS) (a b : Nat) (r : List AV) (z0 : Int32) : i_pop n M Q K ls (.inl z0 :: r) σ a b = (K n ls r σ a b) := propext ⟨fun h => h, fun h => h⟩
theorem E_pop_1 (n : Nat) (M : OR) (Q : PO) (K : KT) (ls : ALs) (σ : HS) (a b : Nat) (r : List AV) (z0 : Option (Nat × Nat)) : i_pop n M Q K ls (.inr (.inr z0) :: r) σ a b = (K n ls r σ a b) := propext ⟨fun h => h, fun h => h⟩
theorem E_jmp_0 (t : Nat) (M : OR) (Q : PO) (K : KT) (ls : ALs) (st : List AV) (σ : HS) (a b : Nat) : i_jmp t M Q K ls st σ a b = (K t ls st σ a b) := propext ⟨fun h => h, fun h => h⟩
theorem E_jz_0 (t n : Nat) (M : OR) (Q : PO) (K : KT) (ls : ALs) (σ : HS) (a b : Nat) (r : List AV) (x : Int32) : i_jz t n M Q K ls (.inl x :: r) σ a b = (if x = 0 then K t ls r σ a b else K n ls r σ a b) := propext ⟨fun h => h, fun h => h⟩
theorem E_jn_0 (t n : Nat) (M : OR) (Q : PO) (K : KT) (ls : ALs) (σ : HS) (a b : Nat) (r : List AV) (x : Int32) : i_jn t n M Q K ls (.inl x :: r) σ a b = (if x < 0 then K t ls r σ a b else K n ls r σ a b) := propext ⟨fun h => h, fun h => h⟩
theorem E_jp_0 (t n : Nat) (M : OR) (Q : PO) (K : KT) (ls : ALs) (σ : HS) (a b : Nat) (r : List AV) (x : Int32) : i_jp t n M Q K ls (.inl x :: r) σ a b = (if 0 < x then K t ls r σ a b else K n ls r σ a b) := propext ⟨fun h => h, fun h => h⟩
theorem E_je_0 (t n : Nat) (M : OR) (Q : PO) (K : KT) (ls : ALs) (σ : HS) (a b : Nat) (r : List AV) (x : Int32) (y : Int32) : i_je t n M Q K ls (.inl y :: .inl x :: r) σ a b = (if x = y then K t ls r σ a b else K n ls r σ a b) := propext ⟨fun h => h, fun h => h⟩
theorem E_jl_0 (t n : Nat) (M : OR) (Q : PO) (K : KT) (ls : ALs) (σ : HS) (a b : Nat) (r : List AV) (x : Int32) (y : Int32) : i_jl t n M Q K ls (.inl y :: .inl x :: r) σ a b = (if x < y then K t ls r σ a b else K n ls r σ a b) := propext ⟨fun h => h, fun h => h⟩
theorem E_jg_0 (t n : Nat) (M : OR) (Q : PO) (K : KT) (ls : ALs) (σ : HS) (a b : Nat) (r : List AV) (x : Int32) (y : Int32) : i_jg t n M Q K ls (.inl y :: .inl x :: r) σ a b = (if y < x then K t ls r σ a b else K n ls r σ a b) := propext ⟨fun h => h, fun h => h⟩
theorem E_jnull_0 (t n : Nat) (M : OR) (Q : PO) (K : KT) (ls : ALs) (σ : HS) (a b : Nat) (r : List AV) : i_jnull t n M Q K ls (.inr (.inr none) :: r) σ a b = (K t ls r σ a b) := propext ⟨fun h => h, fun h => h⟩
theorem E_jnull_1 (t n : Nat) (M : OR) (Q : PO) (K : KT) (ls : ALs) (σ : HS) (a b : Nat) (r : List AV) (z0 : Nat × Nat) : i_jnull t n M Q K ls (.inr (.inr (some z0)) :: r) σ a b = (K n ls r σ a b) := propext ⟨fun h => h, fun h => h⟩
theorem E_jsame_0 (S : SV) (t n : Nat) (M : OR) (Q : PO) (K : KT) (ls : ALs) (σ : HS) (a b : Nat) (r : List AV) (x : Option (Nat × Nat)) (y : Option (Nat × Nat)) : i_jsame S t n M Q K ls (.inr (.inr y) :: .inr (.inr x) :: r) σ a b = (am_vi S σ y ∧ am_vi S σ x ∧ if x = y then K t ls r σ a b else K n ls r σ a b) := propext ⟨fun h => h, fun h => h⟩
theorem E_sw_0 (ps : List (Int32 × Nat)) (d : Nat) (M : OR) (Q : PO) (K : KT) (ls : ALs) (σ : HS) (a b : Nat) (r : List AV) (x : Int32) : i_sw ps d M Q K ls (.inl x :: r) σ a b = (am_sw x d K ls r σ a b ps) := propext ⟨fun h => h, fun h => h⟩
theorem E_getI_0 (S : SV) (c f n : Nat) (M : OR) (Q : PO) (K : KT) (ls : ALs) (σ : HS) (a b : Nat) (q : Nat × Nat) (r : List AV) : i_getI S c f n M Q K ls (.inr (.inr (some q)) :: r) σ a b = (q.1 = c ∧ q.2 < gC S σ c ∧ K n ls (.inl (gI σ f q.2) :: r) σ a b) := propext ⟨fun h => h, fun h => h⟩
theorem E_getL_0 (S : SV) (c f n : Nat) (M : OR) (Q : PO) (K : KT) (ls : ALs) (σ : HS) (a b : Nat) (q : Nat × Nat) (r : List AV) : i_getL S c f n M Q K ls (.inr (.inr (some q)) :: r) σ a b = (q.1 = c ∧ q.2 < gC S σ c ∧ K n ls (.inr (.inl (gL σ f q.2)) :: r) σ a b) := propext ⟨fun h => h, fun h => h⟩
theorem E_getR_0 (S : SV) (c f n : Nat) (M : OR) (Q : PO) (K : KT) (ls : ALs) (σ : HS) (a b : Nat) (q : Nat × Nat) (r : List AV) : i_getR S c f n M Q K ls (.inr (.inr (some q)) :: r) σ a b = (q.1 = c ∧ q.2 < gC S σ c ∧ K n ls (.inr (.inr (gR S σ f q.2)) :: r) σ a b) := propext ⟨fun h => h, fun h => h⟩
theorem E_putI_0 (S : SV) (c f n : Nat) (M : OR) (Q : PO) (K : KT) (ls : ALs) (σ : HS) (a b : Nat) (q : Nat × Nat) (r : List AV) (x : Int32) : i_putI S c f n M Q K ls (.inl x :: .inr (.inr (some q)) :: r) σ a b = (q.1 = c ∧ q.2 < gC S σ c ∧ K n ls r (sI σ f q.2 x) a b) := propext ⟨fun h => h, fun h => h⟩
theorem E_putZ_0 (S : SV) (c f n : Nat) (M : OR) (Q : PO) (K : KT) (ls : ALs) (σ : HS) (a b : Nat) (q : Nat × Nat) (r : List AV) (x : Int32) : i_putZ S c f n M Q K ls (.inl x :: .inr (.inr (some q)) :: r) σ a b = (am_b x ∧ q.1 = c ∧ q.2 < gC S σ c ∧ K n ls r (sI σ f q.2 x) a b) := propext ⟨fun h => h, fun h => h⟩
theorem E_putL_0 (S : SV) (c f n : Nat) (M : OR) (Q : PO) (K : KT) (ls : ALs) (σ : HS) (a b : Nat) (q : Nat × Nat) (r : List AV) (x : Int64) : i_putL S c f n M Q K ls (.inr (.inl x) :: .inr (.inr (some q)) :: r) σ a b = (q.1 = c ∧ q.2 < gC S σ c ∧ K n ls r (sL σ f q.2 x) a b) := propext ⟨fun h => h, fun h => h⟩
theorem E_putR_0 (S : SV) (c f n : Nat) (M : OR) (Q : PO) (K : KT) (ls : ALs) (σ : HS) (a b : Nat) (q : Nat × Nat) (r : List AV) (x : Option (Nat × Nat)) : i_putR S c f n M Q K ls (.inr (.inr x) :: .inr (.inr (some q)) :: r) σ a b = (S.1 f = none ∧ am_v S σ (.inr (.inr x)) ∧ q.1 = c ∧ q.2 < gC S σ c ∧ K n ls r (sQ σ f q.2 x) a b) := propext ⟨fun h => h, fun h => h⟩
theorem E_iald_0 (S : SV) (n : Nat) (M : OR) (Q : PO) (K : KT) (ls : ALs) (σ : HS) (a b : Nat) (i : Int32) (q : Nat × Nat) (r : List AV) : i_iald S n M Q K ls (.inl i :: .inr (.inr (some q)) :: r) σ a b = (21 ≤ q.1 ∧ q.1 < 70 ∧ q.2 = 0 ∧ 0 < gC S σ q.1 ∧ vp_in i (S.2.2 q.1) ∧ K n ls (.inl (gI σ q.1 i.toNatClampNeg) :: r) σ a b) := propext ⟨fun h => h, fun h => h⟩
theorem E_bald_0 (S : SV) (n : Nat) (M : OR) (Q : PO) (K : KT) (ls : ALs) (σ : HS) (a b : Nat) (i : Int32) (q : Nat × Nat) (r : List AV) : i_bald S n M Q K ls (.inl i :: .inr (.inr (some q)) :: r) σ a b = (70 ≤ q.1 ∧ q.1 < 85 ∧ q.2 = 0 ∧ 0 < gC S σ q.1 ∧ vp_in i (S.2.2 q.1) ∧ K n ls (.inl (gI σ q.1 i.toNatClampNeg) :: r) σ a b) := propext ⟨fun h => h, fun h => h⟩
theorem E_lald_0 (S : SV) (n : Nat) (M : OR) (Q : PO) (K : KT) (ls : ALs) (σ : HS) (a b : Nat) (i : Int32) (q : Nat × Nat) (r : List AV) : i_lald S n M Q K ls (.inl i :: .inr (.inr (some q)) :: r) σ a b = (85 ≤ q.1 ∧ q.1 < 90 ∧ q.2 = 0 ∧ 0 < gC S σ q.1 ∧ vp_in i (S.2.2 q.1) ∧ K n ls (.inr (.inl (gL σ q.1 i.toNatClampNeg)) :: r) σ a b) := propext ⟨fun h => h, fun h => h⟩
theorem E_aald_0 (S : SV) (n : Nat) (M : OR) (Q : PO) (K : KT) (ls : ALs) (σ : HS) (a b : Nat) (i : Int32) (q : Nat × Nat) (r : List AV) : i_aald S n M Q K ls (.inl i :: .inr (.inr (some q)) :: r) σ a b = (90 ≤ q.1 ∧ q.1 < 92 ∧ q.2 = 0 ∧ 0 < gC S σ q.1 ∧ vp_in i (S.2.2 q.1) ∧ K n ls (.inr (.inr (gR S σ q.1 i.toNatClampNeg)) :: r) σ a b) := propext ⟨fun h => h, fun h => h⟩
theorem E_iast_0 (S : SV) (n : Nat) (M : OR) (Q : PO) (K : KT) (ls : ALs) (σ : HS) (a b : Nat) (i : Int32) (q : Nat × Nat) (r : List AV) (x : Int32) : i_iast S n M Q K ls (.inl x :: .inl i :: .inr (.inr (some q)) :: r) σ a b = (22 ≤ q.1 ∧ q.1 < 70 ∧ q.2 = 0 ∧ 0 < gC S σ q.1 ∧ vp_in i (S.2.2 q.1) ∧ K n ls r (sI σ q.1 i.toNatClampNeg x) a b) := propext ⟨fun h => h, fun h => h⟩
theorem E_bast_0 (S : SV) (n : Nat) (M : OR) (Q : PO) (K : KT) (ls : ALs) (σ : HS) (a b : Nat) (i : Int32) (q : Nat × Nat) (r : List AV) (x : Int32) : i_bast S n M Q K ls (.inl x :: .inl i :: .inr (.inr (some q)) :: r) σ a b = (q.2 = 0 ∧ 0 < gC S σ q.1 ∧ vp_in i (S.2.2 q.1) ∧ if q.1 < 80 then 70 ≤ q.1 ∧ am_b x ∧ K n ls r (sI σ q.1 i.toNatClampNeg x) a b else q.1 < 85 ∧ K n ls r (sI σ q.1 i.toNatClampNeg x.toInt8.toInt32) a b) := propext ⟨fun h => h, fun h => h⟩
theorem E_last_0 (S : SV) (n : Nat) (M : OR) (Q : PO) (K : KT) (ls : ALs) (σ : HS) (a b : Nat) (i : Int32) (q : Nat × Nat) (r : List AV) (x : Int64) : i_last S n M Q K ls (.inr (.inl x) :: .inl i :: .inr (.inr (some q)) :: r) σ a b = (85 ≤ q.1 ∧ q.1 < 90 ∧ q.2 = 0 ∧ 0 < gC S σ q.1 ∧ vp_in i (S.2.2 q.1) ∧ K n ls r (sL σ q.1 i.toNatClampNeg x) a b) := propext ⟨fun h => h, fun h => h⟩
theorem E_aast_0 (S : SV) (n : Nat) (M : OR) (Q : PO) (K : KT) (ls : ALs) (σ : HS) (a b : Nat) (i : Int32) (q : Nat × Nat) (r : List AV) (x : Nat × Nat) : i_aast S n M Q K ls (.inr (.inr (some x)) :: .inl i :: .inr (.inr (some q)) :: r) σ a b = (S.1 q.1 = none ∧ (q.1 = 90 ∧ x.1 = 3 ∨ q.1 = 91 ∧ x.1 = 10) ∧ x.2 < gC S σ x.1 ∧ q.2 = 0 ∧ 0 < gC S σ q.1 ∧ vp_in i (S.2.2 q.1) ∧ K n ls r (sQ σ q.1 i.toNatClampNeg (some x)) a b) := propext ⟨fun h => h, fun h => h⟩
theorem E_alen_0 (S : SV) (n : Nat) (M : OR) (Q : PO) (K : KT) (ls : ALs) (σ : HS) (a b : Nat) (q : Nat × Nat) (r : List AV) : i_alen S n M Q K ls (.inr (.inr (some q)) :: r) σ a b = (21 ≤ q.1 ∧ q.1 < 92 ∧ q.2 = 0 ∧ 0 < gC S σ q.1 ∧ K n ls (.inl (nI (S.2.2 q.1)) :: r) σ a b) := propext ⟨fun h => h, fun h => h⟩
theorem E_copy_0 (S : SV) (n : Nat) (M : OR) (Q : PO) (K : KT) (ls : ALs) (σ : HS) (a b : Nat) (dp : Int32) (k : Int32) (q : Nat × Nat) (q' : Nat × Nat) (r : List AV) (sp : Int32) : i_copy S n M Q K ls (.inl k :: .inl dp :: .inr (.inr (some q)) :: .inl sp :: .inr (.inr (some q')) :: r) σ a b = (q = q' ∧ (22 ≤ q.1 ∧ q.1 < 70 ∨ q.1 = 80 ∧ ∀ j, (-128) ≤ gI σ 80 j ∧ gI σ 80 j ≤ 127) ∧ q.2 = 0 ∧ 0 < gC S σ q.1 ∧ am_ct r ≤ 8 ∧ ¬ sp < 0 ∧ ¬ dp < 0 ∧ ¬ k < 0 ∧ sp.toNatClampNeg + k.toNatClampNeg ≤ S.2.2 q.1 ∧ dp.toNatClampNeg + k.toNatClampNeg ≤ S.2.2 q.1 ∧ K n ls r (sJ σ q.1 (va_cpy (gI σ q.1) (gI σ q.1) sp.toNatClampNeg dp.toNatClampNeg k.toNatClampNeg)) a b) := propext ⟨fun h => h, fun h => h⟩
theorem E_max_0 (n : Nat) (M : OR) (Q : PO) (K : KT) (ls : ALs) (σ : HS) (a b : Nat) (r : List AV) (x : Int32) (y : Int32) : i_max n M Q K ls (.inl y :: .inl x :: r) σ a b = (am_ct r ≤ 8 ∧ K n ls (.inl (if x < y then y else x) :: r) σ a b) := propext ⟨fun h => h, fun h => h⟩
theorem E_min_0 (n : Nat) (M : OR) (Q : PO) (K : KT) (ls : ALs) (σ : HS) (a b : Nat) (r : List AV) (x : Int32) (y : Int32) : i_min n M Q K ls (.inl y :: .inl x :: r) σ a b = (am_ct r ≤ 8 ∧ K n ls (.inl (if y < x then y else x) :: r) σ a b) := propext ⟨fun h => h, fun h => h⟩
def m_cS (S : SV) (y na nl mc ms MC MS n : Nat) (M : OR) (K : KT) (ls : ALs) (σ : HS) (a b : Nat) : Option (List AV × List AV) → Prop
  | some (vs, r) => am_cc S nl mc ms MC MS ls vs r σ a b ∧ M y vs σ (am_kk K n ls r (a + mc) (b + ms))
  | _ => False
theorem E_cS_a (S : SV) (y na nl mc ms MC MS n : Nat) (M : OR) (Q : PO) (K : KT) (ls : ALs) (st : List AV) (σ : HS) (a b : Nat) : i_cS S y na nl mc ms MC MS n M Q K ls st σ a b = m_cS S y na nl mc ms MC MS n M K ls σ a b (am_pop na [] st) := by
  unfold i_cS m_cS
  generalize am_pop na [] st = o
  rcases o with _ | ⟨vs, r⟩ <;> rfl
theorem E_cS_b (S : SV) (y na nl mc ms MC MS n : Nat) (M : OR) (K : KT) (ls : ALs) (σ : HS) (a b : Nat) (vs r : List AV) : m_cS S y na nl mc ms MC MS n M K ls σ a b (some (vs, r)) = (am_cc S nl mc ms MC MS ls vs r σ a b ∧ M y vs σ (am_kk K n ls r (a + mc) (b + ms))) := propext ⟨fun h => h, fun h => h⟩
def m_cV (S : SV) (c y na nl mc ms MC MS n : Nat) (M : OR) (K : KT) (ls : ALs) (σ : HS) (a b : Nat) : Option (List AV × List AV) → Prop
  | some (.inr (.inr (some q)) :: vs, r) => q.1 = c ∧ q.2 < gC S σ c ∧ am_cc S nl mc ms MC MS ls (.inr (.inr (some q)) :: vs) r σ a b ∧ M y (.inr (.inr (some q)) :: vs) σ (am_kk K n ls r (a + mc) (b + ms))
  | _ => False
theorem E_cV_a (S : SV) (c y na nl mc ms MC MS n : Nat) (M : OR) (Q : PO) (K : KT) (ls : ALs) (st : List AV) (σ : HS) (a b : Nat) : i_cV S c y na nl mc ms MC MS n M Q K ls st σ a b = m_cV S c y na nl mc ms MC MS n M K ls σ a b (am_pop na [] st) := by
  unfold i_cV m_cV
  generalize am_pop na [] st = o
  rcases o with _ | ⟨_ | ⟨_ | _ | _ | _, _⟩, _⟩ <;> rfl
theorem E_cV_b (S : SV) (c y na nl mc ms MC MS n : Nat) (M : OR) (K : KT) (ls : ALs) (σ : HS) (a b : Nat) (vs r : List AV) (q : Nat × Nat) : m_cV S c y na nl mc ms MC MS n M K ls σ a b (some (.inr (.inr (some q)) :: vs, r)) = (q.1 = c ∧ q.2 < gC S σ c ∧ am_cc S nl mc ms MC MS ls (.inr (.inr (some q)) :: vs) r σ a b ∧ M y (.inr (.inr (some q)) :: vs) σ (am_kk K n ls r (a + mc) (b + ms))) := propext ⟨fun h => h, fun h => h⟩
def m_cI (S : SV) (y na nl mc ms MC MS n : Nat) (M : OR) (K : KT) (ls : ALs) (σ : HS) (a b : Nat) : Option (List AV × List AV) → Prop
  | some (.inr (.inr (some q)) :: vs, r) => am_cc S nl mc ms MC MS ls (.inr (.inr (some q)) :: vs) r σ a b ∧ M y (.inr (.inr (some q)) :: vs) σ (am_kk K n ls r (a + mc) (b + ms))
  | _ => False
theorem E_cI_a (S : SV) (y na nl mc ms MC MS n : Nat) (M : OR) (Q : PO) (K : KT) (ls : ALs) (st : List AV) (σ : HS) (a b : Nat) : i_cI S y na nl mc ms MC MS n M Q K ls st σ a b = m_cI S y na nl mc ms MC MS n M K ls σ a b (am_pop na [] st) := by
  unfold i_cI m_cI
  generalize am_pop na [] st = o
  rcases o with _ | ⟨_ | ⟨_ | _ | _ | _, _⟩, _⟩ <;> rfl
theorem E_cI_b (S : SV) (y na nl mc ms MC MS n : Nat) (M : OR) (K : KT) (ls : ALs) (σ : HS) (a b : Nat) (vs r : List AV) (q : Nat × Nat) : m_cI S y na nl mc ms MC MS n M K ls σ a b (some (.inr (.inr (some q)) :: vs, r)) = (am_cc S nl mc ms MC MS ls (.inr (.inr (some q)) :: vs) r σ a b ∧ M y (.inr (.inr (some q)) :: vs) σ (am_kk K n ls r (a + mc) (b + ms))) := propext ⟨fun h => h, fun h => h⟩
theorem E_cO_0 (n : Nat) (M : OR) (Q : PO) (K : KT) (ls : ALs) (σ : HS) (a b : Nat) (r : List AV) (z0 : Nat × Nat) : i_cO n M Q K ls (.inr (.inr (some z0)) :: r) σ a b = (am_ct r ≤ 8 ∧ K n ls r σ a b) := propext ⟨fun h => h, fun h => h⟩
theorem E_new_0 (S : SV) (c N MC MS n : Nat) (M : OR) (Q : PO) (K : KT) (ls : ALs) (st : List AV) (σ : HS) (a b : Nat) : i_new S c N MC MS n M Q K ls st σ a b = (S.2.1 c = none ∧ am_vo S σ ls ∧ am_vs S σ st ∧ a + 1 ≤ MC ∧ b + N ≤ MS ∧ K n ls (.inr (.inr (some (c, gN σ c))) :: st) (sO σ c (gN σ c)) (a + 1) (b + N)) := propext ⟨fun h => h, fun h => h⟩
theorem E_newa_0 (S : SV) (q MC MS n : Nat) (M : OR) (Q : PO) (K : KT) (ls : ALs) (σ : HS) (a b : Nat) (r : List AV) (x : Int32) : i_newa S q MC MS n M Q K ls (.inl x :: r) σ a b = (S.2.1 q = none ∧ S.1 q = none ∧ x = nI (S.2.2 q) ∧ gN σ q = 0 ∧ am_vo S σ ls ∧ am_vs S σ r ∧ a + 1 ≤ MC ∧ b + S.2.2 q ≤ MS ∧ K n ls (.inr (.inr (some (q, 0))) :: r) (sA σ q) (a + 1) (b + S.2.2 q)) := propext ⟨fun h => h, fun h => h⟩
theorem E_rV_0  (M : OR) (Q : PO) (K : KT) (ls : ALs) (σ : HS) (a b : Nat)  : i_rV M Q K ls ([]) σ a b = (Q none σ) := propext ⟨fun h => h, fun h => h⟩
theorem E_rI_0  (M : OR) (Q : PO) (K : KT) (ls : ALs) (σ : HS) (a b : Nat) (x : Int32) : i_rI M Q K ls ([.inl x]) σ a b = (Q (some (.inl x)) σ) := propext ⟨fun h => h, fun h => h⟩
theorem E_rZ_0  (M : OR) (Q : PO) (K : KT) (ls : ALs) (σ : HS) (a b : Nat) (x : Int32) : i_rZ M Q K ls ([.inl x]) σ a b = (am_b x ∧ Q (some (.inl x)) σ) := propext ⟨fun h => h, fun h => h⟩
theorem E_rL_0  (M : OR) (Q : PO) (K : KT) (ls : ALs) (σ : HS) (a b : Nat) (x : Int64) : i_rL M Q K ls ([.inr (.inl x)]) σ a b = (Q (some (.inr (.inl x))) σ) := propext ⟨fun h => h, fun h => h⟩
theorem E_rR_0  (M : OR) (Q : PO) (K : KT) (ls : ALs) (σ : HS) (a b : Nat) (x : Option (Nat × Nat)) : i_rR M Q K ls ([.inr (.inr x)]) σ a b = (Q (some (.inr (.inr x))) σ) := propext ⟨fun h => h, fun h => h⟩
theorem E_sld_0 (L n : Nat) (M : OR) (Q : PO) (K : KT) (ls : ALs) (σ : HS) (a b : Nat) (i : Int32) (q : Nat × Nat) (r : List AV) : i_sld L n M Q K ls (.inl i :: .inr (.inr (some q)) :: r) σ a b = (q = (20, 0) ∧ vp_in i L ∧ K n ls (.inl (gI σ 20 i.toNatClampNeg) :: r) σ a b) := propext ⟨fun h => h, fun h => h⟩
theorem E_slen_0 (L n : Nat) (M : OR) (Q : PO) (K : KT) (ls : ALs) (σ : HS) (a b : Nat) (q : Nat × Nat) (r : List AV) : i_slen L n M Q K ls (.inr (.inr (some q)) :: r) σ a b = (q = (20, 0) ∧ K n ls (.inl (nI L) :: r) σ a b) := propext ⟨fun h => h, fun h => h⟩
theorem E_kk (K : KT) (n : Nat) (ls : ALs) (r : List AV) (a b : Nat) (x : Option AV) (σ' : HS) : am_kk K n ls r a b x σ' = K n ls (am_rt x r) σ' a b := propext ⟨fun h => h, fun h => h⟩
theorem E_sw_n (x : Int32) (d : Nat) (K : KT) (ls : ALs) (st : List AV) (σ : HS) (a b : Nat) : am_sw x d K ls st σ a b [] = K d ls st σ a b := propext ⟨fun h => h, fun h => h⟩
theorem E_sw_c (x : Int32) (d : Nat) (K : KT) (ls : ALs) (st : List AV) (σ : HS) (a b : Nat) (v : Int32) (t : Nat) (r : List (Int32 × Nat)) : am_sw x d K ls st σ a b ((v, t) :: r) = if x = v then K t ls st σ a b else am_sw x d K ls st σ a b r := propext ⟨fun h => h, fun h => h⟩
theorem cC_0 (σ : HS) : gC S1 σ 0 = 1 := rfl
theorem cC_1 (σ : HS) : gC S1 σ 1 = 1 := rfl
theorem cC_2 (σ : HS) : gC S1 σ 2 = 1 := rfl
theorem cC_3 (σ : HS) : gC S1 σ 3 = gN σ 3 := rfl
theorem cC_4 (σ : HS) : gC S1 σ 4 = 1 := rfl
theorem cC_5 (σ : HS) : gC S1 σ 5 = 1 := rfl
theorem cC_6 (σ : HS) : gC S1 σ 6 = 1 := rfl
theorem cC_7 (σ : HS) : gC S1 σ 7 = 1 := rfl
theorem cC_8 (σ : HS) : gC S1 σ 8 = 1 := rfl
theorem cC_9 (σ : HS) : gC S1 σ 9 = 1 := rfl
theorem cC_10 (σ : HS) : gC S1 σ 10 = gN σ 10 := rfl
theorem cC_11 (σ : HS) : gC S1 σ 11 = 1 := rfl
theorem cC_12 (σ : HS) : gC S1 σ 12 = 1 := rfl
theorem cC_21 (σ : HS) : gC S1 σ 21 = 1 := rfl
theorem cC_22 (σ : HS) : gC S1 σ 22 = 1 := rfl
theorem cC_23 (σ : HS) : gC S1 σ 23 = 1 := rfl
theorem cC_24 (σ : HS) : gC S1 σ 24 = 1 := rfl
theorem cC_25 (σ : HS) : gC S1 σ 25 = 1 := rfl
theorem cC_26 (σ : HS) : gC S1 σ 26 = 1 := rfl
theorem cC_27 (σ : HS) : gC S1 σ 27 = 1 := rfl
theorem cC_28 (σ : HS) : gC S1 σ 28 = 1 := rfl
theorem cC_29 (σ : HS) : gC S1 σ 29 = 1 := rfl
theorem cC_30 (σ : HS) : gC S1 σ 30 = 1 := rfl
theorem cC_31 (σ : HS) : gC S1 σ 31 = 1 := rfl
theorem cC_32 (σ : HS) : gC S1 σ 32 = 1 := rfl
theorem cC_33 (σ : HS) : gC S1 σ 33 = 1 := rfl
theorem cC_34 (σ : HS) : gC S1 σ 34 = 1 := rfl
theorem cC_35 (σ : HS) : gC S1 σ 35 = 1 := rfl
theorem cC_36 (σ : HS) : gC S1 σ 36 = 1 := rfl
theorem cC_37 (σ : HS) : gC S1 σ 37 = 1 := rfl
theorem cC_38 (σ : HS) : gC S1 σ 38 = 1 := rfl
theorem cC_39 (σ : HS) : gC S1 σ 39 = 1 := rfl
theorem cC_40 (σ : HS) : gC S1 σ 40 = 1 := rfl
theorem cC_41 (σ : HS) : gC S1 σ 41 = 1 := rfl
theorem cC_42 (σ : HS) : gC S1 σ 42 = 1 := rfl
theorem cC_43 (σ : HS) : gC S1 σ 43 = 1 := rfl
theorem cC_44 (σ : HS) : gC S1 σ 44 = 1 := rfl
theorem cC_45 (σ : HS) : gC S1 σ 45 = 1 := rfl
theorem cC_46 (σ : HS) : gC S1 σ 46 = 1 := rfl
theorem cC_47 (σ : HS) : gC S1 σ 47 = 1 := rfl
theorem cC_48 (σ : HS) : gC S1 σ 48 = 1 := rfl
theorem cC_49 (σ : HS) : gC S1 σ 49 = 1 := rfl
theorem cC_50 (σ : HS) : gC S1 σ 50 = 1 := rfl
theorem cC_51 (σ : HS) : gC S1 σ 51 = 1 := rfl
theorem cC_52 (σ : HS) : gC S1 σ 52 = 1 := rfl
theorem cC_53 (σ : HS) : gC S1 σ 53 = 1 := rfl
theorem cC_54 (σ : HS) : gC S1 σ 54 = 1 := rfl
theorem cC_55 (σ : HS) : gC S1 σ 55 = 1 := rfl
theorem cC_56 (σ : HS) : gC S1 σ 56 = 1 := rfl
theorem cC_57 (σ : HS) : gC S1 σ 57 = 1 := rfl
theorem cC_58 (σ : HS) : gC S1 σ 58 = 1 := rfl
theorem cC_59 (σ : HS) : gC S1 σ 59 = 1 := rfl
theorem cC_60 (σ : HS) : gC S1 σ 60 = 1 := rfl
theorem cC_61 (σ : HS) : gC S1 σ 61 = 1 := rfl
theorem cC_62 (σ : HS) : gC S1 σ 62 = 1 := rfl
theorem cC_70 (σ : HS) : gC S1 σ 70 = 1 := rfl
theorem cC_71 (σ : HS) : gC S1 σ 71 = 1 := rfl
theorem cC_72 (σ : HS) : gC S1 σ 72 = 1 := rfl
theorem cC_73 (σ : HS) : gC S1 σ 73 = 1 := rfl
theorem cC_74 (σ : HS) : gC S1 σ 74 = 1 := rfl
theorem cC_80 (σ : HS) : gC S1 σ 80 = 1 := rfl
theorem cC_85 (σ : HS) : gC S1 σ 85 = 1 := rfl
theorem cC_90 (σ : HS) : gC S1 σ 90 = 1 := rfl
theorem cC_91 (σ : HS) : gC S1 σ 91 = 1 := rfl
theorem rR_100 (σ : HS) (i : Nat) : gR S1 σ 100 i = some (6, 0) := rfl
theorem rR_101 (σ : HS) (i : Nat) : gR S1 σ 101 i = some (70, 0) := rfl
theorem rR_102 (σ : HS) (i : Nat) : gR S1 σ 102 i = some (71, 0) := rfl
theorem rR_103 (σ : HS) (i : Nat) : gR S1 σ 103 i = some (22, 0) := rfl
theorem rR_104 (σ : HS) (i : Nat) : gR S1 σ 104 i = some (23, 0) := rfl
theorem rR_105 (σ : HS) (i : Nat) : gR S1 σ 105 i = some (24, 0) := rfl
theorem rR_200 (σ : HS) (i : Nat) : gR S1 σ 200 i = some (25, 0) := rfl
theorem rR_300 (σ : HS) (i : Nat) : gR S1 σ 300 i = some (26, 0) := rfl
theorem rR_301 (σ : HS) (i : Nat) : gR S1 σ 301 i = some (27, 0) := rfl
theorem rR_302 (σ : HS) (i : Nat) : gR S1 σ 302 i = some (28, 0) := rfl
theorem rR_303 (σ : HS) (i : Nat) : gR S1 σ 303 i = some (29, 0) := rfl
theorem rR_500 (σ : HS) (i : Nat) : gR S1 σ 500 i = some (30, 0) := rfl
theorem rR_600 (σ : HS) (i : Nat) : gR S1 σ 600 i = some (8, 0) := rfl
theorem rR_700 (σ : HS) (i : Nat) : gR S1 σ 700 i = some (90, 0) := rfl
theorem rR_701 (σ : HS) (i : Nat) : gR S1 σ 701 i = some (91, 0) := rfl
theorem rR_800 (σ : HS) (i : Nat) : gR S1 σ 800 i = some (80, 0) := rfl
theorem rR_900 (σ : HS) (i : Nat) : gR S1 σ 900 i = some (31, 0) := rfl
theorem rR_1000 (σ : HS) (i : Nat) : gR S1 σ 1000 i = some (6, 0) := rfl
theorem rR_1001 (σ : HS) (i : Nat) : gR S1 σ 1001 i = some (1, 0) := rfl
theorem rR_1002 (σ : HS) (i : Nat) : gR S1 σ 1002 i = some (4, 0) := rfl
theorem rR_1003 (σ : HS) (i : Nat) : gR S1 σ 1003 i = some (2, 0) := rfl
theorem rR_1200 (σ : HS) (i : Nat) : gR S1 σ 1200 i = some (6, 0) := rfl
theorem rR_1201 (σ : HS) (i : Nat) : gR S1 σ 1201 i = some (1, 0) := rfl
theorem rR_1202 (σ : HS) (i : Nat) : gR S1 σ 1202 i = some (8, 0) := rfl
theorem rR_1203 (σ : HS) (i : Nat) : gR S1 σ 1203 i = some (5, 0) := rfl
theorem rR_1204 (σ : HS) (i : Nat) : gR S1 σ 1204 i = some (9, 0) := rfl
theorem rR_1205 (σ : HS) (i : Nat) : gR S1 σ 1205 i = some (0, 0) := rfl
theorem rR_1206 (σ : HS) (i : Nat) : gR S1 σ 1206 i = some (7, 0) := rfl
theorem rR_1207 (σ : HS) (i : Nat) : gR S1 σ 1207 i = some (32, 0) := rfl
theorem rR_1300 (σ : HS) (i : Nat) : gR S1 σ 1300 i = some (33, 0) := rfl
theorem rR_1301 (σ : HS) (i : Nat) : gR S1 σ 1301 i = some (34, 0) := rfl
theorem rR_1302 (σ : HS) (i : Nat) : gR S1 σ 1302 i = some (35, 0) := rfl
theorem rR_1303 (σ : HS) (i : Nat) : gR S1 σ 1303 i = some (36, 0) := rfl
theorem rR_1304 (σ : HS) (i : Nat) : gR S1 σ 1304 i = some (37, 0) := rfl
theorem rR_1305 (σ : HS) (i : Nat) : gR S1 σ 1305 i = some (38, 0) := rfl
theorem rR_1306 (σ : HS) (i : Nat) : gR S1 σ 1306 i = some (39, 0) := rfl
theorem rR_1307 (σ : HS) (i : Nat) : gR S1 σ 1307 i = some (40, 0) := rfl
theorem rR_1308 (σ : HS) (i : Nat) : gR S1 σ 1308 i = some (41, 0) := rfl
theorem rR_1309 (σ : HS) (i : Nat) : gR S1 σ 1309 i = some (42, 0) := rfl
theorem rR_1310 (σ : HS) (i : Nat) : gR S1 σ 1310 i = some (43, 0) := rfl
theorem rR_1311 (σ : HS) (i : Nat) : gR S1 σ 1311 i = some (44, 0) := rfl
theorem rR_1312 (σ : HS) (i : Nat) : gR S1 σ 1312 i = some (85, 0) := rfl
theorem rR_1315 (σ : HS) (i : Nat) : gR S1 σ 1315 i = some (72, 0) := rfl
theorem rR_1316 (σ : HS) (i : Nat) : gR S1 σ 1316 i = some (45, 0) := rfl
theorem rR_1317 (σ : HS) (i : Nat) : gR S1 σ 1317 i = some (46, 0) := rfl
theorem rR_1318 (σ : HS) (i : Nat) : gR S1 σ 1318 i = some (47, 0) := rfl
theorem rR_1319 (σ : HS) (i : Nat) : gR S1 σ 1319 i = some (48, 0) := rfl
theorem rR_1320 (σ : HS) (i : Nat) : gR S1 σ 1320 i = some (49, 0) := rfl
theorem rR_1321 (σ : HS) (i : Nat) : gR S1 σ 1321 i = some (50, 0) := rfl
theorem rR_1322 (σ : HS) (i : Nat) : gR S1 σ 1322 i = some (51, 0) := rfl
theorem rR_1323 (σ : HS) (i : Nat) : gR S1 σ 1323 i = some (52, 0) := rfl
theorem rR_1329 (σ : HS) (i : Nat) : gR S1 σ 1329 i = some (53, 0) := rfl
theorem rR_1351 (σ : HS) (i : Nat) : gR S1 σ 1351 i = some (54, 0) := rfl
theorem rR_1353 (σ : HS) (i : Nat) : gR S1 σ 1353 i = some (55, 0) := rfl
theorem rR_1354 (σ : HS) (i : Nat) : gR S1 σ 1354 i = some (56, 0) := rfl
theorem rR_1355 (σ : HS) (i : Nat) : gR S1 σ 1355 i = some (57, 0) := rfl
theorem rR_1356 (σ : HS) (i : Nat) : gR S1 σ 1356 i = some (58, 0) := rfl
theorem rR_1358 (σ : HS) (i : Nat) : gR S1 σ 1358 i = some (73, 0) := rfl
theorem rR_1360 (σ : HS) (i : Nat) : gR S1 σ 1360 i = some (59, 0) := rfl
theorem rR_1362 (σ : HS) (i : Nat) : gR S1 σ 1362 i = some (74, 0) := rfl
theorem rR_1363 (σ : HS) (i : Nat) : gR S1 σ 1363 i = some (60, 0) := rfl
theorem rR_1364 (σ : HS) (i : Nat) : gR S1 σ 1364 i = some (61, 0) := rfl
theorem rR_1365 (σ : HS) (i : Nat) : gR S1 σ 1365 i = some (62, 0) := rfl
theorem rQ_1101 (σ : HS) (i : Nat) : gR S1 σ 1101 i = gQ σ 1101 i := rfl
theorem sN_1101 : S1.1 1101 = none := rfl
theorem rQ_1008 (σ : HS) (i : Nat) : gR S1 σ 1008 i = gQ σ 1008 i := rfl
theorem sN_1008 : S1.1 1008 = none := rfl
theorem rQ_90 (σ : HS) (i : Nat) : gR S1 σ 90 i = gQ σ 90 i := rfl
theorem sN_90 : S1.1 90 = none := rfl
theorem rQ_91 (σ : HS) (i : Nat) : gR S1 σ 91 i = gQ σ 91 i := rfl
theorem sN_91 : S1.1 91 = none := rfl
theorem aL_21 : S1.2.2 21 = 10 := rfl
theorem aL_22 : S1.2.2 22 = 24 := rfl
theorem aL_23 : S1.2.2 23 = 24 := rfl
theorem aL_24 : S1.2.2 24 = 24 := rfl
theorem aL_25 : S1.2.2 25 = 160 := rfl
theorem aL_26 : S1.2.2 26 = 40 := rfl
theorem aL_27 : S1.2.2 27 = 40 := rfl
theorem aL_28 : S1.2.2 28 = 40 := rfl
theorem aL_29 : S1.2.2 29 = 40 := rfl
theorem aL_30 : S1.2.2 30 = 60 := rfl
theorem aL_31 : S1.2.2 31 = 2000 := rfl
theorem aL_32 : S1.2.2 32 = 10 := rfl
theorem aL_33 : S1.2.2 33 = 10 := rfl
theorem aL_34 : S1.2.2 34 = 10 := rfl
theorem aL_35 : S1.2.2 35 = 10 := rfl
theorem aL_36 : S1.2.2 36 = 10 := rfl
theorem aL_37 : S1.2.2 37 = 24 := rfl
theorem aL_38 : S1.2.2 38 = 24 := rfl
theorem aL_39 : S1.2.2 39 = 24 := rfl
theorem aL_40 : S1.2.2 40 = 24 := rfl
theorem aL_41 : S1.2.2 41 = 24 := rfl
theorem aL_42 : S1.2.2 42 = 24 := rfl
theorem aL_43 : S1.2.2 43 = 24 := rfl
theorem aL_44 : S1.2.2 44 = 24 := rfl
theorem aL_45 : S1.2.2 45 = 24 := rfl
theorem aL_46 : S1.2.2 46 = 24 := rfl
theorem aL_47 : S1.2.2 47 = 24 := rfl
theorem aL_48 : S1.2.2 48 = 24 := rfl
theorem aL_49 : S1.2.2 49 = 24 := rfl
theorem aL_50 : S1.2.2 50 = 24 := rfl
theorem aL_51 : S1.2.2 51 = 24 := rfl
theorem aL_52 : S1.2.2 52 = 240 := rfl
theorem aL_53 : S1.2.2 53 = 2000 := rfl
theorem aL_54 : S1.2.2 54 = 60 := rfl
theorem aL_55 : S1.2.2 55 = 40 := rfl
theorem aL_56 : S1.2.2 56 = 40 := rfl
theorem aL_57 : S1.2.2 57 = 40 := rfl
theorem aL_58 : S1.2.2 58 = 40 := rfl
theorem aL_59 : S1.2.2 59 = 24 := rfl
theorem aL_60 : S1.2.2 60 = 24 := rfl
theorem aL_61 : S1.2.2 61 = 8 := rfl
theorem aL_62 : S1.2.2 62 = 8 := rfl
theorem aL_70 : S1.2.2 70 = 24 := rfl
theorem aL_71 : S1.2.2 71 = 24 := rfl
theorem aL_72 : S1.2.2 72 = 24 := rfl
theorem aL_73 : S1.2.2 73 = 24 := rfl
theorem aL_74 : S1.2.2 74 = 24 := rfl
theorem aL_80 : S1.2.2 80 = 8 := rfl
theorem aL_85 : S1.2.2 85 = 24 := rfl
theorem aL_90 : S1.2.2 90 = 10 := rfl
theorem aL_91 : S1.2.2 91 = 24 := rfl
theorem gI_sL (σ : HS) (f i : Nat) (v : Int64) (f' i' : Nat) : gI (sL σ f i v) f' i' = gI σ f' i' := rfl
theorem gI_sQ (σ : HS) (f i : Nat) (v : Option (Nat × Nat)) (f' i' : Nat) : gI (sQ σ f i v) f' i' = gI σ f' i' := rfl
theorem gL_sI (σ : HS) (f i : Nat) (v : Int32) (f' i' : Nat) : gL (sI σ f i v) f' i' = gL σ f' i' := rfl
theorem gL_sQ (σ : HS) (f i : Nat) (v : Option (Nat × Nat)) (f' i' : Nat) : gL (sQ σ f i v) f' i' = gL σ f' i' := rfl
theorem gL_sJ (σ : HS) (f : Nat) (h : Nat → Int32) (f' i' : Nat) : gL (sJ σ f h) f' i' = gL σ f' i' := rfl
theorem gQ_sI (σ : HS) (f i : Nat) (v : Int32) (f' i' : Nat) : gQ (sI σ f i v) f' i' = gQ σ f' i' := rfl
theorem gQ_sL (σ : HS) (f i : Nat) (v : Int64) (f' i' : Nat) : gQ (sL σ f i v) f' i' = gQ σ f' i' := rfl
theorem gQ_sJ (σ : HS) (f : Nat) (h : Nat → Int32) (f' i' : Nat) : gQ (sJ σ f h) f' i' = gQ σ f' i' := rfl
theorem gN_sI (σ : HS) (f i : Nat) (v : Int32) (c : Nat) : gN (sI σ f i v) c = gN σ c := rfl
theorem gN_sL (σ : HS) (f i : Nat) (v : Int64) (c : Nat) : gN (sL σ f i v) c = gN σ c := rfl
theorem gN_sQ (σ : HS) (f i : Nat) (v : Option (Nat × Nat)) (c : Nat) : gN (sQ σ f i v) c = gN σ c := rfl
theorem nN_3 : S1.2.1 3 = none := rfl
theorem nN_10 : S1.2.1 10 = none := rfl
theorem gN_sO (σ : HS) (c i c' : Nat) : gN (sO σ c i) c' = if c' = c then i + 1 else gN σ c' := rfl
theorem gN_sJ (σ : HS) (f : Nat) (h : Nat → Int32) (c : Nat) : gN (sJ σ f h) c = gN σ c := rfl
