/-! ===== an abstract machine over numbered registers: one step of an instruction as a transformer of conditions ===== -/
/-- a value: an int, a long, a reference (null, or the number of its class or array and its place there) -/
abbrev AV : Type := Int32 ⊕ (Int64 ⊕ Option (Nat × Nat))
/-- a state: how many of each kind there are; ints, longs, references by register and place -/
abbrev HS : Type := (Nat → Nat) × (Nat → Nat → Int32) × (Nat → Nat → Int64) × (Nat → Nat → Option (Nat × Nat))
/-- what is fixed: references that don't change, numbers that don't change, the arrays' lengths -/
abbrev SV : Type := (Nat → Option (Nat × Nat)) × (Nat → Option Nat) × (Nat → Nat)
abbrev ALs : Type := List (Option AV)
abbrev PO : Type := Option AV → HS → Prop
abbrev KT : Type := Nat → ALs → List AV → HS → Nat → Nat → Prop
abbrev OR : Type := Nat → List AV → HS → PO → Prop
abbrev PT : Type := OR → PO → KT → ALs → List AV → HS → Nat → Nat → Prop
def gI (σ : HS) (f i : Nat) : Int32 := σ.2.1 f i
def gL (σ : HS) (f i : Nat) : Int64 := σ.2.2.1 f i
def gQ (σ : HS) (f i : Nat) : Option (Nat × Nat) := σ.2.2.2 f i
def gN (σ : HS) (c : Nat) : Nat := σ.1 c
def gR (S : SV) (σ : HS) (f i : Nat) : Option (Nat × Nat) := match S.1 f with
  | some r => some r
  | none => gQ σ f i
def gC (S : SV) (σ : HS) (c : Nat) : Nat := match S.2.1 c with
  | some n => n
  | none => gN σ c
def sI (σ : HS) (f i : Nat) (v : Int32) : HS := (σ.1, fun f' i' => if f' = f then (if i' = i then v else σ.2.1 f' i') else σ.2.1 f' i', σ.2.2.1, σ.2.2.2)
def sL (σ : HS) (f i : Nat) (v : Int64) : HS := (σ.1, σ.2.1, fun f' i' => if f' = f then (if i' = i then v else σ.2.2.1 f' i') else σ.2.2.1 f' i', σ.2.2.2)
def sQ (σ : HS) (f i : Nat) (v : Option (Nat × Nat)) : HS := (σ.1, σ.2.1, σ.2.2.1, fun f' i' => if f' = f then (if i' = i then v else σ.2.2.2 f' i') else σ.2.2.2 f' i')
/-- a whole register's ints become others -/
def sJ (σ : HS) (f : Nat) (g : Nat → Int32) : HS := (σ.1, fun f' i' => if f' = f then g i' else σ.2.1 f' i', σ.2.2.1, σ.2.2.2)
/-- object i of class c is made -/
def sO (σ : HS) (c i : Nat) : HS := (fun c' => if c' = c then i + 1 else σ.1 c', fun f' i' => if f' / 100 = c + 1 then (if i' = i then 0 else σ.2.1 f' i') else σ.2.1 f' i', fun f' i' => if f' / 100 = c + 1 then (if i' = i then 0 else σ.2.2.1 f' i') else σ.2.2.1 f' i', fun f' i' => if f' / 100 = c + 1 then (if i' = i then none else σ.2.2.2 f' i') else σ.2.2.2 f' i')
/-- array a is made -/
def sA (σ : HS) (a : Nat) : HS := (fun c' => if c' = a then 1 else σ.1 c', fun f' i' => if f' = a then 0 else σ.2.1 f' i', fun f' i' => if f' = a then 0 else σ.2.2.1 f' i', fun f' i' => if f' = a then none else σ.2.2.2 f' i')
def am_ld : ALs → Nat → Option AV
  | [], _ => none
  | x :: _, 0 => x
  | _ :: r, k + 1 => am_ld r k
def am_set : ALs → Nat → Option AV → ALs
  | [], _, _ => []
  | _ :: r, 0, v => v :: r
  | x :: r, k + 1, v => x :: am_set r k v
def am_nl : Option AV → Prop
  | none => True
  | some (.inl _) => True
  | some (.inr (.inl _)) => False
  | some (.inr (.inr _)) => True
def am_ok (ls : ALs) : Nat → Prop
  | 0 => 0 < ls.length
  | j + 1 => j + 1 < ls.length ∧ am_nl (am_ld ls j)
def am_ct : List AV → Nat
  | [] => 0
  | .inl _ :: r => 1 + am_ct r
  | .inr (.inl _) :: r => 2 + am_ct r
  | .inr (.inr _) :: r => 1 + am_ct r
def am_v (S : SV) (σ : HS) : AV → Prop
  | .inl _ => True
  | .inr (.inl _) => True
  | .inr (.inr none) => True
  | .inr (.inr (some q)) => q.2 < gC S σ q.1
/-- a reference that names an object that is there -/
def am_vi (S : SV) (σ : HS) : Option (Nat × Nat) → Prop
  | none => True
  | some q => (q.1 < 13 ∨ (22 ≤ q.1 ∧ q.1 < 92 ∧ q.2 = 0)) ∧ q.2 < gC S σ q.1
def am_vs (S : SV) (σ : HS) : List AV → Prop
  | [] => True
  | v :: r => am_v S σ v ∧ am_vs S σ r
def am_vo (S : SV) (σ : HS) : ALs → Prop
  | [] => True
  | none :: r => am_vo S σ r
  | some v :: r => am_v S σ v ∧ am_vo S σ r
def am_pop : Nat → List AV → List AV → Option (List AV × List AV)
  | 0, acc, st => some (acc, st)
  | _ + 1, _, [] => none
  | n + 1, acc, x :: st => am_pop n (x :: acc) st
def am_rt : Option AV → List AV → List AV
  | none, st => st
  | some v, st => v :: st
def am_ar : List AV → ALs
  | [] => []
  | .inl x :: r => some (.inl x) :: am_ar r
  | .inr (.inl y) :: r => some (.inr (.inl y)) :: none :: am_ar r
  | .inr (.inr q) :: r => some (.inr (.inr q)) :: am_ar r
def am_fit : Nat → ALs → ALs
  | 0, _ => []
  | n + 1, [] => none :: am_fit n []
  | n + 1, x :: r => x :: am_fit n r
def am_in (nl : Nat) (vs : List AV) : ALs := am_fit nl (am_ar vs)
def am_b (x : Int32) : Prop := x = 0 ∨ x = 1
/-! the instructions; n is the next place -/
def i_no (_u0 : OR) (_u1 : PO) (_u2 : KT) (_u3 : ALs) (_u4 : List AV) (_u5 : HS) (_u6 : Nat) (_u7 : Nat) : Prop := False
def i_c (v : AV) (n : Nat) (_u0 : OR) (_u1 : PO) (K : KT) (ls : ALs) (st : List AV) (σ : HS) (a : Nat) (b : Nat) : Prop := K n ls (v :: st) σ a b
def i_ldI (k n : Nat) (_u0 : OR) (_u1 : PO) (K : KT) (ls : ALs) (st : List AV) (σ : HS) (a : Nat) (b : Nat) : Prop := match am_ld ls k with
  | some (.inl x) => K n ls (.inl x :: st) σ a b
  | _ => False
def i_ldL (k n : Nat) (_u0 : OR) (_u1 : PO) (K : KT) (ls : ALs) (st : List AV) (σ : HS) (a : Nat) (b : Nat) : Prop := match am_ld ls k with
  | some (.inr (.inl x)) => K n ls (.inr (.inl x) :: st) σ a b
  | _ => False
def i_ldR (k n : Nat) (_u0 : OR) (_u1 : PO) (K : KT) (ls : ALs) (st : List AV) (σ : HS) (a : Nat) (b : Nat) : Prop := match am_ld ls k with
  | some (.inr (.inr x)) => K n ls (.inr (.inr x) :: st) σ a b
  | _ => False
def i_stI (k n : Nat) (_u0 : OR) (_u1 : PO) (K : KT) (ls : ALs) (st : List AV) (σ : HS) (a : Nat) (b : Nat) : Prop := match st with
  | .inl x :: r => am_ok ls k ∧ K n (am_set ls k (some (.inl x))) r σ a b
  | _ => False
def i_stL (k n : Nat) (_u0 : OR) (_u1 : PO) (K : KT) (ls : ALs) (st : List AV) (σ : HS) (a : Nat) (b : Nat) : Prop := match st with
  | .inr (.inl x) :: r => am_ok ls k ∧ k + 1 < ls.length ∧ K n (am_set (am_set ls k (some (.inr (.inl x)))) (k + 1) none) r σ a b
  | _ => False
def i_stR (k n : Nat) (_u0 : OR) (_u1 : PO) (K : KT) (ls : ALs) (st : List AV) (σ : HS) (a : Nat) (b : Nat) : Prop := match st with
  | .inr (.inr x) :: r => am_ok ls k ∧ K n (am_set ls k (some (.inr (.inr x)))) r σ a b
  | _ => False
def i_inc (k : Nat) (d : Int32) (n : Nat) (_u0 : OR) (_u1 : PO) (K : KT) (ls : ALs) (st : List AV) (σ : HS) (a : Nat) (b : Nat) : Prop := match am_ld ls k with
  | some (.inl x) => am_ok ls k ∧ K n (am_set ls k (some (.inl (x + d)))) st σ a b
  | _ => False
def i_b2 (f : Int32 → Int32 → Int32) (n : Nat) (_u0 : OR) (_u1 : PO) (K : KT) (ls : ALs) (st : List AV) (σ : HS) (a : Nat) (b : Nat) : Prop := match st with
  | .inl y :: .inl x :: r => K n ls (.inl (f x y) :: r) σ a b
  | _ => False
def i_b2n (f : Int32 → Int32 → Int32) (n : Nat) (_u0 : OR) (_u1 : PO) (K : KT) (ls : ALs) (st : List AV) (σ : HS) (a : Nat) (b : Nat) : Prop := match st with
  | .inl y :: .inl x :: r => ¬ y = 0 ∧ K n ls (.inl (f x y) :: r) σ a b
  | _ => False
def i_u1 (f : Int32 → Int32) (n : Nat) (_u0 : OR) (_u1 : PO) (K : KT) (ls : ALs) (st : List AV) (σ : HS) (a : Nat) (b : Nat) : Prop := match st with
  | .inl x :: r => K n ls (.inl (f x) :: r) σ a b
  | _ => False
def i_l2 (f : Int64 → Int64 → Int64) (n : Nat) (_u0 : OR) (_u1 : PO) (K : KT) (ls : ALs) (st : List AV) (σ : HS) (a : Nat) (b : Nat) : Prop := match st with
  | .inr (.inl y) :: .inr (.inl x) :: r => K n ls (.inr (.inl (f x y)) :: r) σ a b
  | _ => False
def i_l2n (f : Int64 → Int64 → Int64) (n : Nat) (_u0 : OR) (_u1 : PO) (K : KT) (ls : ALs) (st : List AV) (σ : HS) (a : Nat) (b : Nat) : Prop := match st with
  | .inr (.inl y) :: .inr (.inl x) :: r => ¬ y = 0 ∧ K n ls (.inr (.inl (f x y)) :: r) σ a b
  | _ => False
def i_lsh (f : Int64 → Int32 → Int64) (n : Nat) (_u0 : OR) (_u1 : PO) (K : KT) (ls : ALs) (st : List AV) (σ : HS) (a : Nat) (b : Nat) : Prop := match st with
  | .inl y :: .inr (.inl x) :: r => K n ls (.inr (.inl (f x y)) :: r) σ a b
  | _ => False
def i_i2l (n : Nat) (_u0 : OR) (_u1 : PO) (K : KT) (ls : ALs) (st : List AV) (σ : HS) (a : Nat) (b : Nat) : Prop := match st with
  | .inl x :: r => K n ls (.inr (.inl x.toInt64) :: r) σ a b
  | _ => False
def i_l2i (n : Nat) (_u0 : OR) (_u1 : PO) (K : KT) (ls : ALs) (st : List AV) (σ : HS) (a : Nat) (b : Nat) : Prop := match st with
  | .inr (.inl x) :: r => K n ls (.inl x.toInt32 :: r) σ a b
  | _ => False
def i_lcmp (n : Nat) (_u0 : OR) (_u1 : PO) (K : KT) (ls : ALs) (st : List AV) (σ : HS) (a : Nat) (b : Nat) : Prop := match st with
  | .inr (.inl y) :: .inr (.inl x) :: r => K n ls (.inl (lg_cmp x y) :: r) σ a b
  | _ => False
def i_dup (n : Nat) (_u0 : OR) (_u1 : PO) (K : KT) (ls : ALs) (st : List AV) (σ : HS) (a : Nat) (b : Nat) : Prop := match st with
  | .inl x :: r => K n ls (.inl x :: .inl x :: r) σ a b
  | .inr (.inr x) :: r => K n ls (.inr (.inr x) :: .inr (.inr x) :: r) σ a b
  | _ => False
def i_dup2 (n : Nat) (_u0 : OR) (_u1 : PO) (K : KT) (ls : ALs) (st : List AV) (σ : HS) (a : Nat) (b : Nat) : Prop := match st with
  | .inl x :: .inr (.inr y) :: r => K n ls (.inl x :: .inr (.inr y) :: .inl x :: .inr (.inr y) :: r) σ a b
  | _ => False
def i_pop (n : Nat) (_u0 : OR) (_u1 : PO) (K : KT) (ls : ALs) (st : List AV) (σ : HS) (a : Nat) (b : Nat) : Prop := match st with
  | .inl _ :: r => K n ls r σ a b
  | .inr (.inr _) :: r => K n ls r σ a b
  | _ => False
def i_jmp (t : Nat) (_u0 : OR) (_u1 : PO) (K : KT) (ls : ALs) (st : List AV) (σ : HS) (a : Nat) (b : Nat) : Prop := K t ls st σ a b
/-- x = 0: there, else here -/
def i_jz (t n : Nat) (_u0 : OR) (_u1 : PO) (K : KT) (ls : ALs) (st : List AV) (σ : HS) (a : Nat) (b : Nat) : Prop := match st with
  | .inl x :: r => if x = 0 then K t ls r σ a b else K n ls r σ a b
  | _ => False
def i_jn (t n : Nat) (_u0 : OR) (_u1 : PO) (K : KT) (ls : ALs) (st : List AV) (σ : HS) (a : Nat) (b : Nat) : Prop := match st with
  | .inl x :: r => if x < 0 then K t ls r σ a b else K n ls r σ a b
  | _ => False
def i_jp (t n : Nat) (_u0 : OR) (_u1 : PO) (K : KT) (ls : ALs) (st : List AV) (σ : HS) (a : Nat) (b : Nat) : Prop := match st with
  | .inl x :: r => if 0 < x then K t ls r σ a b else K n ls r σ a b
  | _ => False
def i_je (t n : Nat) (_u0 : OR) (_u1 : PO) (K : KT) (ls : ALs) (st : List AV) (σ : HS) (a : Nat) (b : Nat) : Prop := match st with
  | .inl y :: .inl x :: r => if x = y then K t ls r σ a b else K n ls r σ a b
  | _ => False
def i_jl (t n : Nat) (_u0 : OR) (_u1 : PO) (K : KT) (ls : ALs) (st : List AV) (σ : HS) (a : Nat) (b : Nat) : Prop := match st with
  | .inl y :: .inl x :: r => if x < y then K t ls r σ a b else K n ls r σ a b
  | _ => False
def i_jg (t n : Nat) (_u0 : OR) (_u1 : PO) (K : KT) (ls : ALs) (st : List AV) (σ : HS) (a : Nat) (b : Nat) : Prop := match st with
  | .inl y :: .inl x :: r => if y < x then K t ls r σ a b else K n ls r σ a b
  | _ => False
/-- null: there, else here -/
def i_jnull (t n : Nat) (_u0 : OR) (_u1 : PO) (K : KT) (ls : ALs) (st : List AV) (σ : HS) (a : Nat) (b : Nat) : Prop := match st with
  | .inr (.inr none) :: r => K t ls r σ a b
  | .inr (.inr (some _)) :: r => K n ls r σ a b
  | _ => False
/-- the same reference: there, else here -/
def i_jsame (S : SV) (t n : Nat) (_u0 : OR) (_u1 : PO) (K : KT) (ls : ALs) (st : List AV) (σ : HS) (a : Nat) (b : Nat) : Prop := match st with
  | .inr (.inr y) :: .inr (.inr x) :: r => am_vi S σ y ∧ am_vi S σ x ∧ if x = y then K t ls r σ a b else K n ls r σ a b
  | _ => False
def am_sw (x : Int32) (d : Nat) (K : KT) (ls : ALs) (st : List AV) (σ : HS) (a b : Nat) : List (Int32 × Nat) → Prop
  | [] => K d ls st σ a b
  | q :: r => if x = q.1 then K q.2 ls st σ a b else am_sw x d K ls st σ a b r
def i_sw (ps : List (Int32 × Nat)) (d : Nat) (_u0 : OR) (_u1 : PO) (K : KT) (ls : ALs) (st : List AV) (σ : HS) (a : Nat) (b : Nat) : Prop := match st with
  | .inl x :: r => am_sw x d K ls r σ a b ps
  | _ => False
def i_getI (S : SV) (c f n : Nat) (_u0 : OR) (_u1 : PO) (K : KT) (ls : ALs) (st : List AV) (σ : HS) (a : Nat) (b : Nat) : Prop := match st with
  | .inr (.inr (some q)) :: r => q.1 = c ∧ q.2 < gC S σ c ∧ K n ls (.inl (gI σ f q.2) :: r) σ a b
  | _ => False
def i_getL (S : SV) (c f n : Nat) (_u0 : OR) (_u1 : PO) (K : KT) (ls : ALs) (st : List AV) (σ : HS) (a : Nat) (b : Nat) : Prop := match st with
  | .inr (.inr (some q)) :: r => q.1 = c ∧ q.2 < gC S σ c ∧ K n ls (.inr (.inl (gL σ f q.2)) :: r) σ a b
  | _ => False
def i_getR (S : SV) (c f n : Nat) (_u0 : OR) (_u1 : PO) (K : KT) (ls : ALs) (st : List AV) (σ : HS) (a : Nat) (b : Nat) : Prop := match st with
  | .inr (.inr (some q)) :: r => q.1 = c ∧ q.2 < gC S σ c ∧ K n ls (.inr (.inr (gR S σ f q.2)) :: r) σ a b
  | _ => False
def i_putI (S : SV) (c f n : Nat) (_u0 : OR) (_u1 : PO) (K : KT) (ls : ALs) (st : List AV) (σ : HS) (a : Nat) (b : Nat) : Prop := match st with
  | .inl x :: .inr (.inr (some q)) :: r => q.1 = c ∧ q.2 < gC S σ c ∧ K n ls r (sI σ f q.2 x) a b
  | _ => False
def i_putZ (S : SV) (c f n : Nat) (_u0 : OR) (_u1 : PO) (K : KT) (ls : ALs) (st : List AV) (σ : HS) (a : Nat) (b : Nat) : Prop := match st with
  | .inl x :: .inr (.inr (some q)) :: r => am_b x ∧ q.1 = c ∧ q.2 < gC S σ c ∧ K n ls r (sI σ f q.2 x) a b
  | _ => False
def i_putL (S : SV) (c f n : Nat) (_u0 : OR) (_u1 : PO) (K : KT) (ls : ALs) (st : List AV) (σ : HS) (a : Nat) (b : Nat) : Prop := match st with
  | .inr (.inl x) :: .inr (.inr (some q)) :: r => q.1 = c ∧ q.2 < gC S σ c ∧ K n ls r (sL σ f q.2 x) a b
  | _ => False
def i_putR (S : SV) (c f n : Nat) (_u0 : OR) (_u1 : PO) (K : KT) (ls : ALs) (st : List AV) (σ : HS) (a : Nat) (b : Nat) : Prop := match st with
  | .inr (.inr x) :: .inr (.inr (some q)) :: r => S.1 f = none ∧ am_v S σ (.inr (.inr x)) ∧ q.1 = c ∧ q.2 < gC S σ c ∧ K n ls r (sQ σ f q.2 x) a b
  | _ => False
/-- arrays: ints 20 .. 69 (20 the script, 21 the tail: never written), booleans 70 .. 79, bytes 80 .. 84, longs 85 .. 89, nodes 90, words 91 -/
def i_iald (S : SV) (n : Nat) (_u0 : OR) (_u1 : PO) (K : KT) (ls : ALs) (st : List AV) (σ : HS) (a : Nat) (b : Nat) : Prop := match st with
  | .inl i :: .inr (.inr (some q)) :: r => 21 ≤ q.1 ∧ q.1 < 70 ∧ q.2 = 0 ∧ 0 < gC S σ q.1 ∧ vp_in i (S.2.2 q.1) ∧ K n ls (.inl (gI σ q.1 i.toNatClampNeg) :: r) σ a b
  | _ => False
def i_bald (S : SV) (n : Nat) (_u0 : OR) (_u1 : PO) (K : KT) (ls : ALs) (st : List AV) (σ : HS) (a : Nat) (b : Nat) : Prop := match st with
  | .inl i :: .inr (.inr (some q)) :: r => 70 ≤ q.1 ∧ q.1 < 85 ∧ q.2 = 0 ∧ 0 < gC S σ q.1 ∧ vp_in i (S.2.2 q.1) ∧ K n ls (.inl (gI σ q.1 i.toNatClampNeg) :: r) σ a b
  | _ => False
def i_lald (S : SV) (n : Nat) (_u0 : OR) (_u1 : PO) (K : KT) (ls : ALs) (st : List AV) (σ : HS) (a : Nat) (b : Nat) : Prop := match st with
  | .inl i :: .inr (.inr (some q)) :: r => 85 ≤ q.1 ∧ q.1 < 90 ∧ q.2 = 0 ∧ 0 < gC S σ q.1 ∧ vp_in i (S.2.2 q.1) ∧ K n ls (.inr (.inl (gL σ q.1 i.toNatClampNeg)) :: r) σ a b
  | _ => False
def i_aald (S : SV) (n : Nat) (_u0 : OR) (_u1 : PO) (K : KT) (ls : ALs) (st : List AV) (σ : HS) (a : Nat) (b : Nat) : Prop := match st with
  | .inl i :: .inr (.inr (some q)) :: r => 90 ≤ q.1 ∧ q.1 < 92 ∧ q.2 = 0 ∧ 0 < gC S σ q.1 ∧ vp_in i (S.2.2 q.1) ∧ K n ls (.inr (.inr (gR S σ q.1 i.toNatClampNeg)) :: r) σ a b
  | _ => False
def i_iast (S : SV) (n : Nat) (_u0 : OR) (_u1 : PO) (K : KT) (ls : ALs) (st : List AV) (σ : HS) (a : Nat) (b : Nat) : Prop := match st with
  | .inl x :: .inl i :: .inr (.inr (some q)) :: r => 22 ≤ q.1 ∧ q.1 < 70 ∧ q.2 = 0 ∧ 0 < gC S σ q.1 ∧ vp_in i (S.2.2 q.1) ∧ K n ls r (sI σ q.1 i.toNatClampNeg x) a b
  | _ => False
def i_bast (S : SV) (n : Nat) (_u0 : OR) (_u1 : PO) (K : KT) (ls : ALs) (st : List AV) (σ : HS) (a : Nat) (b : Nat) : Prop := match st with
  | .inl x :: .inl i :: .inr (.inr (some q)) :: r => q.2 = 0 ∧ 0 < gC S σ q.1 ∧ vp_in i (S.2.2 q.1) ∧ if q.1 < 80 then 70 ≤ q.1 ∧ am_b x ∧ K n ls r (sI σ q.1 i.toNatClampNeg x) a b else q.1 < 85 ∧ K n ls r (sI σ q.1 i.toNatClampNeg x.toInt8.toInt32) a b
  | _ => False
def i_last (S : SV) (n : Nat) (_u0 : OR) (_u1 : PO) (K : KT) (ls : ALs) (st : List AV) (σ : HS) (a : Nat) (b : Nat) : Prop := match st with
  | .inr (.inl x) :: .inl i :: .inr (.inr (some q)) :: r => 85 ≤ q.1 ∧ q.1 < 90 ∧ q.2 = 0 ∧ 0 < gC S σ q.1 ∧ vp_in i (S.2.2 q.1) ∧ K n ls r (sL σ q.1 i.toNatClampNeg x) a b
  | _ => False
def i_aast (S : SV) (n : Nat) (_u0 : OR) (_u1 : PO) (K : KT) (ls : ALs) (st : List AV) (σ : HS) (a : Nat) (b : Nat) : Prop := match st with
  | .inr (.inr (some x)) :: .inl i :: .inr (.inr (some q)) :: r => S.1 q.1 = none ∧ (q.1 = 90 ∧ x.1 = 3 ∨ q.1 = 91 ∧ x.1 = 10) ∧ x.2 < gC S σ x.1 ∧ q.2 = 0 ∧ 0 < gC S σ q.1 ∧ vp_in i (S.2.2 q.1) ∧ K n ls r (sQ σ q.1 i.toNatClampNeg (some x)) a b
  | _ => False
def i_alen (S : SV) (n : Nat) (_u0 : OR) (_u1 : PO) (K : KT) (ls : ALs) (st : List AV) (σ : HS) (a : Nat) (b : Nat) : Prop := match st with
  | .inr (.inr (some q)) :: r => 21 ≤ q.1 ∧ q.1 < 92 ∧ q.2 = 0 ∧ 0 < gC S σ q.1 ∧ K n ls (.inl (nI (S.2.2 q.1)) :: r) σ a b
  | _ => False
def i_copy (S : SV) (n : Nat) (_u0 : OR) (_u1 : PO) (K : KT) (ls : ALs) (st : List AV) (σ : HS) (a : Nat) (b : Nat) : Prop := match st with
  | .inl k :: .inl dp :: .inr (.inr (some q)) :: .inl sp :: .inr (.inr (some q')) :: r => q = q' ∧ (22 ≤ q.1 ∧ q.1 < 70 ∨ q.1 = 80 ∧ ∀ j, (-128) ≤ gI σ 80 j ∧ gI σ 80 j ≤ 127) ∧ q.2 = 0 ∧ 0 < gC S σ q.1 ∧ am_ct r ≤ 8 ∧ ¬ sp < 0 ∧ ¬ dp < 0 ∧ ¬ k < 0 ∧ sp.toNatClampNeg + k.toNatClampNeg ≤ S.2.2 q.1 ∧ dp.toNatClampNeg + k.toNatClampNeg ≤ S.2.2 q.1 ∧ K n ls r (sJ σ q.1 (va_cpy (gI σ q.1) (gI σ q.1) sp.toNatClampNeg dp.toNatClampNeg k.toNatClampNeg)) a b
  | _ => False
def i_max (n : Nat) (_u0 : OR) (_u1 : PO) (K : KT) (ls : ALs) (st : List AV) (σ : HS) (a : Nat) (b : Nat) : Prop := match st with
  | .inl y :: .inl x :: r => am_ct r ≤ 8 ∧ K n ls (.inl (if x < y then y else x) :: r) σ a b
  | _ => False
def i_min (n : Nat) (_u0 : OR) (_u1 : PO) (K : KT) (ls : ALs) (st : List AV) (σ : HS) (a : Nat) (b : Nat) : Prop := match st with
  | .inl y :: .inl x :: r => am_ct r ≤ 8 ∧ K n ls (.inl (if y < x then y else x) :: r) σ a b
  | _ => False
/-- what comes behind a call -/
def am_kk (K : KT) (n : Nat) (ls : ALs) (r : List AV) (a b : Nat) (x : Option AV) (σ' : HS) : Prop := K n ls (am_rt x r) σ' a b
/-- a call; mc, ms: what the callee may make (0, 0: nothing); MC, MS: the caller's own bound -/
def am_cc (S : SV) (nl mc ms MC MS : Nat) (ls : ALs) (vs r : List AV) (σ : HS) (a b : Nat) : Prop := (am_ar vs).length ≤ nl ∧ am_ct r ≤ 8 ∧ (mc = 0 ∨ am_vo S σ ls ∧ am_vs S σ r) ∧ a + mc ≤ MC ∧ b + ms ≤ MS
def i_cS (S : SV) (y na nl mc ms MC MS n : Nat) (M : OR) (_u1 : PO) (K : KT) (ls : ALs) (st : List AV) (σ : HS) (a : Nat) (b : Nat) : Prop := match am_pop na [] st with
  | some (vs, r) => am_cc S nl mc ms MC MS ls vs r σ a b ∧ M y vs σ (am_kk K n ls r (a + mc) (b + ms))
  | none => False
def i_cV (S : SV) (c y na nl mc ms MC MS n : Nat) (M : OR) (_u1 : PO) (K : KT) (ls : ALs) (st : List AV) (σ : HS) (a : Nat) (b : Nat) : Prop := match am_pop na [] st with
  | some (.inr (.inr (some q)) :: vs, r) => q.1 = c ∧ q.2 < gC S σ c ∧ am_cc S nl mc ms MC MS ls (.inr (.inr (some q)) :: vs) r σ a b ∧ M y (.inr (.inr (some q)) :: vs) σ (am_kk K n ls r (a + mc) (b + ms))
  | _ => False
def i_cI (S : SV) (y na nl mc ms MC MS n : Nat) (M : OR) (_u1 : PO) (K : KT) (ls : ALs) (st : List AV) (σ : HS) (a : Nat) (b : Nat) : Prop := match am_pop na [] st with
  | some (.inr (.inr (some q)) :: vs, r) => am_cc S nl mc ms MC MS ls (.inr (.inr (some q)) :: vs) r σ a b ∧ M y (.inr (.inr (some q)) :: vs) σ (am_kk K n ls r (a + mc) (b + ms))
  | _ => False
/-- the constructor of Object -/
def i_cO (n : Nat) (_u0 : OR) (_u1 : PO) (K : KT) (ls : ALs) (st : List AV) (σ : HS) (a : Nat) (b : Nat) : Prop := match st with
  | .inr (.inr (some _)) :: r => am_ct r ≤ 8 ∧ K n ls r σ a b
  | _ => False
def i_new (S : SV) (c N MC MS n : Nat) (_u0 : OR) (_u1 : PO) (K : KT) (ls : ALs) (st : List AV) (σ : HS) (a : Nat) (b : Nat) : Prop := S.2.1 c = none ∧ am_vo S σ ls ∧ am_vs S σ st ∧ a + 1 ≤ MC ∧ b + N ≤ MS ∧ K n ls (.inr (.inr (some (c, gN σ c))) :: st) (sO σ c (gN σ c)) (a + 1) (b + N)
def i_newa (S : SV) (q MC MS n : Nat) (_u0 : OR) (_u1 : PO) (K : KT) (ls : ALs) (st : List AV) (σ : HS) (a : Nat) (b : Nat) : Prop := match st with
  | .inl x :: r => S.2.1 q = none ∧ S.1 q = none ∧ x = nI (S.2.2 q) ∧ gN σ q = 0 ∧ am_vo S σ ls ∧ am_vs S σ r ∧ a + 1 ≤ MC ∧ b + S.2.2 q ≤ MS ∧ K n ls (.inr (.inr (some (q, 0))) :: r) (sA σ q) (a + 1) (b + S.2.2 q)
  | _ => False
def i_rV (_u0 : OR) (Q : PO) (_u2 : KT) (_u3 : ALs) (st : List AV) (σ : HS) (_u6 : Nat) (_u7 : Nat) : Prop := match st with
  | [] => Q none σ
  | _ => False
def i_rI (_u0 : OR) (Q : PO) (_u2 : KT) (_u3 : ALs) (st : List AV) (σ : HS) (_u6 : Nat) (_u7 : Nat) : Prop := match st with
  | [.inl x] => Q (some (.inl x)) σ
  | _ => False
def i_rZ (_u0 : OR) (Q : PO) (_u2 : KT) (_u3 : ALs) (st : List AV) (σ : HS) (_u6 : Nat) (_u7 : Nat) : Prop := match st with
  | [.inl x] => am_b x ∧ Q (some (.inl x)) σ
  | _ => False
def i_rL (_u0 : OR) (Q : PO) (_u2 : KT) (_u3 : ALs) (st : List AV) (σ : HS) (_u6 : Nat) (_u7 : Nat) : Prop := match st with
  | [.inr (.inl x)] => Q (some (.inr (.inl x))) σ
  | _ => False
def i_rR (_u0 : OR) (Q : PO) (_u2 : KT) (_u3 : ALs) (st : List AV) (σ : HS) (_u6 : Nat) (_u7 : Nat) : Prop := match st with
  | [.inr (.inr x)] => Q (some (.inr (.inr x))) σ
  | _ => False
/-- the law's script, of L ints: its own two instructions -/
def i_sld (L n : Nat) (_u0 : OR) (_u1 : PO) (K : KT) (ls : ALs) (st : List AV) (σ : HS) (a : Nat) (b : Nat) : Prop := match st with
  | .inl i :: .inr (.inr (some q)) :: r => q = (20, 0) ∧ vp_in i L ∧ K n ls (.inl (gI σ 20 i.toNatClampNeg) :: r) σ a b
  | _ => False
def i_slen (L n : Nat) (_u0 : OR) (_u1 : PO) (K : KT) (ls : ALs) (st : List AV) (σ : HS) (a : Nat) (b : Nat) : Prop := match st with
  | .inr (.inr (some q)) :: r => q = (20, 0) ∧ K n ls (.inl (nI L) :: r) σ a b
  | _ => False
/-! code as a tree of places -/
def bt (k : Nat) (l r : Nat → Bool × PT) (pc : Nat) : Bool × PT := if pc < k then l pc else r pc
def lf (k : Nat) (h : Bool) (t : PT) (pc : Nat) : Bool × PT := if pc = k then (h, t) else (false, i_no)
/-! what a run comes to -/
def am_T (cd : Nat → Bool × PT) (M : OR) (Q : PO) : KT := fun pc ls st σ a b => ∀ I : KT, (∀ pc ls st σ a b, (cd pc).2 M Q I ls st σ a b → I pc ls st σ a b) → I pc ls st σ a b
def am_mo (M : OR) : Prop := ∀ (y : Nat) (vs : List AV) (σ : HS) (Q Q' : PO), (∀ r t, Q r t → Q' r t) → M y vs σ Q → M y vs σ Q'
def am_le (M M' : OR) : Prop := ∀ (y : Nat) (vs : List AV) (σ : HS) (Q : PO), M y vs σ Q → M' y vs σ Q
def am_cl (P : Nat → Nat × (Nat → Bool × PT)) (M : OR) : Prop := ∀ (y : Nat) (vs : List AV) (σ : HS) (Q : PO), am_T (P y).2 M Q 0 (am_in (P y).1 vs) [] σ 0 0 → M y vs σ Q
def am_M (P : Nat → Nat × (Nat → Bool × PT)) : OR := fun y vs σ Q => ∀ M : OR, am_mo M → am_cl P M → M y vs σ Q
/-- an instruction's transformer grows with what it is given -/
def am_g (t : PT) : Prop := ∀ (M M' : OR) (Q Q' : PO) (K K' : KT) (ls : ALs) (st : List AV) (σ : HS) (a b : Nat), am_mo M → am_le M M' → (∀ r t, Q r t → Q' r t) → (∀ pc ls st σ a b, K pc ls st σ a b → K' pc ls st σ a b) → t M Q K ls st σ a b → t M' Q' K' ls st σ a b
def am_gc (cd : Nat → Bool × PT) : Prop := ∀ pc, am_g (cd pc).2
theorem am_T_in {cd : Nat → Bool × PT} {M : OR} {Q : PO} (g : am_gc cd) (hM : am_mo M) {pc : Nat} {ls : ALs} {st : List AV} {σ : HS} {a b : Nat} (h : (cd pc).2 M Q (am_T cd M Q) ls st σ a b) : am_T cd M Q pc ls st σ a b := by
  intro I hI
  refine hI _ _ _ _ _ _ (g pc M M Q Q _ I ls st σ a b hM (fun _ _ _ _ h => h) (fun _ _ h => h) ?_ h)
  intro pc ls st σ a b h
  exact h I hI
theorem am_T_out {cd : Nat → Bool × PT} {M : OR} {Q : PO} (g : am_gc cd) (hM : am_mo M) {pc : Nat} {ls : ALs} {st : List AV} {σ : HS} {a b : Nat} (h : am_T cd M Q pc ls st σ a b) : (cd pc).2 M Q (am_T cd M Q) ls st σ a b := by
  refine h (fun pc ls st σ a b => (cd pc).2 M Q (am_T cd M Q) ls st σ a b) ?_
  intro pc ls st σ a b h
  exact g pc M M Q Q _ _ ls st σ a b hM (fun _ _ _ _ h => h) (fun _ _ h => h) (fun _ _ _ _ _ _ h => am_T_in g hM h) h
theorem am_T_mo {cd : Nat → Bool × PT} {M M' : OR} {Q Q' : PO} (g : am_gc cd) (hM : am_mo M) (hm : am_le M M') (hq : ∀ r t, Q r t → Q' r t) {pc : Nat} {ls : ALs} {st : List AV} {σ : HS} {a b : Nat} (h : am_T cd M Q pc ls st σ a b) : am_T cd M' Q' pc ls st σ a b := by
  intro I hI
  refine h I ?_
  intro pc ls st σ a b h
  exact hI _ _ _ _ _ _ (g pc M M' Q Q' I I ls st σ a b hM hm hq (fun _ _ _ _ _ _ h => h) h)
def am_gp (P : Nat → Nat × (Nat → Bool × PT)) : Prop := ∀ y, am_gc (P y).2
theorem am_M_mo (P : Nat → Nat × (Nat → Bool × PT)) : am_mo (am_M P) := by
  intro y vs σ Q Q' hq h M hM hc
  exact hM y vs σ Q Q' hq (h M hM hc)
theorem am_M_in {P : Nat → Nat × (Nat → Bool × PT)} (g : am_gp P) {y : Nat} {vs : List AV} {σ : HS} {Q : PO} (h : am_T (P y).2 (am_M P) Q 0 (am_in (P y).1 vs) [] σ 0 0) : am_M P y vs σ Q := by
  intro M hM hc
  exact hc y vs σ Q (am_T_mo (g y) (am_M_mo P) (fun y vs σ Q h => h M hM hc) (fun _ _ h => h) h)
theorem am_M_out {P : Nat → Nat × (Nat → Bool × PT)} (g : am_gp P) {y : Nat} {vs : List AV} {σ : HS} {Q : PO} (h : am_M P y vs σ Q) : am_T (P y).2 (am_M P) Q 0 (am_in (P y).1 vs) [] σ 0 0 := by
  refine h (fun y vs σ Q => am_T (P y).2 (am_M P) Q 0 (am_in (P y).1 vs) [] σ 0 0) ?_ ?_
  · intro y vs σ Q Q' hq h
    exact am_T_mo (g y) (am_M_mo P) (fun _ _ _ _ h => h) hq h
  · intro y vs σ Q h
    refine am_T_mo (g y) ?_ (fun y vs σ Q h => am_M_in g h) (fun _ _ h => h) h
    intro y vs σ Q Q' hq h
    exact am_T_mo (g y) (am_M_mo P) (fun _ _ _ _ h => h) hq h
/-- some steps at once; the heads of loops stop it -/
def am_run (cd : Nat → Bool × PT) (M : OR) (Q : PO) : Nat → KT
  | 0, pc, ls, st, σ, a, b => am_T cd M Q pc ls st σ a b
  | n + 1, pc, ls, st, σ, a, b => if (cd pc).1 = true then am_T cd M Q pc ls st σ a b else (cd pc).2 M Q (am_run cd M Q n) ls st σ a b
theorem am_run_iff {cd : Nat → Bool × PT} {M : OR} {Q : PO} (g : am_gc cd) (hM : am_mo M) : ∀ (n pc : Nat) (ls : ALs) (st : List AV) (σ : HS) (a b : Nat), am_run cd M Q n pc ls st σ a b ↔ am_T cd M Q pc ls st σ a b
  | 0, pc, ls, st, σ, a, b => Iff.rfl
  | n + 1, pc, ls, st, σ, a, b => by
    unfold am_run
    by_cases h : (cd pc).1 = true
    · rw [if_pos h]
    · rw [if_neg h]
      constructor
      · intro h
        exact am_T_in g hM (g pc M M Q Q _ _ ls st σ a b hM (fun _ _ _ _ h => h) (fun _ _ h => h) (fun pc ls st σ a b h => (am_run_iff g hM n pc ls st σ a b).mp h) h)
      · intro h
        exact g pc M M Q Q _ _ ls st σ a b hM (fun _ _ _ _ h => h) (fun _ _ h => h) (fun pc ls st σ a b h => (am_run_iff g hM n pc ls st σ a b).mpr h) (am_T_out g hM h)
/-- from any place: one step, and more -/
theorem am_go {cd : Nat → Bool × PT} {M : OR} {Q : PO} (g : am_gc cd) (hM : am_mo M) (n : Nat) {pc : Nat} {ls : ALs} {st : List AV} {σ : HS} {a b : Nat} : am_T cd M Q pc ls st σ a b ↔ (cd pc).2 M Q (am_run cd M Q n) ls st σ a b := by
  constructor
  · intro h
    exact g pc M M Q Q _ _ ls st σ a b hM (fun _ _ _ _ h => h) (fun _ _ h => h) (fun pc ls st σ a b h => (am_run_iff g hM n pc ls st σ a b).mpr h) (am_T_out g hM h)
  · intro h
    exact am_T_in g hM (g pc M M Q Q _ _ ls st σ a b hM (fun _ _ _ _ h => h) (fun _ _ h => h) (fun pc ls st σ a b h => (am_run_iff g hM n pc ls st σ a b).mp h) h)
theorem am_call {P : Nat → Nat × (Nat → Bool × PT)} (g : am_gp P) (n : Nat) {y : Nat} {vs : List AV} {σ : HS} {Q : PO} : am_M P y vs σ Q ↔ am_run (P y).2 (am_M P) Q n 0 (am_in (P y).1 vs) [] σ 0 0 :=
  ⟨fun h => (am_run_iff (g y) (am_M_mo P) n _ _ _ _ _ _).mpr (am_M_out g h), fun h => am_M_in g ((am_run_iff (g y) (am_M_mo P) n _ _ _ _ _ _).mp h)⟩
