/-! THE LOGICAL MACHINE: the bytecode run over cells by their number of making, as a function -/
abbrev jM : Type := Nat → va_E
abbrev jL : Type := List (Option Value)
/-- cells made so far; nothing but them made so far; cells and slots made in this method -/
abbrev jH : Type := Nat × Bool × Nat × Nat
abbrev jR : Type := (Option Value ⊕ String) × jM × jH
abbrev jX : Type := Nat × (Nat → Int32)
/-- what stands where no cell is -/
def j_nil : va_E := .inr (1000, [])
-- shapes of the stack
def j_i {α : Type} (st : List Value) (K : Int32 → List Value → Option α) : Option α := match st with
  | .int x :: r => K x r
  | _ => none
def j_ii {α : Type} (st : List Value) (K : Int32 → Int32 → List Value → Option α) : Option α := match st with
  | .int y :: .int x :: r => K x y r
  | _ => none
def j_l {α : Type} (st : List Value) (K : Int64 → List Value → Option α) : Option α := match st with
  | .long x :: r => K x r
  | _ => none
def j_ll {α : Type} (st : List Value) (K : Int64 → Int64 → List Value → Option α) : Option α := match st with
  | .long y :: .long x :: r => K x y r
  | _ => none
def j_d {α : Type} (st : List Value) (K : UInt64 → List Value → Option α) : Option α := match st with
  | .double x :: r => K x r
  | _ => none
def j_dd {α : Type} (st : List Value) (K : UInt64 → UInt64 → List Value → Option α) : Option α := match st with
  | .double y :: .double x :: r => K x y r
  | _ => none
def j_r {α : Type} (st : List Value) (K : Nat → List Value → Option α) : Option α := match st with
  | .ref a :: r => K a r
  | _ => none
def j_rr {α : Type} (st : List Value) (K : Nat → Nat → List Value → Option α) : Option α := match st with
  | .ref b :: .ref a :: r => K a b r
  | _ => none
def j_v {α : Type} (st : List Value) (K : Value → List Value → Option α) : Option α := match st with
  | v :: r => K v r
  | _ => none
def j_vv {α : Type} (st : List Value) (K : Value → Value → List Value → Option α) : Option α := match st with
  | w :: v :: r => K v w r
  | _ => none
def j_vr {α : Type} (st : List Value) (K : Value → Nat → List Value → Option α) : Option α := match st with
  | v :: .ref a :: r => K v a r
  | _ => none
def j_ir {α : Type} (st : List Value) (K : Int32 → Nat → List Value → Option α) : Option α := match st with
  | .int i :: .ref a :: r => K i a r
  | _ => none
def j_iir {α : Type} (st : List Value) (K : Int32 → Int32 → Nat → List Value → Option α) : Option α := match st with
  | .int x :: .int i :: .ref a :: r => K x i a r
  | _ => none
def j_lir {α : Type} (st : List Value) (K : Int64 → Int32 → Nat → List Value → Option α) : Option α := match st with
  | .long x :: .int i :: .ref a :: r => K x i a r
  | _ => none
def j_rir {α : Type} (st : List Value) (K : Nat → Int32 → Nat → List Value → Option α) : Option α := match st with
  | .ref v :: .int i :: .ref a :: r => K v i a r
  | _ => none
def j_cp {α : Type} (st : List Value) (K : Int32 → Int32 → Nat → Int32 → Nat → List Value → Option α) : Option α := match st with
  | .int n :: .int dp :: .ref d :: .int sp :: .ref s :: r => K n dp d sp s r
  | _ => none
-- cells
def j_ob {α : Type} (e : va_E) (K : Nat → List Value → Option α) : Option α := match e with
  | .inr (c, fs) => K c fs
  | _ => none
def j_aI {α : Type} (e : va_E) (K : Nat → Nat → (Nat → Int32) → Option α) : Option α := match e with
  | .inl (t, z, .inl f) => K t z f
  | _ => none
def j_aE {α : Type} (e : va_E) (K : Nat → Nat → (Nat → Int32) → Option α) (z : Option α) : Option α := match e with
  | .inl (t, y, .inl f) => K t y f
  | _ => z
def j_aJ {α : Type} (e : va_E) (K : Nat → Nat → (Nat → Int64) → Option α) : Option α := match e with
  | .inl (t, z, .inr (.inl f)) => K t z f
  | _ => none
def j_aQ {α : Type} (e : va_E) (K : Nat → Nat → (Nat → Option Nat) → Option α) : Option α := match e with
  | .inl (t, z, .inr (.inr (.inr (.inr f)))) => K t z f
  | _ => none
-- locals
def j_gI {α : Type} (ls : jL) (k : Nat) (K : Int32 → Option α) : Option α := match ls[k]? with
  | some (some (.int x)) => K x
  | _ => none
def j_gJ {α : Type} (ls : jL) (k : Nat) (K : Int64 → Option α) : Option α := match ls[k]? with
  | some (some (.long x)) => K x
  | _ => none
def j_gD {α : Type} (ls : jL) (k : Nat) (K : UInt64 → Option α) : Option α := match ls[k]? with
  | some (some (.double x)) => K x
  | _ => none
def j_gR {α : Type} (ls : jL) (k : Nat) (K : Nat → Option α) : Option α := match ls[k]? with
  | some (some (.ref x)) => K x
  | _ => none
def j_one (o : Option Value) : Bool := match o with
  | some v => v.category == 1
  | none => true
def j_ok1 (ls : jL) (i : Nat) : Bool := match i with
  | 0 => true
  | j + 1 => match ls[j]? with
    | some o => j_one o
    | none => true
def j_s1 {α : Type} (ls : jL) (i : Nat) (v : Option Value) (K : jL → Option α) : Option α := if i < ls.length ∧ j_ok1 ls i = true then K (ls.set i v) else none
def j_s2 {α : Type} (ls : jL) (i : Nat) (v : Value) (K : jL → Option α) : Option α := if i + 1 < ls.length ∧ j_ok1 ls i = true then K ((ls.set i (some v)).set (i + 1) none) else none
abbrev j_in (i : Int32) (z : Nat) : Prop := ¬ i < 0 ∧ i.toNatClampNeg < z
def j_c {α : Type} (c : Prop) [Decidable c] (x : Option α) : Option α := if c then x else none
-- lookups
def j_fl (ci idx : Nat) : Option (Nat × Nat) := (j_flT.find? (fun t => t.1 == ci && t.2.1 == idx)).map (fun t => t.2.2)
def j_cl (ci idx : Nat) : Option (Nat × Nat) := (j_clT.find? (fun t => t.1 == ci && t.2.1 == idx)).map (fun t => t.2.2)
def j_kl (ci idx : Nat) : Option String := (j_klT.find? (fun t => t.1 == ci && t.2.1 == idx)).map (fun t => t.2.2)
def j_ol (ci idx : Nat) : Option Nat := (j_olT.find? (fun t => t.1 == ci && t.2.1 == idx)).map (fun t => t.2.2)
def j_ki (ci idx : Nat) : Option Int32 := (j_kiT.find? (fun t => t.1 == ci && t.2.1 == idx)).map (fun t => t.2.2)
def j_kj (ci idx : Nat) : Option Int64 := (j_kjT.find? (fun t => t.1 == ci && t.2.1 == idx)).map (fun t => t.2.2)
def j_tl (ci idx : Nat) : Option (String × Nat) := (j_tlT.find? (fun t => t.1 == ci && t.2.1 == idx)).map (fun t => t.2.2)
def j_sr (ci idx : Nat) : Option String := (j_srT.find? (fun t => t.1 == ci && t.2.1 == idx)).map (fun t => t.2.2)
/-- may this value be put into this field, here -/
abbrev j_pok (own ctor : Bool) (fci k : Nat) (v : Value) : Prop := (j_T fci k).2.2.2 = (own && ctor && (j_T fci k).2.2.2) ∧ narrow (j_ty fci k) v = v ∧ fits (j_ty fci k) v = true
abbrev jS : Type := Nat × jL × List Value × jM
def j_go (c : Prop) [Decidable c] (pc : Nat) (off : Int) (ls : jL) (r : List Value) (M : jM) : Option jS :=
  j_c (0 ≤ (pc : Int) + off) (if c then some (((pc : Int) + off).toNat, ls, r, M) else some (pc + 3, ls, r, M))
/-- one instruction that calls nothing and makes nothing -/
def j_stp (X : jX) (ci : Nat) (ctor : Bool) (I : Instr) (len pc : Nat) (ls : jL) (st : List Value) (M : jM) : Option jS :=
  match I with
  | .iconst i => j_c (len = 1) (some (pc + 1, ls, .int (Int32.ofInt i) :: st, M))
  | .bipush i => j_c (len = 2) (some (pc + 2, ls, .int (Int8.ofInt i).toInt32 :: st, M))
  | .sipush i => j_c (len = 3) (some (pc + 3, ls, .int (Int16.ofInt i).toInt32 :: st, M))
  | .ldc_w idx => j_c (len = 3) ((j_ki ci idx).bind fun x => some (pc + 3, ls, .int x :: st, M))
  | .ldc idx => j_c (len = 2) ((j_ki ci idx).bind fun x => some (pc + 2, ls, .int x :: st, M))
  | .ldc2_w idx => j_c (len = 3) ((j_kj ci idx).bind fun x => some (pc + 3, ls, .long x :: st, M))
  | .iload k => j_c (len = 2) (j_gI ls k fun x => some (pc + 2, ls, .int x :: st, M))
  | .iload_n k => j_c (len = 1) (j_gI ls k.val fun x => some (pc + 1, ls, .int x :: st, M))
  | .aload k => j_c (len = 2) (j_gR ls k fun x => some (pc + 2, ls, .ref x :: st, M))
  | .aload_n k => j_c (len = 1) (j_gR ls k.val fun x => some (pc + 1, ls, .ref x :: st, M))
  | .lload_n k => j_c (len = 1) (j_gJ ls k.val fun x => some (pc + 1, ls, .long x :: st, M))
  | .dload k => j_c (len = 2) (j_gD ls k fun x => some (pc + 2, ls, .double x :: st, M))
  | .istore k => j_c (len = 2) (j_i st fun x r => j_s1 ls k (some (.int x)) fun ls => some (pc + 2, ls, r, M))
  | .istore_n k => j_c (len = 1) (j_i st fun x r => j_s1 ls k.val (some (.int x)) fun ls => some (pc + 1, ls, r, M))
  | .astore k => j_c (len = 2) (j_r st fun x r => j_s1 ls k (some (.ref x)) fun ls => some (pc + 2, ls, r, M))
  | .astore_n k => j_c (len = 1) (j_r st fun x r => j_s1 ls k.val (some (.ref x)) fun ls => some (pc + 1, ls, r, M))
  | .lstore_n k => j_c (len = 1) (j_l st fun x r => j_s2 ls k.val (.long x) fun ls => some (pc + 1, ls, r, M))
  | .dstore k => j_c (len = 2) (j_d st fun x r => j_s2 ls k (.double x) fun ls => some (pc + 2, ls, r, M))
  | .iinc k i => j_c (len = 3) (j_gI ls k fun x => j_s1 ls k (some (.int (x + Int32.ofInt i))) fun ls => some (pc + 3, ls, st, M))
  | .dup => j_c (len = 1) (j_v st fun v r => j_c (v.category = 1) (some (pc + 1, ls, v :: v :: r, M)))
  | .dup2 => j_c (len = 1) (j_vv st fun v w r => j_c (v.category = 1 ∧ w.category = 1) (some (pc + 1, ls, w :: v :: w :: v :: r, M)))
  | .pop => j_c (len = 1) (j_v st fun v r => j_c (v.category = 1) (some (pc + 1, ls, r, M)))
  | .iadd => j_c (len = 1) (j_ii st fun x y r => some (pc + 1, ls, .int (x + y) :: r, M))
  | .isub => j_c (len = 1) (j_ii st fun x y r => some (pc + 1, ls, .int (x - y) :: r, M))
  | .imul => j_c (len = 1) (j_ii st fun x y r => some (pc + 1, ls, .int (x * y) :: r, M))
  | .idiv => j_c (len = 1) (j_ii st fun x y r => j_c (¬ y = 0) (some (pc + 1, ls, .int (x / y) :: r, M)))
  | .irem => j_c (len = 1) (j_ii st fun x y r => j_c (¬ y = 0) (some (pc + 1, ls, .int (x - x / y * y) :: r, M)))
  | .ishl => j_c (len = 1) (j_ii st fun x y r => some (pc + 1, ls, .int (x <<< (y &&& 31)) :: r, M))
  | .ishr => j_c (len = 1) (j_ii st fun x y r => some (pc + 1, ls, .int (x >>> (y &&& 31)) :: r, M))
  | .iushr => j_c (len = 1) (j_ii st fun x y r => some (pc + 1, ls, .int (x.toUInt32 >>> (y.toUInt32 &&& Int32.toUInt32 31)).toInt32 :: r, M))
  | .iand => j_c (len = 1) (j_ii st fun x y r => some (pc + 1, ls, .int (x &&& y) :: r, M))
  | .ior => j_c (len = 1) (j_ii st fun x y r => some (pc + 1, ls, .int (x ||| y) :: r, M))
  | .i2l => j_c (len = 1) (j_i st fun x r => some (pc + 1, ls, .long x.toInt64 :: r, M))
  | .i2b => j_c (len = 1) (j_i st fun x r => some (pc + 1, ls, .int x.toInt8.toInt32 :: r, M))
  | .i2d => j_c (len = 1) (j_i st fun x r => some (pc + 1, ls, .double (FP.i2d x) :: r, M))
  | .ladd => j_c (len = 1) (j_ll st fun x y r => some (pc + 1, ls, .long (x + y) :: r, M))
  | .lmul => j_c (len = 1) (j_ll st fun x y r => some (pc + 1, ls, .long (x * y) :: r, M))
  | .lcmp => j_c (len = 1) (j_ll st fun x y r => some (pc + 1, ls, .int (lg_cmp x y) :: r, M))
  | .ddiv => j_c (len = 1) (j_dd st fun x y r => j_c (FP.ddiv x y &&& 0x7fffffffffffffff ≤ 0x7ff0000000000000) (some (pc + 1, ls, .double (FP.ddiv x y) :: r, M)))
  | .dcmp op => j_c (len = 1) (j_dd st fun x y r => some (pc + 1, ls, .int (Op.cmpValue (FP.dcmp x y) op) :: r, M))
  | .goto off => j_c (len = 3) (j_go True pc off ls st M)
  | .ifCond .eq off => j_c (len = 3) (j_i st fun x r => j_go (x = 0) pc off ls r M)
  | .ifCond .ne off => j_c (len = 3) (j_i st fun x r => j_go (¬ x = 0) pc off ls r M)
  | .ifCond .lt off => j_c (len = 3) (j_i st fun x r => j_go (x < 0) pc off ls r M)
  | .ifCond .le off => j_c (len = 3) (j_i st fun x r => j_go (x ≤ 0) pc off ls r M)
  | .ifCond .gt off => j_c (len = 3) (j_i st fun x r => j_go (0 < x) pc off ls r M)
  | .if_icmp .eq off => j_c (len = 3) (j_ii st fun x y r => j_go (x = y) pc off ls r M)
  | .if_icmp .ne off => j_c (len = 3) (j_ii st fun x y r => j_go (¬ x = y) pc off ls r M)
  | .if_icmp .lt off => j_c (len = 3) (j_ii st fun x y r => j_go (x < y) pc off ls r M)
  | .if_icmp .ge off => j_c (len = 3) (j_ii st fun x y r => j_go (y ≤ x) pc off ls r M)
  | .if_icmp .gt off => j_c (len = 3) (j_ii st fun x y r => j_go (y < x) pc off ls r M)
  | .if_icmp .le off => j_c (len = 3) (j_ii st fun x y r => j_go (x ≤ y) pc off ls r M)
  | .if_acmp .ne off => j_c (len = 3) (j_rr st fun a b r => j_c (¬ a = 1000000 ∧ ¬ b = 1000000) (j_go (¬ a = b) pc off ls r M))
  | .tableswitch dflt lo hi offs => j_i st fun x r =>
      if x.toInt < lo ∨ hi < x.toInt then j_c (0 ≤ (pc : Int) + dflt) (some (((pc : Int) + dflt).toNat, ls, r, M))
      else (offs[(x.toInt - lo).toNat]?).bind fun off => j_c (0 ≤ (pc : Int) + off) (some (((pc : Int) + off).toNat, ls, r, M))
  | .getfield idx => j_c (len = 3) ((j_fl ci idx).bind fun f => j_r st fun a r => j_ob (M a) fun c fs => j_c (c = f.1) ((fs[f.2]?).bind fun v => some (pc + 3, ls, v :: r, M)))
  | .putfield idx => j_c (len = 3) ((j_fl ci idx).bind fun f => j_vr st fun v a r => j_ob (M a) fun c fs => j_c (c = f.1 ∧ f.2 < fs.length) (j_c (j_pok (f.1 == ci) ctor f.1 f.2 v) (some (pc + 3, ls, r, va_up M a (.inr (c, fs.set f.2 v))))))
  | .arraylength => j_c (len = 1) (j_r st fun a r => j_c (a = 1000000) (some (pc + 1, ls, .int (Int32.ofNat X.1) :: r, M)))
  | .iaload => j_c (len = 1) (j_ir st fun i a r => j_aE (M a) (fun t z f => j_c (t = 0 ∧ j_in i z) (some (pc + 1, ls, .int (f i.toNatClampNeg) :: r, M))) (j_c (a = 1000000 ∧ j_in i X.1) (some (pc + 1, ls, .int (X.2 i.toNatClampNeg) :: r, M))))
  | .baload => j_c (len = 1) (j_ir st fun i a r => j_aI (M a) fun t z f => j_c (t = 1 ∧ j_in i z) (some (pc + 1, ls, .int (f i.toNatClampNeg) :: r, M)))
  | .aaload => j_c (len = 1) (j_ir st fun i a r => j_aQ (M a) fun t z f => j_c (t = 2 ∧ j_in i z) ((f i.toNatClampNeg).bind fun q => some (pc + 1, ls, .ref q :: r, M)))
  | .iastore => j_c (len = 1) (j_iir st fun x i a r => j_aI (M a) fun t z f => j_c (t = 0 ∧ j_in i z) (some (pc + 1, ls, r, va_up M a (.inl (t, z, .inl (upd f i.toNatClampNeg x))))))
  | .bastore => j_c (len = 1) (j_iir st fun x i a r => j_aI (M a) fun t z f => j_c (t = 1 ∧ j_in i z) (some (pc + 1, ls, r, va_up M a (.inl (t, z, .inl (upd f i.toNatClampNeg (vp_nar .byte x)))))))
  | .aastore => j_c (len = 1) (j_rir st fun v i a r => j_aQ (M a) fun t z f => j_ob (M v) fun c _ => j_c (t = 2 ∧ c = 2 ∧ j_in i z) (some (pc + 1, ls, r, va_up M a (.inl (t, z, .inr (.inr (.inr (.inr (va_up f i.toNatClampNeg (some v))))))))))
  | _ => none
abbrev jQ : Type := Nat → Nat → Nat → jL → List Value → jM → jH → Option jR
def j_pad (n : Nat) (l : jL) : jL := l ++ List.replicate (n - l.length) none
def j_sl : List Value → jL
  | [] => []
  | v :: vs => if v.category = 2 then some v :: none :: j_sl vs else some v :: j_sl vs
/-- the locals at a method's entry -/
def j_ent (n : Nat) (as : List Value) : jL := j_pad n (j_sl as)
def j_cs (st : List Value) : Nat := (st.map fun v => v.category).sum
def j_exs : List String := ["java/lang/IllegalArgumentException", "java/lang/IllegalStateException", "java/lang/IndexOutOfBoundsException"]
def j_find (ci : Nat) (E : String) (pc : Nat) : List (Nat × Nat × Nat × Nat) → Option Nat
  | [] => none
  | x :: r => if x.1 ≤ pc ∧ pc < x.2.1 then (j_kl ci x.2.2.2).bind fun nm => if nm = E ∧ E ∈ j_exs then some x.2.2.1 else if E ∈ j_exs ∧ nm ∈ j_exs ∧ ¬ nm = E then j_find ci E pc r else none else j_find ci E pc r
def j_add (h h' : jH) : jH := (h'.1, h'.2.1, h.2.2.1 + h'.2.2.1, h.2.2.2 + h'.2.2.2)
/-- caught: the handler begins by putting the exception away; the local is lost -/
def j_cat (rec : jQ) (me : jMe) (d i pc : Nat) (ls : jL) (E : String) (M : jM) (h : jH) : Option jR :=
  (j_find me.1 E pc me.2.2.2.2.2.2).bind fun hp => match decode me.2.2.1 hp with
    | .ok (.astore k, len) => j_c (len = 2) (j_s1 ls k none fun ls => rec d i (hp + 2) ls [] M h)
    | .ok (.astore_n k, len) => j_c (len = 1) (j_s1 ls k.val none fun ls => rec d i (hp + 1) ls [] M h)
    | _ => none
/-- a call of one of the system's own methods -/
def j_own (rec : jQ) (me : jMe) (d i pc : Nat) (ls : jL) (st : List Value) (M : jM) (h : jH) (kd t : Nat) : Option jR :=
  (j_mt[t]?).bind fun mf => j_c (mf.2.2.2.2.2.1 ≤ st.length ∧ j_cs (st.drop mf.2.2.2.2.2.1) ≤ 8 ∧ (j_sl (st.take mf.2.2.2.2.2.1).reverse).length ≤ mf.2.2.2.1) (match d with
    | 0 => none
    | d' + 1 => (rec d' t 0 (j_ent mf.2.2.2.1 (st.take mf.2.2.2.2.2.1).reverse) [] M (h.1, h.2.1, 0, 0)).bind fun r => match r.1 with
      | .inl v => rec d i (pc + 3) ls (v.toList ++ st.drop mf.2.2.2.2.2.1) r.2.1 (j_add h r.2.2)
      | .inr E => match me.2.2.2.2.2.2 with
        | [] => some (.inr E, r.2.1, j_add h r.2.2)
        | _ => j_cat rec me d i pc ls E r.2.1 (j_add h r.2.2))
/-- the receiver is an object of the method's class -/
def j_rcv {α : Type} (st : List Value) (M : jM) (na ci : Nat) (x : Option α) : Option α := match (st.take na).reverse with
  | .ref a :: _ => j_ob (M a) fun c _ => j_c (c = ci) x
  | _ => none
def j_inv (rec : jQ) (me : jMe) (d i pc : Nat) (ls : jL) (st : List Value) (M : jM) (h : jH) (kd t : Nat) : Option jR :=
  match kd with
  | 0 => (j_mt[t]?).bind fun mf => j_rcv st M mf.2.2.2.2.2.1 mf.1 (j_own rec me d i pc ls st M h kd t)
  | 3 => (j_mt[t]?).bind fun mf => j_rcv st M mf.2.2.2.2.2.1 mf.1 (j_own rec me d i pc ls st M h kd t)
  | 4 => (j_mt[t]?).bind fun mf => j_rcv st M mf.2.2.2.2.2.1 mf.1 (j_own rec me d i pc ls st M h kd t)
  | 6 => j_r st fun _ r => j_c (j_cs r ≤ 8 ∧ 1 ≤ d) (rec d i (pc + 3) ls r M h)
  | 7 => j_cp st fun n dp e sp s r => j_aI (M s) fun t0 z0 f => j_aI (M e) fun t1 z1 g => j_c (t0 = 0 ∧ t1 = 0 ∧ ¬ sp < 0 ∧ ¬ dp < 0 ∧ ¬ n < 0 ∧ sp.toNatClampNeg + n.toNatClampNeg ≤ z0 ∧ dp.toNatClampNeg + n.toNatClampNeg ≤ z1 ∧ r = [] ∧ 1 ≤ d) (rec d i (pc + 3) ls r (va_up M e (.inl (t1, z1, .inl (va_cpy f g sp.toNatClampNeg dp.toNatClampNeg n.toNatClampNeg)))) h)
  | 8 => j_ii st fun x y r => j_c (j_cs r ≤ 8 ∧ 1 ≤ d) (rec d i (pc + 3) ls (.int (if x < y then y else x) :: r) M h)
  | 9 => j_ii st fun x y r => j_c (j_cs r ≤ 8 ∧ 1 ≤ d) (rec d i (pc + 3) ls (.int (if y < x then y else x) :: r) M h)
  | _ => j_own rec me d i pc ls st M h kd t
/-- a new object's fields -/
def j_df : Nat → List Value := fun k => match k with
  | 0 => [.int 0, .int 0, .int 0, .null, .null, .null, .null, .null]
  | 1 => [.int 0, .int 0, .int 0, .int 0, .int 0, .null, .null]
  | 2 => [.null, .null, .null, .int 0]
  | 3 => [.int 0, .null, .int 0, .int 0, .int 0, .int 0, .int 0]
  | 4 => [.null, .null, .int 0, .null, .null]
  | _ => []
/-- 'new': an object, or an exception that is thrown at once -/
def j_new (rec : jQ) (me : jMe) (d i idx pc : Nat) (ls : jL) (st : List Value) (M : jM) (h : jH) : Option jR :=
  match j_tl me.1 idx with
  | some (E, ic) => j_c (st = [] ∧ 6 ≤ d ∧ me.2.2.2.2.2.2 = [] ∧ decode me.2.2.1 (pc + 3) = .ok (.dup, 1)) (match decode me.2.2.1 (pc + 4) with
    | .ok (.ldc is, 2) => j_c ((j_sr me.1 is).isSome = true ∧ decode me.2.2.1 (pc + 6) = .ok (.invokespecial ic, 3) ∧ decode me.2.2.1 (pc + 9) = .ok (.athrow, 1)) (some (.inr E, M, (h.1, false, h.2.2.1 + 1, h.2.2.2 + 6)))
    | .ok (.ldc_w is, 3) => j_c ((j_sr me.1 is).isSome = true ∧ decode me.2.2.1 (pc + 7) = .ok (.invokespecial ic, 3) ∧ decode me.2.2.1 (pc + 10) = .ok (.athrow, 1)) (some (.inr E, M, (h.1, false, h.2.2.1 + 1, h.2.2.2 + 6)))
    | _ => none)
  | none => (j_ol me.1 idx).bind fun k => j_c (h.2.1 = true ∧ h.1 < 1000) (rec d i (pc + 3) ls (.ref h.1 :: st) (va_up M h.1 (.inr (k, j_df k))) (h.1 + 1, true, h.2.2.1 + 1, h.2.2.2 + j_nf k))
def j_nar (rec : jQ) (t : ArrayType) (d i pc : Nat) (ls : jL) (st : List Value) (M : jM) (h : jH) : Option jR :=
  j_i st fun x r => j_c (h.2.1 = true ∧ h.1 < 1000 ∧ ¬ x < 0 ∧ x.toNatClampNeg ≤ 1000) (match t with
    | .int => rec d i (pc + 2) ls (.ref h.1 :: r) (va_up M h.1 (.inl (0, x.toNatClampNeg, .inl (fun _ => 0)))) (h.1 + 1, true, h.2.2.1 + 1, h.2.2.2 + x.toNatClampNeg)
    | .byte => rec d i (pc + 2) ls (.ref h.1 :: r) (va_up M h.1 (.inl (1, x.toNatClampNeg, .inl (fun _ => 0)))) (h.1 + 1, true, h.2.2.1 + 1, h.2.2.2 + x.toNatClampNeg)
    | _ => none)
def j_anar (rec : jQ) (me : jMe) (d i idx pc : Nat) (ls : jL) (st : List Value) (M : jM) (h : jH) : Option jR :=
  j_i st fun x r => j_c (h.2.1 = true ∧ h.1 < 1000 ∧ ¬ x < 0 ∧ x.toNatClampNeg ≤ 1000 ∧ j_ol me.1 idx = some 2)
    (rec d i (pc + 3) ls (.ref h.1 :: r) (va_up M h.1 (.inl (2, x.toNatClampNeg, .inr (.inr (.inr (.inr (fun _ => none))))))) (h.1 + 1, true, h.2.2.1 + 1, h.2.2.2 + x.toNatClampNeg))
def j_one1 (X : jX) (rec : jQ) (me : jMe) (d i : Nat) (I : Instr) (len pc : Nat) (ls : jL) (st : List Value) (M : jM) (h : jH) : Option jR :=
  match I with
  | .ireturn => j_c (len = 1) (j_i st fun x r => j_c (r = [] ∧ ((me.2.2.2.2.1 = some .int) ∨ (me.2.2.2.2.1 = some .boolean ∧ x &&& 1 = x))) (some (.inl (some (.int x)), M, h)))
  | .lreturn => j_c (len = 1) (j_l st fun x r => j_c (r = [] ∧ me.2.2.2.2.1 = some .long) (some (.inl (some (.long x)), M, h)))
  | .dreturn => j_c (len = 1) (j_d st fun x r => j_c (r = [] ∧ me.2.2.2.2.1 = some .double) (some (.inl (some (.double x)), M, h)))
  | .areturn => j_c (len = 1) (j_r st fun x r => j_c (r = [] ∧ me.2.2.2.2.1 = some (.object "ShipJournal$Ship")) (some (.inl (some (.ref x)), M, h)))
  | .return_ => j_c (len = 1 ∧ st = [] ∧ me.2.2.2.2.1 = none) (some (.inl none, M, h))
  | .invokevirtual idx => j_c (len = 3) ((j_cl me.1 idx).bind fun t => j_c (t.1 = 0) (j_inv rec me d i pc ls st M h t.1 t.2))
  | .invokestatic idx => j_c (len = 3) ((j_cl me.1 idx).bind fun t => j_c (t.1 = 1 ∨ t.1 = 2 ∨ t.1 = 5 ∨ t.1 = 7 ∨ t.1 = 8 ∨ t.1 = 9) (j_inv rec me d i pc ls st M h t.1 t.2))
  | .invokespecial idx => j_c (len = 3) ((j_cl me.1 idx).bind fun t => j_c (t.1 = 3 ∨ t.1 = 4 ∨ t.1 = 6) (j_inv rec me d i pc ls st M h t.1 t.2))
  | .new idx => j_c (len = 3) (j_new rec me d i idx pc ls st M h)
  | .newarray t => j_c (len = 2) (j_nar rec t d i pc ls st M h)
  | .anewarray idx => j_c (len = 3) (j_anar rec me d i idx pc ls st M h)
  | _ => (j_stp X me.1 (me.2.1.name == "<init>") I len pc ls st M).bind fun s => rec d i s.1 s.2.1 s.2.2.1 s.2.2.2 h
def j_run (X : jX) : Nat → jQ
  | 0 => fun _ _ _ _ _ _ _ => none
  | N + 1 => fun d i pc ls st M h => (j_mt[i]?).bind fun me => match decode me.2.2.1 pc with
    | .ok (I, len) => j_one1 X (j_run X N) me d i I len pc ls st M h
    | .error _ => none
