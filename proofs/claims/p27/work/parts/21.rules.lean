/-! rules, one a kind of instruction, with the locals and the stack written out by who uses them -/
-- the forms in which a rule leaves what it reads
def j_g {α : Type} (e : va_E) (c k : Nat) (K : Value → Option α) : Option α := j_ob e fun c' fs => j_c (c' = c) ((fs[k]?).bind K)
def j_p {α : Type} (e : va_E) (c k : Nat) (v : Value) (K : va_E → Option α) : Option α := j_ob e fun c' fs => j_c (c' = c ∧ k < fs.length) (K (.inr (c', fs.set k v)))
def j_ld {α : Type} (X : jX) (e : va_E) (a : Nat) (i : Int32) (K : Int32 → Option α) : Option α := j_aE e (fun t z f => j_c (t = 0 ∧ j_in i z) (K (f i.toNatClampNeg))) (j_c (a = 1000000 ∧ j_in i X.1) (K (X.2 i.toNatClampNeg)))
def j_ldB {α : Type} (e : va_E) (i : Int32) (K : Int32 → Option α) : Option α := j_aI e fun t z f => j_c (t = 1 ∧ j_in i z) (K (f i.toNatClampNeg))
def j_ldJ {α : Type} (e : va_E) (i : Int32) (K : Int64 → Option α) : Option α := j_aJ e fun t z f => j_c (t = 3 ∧ j_in i z) (K (f i.toNatClampNeg))
def j_ldQ {α : Type} (e : va_E) (i : Int32) (K : Nat → Option α) : Option α := j_aQ e fun t z f => j_c (t = 2 ∧ j_in i z) ((f i.toNatClampNeg).bind K)
def j_st {α : Type} (e : va_E) (i x : Int32) (K : va_E → Option α) : Option α := j_aI e fun t z f => j_c (t = 0 ∧ j_in i z) (K (.inl (t, z, .inl (upd f i.toNatClampNeg x))))
def j_stB {α : Type} (e : va_E) (i x : Int32) (K : va_E → Option α) : Option α := j_aI e fun t z f => j_c (t = 1 ∧ j_in i z) (K (.inl (t, z, .inl (upd f i.toNatClampNeg (vp_nar .byte x)))))
def j_stJ {α : Type} (e : va_E) (i : Int32) (x : Int64) (K : va_E → Option α) : Option α := j_aJ e fun t z f => j_c (t = 3 ∧ j_in i z) (K (.inl (t, z, .inr (.inl (vp_updL f i.toNatClampNeg x)))))
def j_stQ {α : Type} (e ev : va_E) (i : Int32) (v : Nat) (K : va_E → Option α) : Option α := j_aQ e fun t z f => j_ob ev fun c _ => j_c (t = 2 ∧ c = 2 ∧ j_in i z) (K (.inl (t, z, .inr (.inr (.inr (.inr (va_up f i.toNatClampNeg (some v))))))))
def j_bd (R : Option jR) (h : jH) (K : Option Value → jM → jH → Option jR) (Kx : String → jM → jH → Option jR) : Option jR := R.bind fun r => match r.1 with
  | .inl v => K v r.2.1 (j_add h r.2.2)
  | .inr E => Kx E r.2.1 (j_add h r.2.2)
abbrev j_up (E : String) (M : jM) (h : jH) : Option jR := some (.inr E, M, h)
def j_rc {α : Type} (e : va_E) (ci : Nat) (x : Option α) : Option α := j_ob e fun c _ => j_c (c = ci) x
def j_h0 (h : jH) : jH := (h.1, h.2.1, 0, 0)
def j_thr (h : jH) : jH := (h.1, false, h.2.2.1 + 1, h.2.2.2 + 6)
theorem j_add0 (h : jH) : j_add h (j_h0 h) = h := rfl
theorem j_addt (h : jH) : j_add h (j_thr (j_h0 h)) = j_thr h := by
  simp [j_add, j_thr, j_h0]
theorem j_ct {α : Type} {c : Prop} [Decidable c] (h : c) (x : Option α) : j_c c x = x := if_pos h
theorem j_one_i (x : Int32) : j_one (some (.int x)) = true := rfl
theorem j_one_r (x : Nat) : j_one (some (.ref x)) = true := rfl
theorem j_one_n : j_one none = true := rfl
section
variable {X : jX} {d i pc pc' : Nat} {LS LS' : jL} {ST : List Value} {M : jM} {h : jH} {me : jMe}
theorem r_stp {I : Instr} {len : Nat} {ST' : List Value} {M' : jM} (hme : j_mt[i]? = some me) (hd : decode me.2.2.1 pc = .ok (I, len)) (h1 : ∀ g, j_one1 X g me d i I len pc LS ST M h = (j_stp X me.1 (me.2.1.name == "<init>") I len pc LS ST M).bind fun s => g d i s.1 s.2.1 s.2.2.1 s.2.2.2 h) (h2 : j_stp X me.1 (me.2.1.name == "<init>") I len pc LS ST M = some (pc', LS', ST', M')) : Rn X d i pc LS ST M h = Rn X d i pc' LS' ST' M' h := by
  rw [Rn_eq hme hd, h1, h2]
  rfl
theorem r_iconst {n : Int} {v : Int32} (hme : j_mt[i]? = some me) (hd : decode me.2.2.1 pc = .ok (.iconst n, 1)) (hv : Int32.ofInt n = v) : Rn X d i pc LS ST M h = Rn X d i (pc + 1) LS (.int v :: ST) M h := by
  subst hv
  exact r_stp hme hd (fun _ => rfl) rfl
theorem r_bipush {n : Int} {v : Int32} (hme : j_mt[i]? = some me) (hd : decode me.2.2.1 pc = .ok (.bipush n, 2)) (hv : (Int8.ofInt n).toInt32 = v) : Rn X d i pc LS ST M h = Rn X d i (pc + 2) LS (.int v :: ST) M h := by
  subst hv
  exact r_stp hme hd (fun _ => rfl) rfl
theorem r_sipush {n : Int} {v : Int32} (hme : j_mt[i]? = some me) (hd : decode me.2.2.1 pc = .ok (.sipush n, 3)) (hv : (Int16.ofInt n).toInt32 = v) : Rn X d i pc LS ST M h = Rn X d i (pc + 3) LS (.int v :: ST) M h := by
  subst hv
  exact r_stp hme hd (fun _ => rfl) rfl
theorem r_ldc_w {idx : Nat} {v : Int32} (hme : j_mt[i]? = some me) (hd : decode me.2.2.1 pc = .ok (.ldc_w idx, 3)) (hv : j_ki me.1 idx = some v) : Rn X d i pc LS ST M h = Rn X d i (pc + 3) LS (.int v :: ST) M h :=
  r_stp hme hd (fun _ => rfl) (by show j_c (3 = 3) ((j_ki me.1 idx).bind _) = _; rw [hv]; rfl)
theorem r_ldc {idx : Nat} {v : Int32} (hme : j_mt[i]? = some me) (hd : decode me.2.2.1 pc = .ok (.ldc idx, 2)) (hv : j_ki me.1 idx = some v) : Rn X d i pc LS ST M h = Rn X d i (pc + 2) LS (.int v :: ST) M h :=
  r_stp hme hd (fun _ => rfl) (by show j_c (2 = 2) ((j_ki me.1 idx).bind _) = _; rw [hv]; rfl)
theorem r_ldc2_w {idx : Nat} {v : Int64} (hme : j_mt[i]? = some me) (hd : decode me.2.2.1 pc = .ok (.ldc2_w idx, 3)) (hv : j_kj me.1 idx = some v) : Rn X d i pc LS ST M h = Rn X d i (pc + 3) LS (.long v :: ST) M h :=
  r_stp hme hd (fun _ => rfl) (by show j_c (3 = 3) ((j_kj me.1 idx).bind _) = _; rw [hv]; rfl)
theorem r_iload {k : Nat} {x : Int32} (hme : j_mt[i]? = some me) (hd : decode me.2.2.1 pc = .ok (.iload k, 2)) (hk : LS[k]? = some (some (.int x))) : Rn X d i pc LS ST M h = Rn X d i (pc + 2) LS (.int x :: ST) M h :=
  r_stp hme hd (fun _ => rfl) (by show j_c (2 = 2) (j_gI LS k _) = _; unfold j_gI; rw [hk]; rfl)
theorem r_iload_n {k : Fin 4} {x : Int32} (hme : j_mt[i]? = some me) (hd : decode me.2.2.1 pc = .ok (.iload_n k, 1)) (hk : LS[k.val]? = some (some (.int x))) : Rn X d i pc LS ST M h = Rn X d i (pc + 1) LS (.int x :: ST) M h :=
  r_stp hme hd (fun _ => rfl) (by show j_c (1 = 1) (j_gI LS k.val _) = _; unfold j_gI; rw [hk]; rfl)
theorem r_aload {k : Nat} {x : Nat} (hme : j_mt[i]? = some me) (hd : decode me.2.2.1 pc = .ok (.aload k, 2)) (hk : LS[k]? = some (some (.ref x))) : Rn X d i pc LS ST M h = Rn X d i (pc + 2) LS (.ref x :: ST) M h :=
  r_stp hme hd (fun _ => rfl) (by show j_c (2 = 2) (j_gR LS k _) = _; unfold j_gR; rw [hk]; rfl)
theorem r_aload_n {k : Fin 4} {x : Nat} (hme : j_mt[i]? = some me) (hd : decode me.2.2.1 pc = .ok (.aload_n k, 1)) (hk : LS[k.val]? = some (some (.ref x))) : Rn X d i pc LS ST M h = Rn X d i (pc + 1) LS (.ref x :: ST) M h :=
  r_stp hme hd (fun _ => rfl) (by show j_c (1 = 1) (j_gR LS k.val _) = _; unfold j_gR; rw [hk]; rfl)
theorem r_lload_n {k : Fin 4} {x : Int64} (hme : j_mt[i]? = some me) (hd : decode me.2.2.1 pc = .ok (.lload_n k, 1)) (hk : LS[k.val]? = some (some (.long x))) : Rn X d i pc LS ST M h = Rn X d i (pc + 1) LS (.long x :: ST) M h :=
  r_stp hme hd (fun _ => rfl) (by show j_c (1 = 1) (j_gJ LS k.val _) = _; unfold j_gJ; rw [hk]; rfl)
theorem r_dload {k : Nat} {x : UInt64} (hme : j_mt[i]? = some me) (hd : decode me.2.2.1 pc = .ok (.dload k, 2)) (hk : LS[k]? = some (some (.double x))) : Rn X d i pc LS ST M h = Rn X d i (pc + 2) LS (.double x :: ST) M h :=
  r_stp hme hd (fun _ => rfl) (by show j_c (2 = 2) (j_gD LS k _) = _; unfold j_gD; rw [hk]; rfl)
theorem j_s1t {α : Type} {ls : jL} {k : Nat} {v : Option Value} {K : jL → Option α} (h : k < ls.length) (h2 : j_ok1 ls k = true) : j_s1 ls k v K = K (ls.set k v) := if_pos ⟨h, h2⟩
theorem j_s2t {α : Type} {ls : jL} {k : Nat} {v : Value} {K : jL → Option α} (h : k + 1 < ls.length) (h2 : j_ok1 ls k = true) : j_s2 ls k v K = K ((ls.set k (some v)).set (k + 1) none) := if_pos ⟨h, h2⟩
theorem r_istore {k : Nat} {x : Int32} (hme : j_mt[i]? = some me) (hd : decode me.2.2.1 pc = .ok (.istore k, 2)) (hk : k < LS.length) (ho : j_ok1 LS k = true) (hl : LS.set k (some (.int x)) = LS') : Rn X d i pc LS (.int x :: ST) M h = Rn X d i (pc + 2) LS' ST M h := by
  subst hl
  exact r_stp hme hd (fun _ => rfl) (by show j_c (2 = 2) (j_s1 LS k (some (.int x)) fun ls => some (pc + 2, ls, ST, M)) = _; rw [j_ct rfl, j_s1t hk ho])
theorem r_istore_n {k : Fin 4} {x : Int32} (hme : j_mt[i]? = some me) (hd : decode me.2.2.1 pc = .ok (.istore_n k, 1)) (hk : k.val < LS.length) (ho : j_ok1 LS k.val = true) (hl : LS.set k.val (some (.int x)) = LS') : Rn X d i pc LS (.int x :: ST) M h = Rn X d i (pc + 1) LS' ST M h := by
  subst hl
  exact r_stp hme hd (fun _ => rfl) (by show j_c (1 = 1) (j_s1 LS k.val (some (.int x)) fun ls => some (pc + 1, ls, ST, M)) = _; rw [j_ct rfl, j_s1t hk ho])
theorem r_astore {k : Nat} {x : Nat} (hme : j_mt[i]? = some me) (hd : decode me.2.2.1 pc = .ok (.astore k, 2)) (hk : k < LS.length) (ho : j_ok1 LS k = true) (hl : LS.set k (some (.ref x)) = LS') : Rn X d i pc LS (.ref x :: ST) M h = Rn X d i (pc + 2) LS' ST M h := by
  subst hl
  exact r_stp hme hd (fun _ => rfl) (by show j_c (2 = 2) (j_s1 LS k (some (.ref x)) fun ls => some (pc + 2, ls, ST, M)) = _; rw [j_ct rfl, j_s1t hk ho])
theorem r_astore_n {k : Fin 4} {x : Nat} (hme : j_mt[i]? = some me) (hd : decode me.2.2.1 pc = .ok (.astore_n k, 1)) (hk : k.val < LS.length) (ho : j_ok1 LS k.val = true) (hl : LS.set k.val (some (.ref x)) = LS') : Rn X d i pc LS (.ref x :: ST) M h = Rn X d i (pc + 1) LS' ST M h := by
  subst hl
  exact r_stp hme hd (fun _ => rfl) (by show j_c (1 = 1) (j_s1 LS k.val (some (.ref x)) fun ls => some (pc + 1, ls, ST, M)) = _; rw [j_ct rfl, j_s1t hk ho])
theorem r_lstore_n {k : Fin 4} {x : Int64} (hme : j_mt[i]? = some me) (hd : decode me.2.2.1 pc = .ok (.lstore_n k, 1)) (hk : k.val + 1 < LS.length) (ho : j_ok1 LS k.val = true) (hl : (LS.set k.val (some (.long x))).set (k.val + 1) none = LS') : Rn X d i pc LS (.long x :: ST) M h = Rn X d i (pc + 1) LS' ST M h := by
  subst hl
  exact r_stp hme hd (fun _ => rfl) (by show j_c (1 = 1) (j_s2 LS k.val (.long x) fun ls => some (pc + 1, ls, ST, M)) = _; rw [j_ct rfl, j_s2t hk ho])
theorem r_dstore {k : Nat} {x : UInt64} (hme : j_mt[i]? = some me) (hd : decode me.2.2.1 pc = .ok (.dstore k, 2)) (hk : k + 1 < LS.length) (ho : j_ok1 LS k = true) (hl : (LS.set k (some (.double x))).set (k + 1) none = LS') : Rn X d i pc LS (.double x :: ST) M h = Rn X d i (pc + 2) LS' ST M h := by
  subst hl
  exact r_stp hme hd (fun _ => rfl) (by show j_c (2 = 2) (j_s2 LS k (.double x) fun ls => some (pc + 2, ls, ST, M)) = _; rw [j_ct rfl, j_s2t hk ho])
theorem r_iinc {k : Nat} {q : Int} {x v : Int32} (hme : j_mt[i]? = some me) (hd : decode me.2.2.1 pc = .ok (.iinc k q, 3)) (hx : LS[k]? = some (some (.int x))) (hk : k < LS.length) (ho : j_ok1 LS k = true) (hv : Int32.ofInt q = v) (hl : LS.set k (some (.int (x + v))) = LS') : Rn X d i pc LS ST M h = Rn X d i (pc + 3) LS' ST M h := by
  subst hl; subst hv
  exact r_stp hme hd (fun _ => rfl) (by show j_c (3 = 3) (j_gI LS k _) = _; unfold j_gI; rw [j_ct rfl, hx]; exact j_s1t hk ho)
theorem r_dup {v : Value} (hme : j_mt[i]? = some me) (hd : decode me.2.2.1 pc = .ok (.dup, 1)) (hv : v.category = 1) : Rn X d i pc LS (v :: ST) M h = Rn X d i (pc + 1) LS (v :: v :: ST) M h :=
  r_stp hme hd (fun _ => rfl) (by show j_c (1 = 1) (j_c (v.category = 1) _) = _; rw [j_ct hv]; rfl)
theorem r_dup2 {v w : Value} (hme : j_mt[i]? = some me) (hd : decode me.2.2.1 pc = .ok (.dup2, 1)) (hv : v.category = 1) (hw : w.category = 1) : Rn X d i pc LS (w :: v :: ST) M h = Rn X d i (pc + 1) LS (w :: v :: w :: v :: ST) M h :=
  r_stp hme hd (fun _ => rfl) (by show j_c (1 = 1) (j_c (v.category = 1 ∧ w.category = 1) _) = _; rw [j_ct rfl]; exact j_ct ⟨hv, hw⟩ _)
theorem r_pop {v : Value} (hme : j_mt[i]? = some me) (hd : decode me.2.2.1 pc = .ok (.pop, 1)) (hv : v.category = 1) : Rn X d i pc LS (v :: ST) M h = Rn X d i (pc + 1) LS ST M h :=
  r_stp hme hd (fun _ => rfl) (by show j_c (1 = 1) (j_c (v.category = 1) _) = _; rw [j_ct hv]; rfl)
theorem r_iadd {x y : Int32} (hme : j_mt[i]? = some me) (hd : decode me.2.2.1 pc = .ok (.iadd, 1)) : Rn X d i pc LS (.int y :: .int x :: ST) M h = Rn X d i (pc + 1) LS (.int (x + y) :: ST) M h := r_stp hme hd (fun _ => rfl) rfl
theorem r_isub {x y : Int32} (hme : j_mt[i]? = some me) (hd : decode me.2.2.1 pc = .ok (.isub, 1)) : Rn X d i pc LS (.int y :: .int x :: ST) M h = Rn X d i (pc + 1) LS (.int (x - y) :: ST) M h := r_stp hme hd (fun _ => rfl) rfl
theorem r_imul {x y : Int32} (hme : j_mt[i]? = some me) (hd : decode me.2.2.1 pc = .ok (.imul, 1)) : Rn X d i pc LS (.int y :: .int x :: ST) M h = Rn X d i (pc + 1) LS (.int (x * y) :: ST) M h := r_stp hme hd (fun _ => rfl) rfl
theorem r_idiv {x y : Int32} (hme : j_mt[i]? = some me) (hd : decode me.2.2.1 pc = .ok (.idiv, 1)) : Rn X d i pc LS (.int y :: .int x :: ST) M h = j_c (¬ y = 0) (Rn X d i (pc + 1) LS (.int (x / y) :: ST) M h) := by
  by_cases q : y = 0
  · rw [Rn_eq hme hd]
    show (j_c (1 = 1) (j_c (¬ y = 0) _)).bind _ = _
    unfold j_c
    rw [if_pos rfl, if_neg (fun q' => q' q), if_neg (fun q' => q' q)]
    rfl
  · rw [j_ct q]
    exact r_stp hme hd (fun _ => rfl) (by show j_c (1 = 1) (j_c (¬ y = 0) _) = _; rw [j_ct q]; rfl)
theorem r_irem {x y : Int32} (hme : j_mt[i]? = some me) (hd : decode me.2.2.1 pc = .ok (.irem, 1)) : Rn X d i pc LS (.int y :: .int x :: ST) M h = j_c (¬ y = 0) (Rn X d i (pc + 1) LS (.int (x - x / y * y) :: ST) M h) := by
  by_cases q : y = 0
  · rw [Rn_eq hme hd]
    show (j_c (1 = 1) (j_c (¬ y = 0) _)).bind _ = _
    unfold j_c
    rw [if_pos rfl, if_neg (fun q' => q' q), if_neg (fun q' => q' q)]
    rfl
  · rw [j_ct q]
    exact r_stp hme hd (fun _ => rfl) (by show j_c (1 = 1) (j_c (¬ y = 0) _) = _; rw [j_ct q]; rfl)
theorem r_ishl {x y : Int32} (hme : j_mt[i]? = some me) (hd : decode me.2.2.1 pc = .ok (.ishl, 1)) : Rn X d i pc LS (.int y :: .int x :: ST) M h = Rn X d i (pc + 1) LS (.int (x <<< (y &&& 31)) :: ST) M h := r_stp hme hd (fun _ => rfl) rfl
theorem r_ishr {x y : Int32} (hme : j_mt[i]? = some me) (hd : decode me.2.2.1 pc = .ok (.ishr, 1)) : Rn X d i pc LS (.int y :: .int x :: ST) M h = Rn X d i (pc + 1) LS (.int (x >>> (y &&& 31)) :: ST) M h := r_stp hme hd (fun _ => rfl) rfl
theorem r_iushr {x y : Int32} (hme : j_mt[i]? = some me) (hd : decode me.2.2.1 pc = .ok (.iushr, 1)) : Rn X d i pc LS (.int y :: .int x :: ST) M h = Rn X d i (pc + 1) LS (.int (x.toUInt32 >>> (y.toUInt32 &&& Int32.toUInt32 31)).toInt32 :: ST) M h := r_stp hme hd (fun _ => rfl) rfl
theorem r_iand {x y : Int32} (hme : j_mt[i]? = some me) (hd : decode me.2.2.1 pc = .ok (.iand, 1)) : Rn X d i pc LS (.int y :: .int x :: ST) M h = Rn X d i (pc + 1) LS (.int (x &&& y) :: ST) M h := r_stp hme hd (fun _ => rfl) rfl
theorem r_ior {x y : Int32} (hme : j_mt[i]? = some me) (hd : decode me.2.2.1 pc = .ok (.ior, 1)) : Rn X d i pc LS (.int y :: .int x :: ST) M h = Rn X d i (pc + 1) LS (.int (x ||| y) :: ST) M h := r_stp hme hd (fun _ => rfl) rfl
theorem r_i2l {x : Int32} (hme : j_mt[i]? = some me) (hd : decode me.2.2.1 pc = .ok (.i2l, 1)) : Rn X d i pc LS (.int x :: ST) M h = Rn X d i (pc + 1) LS (.long x.toInt64 :: ST) M h := r_stp hme hd (fun _ => rfl) rfl
theorem r_i2b {x : Int32} (hme : j_mt[i]? = some me) (hd : decode me.2.2.1 pc = .ok (.i2b, 1)) : Rn X d i pc LS (.int x :: ST) M h = Rn X d i (pc + 1) LS (.int x.toInt8.toInt32 :: ST) M h := r_stp hme hd (fun _ => rfl) rfl
theorem r_i2d {x : Int32} (hme : j_mt[i]? = some me) (hd : decode me.2.2.1 pc = .ok (.i2d, 1)) : Rn X d i pc LS (.int x :: ST) M h = Rn X d i (pc + 1) LS (.double (FP.i2d x) :: ST) M h := r_stp hme hd (fun _ => rfl) rfl
theorem r_ladd {x y : Int64} (hme : j_mt[i]? = some me) (hd : decode me.2.2.1 pc = .ok (.ladd, 1)) : Rn X d i pc LS (.long y :: .long x :: ST) M h = Rn X d i (pc + 1) LS (.long (x + y) :: ST) M h := r_stp hme hd (fun _ => rfl) rfl
theorem r_lmul {x y : Int64} (hme : j_mt[i]? = some me) (hd : decode me.2.2.1 pc = .ok (.lmul, 1)) : Rn X d i pc LS (.long y :: .long x :: ST) M h = Rn X d i (pc + 1) LS (.long (x * y) :: ST) M h := r_stp hme hd (fun _ => rfl) rfl
theorem r_lcmp {x y : Int64} (hme : j_mt[i]? = some me) (hd : decode me.2.2.1 pc = .ok (.lcmp, 1)) : Rn X d i pc LS (.long y :: .long x :: ST) M h = Rn X d i (pc + 1) LS (.int (lg_cmp x y) :: ST) M h := r_stp hme hd (fun _ => rfl) rfl
theorem r_dcmp {x y : UInt64} {op : CmpOp} (hme : j_mt[i]? = some me) (hd : decode me.2.2.1 pc = .ok (.dcmp op, 1)) : Rn X d i pc LS (.double y :: .double x :: ST) M h = Rn X d i (pc + 1) LS (.int (Op.cmpValue (FP.dcmp x y) op) :: ST) M h := r_stp hme hd (fun _ => rfl) rfl
theorem r_ddiv {x y : UInt64} (hme : j_mt[i]? = some me) (hd : decode me.2.2.1 pc = .ok (.ddiv, 1)) (hn : FP.ddiv x y &&& 0x7fffffffffffffff ≤ 0x7ff0000000000000) : Rn X d i pc LS (.double y :: .double x :: ST) M h = Rn X d i (pc + 1) LS (.double (FP.ddiv x y) :: ST) M h :=
  r_stp hme hd (fun _ => rfl) (by show j_c (1 = 1) (j_c _ _) = _; rw [j_ct hn]; rfl)
theorem j_go_if {c : Prop} [Decidable c] {off : Int} {tgt : Nat} (ht : (pc : Int) + off = (tgt : Int)) : j_go c pc off LS ST M = if c then some (tgt, LS, ST, M) else some (pc + 3, LS, ST, M) := by
  unfold j_go
  rw [j_ct (by omega), ht, Int.toNat_natCast]
theorem r_br {I : Instr} {c : Prop} [Decidable c] {off : Int} {tgt : Nat} {ST' : List Value} (hme : j_mt[i]? = some me) (hd : decode me.2.2.1 pc = .ok (I, 3)) (ht : (pc : Int) + off = (tgt : Int)) (h1 : ∀ g, j_one1 X g me d i I 3 pc LS ST M h = (j_go c pc off LS ST' M).bind fun s => g d i s.1 s.2.1 s.2.2.1 s.2.2.2 h) : Rn X d i pc LS ST M h = if c then Rn X d i tgt LS ST' M h else Rn X d i (pc + 3) LS ST' M h := by
  rw [Rn_eq hme hd, h1, j_go_if ht]
  split <;> rfl
theorem r_goto {off : Int} {tgt : Nat} (hme : j_mt[i]? = some me) (hd : decode me.2.2.1 pc = .ok (.goto off, 3)) (ht : (pc : Int) + off = (tgt : Int)) : Rn X d i pc LS ST M h = Rn X d i tgt LS ST M h := by
  rw [r_br (c := True) hme hd ht (fun _ => rfl), if_pos trivial]
theorem r_ifeq {x : Int32} {off : Int} {tgt : Nat} (hme : j_mt[i]? = some me) (hd : decode me.2.2.1 pc = .ok (.ifCond .eq off, 3)) (ht : (pc : Int) + off = (tgt : Int)) : Rn X d i pc LS (.int x :: ST) M h = if x = 0 then Rn X d i tgt LS ST M h else Rn X d i (pc + 3) LS ST M h := r_br hme hd ht (fun _ => rfl)
theorem r_ifne {x : Int32} {off : Int} {tgt : Nat} (hme : j_mt[i]? = some me) (hd : decode me.2.2.1 pc = .ok (.ifCond .ne off, 3)) (ht : (pc : Int) + off = (tgt : Int)) : Rn X d i pc LS (.int x :: ST) M h = if x = 0 then Rn X d i (pc + 3) LS ST M h else Rn X d i tgt LS ST M h := by
  rw [r_br (c := ¬ x = 0) hme hd ht (fun _ => rfl)]
  by_cases q : x = 0
  · rw [if_neg (fun q' => q' q), if_pos q]
  · rw [if_pos q, if_neg q]
theorem r_iflt {x : Int32} {off : Int} {tgt : Nat} (hme : j_mt[i]? = some me) (hd : decode me.2.2.1 pc = .ok (.ifCond .lt off, 3)) (ht : (pc : Int) + off = (tgt : Int)) : Rn X d i pc LS (.int x :: ST) M h = if x < 0 then Rn X d i tgt LS ST M h else Rn X d i (pc + 3) LS ST M h := r_br hme hd ht (fun _ => rfl)
theorem r_ifle {x : Int32} {off : Int} {tgt : Nat} (hme : j_mt[i]? = some me) (hd : decode me.2.2.1 pc = .ok (.ifCond .le off, 3)) (ht : (pc : Int) + off = (tgt : Int)) : Rn X d i pc LS (.int x :: ST) M h = if x ≤ 0 then Rn X d i tgt LS ST M h else Rn X d i (pc + 3) LS ST M h := r_br hme hd ht (fun _ => rfl)
theorem r_ifgt {x : Int32} {off : Int} {tgt : Nat} (hme : j_mt[i]? = some me) (hd : decode me.2.2.1 pc = .ok (.ifCond .gt off, 3)) (ht : (pc : Int) + off = (tgt : Int)) : Rn X d i pc LS (.int x :: ST) M h = if 0 < x then Rn X d i tgt LS ST M h else Rn X d i (pc + 3) LS ST M h := r_br hme hd ht (fun _ => rfl)
theorem r_iceq {x y : Int32} {off : Int} {tgt : Nat} (hme : j_mt[i]? = some me) (hd : decode me.2.2.1 pc = .ok (.if_icmp .eq off, 3)) (ht : (pc : Int) + off = (tgt : Int)) : Rn X d i pc LS (.int y :: .int x :: ST) M h = if x = y then Rn X d i tgt LS ST M h else Rn X d i (pc + 3) LS ST M h := r_br hme hd ht (fun _ => rfl)
theorem r_icne {x y : Int32} {off : Int} {tgt : Nat} (hme : j_mt[i]? = some me) (hd : decode me.2.2.1 pc = .ok (.if_icmp .ne off, 3)) (ht : (pc : Int) + off = (tgt : Int)) : Rn X d i pc LS (.int y :: .int x :: ST) M h = if x = y then Rn X d i (pc + 3) LS ST M h else Rn X d i tgt LS ST M h := by
  rw [r_br (c := ¬ x = y) hme hd ht (fun _ => rfl)]
  by_cases q : x = y
  · rw [if_neg (fun q' => q' q), if_pos q]
  · rw [if_pos q, if_neg q]
theorem r_iclt {x y : Int32} {off : Int} {tgt : Nat} (hme : j_mt[i]? = some me) (hd : decode me.2.2.1 pc = .ok (.if_icmp .lt off, 3)) (ht : (pc : Int) + off = (tgt : Int)) : Rn X d i pc LS (.int y :: .int x :: ST) M h = if x < y then Rn X d i tgt LS ST M h else Rn X d i (pc + 3) LS ST M h := r_br hme hd ht (fun _ => rfl)
theorem r_icge {x y : Int32} {off : Int} {tgt : Nat} (hme : j_mt[i]? = some me) (hd : decode me.2.2.1 pc = .ok (.if_icmp .ge off, 3)) (ht : (pc : Int) + off = (tgt : Int)) : Rn X d i pc LS (.int y :: .int x :: ST) M h = if y ≤ x then Rn X d i tgt LS ST M h else Rn X d i (pc + 3) LS ST M h := r_br hme hd ht (fun _ => rfl)
theorem r_icgt {x y : Int32} {off : Int} {tgt : Nat} (hme : j_mt[i]? = some me) (hd : decode me.2.2.1 pc = .ok (.if_icmp .gt off, 3)) (ht : (pc : Int) + off = (tgt : Int)) : Rn X d i pc LS (.int y :: .int x :: ST) M h = if y < x then Rn X d i tgt LS ST M h else Rn X d i (pc + 3) LS ST M h := r_br hme hd ht (fun _ => rfl)
theorem r_icle {x y : Int32} {off : Int} {tgt : Nat} (hme : j_mt[i]? = some me) (hd : decode me.2.2.1 pc = .ok (.if_icmp .le off, 3)) (ht : (pc : Int) + off = (tgt : Int)) : Rn X d i pc LS (.int y :: .int x :: ST) M h = if x ≤ y then Rn X d i tgt LS ST M h else Rn X d i (pc + 3) LS ST M h := r_br hme hd ht (fun _ => rfl)
theorem r_acne {a b : Nat} {off : Int} {tgt : Nat} (hme : j_mt[i]? = some me) (hd : decode me.2.2.1 pc = .ok (.if_acmp .ne off, 3)) (ht : (pc : Int) + off = (tgt : Int)) : Rn X d i pc LS (.ref b :: .ref a :: ST) M h = j_c (¬ a = 1000000 ∧ ¬ b = 1000000) (if a = b then Rn X d i (pc + 3) LS ST M h else Rn X d i tgt LS ST M h) := by
  rw [Rn_eq hme hd]
  show (j_c (3 = 3) (j_c (¬ a = 1000000 ∧ ¬ b = 1000000) (j_go (¬ a = b) pc off LS ST M))).bind _ = _
  rw [j_ct rfl, j_go_if ht]
  unfold j_c
  split
  · by_cases q : a = b
    · rw [if_neg (fun q' => q' q), if_pos q]; rfl
    · rw [if_pos q, if_neg q]; rfl
  · rfl
theorem r_tab {dflt lo hi : Int} {offs : Array Int} {len : Nat} {x : Int32} {off : Int} {tgt : Nat} (hme : j_mt[i]? = some me) (hd : decode me.2.2.1 pc = .ok (.tableswitch dflt lo hi offs, len)) (h1 : ¬ (x.toInt < lo ∨ hi < x.toInt)) (ho : offs[(x.toInt - lo).toNat]? = some off) (ht : (pc : Int) + off = (tgt : Int)) : Rn X d i pc LS (.int x :: ST) M h = Rn X d i tgt LS ST M h :=
  r_stp hme hd (fun _ => rfl) (by
    show (if x.toInt < lo ∨ hi < x.toInt then _ else (offs[(x.toInt - lo).toNat]?).bind _) = _
    rw [if_neg h1, ho]
    show j_c _ _ = _
    rw [j_ct (by omega), ht, Int.toNat_natCast])
theorem r_tabD {dflt lo hi : Int} {offs : Array Int} {len : Nat} {x : Int32} {tgt : Nat} (hme : j_mt[i]? = some me) (hd : decode me.2.2.1 pc = .ok (.tableswitch dflt lo hi offs, len)) (h1 : x.toInt < lo ∨ hi < x.toInt) (ht : (pc : Int) + dflt = (tgt : Int)) : Rn X d i pc LS (.int x :: ST) M h = Rn X d i tgt LS ST M h :=
  r_stp hme hd (fun _ => rfl) (by
    show (if x.toInt < lo ∨ hi < x.toInt then j_c _ _ else _) = _
    rw [if_pos h1, j_ct (by omega), ht, Int.toNat_natCast])
end
