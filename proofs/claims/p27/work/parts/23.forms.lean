/-! whole numbers as the machine's ints, and the pure machine one step at a time: forms that hold no continuation, for simp to walk -/
def zN (k : Nat) : Int32 := Int32.ofInt (k : Int)
def zM (k : Nat) : Int32 := Int32.ofInt (-(k : Int) - 1)
theorem zN_toInt {a : Nat} (h : a < 2147483648) : (zN a).toInt = (a : Int) := by
  unfold zN
  exact Int32.toInt_ofInt_of_le (by omega) (by omega)
theorem zM_toInt {a : Nat} (h : a < 2147483648) : (zM a).toInt = -(a : Int) - 1 := by
  unfold zM
  exact Int32.toInt_ofInt_of_le (by omega) (by omega)
theorem i_cases (x : Int32) : (∃ k, k < 2147483648 ∧ x = zN k) ∨ (∃ k, k < 2147483648 ∧ x = zM k) := by
  have h1 := x.le_toInt
  have h2 := x.toInt_lt
  by_cases q : 0 ≤ x.toInt
  · left
    refine ⟨x.toInt.toNat, by omega, ?_⟩
    unfold zN
    rw [Int.toNat_of_nonneg q, Int32.ofInt_toInt]
  · right
    refine ⟨(-x.toInt - 1).toNat, by omega, ?_⟩
    unfold zM
    rw [Int.toNat_of_nonneg (by omega), show -(-x.toInt - 1) - 1 = x.toInt by omega, Int32.ofInt_toInt]
theorem zN_add (a b : Nat) : zN a + zN b = zN (a + b) := by
  unfold zN
  rw [Int.natCast_add, Int32.ofInt_add]
theorem zN_mul (a b : Nat) : zN a * zN b = zN (a * b) := by
  unfold zN
  rw [Int.natCast_mul, Int32.ofInt_mul]
theorem zN_sub {a b : Nat} (h : b ≤ a) : zN a - zN b = zN (a - b) := by
  unfold zN
  rw [← Int32.ofInt_sub]
  congr 1
  omega
theorem zN_subm {a b : Nat} (h : a < b) : zN a - zN b = zM (b - a - 1) := by
  unfold zN zM
  rw [← Int32.ofInt_sub]
  congr 1
  omega
theorem zM_sub (a b : Nat) : zM a - zN b = zM (a + b) := by
  unfold zN zM
  rw [← Int32.ofInt_sub]
  congr 1
  omega
theorem zM_add {a b : Nat} (h : a < b) : zM a + zN b = zN (b - a - 1) := by
  unfold zN zM
  rw [← Int32.ofInt_add]
  congr 1
  omega
theorem zN_lt {a b : Nat} (ha : a < 2147483648) (hb : b < 2147483648) : zN a < zN b ↔ a < b := by
  rw [Int32.lt_iff_toInt_lt, zN_toInt ha, zN_toInt hb]
  omega
theorem zN_le {a b : Nat} (ha : a < 2147483648) (hb : b < 2147483648) : zN a ≤ zN b ↔ a ≤ b := by
  rw [Int32.le_iff_toInt_le, zN_toInt ha, zN_toInt hb]
  omega
theorem zN_inj {a b : Nat} (ha : a < 2147483648) (hb : b < 2147483648) : zN a = zN b ↔ a = b := by
  rw [← Int32.toInt_inj, zN_toInt ha, zN_toInt hb]
  omega
theorem zM_lt_zN {a b : Nat} (ha : a < 2147483648) (hb : b < 2147483648) : zM a < zN b := by
  rw [Int32.lt_iff_toInt_lt, zM_toInt ha, zN_toInt hb]
  omega
theorem zN_nlt_zM {a b : Nat} (ha : a < 2147483648) (hb : b < 2147483648) : ¬ zN a < zM b := by
  rw [Int32.lt_iff_toInt_lt, zN_toInt ha, zM_toInt hb]
  omega
theorem zM_le_zN {a b : Nat} (ha : a < 2147483648) (hb : b < 2147483648) : zM a ≤ zN b := by
  rw [Int32.le_iff_toInt_le, zM_toInt ha, zN_toInt hb]
  omega
theorem zN_nle_zM {a b : Nat} (ha : a < 2147483648) (hb : b < 2147483648) : ¬ zN a ≤ zM b := by
  rw [Int32.le_iff_toInt_le, zN_toInt ha, zM_toInt hb]
  omega
theorem zN_ne_zM {a b : Nat} (ha : a < 2147483648) (hb : b < 2147483648) : ¬ zN a = zM b := by
  rw [← Int32.toInt_inj, zN_toInt ha, zM_toInt hb]
  omega
theorem zM_inj {a b : Nat} (ha : a < 2147483648) (hb : b < 2147483648) : zM a = zM b ↔ a = b := by
  rw [← Int32.toInt_inj, zM_toInt ha, zM_toInt hb]
  omega
theorem zM_lt {a b : Nat} (ha : a < 2147483648) (hb : b < 2147483648) : zM a < zM b ↔ b < a := by
  rw [Int32.lt_iff_toInt_lt, zM_toInt ha, zM_toInt hb]
  omega
theorem zM_le {a b : Nat} (ha : a < 2147483648) (hb : b < 2147483648) : zM a ≤ zM b ↔ b ≤ a := by
  rw [Int32.le_iff_toInt_le, zM_toInt ha, zM_toInt hb]
  omega
theorem zN_div {a b : Nat} (ha : a < 2147483648) (hb : b < 2147483648) : zN a / zN b = zN (a / b) := by
  unfold zN
  have e1 : Int32.minValue.toInt = -2147483648 := by decide
  have e2 : Int32.maxValue.toInt = 2147483647 := by decide
  rw [← Int32.ofInt_tdiv (by omega) (by omega) (by omega) (by omega), Int.tdiv_eq_ediv_of_nonneg (by omega), Int.natCast_ediv]
theorem zN_rem {a b : Nat} (ha : a < 2147483648) (hb : b < 2147483648) : zN a - zN a / zN b * zN b = zN (a % b) := by
  rw [zN_div ha hb, zN_mul, zN_sub (Nat.div_mul_le_self a b)]
  congr 1
  have := Nat.div_add_mod a b
  rw [Nat.mul_comm] at this
  omega
theorem zN_bv (a : Nat) : (zN a).toBitVec = BitVec.ofNat 32 a := by
  unfold zN
  show BitVec.ofInt 32 (a : Int) = _
  exact BitVec.ofInt_natCast 32 a
theorem i_and31 (x : Int32) : x &&& zN 31 = zN (x.toBitVec.toNat % 32) := by
  apply Int32.toBitVec_inj.mp
  rw [Int32.toBitVec_and, zN_bv, zN_bv]
  apply BitVec.eq_of_toNat_eq
  rw [BitVec.toNat_and, BitVec.toNat_ofNat, BitVec.toNat_ofNat]
  have := Nat.and_two_pow_sub_one_eq_mod x.toBitVec.toNat 5
  show x.toBitVec.toNat &&& (2 ^ 5 - 1) = _
  rw [this, Nat.mod_eq_of_lt (a := x.toBitVec.toNat % 32)]
  omega
theorem zN_and (a : Nat) : zN a &&& zN 31 = zN (a % 32) := by
  rw [i_and31, zN_bv, BitVec.toNat_ofNat]
  congr 1
  omega
theorem zN_nat {a : Nat} (ha : a < 2147483648) : (zN a).toNatClampNeg = a := by
  show (zN a).toInt.toNat = a
  rw [zN_toInt ha]
  rfl
theorem zN_in {a z : Nat} (ha : a < 2147483648) (h : a < z) : j_in (zN a) z := by
  refine ⟨?_, by rw [zN_nat ha]; exact h⟩
  rw [Int32.lt_iff_toInt_lt, zN_toInt ha]
  show ¬ ((a : Int) < 0)
  omega
theorem zN_ofNat (a : Nat) : Int32.ofNat a = zN a := by
  apply Int32.toBitVec_inj.mp
  rw [zN_bv]
  rfl
section
variable (X : jX)
noncomputable def q_g (e : va_E) (c k : Nat) (d i pc : Nat) (LS : jL) (ST : List Value) (M : jM) (h : jH) : Option jR := j_g e c k fun v => Rn X d i pc LS (v :: ST) M h
noncomputable def q_p (e : va_E) (a c k : Nat) (v : Value) (d i pc : Nat) (LS : jL) (ST : List Value) (M : jM) (h : jH) : Option jR := j_p e c k v fun e => Rn X d i pc LS ST (va_up M a e) h
noncomputable def q_ld (e : va_E) (a : Nat) (x : Int32) (d i pc : Nat) (LS : jL) (ST : List Value) (M : jM) (h : jH) : Option jR := j_ld X e a x fun v => Rn X d i pc LS (.int v :: ST) M h
noncomputable def q_lB (e : va_E) (x : Int32) (d i pc : Nat) (LS : jL) (ST : List Value) (M : jM) (h : jH) : Option jR := j_ldB e x fun v => Rn X d i pc LS (.int v :: ST) M h
noncomputable def q_lJ (e : va_E) (x : Int32) (d i pc : Nat) (LS : jL) (ST : List Value) (M : jM) (h : jH) : Option jR := j_ldJ e x fun v => Rn X d i pc LS (.long v :: ST) M h
noncomputable def q_lQ (e : va_E) (x : Int32) (d i pc : Nat) (LS : jL) (ST : List Value) (M : jM) (h : jH) : Option jR := j_ldQ e x fun v => Rn X d i pc LS (.ref v :: ST) M h
noncomputable def q_st (e : va_E) (a : Nat) (x y : Int32) (d i pc : Nat) (LS : jL) (ST : List Value) (M : jM) (h : jH) : Option jR := j_st e x y fun e => Rn X d i pc LS ST (va_up M a e) h
noncomputable def q_sB (e : va_E) (a : Nat) (x y : Int32) (d i pc : Nat) (LS : jL) (ST : List Value) (M : jM) (h : jH) : Option jR := j_stB e x y fun e => Rn X d i pc LS ST (va_up M a e) h
noncomputable def q_sJ (e : va_E) (a : Nat) (x : Int32) (y : Int64) (d i pc : Nat) (LS : jL) (ST : List Value) (M : jM) (h : jH) : Option jR := j_stJ e x y fun e => Rn X d i pc LS ST (va_up M a e) h
noncomputable def q_sQ (e ev : va_E) (a : Nat) (x : Int32) (v : Nat) (d i pc : Nat) (LS : jL) (ST : List Value) (M : jM) (h : jH) : Option jR := j_stQ e ev x v fun e => Rn X d i pc LS ST (va_up M a e) h
noncomputable def q_cp (es ee : va_E) (e : Nat) (sp dp n : Int32) (d i pc : Nat) (LS : jL) (M : jM) (h : jH) : Option jR := j_cpy es ee sp dp n fun x => Rn X d i pc LS [] (va_up M e x) h
noncomputable def q_eq (x y : Int32) (d i p1 p2 : Nat) (LS : jL) (ST : List Value) (M : jM) (h : jH) : Option jR := if x = y then Rn X d i p1 LS ST M h else Rn X d i p2 LS ST M h
noncomputable def q_lt (x y : Int32) (d i p1 p2 : Nat) (LS : jL) (ST : List Value) (M : jM) (h : jH) : Option jR := if x < y then Rn X d i p1 LS ST M h else Rn X d i p2 LS ST M h
noncomputable def q_le (x y : Int32) (d i p1 p2 : Nat) (LS : jL) (ST : List Value) (M : jM) (h : jH) : Option jR := if x ≤ y then Rn X d i p1 LS ST M h else Rn X d i p2 LS ST M h
noncomputable def q_ac (a b : Nat) (d i p1 p2 : Nat) (LS : jL) (ST : List Value) (M : jM) (h : jH) : Option jR := j_c (¬ a = 1000000 ∧ ¬ b = 1000000) (if a = b then Rn X d i p1 LS ST M h else Rn X d i p2 LS ST M h)
noncomputable def q_dv (x y : Int32) (d i pc : Nat) (LS : jL) (ST : List Value) (M : jM) (h : jH) : Option jR := j_c (¬ y = 0) (Rn X d i pc LS (.int (x / y) :: ST) M h)
noncomputable def q_rm (x y : Int32) (d i pc : Nat) (LS : jL) (ST : List Value) (M : jM) (h : jH) : Option jR := j_c (¬ y = 0) (Rn X d i pc LS (.int (x - x / y * y) :: ST) M h)
noncomputable def q_k (R : Option jR) (h : jH) (d i pc : Nat) (LS : jL) (ST : List Value) : Option jR := j_bd R h (fun v M h => Rn X d i pc LS (v.toList ++ ST) M h) (fun E M h => j_up E M h)
noncomputable def q_kc (R : Option jR) (h : jH) (me : jMe) (d i p0 pc : Nat) (LS : jL) (ST : List Value) : Option jR := j_bd R h (fun v M h => Rn X d i pc LS (v.toList ++ ST) M h) (fun E M h => j_cat (Rn X) me d i p0 LS E M h)
end
section
variable {X : jX} {d i pc p0 p1 p2 : Nat} {LS : jL} {ST : List Value} {M M' : jM} {h h' : jH} {me : jMe}
theorem q_k_v {v : Value} : q_k X (some (.inl (some v), M', h')) h d i pc LS ST = Rn X d i pc LS (v :: ST) M' (j_add h h') := rfl
theorem q_k_n : q_k X (some (.inl none, M', h')) h d i pc LS ST = Rn X d i pc LS ST M' (j_add h h') := rfl
theorem q_k_x {E : String} : q_k X (some (.inr E, M', h')) h d i pc LS ST = some (.inr E, M', j_add h h') := rfl
theorem q_kc_v {v : Value} : q_kc X (some (.inl (some v), M', h')) h me d i p0 pc LS ST = Rn X d i pc LS (v :: ST) M' (j_add h h') := rfl
theorem q_kc_n : q_kc X (some (.inl none, M', h')) h me d i p0 pc LS ST = Rn X d i pc LS ST M' (j_add h h') := rfl
theorem q_kc_x {E : String} : q_kc X (some (.inr E, M', h')) h me d i p0 pc LS ST = j_cat (Rn X) me d i p0 LS E M' (j_add h h') := rfl
theorem q_rc {α : Type} {ci : Nat} {fs : List Value} {x : Option α} : j_rc (.inr (ci, fs)) ci x = x := by
  show j_c (ci = ci) x = x
  exact j_ct rfl _
theorem q_eq_t {a b : Nat} (e : a = b) : q_eq X (zN a) (zN b) d i p1 p2 LS ST M h = Rn X d i p1 LS ST M h := if_pos (congrArg zN e)
theorem q_eq_f {a b : Nat} (e : a ≠ b) (ha : a < 2147483648) (hb : b < 2147483648) : q_eq X (zN a) (zN b) d i p1 p2 LS ST M h = Rn X d i p2 LS ST M h := if_neg (fun q => e ((zN_inj ha hb).mp q))
theorem q_eq_nm {a b : Nat} (ha : a < 2147483648) (hb : b < 2147483648) : q_eq X (zN a) (zM b) d i p1 p2 LS ST M h = Rn X d i p2 LS ST M h := if_neg (zN_ne_zM ha hb)
theorem q_eq_mn {a b : Nat} (ha : a < 2147483648) (hb : b < 2147483648) : q_eq X (zM a) (zN b) d i p1 p2 LS ST M h = Rn X d i p2 LS ST M h := if_neg (fun q => zN_ne_zM hb ha q.symm)
theorem q_eq_mt {a b : Nat} (e : a = b) : q_eq X (zM a) (zM b) d i p1 p2 LS ST M h = Rn X d i p1 LS ST M h := if_pos (congrArg zM e)
theorem q_eq_mf {a b : Nat} (e : a ≠ b) (ha : a < 2147483648) (hb : b < 2147483648) : q_eq X (zM a) (zM b) d i p1 p2 LS ST M h = Rn X d i p2 LS ST M h := if_neg (fun q => e ((zM_inj ha hb).mp q))
theorem q_lt_t {a b : Nat} (e : a < b) (hb : b < 2147483648) : q_lt X (zN a) (zN b) d i p1 p2 LS ST M h = Rn X d i p1 LS ST M h := if_pos ((zN_lt (Nat.lt_trans e hb) hb).mpr e)
theorem q_lt_f {a b : Nat} (e : b ≤ a) (ha : a < 2147483648) : q_lt X (zN a) (zN b) d i p1 p2 LS ST M h = Rn X d i p2 LS ST M h := if_neg (fun q => Nat.not_lt.mpr e ((zN_lt ha (Nat.lt_of_le_of_lt e ha)).mp q))
theorem q_lt_mn {a b : Nat} (ha : a < 2147483648) (hb : b < 2147483648) : q_lt X (zM a) (zN b) d i p1 p2 LS ST M h = Rn X d i p1 LS ST M h := if_pos (zM_lt_zN ha hb)
theorem q_lt_nm {a b : Nat} (ha : a < 2147483648) (hb : b < 2147483648) : q_lt X (zN a) (zM b) d i p1 p2 LS ST M h = Rn X d i p2 LS ST M h := if_neg (zN_nlt_zM ha hb)
theorem q_le_t {a b : Nat} (e : a ≤ b) (hb : b < 2147483648) : q_le X (zN a) (zN b) d i p1 p2 LS ST M h = Rn X d i p1 LS ST M h := if_pos ((zN_le (Nat.lt_of_le_of_lt e hb) hb).mpr e)
theorem q_le_f {a b : Nat} (e : b < a) (ha : a < 2147483648) : q_le X (zN a) (zN b) d i p1 p2 LS ST M h = Rn X d i p2 LS ST M h := if_neg (fun q => Nat.not_le.mpr e ((zN_le ha (Nat.lt_trans e ha)).mp q))
theorem q_le_mn {a b : Nat} (ha : a < 2147483648) (hb : b < 2147483648) : q_le X (zM a) (zN b) d i p1 p2 LS ST M h = Rn X d i p1 LS ST M h := if_pos (zM_le_zN ha hb)
theorem q_le_nm {a b : Nat} (ha : a < 2147483648) (hb : b < 2147483648) : q_le X (zN a) (zM b) d i p1 p2 LS ST M h = Rn X d i p2 LS ST M h := if_neg (zN_nle_zM ha hb)
theorem q_ac_t {a b : Nat} (e : a = b) (ha : a < 1000000) : q_ac X a b d i p1 p2 LS ST M h = Rn X d i p1 LS ST M h := by
  unfold q_ac
  rw [j_ct (by omega), if_pos e]
theorem q_ac_f {a b : Nat} (e : a ≠ b) (ha : a < 1000000) (hb : b < 1000000) : q_ac X a b d i p1 p2 LS ST M h = Rn X d i p2 LS ST M h := by
  unfold q_ac
  rw [j_ct (by omega), if_neg e]
theorem q_dv_n {a b : Nat} (ha : a < 2147483648) (hb : b < 2147483648) (h0 : 0 < b) : q_dv X (zN a) (zN b) d i pc LS ST M h = Rn X d i pc LS (.int (zN (a / b)) :: ST) M h := by
  unfold q_dv
  have q : ¬ zN b = 0 := fun q => by have := (zN_inj (b := 0) hb (by omega)).mp q; omega
  rw [j_ct q, zN_div ha hb]
theorem q_rm_n {a b : Nat} (ha : a < 2147483648) (hb : b < 2147483648) (h0 : 0 < b) : q_rm X (zN a) (zN b) d i pc LS ST M h = Rn X d i pc LS (.int (zN (a % b)) :: ST) M h := by
  unfold q_rm
  have q : ¬ zN b = 0 := fun q => by have := (zN_inj (b := 0) hb (by omega)).mp q; omega
  rw [j_ct q, zN_rem ha hb]
theorem q_ld_n {z a j : Nat} {f : Nat → Int32} (h1 : j < z) (h2 : z < 2147483648) : q_ld X (.inl (0, z, .inl f)) a (zN j) d i pc LS ST M h = Rn X d i pc LS (.int (f j) :: ST) M h := by
  show j_c (0 = 0 ∧ j_in (zN j) z) (Rn X d i pc LS (.int (f (zN j).toNatClampNeg) :: ST) M h) = _
  rw [j_ct ⟨rfl, zN_in (by omega) h1⟩, zN_nat (by omega)]
theorem q_ld_x {j : Nat} (h1 : j < X.1) (h2 : X.1 < 2147483648) : q_ld X j_nil 1000000 (zN j) d i pc LS ST M h = Rn X d i pc LS (.int (X.2 j) :: ST) M h := by
  show j_c (1000000 = 1000000 ∧ j_in (zN j) X.1) (Rn X d i pc LS (.int (X.2 (zN j).toNatClampNeg) :: ST) M h) = _
  rw [j_ct ⟨rfl, zN_in (by omega) h1⟩, zN_nat (by omega)]
theorem q_lB_n {z j : Nat} {f : Nat → Int32} (h1 : j < z) (h2 : z < 2147483648) : q_lB X (.inl (1, z, .inl f)) (zN j) d i pc LS ST M h = Rn X d i pc LS (.int (f j) :: ST) M h := by
  show j_c (1 = 1 ∧ j_in (zN j) z) (Rn X d i pc LS (.int (f (zN j).toNatClampNeg) :: ST) M h) = _
  rw [j_ct ⟨rfl, zN_in (by omega) h1⟩, zN_nat (by omega)]
theorem q_lJ_n {z j : Nat} {f : Nat → Int64} (h1 : j < z) (h2 : z < 2147483648) : q_lJ X (.inl (3, z, .inr (.inl f))) (zN j) d i pc LS ST M h = Rn X d i pc LS (.long (f j) :: ST) M h := by
  show j_c (3 = 3 ∧ j_in (zN j) z) (Rn X d i pc LS (.long (f (zN j).toNatClampNeg) :: ST) M h) = _
  rw [j_ct ⟨rfl, zN_in (by omega) h1⟩, zN_nat (by omega)]
theorem q_lQ_n {z j v : Nat} {f : Nat → Option Nat} (h1 : j < z) (h2 : z < 2147483648) (h3 : f j = some v) : q_lQ X (.inl (2, z, .inr (.inr (.inr (.inr f))))) (zN j) d i pc LS ST M h = Rn X d i pc LS (.ref v :: ST) M h := by
  show j_c (2 = 2 ∧ j_in (zN j) z) ((f (zN j).toNatClampNeg).bind _) = _
  rw [j_ct ⟨rfl, zN_in (by omega) h1⟩, zN_nat (by omega), h3]
  rfl
theorem q_st_n {z a j : Nat} {f : Nat → Int32} {y : Int32} (h1 : j < z) (h2 : z < 2147483648) : q_st X (.inl (0, z, .inl f)) a (zN j) y d i pc LS ST M h = Rn X d i pc LS ST (va_up M a (.inl (0, z, .inl (va_up f j y)))) h := by
  show j_c (0 = 0 ∧ j_in (zN j) z) (Rn X d i pc LS ST (va_up M a (.inl (0, z, .inl (upd f (zN j).toNatClampNeg y)))) h) = _
  rw [j_ct ⟨rfl, zN_in (by omega) h1⟩, zN_nat (by omega)]
  rfl
theorem q_sB_n {z a j : Nat} {f : Nat → Int32} {y : Int32} (h1 : j < z) (h2 : z < 2147483648) : q_sB X (.inl (1, z, .inl f)) a (zN j) y d i pc LS ST M h = Rn X d i pc LS ST (va_up M a (.inl (1, z, .inl (va_up f j (y.toInt8.toInt32))))) h := by
  show j_c (1 = 1 ∧ j_in (zN j) z) (Rn X d i pc LS ST (va_up M a (.inl (1, z, .inl (upd f (zN j).toNatClampNeg (vp_nar .byte y))))) h) = _
  rw [j_ct ⟨rfl, zN_in (by omega) h1⟩, zN_nat (by omega), vp_nar_byte]
  rfl
theorem q_sJ_n {z a j : Nat} {f : Nat → Int64} {y : Int64} (h1 : j < z) (h2 : z < 2147483648) : q_sJ X (.inl (3, z, .inr (.inl f))) a (zN j) y d i pc LS ST M h = Rn X d i pc LS ST (va_up M a (.inl (3, z, .inr (.inl (va_up f j y))))) h := by
  show j_c (3 = 3 ∧ j_in (zN j) z) (Rn X d i pc LS ST (va_up M a (.inl (3, z, .inr (.inl (vp_updL f (zN j).toNatClampNeg y))))) h) = _
  rw [j_ct ⟨rfl, zN_in (by omega) h1⟩, zN_nat (by omega)]
  rfl
theorem q_sQ_n {z a j v : Nat} {f : Nat → Option Nat} {fs : List Value} (h1 : j < z) (h2 : z < 2147483648) : q_sQ X (.inl (2, z, .inr (.inr (.inr (.inr f))))) (.inr (2, fs)) a (zN j) v d i pc LS ST M h = Rn X d i pc LS ST (va_up M a (.inl (2, z, .inr (.inr (.inr (.inr (va_up f j (some v)))))))) h := by
  show j_c (2 = 2 ∧ 2 = 2 ∧ j_in (zN j) z) (Rn X d i pc LS ST (va_up M a (.inl (2, z, .inr (.inr (.inr (.inr (va_up f (zN j).toNatClampNeg (some v)))))))) h) = _
  rw [j_ct ⟨rfl, rfl, zN_in (by omega) h1⟩, zN_nat (by omega)]
theorem q_cp_n {z0 z1 e n : Nat} {f g : Nat → Int32} (h0 : n ≤ z0) (h1 : n ≤ z1) (h2 : n < 2147483648) : q_cp X (.inl (0, z0, .inl f)) (.inl (0, z1, .inl g)) e (zN 0) (zN 0) (zN n) d i pc LS M h = Rn X d i pc LS [] (va_up M e (.inl (0, z1, .inl (va_cpy f g 0 0 n)))) h := by
  have k0 : (zN 0).toNatClampNeg = 0 := zN_nat (by omega)
  have kn := zN_nat h2
  have l0 : ¬ zN 0 < 0 := (zN_in (z := 1) (a := 0) (by omega) (by omega)).1
  have ln : ¬ zN n < 0 := (zN_in (z := n + 1) h2 (by omega)).1
  show j_c (0 = 0 ∧ 0 = 0 ∧ ¬ zN 0 < 0 ∧ ¬ zN 0 < 0 ∧ ¬ zN n < 0 ∧ (zN 0).toNatClampNeg + (zN n).toNatClampNeg ≤ z0 ∧ (zN 0).toNatClampNeg + (zN n).toNatClampNeg ≤ z1) (Rn X d i pc LS [] (va_up M e (.inl (0, z1, .inl (va_cpy f g (zN 0).toNatClampNeg (zN 0).toNatClampNeg (zN n).toNatClampNeg)))) h) = _
  rw [k0, kn, j_ct ⟨rfl, rfl, l0, l0, ln, by omega, by omega⟩]
theorem q_g_s {c k : Nat} {fs : List Value} {v : Value} (hv : fs[k]? = some v) : q_g X (.inr (c, fs)) c k d i pc LS ST M h = Rn X d i pc LS (v :: ST) M h := by
  show j_c (c = c) ((fs[k]?).bind _) = _
  rw [j_ct rfl, hv]
  rfl
theorem q_p_s {c k a : Nat} {fs fs' : List Value} {v : Value} (hk : k < fs.length) (hv : fs.set k v = fs') : q_p X (.inr (c, fs)) a c k v d i pc LS ST M h = Rn X d i pc LS ST (va_up M a (.inr (c, fs'))) h := by
  show j_c (c = c ∧ k < fs.length) (Rn X d i pc LS ST (va_up M a (.inr (c, fs.set k v))) h) = _
  rw [j_ct ⟨rfl, hk⟩, hv]
end
section
variable {X : jX} {d i pc : Nat} {LS : jL} {ST : List Value} {M : jM} {h : jH}
theorem q_g0_0 {f0 f1 f2 f3 f4 f5 f6 f7 : Value} : q_g X (.inr (0, [f0, f1, f2, f3, f4, f5, f6, f7])) 0 0 d i pc LS ST M h = Rn X d i pc LS (f0 :: ST) M h := q_g_s rfl
theorem q_p0_0 {a : Nat} {v : Value} {f0 f1 f2 f3 f4 f5 f6 f7 : Value} : q_p X (.inr (0, [f0, f1, f2, f3, f4, f5, f6, f7])) a 0 0 v d i pc LS ST M h = Rn X d i pc LS ST (va_up M a (.inr (0, [v, f1, f2, f3, f4, f5, f6, f7]))) h := q_p_s (Nat.lt_of_sub_pos (Nat.succ_pos _)) rfl
theorem q_g0_1 {f0 f1 f2 f3 f4 f5 f6 f7 : Value} : q_g X (.inr (0, [f0, f1, f2, f3, f4, f5, f6, f7])) 0 1 d i pc LS ST M h = Rn X d i pc LS (f1 :: ST) M h := q_g_s rfl
theorem q_p0_1 {a : Nat} {v : Value} {f0 f1 f2 f3 f4 f5 f6 f7 : Value} : q_p X (.inr (0, [f0, f1, f2, f3, f4, f5, f6, f7])) a 0 1 v d i pc LS ST M h = Rn X d i pc LS ST (va_up M a (.inr (0, [f0, v, f2, f3, f4, f5, f6, f7]))) h := q_p_s (Nat.lt_of_sub_pos (Nat.succ_pos _)) rfl
theorem q_g0_2 {f0 f1 f2 f3 f4 f5 f6 f7 : Value} : q_g X (.inr (0, [f0, f1, f2, f3, f4, f5, f6, f7])) 0 2 d i pc LS ST M h = Rn X d i pc LS (f2 :: ST) M h := q_g_s rfl
theorem q_p0_2 {a : Nat} {v : Value} {f0 f1 f2 f3 f4 f5 f6 f7 : Value} : q_p X (.inr (0, [f0, f1, f2, f3, f4, f5, f6, f7])) a 0 2 v d i pc LS ST M h = Rn X d i pc LS ST (va_up M a (.inr (0, [f0, f1, v, f3, f4, f5, f6, f7]))) h := q_p_s (Nat.lt_of_sub_pos (Nat.succ_pos _)) rfl
theorem q_g0_3 {f0 f1 f2 f3 f4 f5 f6 f7 : Value} : q_g X (.inr (0, [f0, f1, f2, f3, f4, f5, f6, f7])) 0 3 d i pc LS ST M h = Rn X d i pc LS (f3 :: ST) M h := q_g_s rfl
theorem q_p0_3 {a : Nat} {v : Value} {f0 f1 f2 f3 f4 f5 f6 f7 : Value} : q_p X (.inr (0, [f0, f1, f2, f3, f4, f5, f6, f7])) a 0 3 v d i pc LS ST M h = Rn X d i pc LS ST (va_up M a (.inr (0, [f0, f1, f2, v, f4, f5, f6, f7]))) h := q_p_s (Nat.lt_of_sub_pos (Nat.succ_pos _)) rfl
theorem q_g0_4 {f0 f1 f2 f3 f4 f5 f6 f7 : Value} : q_g X (.inr (0, [f0, f1, f2, f3, f4, f5, f6, f7])) 0 4 d i pc LS ST M h = Rn X d i pc LS (f4 :: ST) M h := q_g_s rfl
theorem q_p0_4 {a : Nat} {v : Value} {f0 f1 f2 f3 f4 f5 f6 f7 : Value} : q_p X (.inr (0, [f0, f1, f2, f3, f4, f5, f6, f7])) a 0 4 v d i pc LS ST M h = Rn X d i pc LS ST (va_up M a (.inr (0, [f0, f1, f2, f3, v, f5, f6, f7]))) h := q_p_s (Nat.lt_of_sub_pos (Nat.succ_pos _)) rfl
theorem q_g0_5 {f0 f1 f2 f3 f4 f5 f6 f7 : Value} : q_g X (.inr (0, [f0, f1, f2, f3, f4, f5, f6, f7])) 0 5 d i pc LS ST M h = Rn X d i pc LS (f5 :: ST) M h := q_g_s rfl
theorem q_p0_5 {a : Nat} {v : Value} {f0 f1 f2 f3 f4 f5 f6 f7 : Value} : q_p X (.inr (0, [f0, f1, f2, f3, f4, f5, f6, f7])) a 0 5 v d i pc LS ST M h = Rn X d i pc LS ST (va_up M a (.inr (0, [f0, f1, f2, f3, f4, v, f6, f7]))) h := q_p_s (Nat.lt_of_sub_pos (Nat.succ_pos _)) rfl
theorem q_g0_6 {f0 f1 f2 f3 f4 f5 f6 f7 : Value} : q_g X (.inr (0, [f0, f1, f2, f3, f4, f5, f6, f7])) 0 6 d i pc LS ST M h = Rn X d i pc LS (f6 :: ST) M h := q_g_s rfl
theorem q_p0_6 {a : Nat} {v : Value} {f0 f1 f2 f3 f4 f5 f6 f7 : Value} : q_p X (.inr (0, [f0, f1, f2, f3, f4, f5, f6, f7])) a 0 6 v d i pc LS ST M h = Rn X d i pc LS ST (va_up M a (.inr (0, [f0, f1, f2, f3, f4, f5, v, f7]))) h := q_p_s (Nat.lt_of_sub_pos (Nat.succ_pos _)) rfl
theorem q_g0_7 {f0 f1 f2 f3 f4 f5 f6 f7 : Value} : q_g X (.inr (0, [f0, f1, f2, f3, f4, f5, f6, f7])) 0 7 d i pc LS ST M h = Rn X d i pc LS (f7 :: ST) M h := q_g_s rfl
theorem q_p0_7 {a : Nat} {v : Value} {f0 f1 f2 f3 f4 f5 f6 f7 : Value} : q_p X (.inr (0, [f0, f1, f2, f3, f4, f5, f6, f7])) a 0 7 v d i pc LS ST M h = Rn X d i pc LS ST (va_up M a (.inr (0, [f0, f1, f2, f3, f4, f5, f6, v]))) h := q_p_s (Nat.lt_of_sub_pos (Nat.succ_pos _)) rfl
theorem q_g1_0 {f0 f1 f2 f3 f4 f5 f6 : Value} : q_g X (.inr (1, [f0, f1, f2, f3, f4, f5, f6])) 1 0 d i pc LS ST M h = Rn X d i pc LS (f0 :: ST) M h := q_g_s rfl
theorem q_p1_0 {a : Nat} {v : Value} {f0 f1 f2 f3 f4 f5 f6 : Value} : q_p X (.inr (1, [f0, f1, f2, f3, f4, f5, f6])) a 1 0 v d i pc LS ST M h = Rn X d i pc LS ST (va_up M a (.inr (1, [v, f1, f2, f3, f4, f5, f6]))) h := q_p_s (Nat.lt_of_sub_pos (Nat.succ_pos _)) rfl
theorem q_g1_1 {f0 f1 f2 f3 f4 f5 f6 : Value} : q_g X (.inr (1, [f0, f1, f2, f3, f4, f5, f6])) 1 1 d i pc LS ST M h = Rn X d i pc LS (f1 :: ST) M h := q_g_s rfl
theorem q_p1_1 {a : Nat} {v : Value} {f0 f1 f2 f3 f4 f5 f6 : Value} : q_p X (.inr (1, [f0, f1, f2, f3, f4, f5, f6])) a 1 1 v d i pc LS ST M h = Rn X d i pc LS ST (va_up M a (.inr (1, [f0, v, f2, f3, f4, f5, f6]))) h := q_p_s (Nat.lt_of_sub_pos (Nat.succ_pos _)) rfl
theorem q_g1_2 {f0 f1 f2 f3 f4 f5 f6 : Value} : q_g X (.inr (1, [f0, f1, f2, f3, f4, f5, f6])) 1 2 d i pc LS ST M h = Rn X d i pc LS (f2 :: ST) M h := q_g_s rfl
theorem q_p1_2 {a : Nat} {v : Value} {f0 f1 f2 f3 f4 f5 f6 : Value} : q_p X (.inr (1, [f0, f1, f2, f3, f4, f5, f6])) a 1 2 v d i pc LS ST M h = Rn X d i pc LS ST (va_up M a (.inr (1, [f0, f1, v, f3, f4, f5, f6]))) h := q_p_s (Nat.lt_of_sub_pos (Nat.succ_pos _)) rfl
theorem q_g1_3 {f0 f1 f2 f3 f4 f5 f6 : Value} : q_g X (.inr (1, [f0, f1, f2, f3, f4, f5, f6])) 1 3 d i pc LS ST M h = Rn X d i pc LS (f3 :: ST) M h := q_g_s rfl
theorem q_p1_3 {a : Nat} {v : Value} {f0 f1 f2 f3 f4 f5 f6 : Value} : q_p X (.inr (1, [f0, f1, f2, f3, f4, f5, f6])) a 1 3 v d i pc LS ST M h = Rn X d i pc LS ST (va_up M a (.inr (1, [f0, f1, f2, v, f4, f5, f6]))) h := q_p_s (Nat.lt_of_sub_pos (Nat.succ_pos _)) rfl
theorem q_g1_4 {f0 f1 f2 f3 f4 f5 f6 : Value} : q_g X (.inr (1, [f0, f1, f2, f3, f4, f5, f6])) 1 4 d i pc LS ST M h = Rn X d i pc LS (f4 :: ST) M h := q_g_s rfl
theorem q_p1_4 {a : Nat} {v : Value} {f0 f1 f2 f3 f4 f5 f6 : Value} : q_p X (.inr (1, [f0, f1, f2, f3, f4, f5, f6])) a 1 4 v d i pc LS ST M h = Rn X d i pc LS ST (va_up M a (.inr (1, [f0, f1, f2, f3, v, f5, f6]))) h := q_p_s (Nat.lt_of_sub_pos (Nat.succ_pos _)) rfl
theorem q_g1_5 {f0 f1 f2 f3 f4 f5 f6 : Value} : q_g X (.inr (1, [f0, f1, f2, f3, f4, f5, f6])) 1 5 d i pc LS ST M h = Rn X d i pc LS (f5 :: ST) M h := q_g_s rfl
theorem q_p1_5 {a : Nat} {v : Value} {f0 f1 f2 f3 f4 f5 f6 : Value} : q_p X (.inr (1, [f0, f1, f2, f3, f4, f5, f6])) a 1 5 v d i pc LS ST M h = Rn X d i pc LS ST (va_up M a (.inr (1, [f0, f1, f2, f3, f4, v, f6]))) h := q_p_s (Nat.lt_of_sub_pos (Nat.succ_pos _)) rfl
theorem q_g1_6 {f0 f1 f2 f3 f4 f5 f6 : Value} : q_g X (.inr (1, [f0, f1, f2, f3, f4, f5, f6])) 1 6 d i pc LS ST M h = Rn X d i pc LS (f6 :: ST) M h := q_g_s rfl
theorem q_p1_6 {a : Nat} {v : Value} {f0 f1 f2 f3 f4 f5 f6 : Value} : q_p X (.inr (1, [f0, f1, f2, f3, f4, f5, f6])) a 1 6 v d i pc LS ST M h = Rn X d i pc LS ST (va_up M a (.inr (1, [f0, f1, f2, f3, f4, f5, v]))) h := q_p_s (Nat.lt_of_sub_pos (Nat.succ_pos _)) rfl
theorem q_g2_0 {f0 f1 f2 f3 : Value} : q_g X (.inr (2, [f0, f1, f2, f3])) 2 0 d i pc LS ST M h = Rn X d i pc LS (f0 :: ST) M h := q_g_s rfl
theorem q_p2_0 {a : Nat} {v : Value} {f0 f1 f2 f3 : Value} : q_p X (.inr (2, [f0, f1, f2, f3])) a 2 0 v d i pc LS ST M h = Rn X d i pc LS ST (va_up M a (.inr (2, [v, f1, f2, f3]))) h := q_p_s (Nat.lt_of_sub_pos (Nat.succ_pos _)) rfl
theorem q_g2_1 {f0 f1 f2 f3 : Value} : q_g X (.inr (2, [f0, f1, f2, f3])) 2 1 d i pc LS ST M h = Rn X d i pc LS (f1 :: ST) M h := q_g_s rfl
theorem q_p2_1 {a : Nat} {v : Value} {f0 f1 f2 f3 : Value} : q_p X (.inr (2, [f0, f1, f2, f3])) a 2 1 v d i pc LS ST M h = Rn X d i pc LS ST (va_up M a (.inr (2, [f0, v, f2, f3]))) h := q_p_s (Nat.lt_of_sub_pos (Nat.succ_pos _)) rfl
theorem q_g2_2 {f0 f1 f2 f3 : Value} : q_g X (.inr (2, [f0, f1, f2, f3])) 2 2 d i pc LS ST M h = Rn X d i pc LS (f2 :: ST) M h := q_g_s rfl
theorem q_p2_2 {a : Nat} {v : Value} {f0 f1 f2 f3 : Value} : q_p X (.inr (2, [f0, f1, f2, f3])) a 2 2 v d i pc LS ST M h = Rn X d i pc LS ST (va_up M a (.inr (2, [f0, f1, v, f3]))) h := q_p_s (Nat.lt_of_sub_pos (Nat.succ_pos _)) rfl
theorem q_g2_3 {f0 f1 f2 f3 : Value} : q_g X (.inr (2, [f0, f1, f2, f3])) 2 3 d i pc LS ST M h = Rn X d i pc LS (f3 :: ST) M h := q_g_s rfl
theorem q_p2_3 {a : Nat} {v : Value} {f0 f1 f2 f3 : Value} : q_p X (.inr (2, [f0, f1, f2, f3])) a 2 3 v d i pc LS ST M h = Rn X d i pc LS ST (va_up M a (.inr (2, [f0, f1, f2, v]))) h := q_p_s (Nat.lt_of_sub_pos (Nat.succ_pos _)) rfl
theorem q_g3_0 {f0 f1 f2 f3 f4 f5 f6 : Value} : q_g X (.inr (3, [f0, f1, f2, f3, f4, f5, f6])) 3 0 d i pc LS ST M h = Rn X d i pc LS (f0 :: ST) M h := q_g_s rfl
theorem q_p3_0 {a : Nat} {v : Value} {f0 f1 f2 f3 f4 f5 f6 : Value} : q_p X (.inr (3, [f0, f1, f2, f3, f4, f5, f6])) a 3 0 v d i pc LS ST M h = Rn X d i pc LS ST (va_up M a (.inr (3, [v, f1, f2, f3, f4, f5, f6]))) h := q_p_s (Nat.lt_of_sub_pos (Nat.succ_pos _)) rfl
theorem q_g3_1 {f0 f1 f2 f3 f4 f5 f6 : Value} : q_g X (.inr (3, [f0, f1, f2, f3, f4, f5, f6])) 3 1 d i pc LS ST M h = Rn X d i pc LS (f1 :: ST) M h := q_g_s rfl
theorem q_p3_1 {a : Nat} {v : Value} {f0 f1 f2 f3 f4 f5 f6 : Value} : q_p X (.inr (3, [f0, f1, f2, f3, f4, f5, f6])) a 3 1 v d i pc LS ST M h = Rn X d i pc LS ST (va_up M a (.inr (3, [f0, v, f2, f3, f4, f5, f6]))) h := q_p_s (Nat.lt_of_sub_pos (Nat.succ_pos _)) rfl
theorem q_g3_2 {f0 f1 f2 f3 f4 f5 f6 : Value} : q_g X (.inr (3, [f0, f1, f2, f3, f4, f5, f6])) 3 2 d i pc LS ST M h = Rn X d i pc LS (f2 :: ST) M h := q_g_s rfl
theorem q_p3_2 {a : Nat} {v : Value} {f0 f1 f2 f3 f4 f5 f6 : Value} : q_p X (.inr (3, [f0, f1, f2, f3, f4, f5, f6])) a 3 2 v d i pc LS ST M h = Rn X d i pc LS ST (va_up M a (.inr (3, [f0, f1, v, f3, f4, f5, f6]))) h := q_p_s (Nat.lt_of_sub_pos (Nat.succ_pos _)) rfl
theorem q_g3_3 {f0 f1 f2 f3 f4 f5 f6 : Value} : q_g X (.inr (3, [f0, f1, f2, f3, f4, f5, f6])) 3 3 d i pc LS ST M h = Rn X d i pc LS (f3 :: ST) M h := q_g_s rfl
theorem q_p3_3 {a : Nat} {v : Value} {f0 f1 f2 f3 f4 f5 f6 : Value} : q_p X (.inr (3, [f0, f1, f2, f3, f4, f5, f6])) a 3 3 v d i pc LS ST M h = Rn X d i pc LS ST (va_up M a (.inr (3, [f0, f1, f2, v, f4, f5, f6]))) h := q_p_s (Nat.lt_of_sub_pos (Nat.succ_pos _)) rfl
theorem q_g3_4 {f0 f1 f2 f3 f4 f5 f6 : Value} : q_g X (.inr (3, [f0, f1, f2, f3, f4, f5, f6])) 3 4 d i pc LS ST M h = Rn X d i pc LS (f4 :: ST) M h := q_g_s rfl
theorem q_p3_4 {a : Nat} {v : Value} {f0 f1 f2 f3 f4 f5 f6 : Value} : q_p X (.inr (3, [f0, f1, f2, f3, f4, f5, f6])) a 3 4 v d i pc LS ST M h = Rn X d i pc LS ST (va_up M a (.inr (3, [f0, f1, f2, f3, v, f5, f6]))) h := q_p_s (Nat.lt_of_sub_pos (Nat.succ_pos _)) rfl
theorem q_g3_5 {f0 f1 f2 f3 f4 f5 f6 : Value} : q_g X (.inr (3, [f0, f1, f2, f3, f4, f5, f6])) 3 5 d i pc LS ST M h = Rn X d i pc LS (f5 :: ST) M h := q_g_s rfl
theorem q_p3_5 {a : Nat} {v : Value} {f0 f1 f2 f3 f4 f5 f6 : Value} : q_p X (.inr (3, [f0, f1, f2, f3, f4, f5, f6])) a 3 5 v d i pc LS ST M h = Rn X d i pc LS ST (va_up M a (.inr (3, [f0, f1, f2, f3, f4, v, f6]))) h := q_p_s (Nat.lt_of_sub_pos (Nat.succ_pos _)) rfl
theorem q_g3_6 {f0 f1 f2 f3 f4 f5 f6 : Value} : q_g X (.inr (3, [f0, f1, f2, f3, f4, f5, f6])) 3 6 d i pc LS ST M h = Rn X d i pc LS (f6 :: ST) M h := q_g_s rfl
theorem q_p3_6 {a : Nat} {v : Value} {f0 f1 f2 f3 f4 f5 f6 : Value} : q_p X (.inr (3, [f0, f1, f2, f3, f4, f5, f6])) a 3 6 v d i pc LS ST M h = Rn X d i pc LS ST (va_up M a (.inr (3, [f0, f1, f2, f3, f4, f5, v]))) h := q_p_s (Nat.lt_of_sub_pos (Nat.succ_pos _)) rfl
theorem q_g4_0 {f0 f1 f2 f3 f4 : Value} : q_g X (.inr (4, [f0, f1, f2, f3, f4])) 4 0 d i pc LS ST M h = Rn X d i pc LS (f0 :: ST) M h := q_g_s rfl
theorem q_p4_0 {a : Nat} {v : Value} {f0 f1 f2 f3 f4 : Value} : q_p X (.inr (4, [f0, f1, f2, f3, f4])) a 4 0 v d i pc LS ST M h = Rn X d i pc LS ST (va_up M a (.inr (4, [v, f1, f2, f3, f4]))) h := q_p_s (Nat.lt_of_sub_pos (Nat.succ_pos _)) rfl
theorem q_g4_1 {f0 f1 f2 f3 f4 : Value} : q_g X (.inr (4, [f0, f1, f2, f3, f4])) 4 1 d i pc LS ST M h = Rn X d i pc LS (f1 :: ST) M h := q_g_s rfl
theorem q_p4_1 {a : Nat} {v : Value} {f0 f1 f2 f3 f4 : Value} : q_p X (.inr (4, [f0, f1, f2, f3, f4])) a 4 1 v d i pc LS ST M h = Rn X d i pc LS ST (va_up M a (.inr (4, [f0, v, f2, f3, f4]))) h := q_p_s (Nat.lt_of_sub_pos (Nat.succ_pos _)) rfl
theorem q_g4_2 {f0 f1 f2 f3 f4 : Value} : q_g X (.inr (4, [f0, f1, f2, f3, f4])) 4 2 d i pc LS ST M h = Rn X d i pc LS (f2 :: ST) M h := q_g_s rfl
theorem q_p4_2 {a : Nat} {v : Value} {f0 f1 f2 f3 f4 : Value} : q_p X (.inr (4, [f0, f1, f2, f3, f4])) a 4 2 v d i pc LS ST M h = Rn X d i pc LS ST (va_up M a (.inr (4, [f0, f1, v, f3, f4]))) h := q_p_s (Nat.lt_of_sub_pos (Nat.succ_pos _)) rfl
theorem q_g4_3 {f0 f1 f2 f3 f4 : Value} : q_g X (.inr (4, [f0, f1, f2, f3, f4])) 4 3 d i pc LS ST M h = Rn X d i pc LS (f3 :: ST) M h := q_g_s rfl
theorem q_p4_3 {a : Nat} {v : Value} {f0 f1 f2 f3 f4 : Value} : q_p X (.inr (4, [f0, f1, f2, f3, f4])) a 4 3 v d i pc LS ST M h = Rn X d i pc LS ST (va_up M a (.inr (4, [f0, f1, f2, v, f4]))) h := q_p_s (Nat.lt_of_sub_pos (Nat.succ_pos _)) rfl
theorem q_g4_4 {f0 f1 f2 f3 f4 : Value} : q_g X (.inr (4, [f0, f1, f2, f3, f4])) 4 4 d i pc LS ST M h = Rn X d i pc LS (f4 :: ST) M h := q_g_s rfl
theorem q_p4_4 {a : Nat} {v : Value} {f0 f1 f2 f3 f4 : Value} : q_p X (.inr (4, [f0, f1, f2, f3, f4])) a 4 4 v d i pc LS ST M h = Rn X d i pc LS ST (va_up M a (.inr (4, [f0, f1, f2, f3, v]))) h := q_p_s (Nat.lt_of_sub_pos (Nat.succ_pos _)) rfl
theorem q_g5_0 {f0 f1 f2 f3 f4 f5 f6 f7 f8 f9 f10 f11 f12 f13 f14 f15 : Value} : q_g X (.inr (5, [f0, f1, f2, f3, f4, f5, f6, f7, f8, f9, f10, f11, f12, f13, f14, f15])) 5 0 d i pc LS ST M h = Rn X d i pc LS (f0 :: ST) M h := q_g_s rfl
theorem q_p5_0 {a : Nat} {v : Value} {f0 f1 f2 f3 f4 f5 f6 f7 f8 f9 f10 f11 f12 f13 f14 f15 : Value} : q_p X (.inr (5, [f0, f1, f2, f3, f4, f5, f6, f7, f8, f9, f10, f11, f12, f13, f14, f15])) a 5 0 v d i pc LS ST M h = Rn X d i pc LS ST (va_up M a (.inr (5, [v, f1, f2, f3, f4, f5, f6, f7, f8, f9, f10, f11, f12, f13, f14, f15]))) h := q_p_s (Nat.lt_of_sub_pos (Nat.succ_pos _)) rfl
theorem q_g5_1 {f0 f1 f2 f3 f4 f5 f6 f7 f8 f9 f10 f11 f12 f13 f14 f15 : Value} : q_g X (.inr (5, [f0, f1, f2, f3, f4, f5, f6, f7, f8, f9, f10, f11, f12, f13, f14, f15])) 5 1 d i pc LS ST M h = Rn X d i pc LS (f1 :: ST) M h := q_g_s rfl
theorem q_p5_1 {a : Nat} {v : Value} {f0 f1 f2 f3 f4 f5 f6 f7 f8 f9 f10 f11 f12 f13 f14 f15 : Value} : q_p X (.inr (5, [f0, f1, f2, f3, f4, f5, f6, f7, f8, f9, f10, f11, f12, f13, f14, f15])) a 5 1 v d i pc LS ST M h = Rn X d i pc LS ST (va_up M a (.inr (5, [f0, v, f2, f3, f4, f5, f6, f7, f8, f9, f10, f11, f12, f13, f14, f15]))) h := q_p_s (Nat.lt_of_sub_pos (Nat.succ_pos _)) rfl
theorem q_g5_2 {f0 f1 f2 f3 f4 f5 f6 f7 f8 f9 f10 f11 f12 f13 f14 f15 : Value} : q_g X (.inr (5, [f0, f1, f2, f3, f4, f5, f6, f7, f8, f9, f10, f11, f12, f13, f14, f15])) 5 2 d i pc LS ST M h = Rn X d i pc LS (f2 :: ST) M h := q_g_s rfl
theorem q_p5_2 {a : Nat} {v : Value} {f0 f1 f2 f3 f4 f5 f6 f7 f8 f9 f10 f11 f12 f13 f14 f15 : Value} : q_p X (.inr (5, [f0, f1, f2, f3, f4, f5, f6, f7, f8, f9, f10, f11, f12, f13, f14, f15])) a 5 2 v d i pc LS ST M h = Rn X d i pc LS ST (va_up M a (.inr (5, [f0, f1, v, f3, f4, f5, f6, f7, f8, f9, f10, f11, f12, f13, f14, f15]))) h := q_p_s (Nat.lt_of_sub_pos (Nat.succ_pos _)) rfl
theorem q_g5_3 {f0 f1 f2 f3 f4 f5 f6 f7 f8 f9 f10 f11 f12 f13 f14 f15 : Value} : q_g X (.inr (5, [f0, f1, f2, f3, f4, f5, f6, f7, f8, f9, f10, f11, f12, f13, f14, f15])) 5 3 d i pc LS ST M h = Rn X d i pc LS (f3 :: ST) M h := q_g_s rfl
theorem q_p5_3 {a : Nat} {v : Value} {f0 f1 f2 f3 f4 f5 f6 f7 f8 f9 f10 f11 f12 f13 f14 f15 : Value} : q_p X (.inr (5, [f0, f1, f2, f3, f4, f5, f6, f7, f8, f9, f10, f11, f12, f13, f14, f15])) a 5 3 v d i pc LS ST M h = Rn X d i pc LS ST (va_up M a (.inr (5, [f0, f1, f2, v, f4, f5, f6, f7, f8, f9, f10, f11, f12, f13, f14, f15]))) h := q_p_s (Nat.lt_of_sub_pos (Nat.succ_pos _)) rfl
theorem q_g5_4 {f0 f1 f2 f3 f4 f5 f6 f7 f8 f9 f10 f11 f12 f13 f14 f15 : Value} : q_g X (.inr (5, [f0, f1, f2, f3, f4, f5, f6, f7, f8, f9, f10, f11, f12, f13, f14, f15])) 5 4 d i pc LS ST M h = Rn X d i pc LS (f4 :: ST) M h := q_g_s rfl
theorem q_p5_4 {a : Nat} {v : Value} {f0 f1 f2 f3 f4 f5 f6 f7 f8 f9 f10 f11 f12 f13 f14 f15 : Value} : q_p X (.inr (5, [f0, f1, f2, f3, f4, f5, f6, f7, f8, f9, f10, f11, f12, f13, f14, f15])) a 5 4 v d i pc LS ST M h = Rn X d i pc LS ST (va_up M a (.inr (5, [f0, f1, f2, f3, v, f5, f6, f7, f8, f9, f10, f11, f12, f13, f14, f15]))) h := q_p_s (Nat.lt_of_sub_pos (Nat.succ_pos _)) rfl
theorem q_g5_5 {f0 f1 f2 f3 f4 f5 f6 f7 f8 f9 f10 f11 f12 f13 f14 f15 : Value} : q_g X (.inr (5, [f0, f1, f2, f3, f4, f5, f6, f7, f8, f9, f10, f11, f12, f13, f14, f15])) 5 5 d i pc LS ST M h = Rn X d i pc LS (f5 :: ST) M h := q_g_s rfl
theorem q_p5_5 {a : Nat} {v : Value} {f0 f1 f2 f3 f4 f5 f6 f7 f8 f9 f10 f11 f12 f13 f14 f15 : Value} : q_p X (.inr (5, [f0, f1, f2, f3, f4, f5, f6, f7, f8, f9, f10, f11, f12, f13, f14, f15])) a 5 5 v d i pc LS ST M h = Rn X d i pc LS ST (va_up M a (.inr (5, [f0, f1, f2, f3, f4, v, f6, f7, f8, f9, f10, f11, f12, f13, f14, f15]))) h := q_p_s (Nat.lt_of_sub_pos (Nat.succ_pos _)) rfl
theorem q_g5_6 {f0 f1 f2 f3 f4 f5 f6 f7 f8 f9 f10 f11 f12 f13 f14 f15 : Value} : q_g X (.inr (5, [f0, f1, f2, f3, f4, f5, f6, f7, f8, f9, f10, f11, f12, f13, f14, f15])) 5 6 d i pc LS ST M h = Rn X d i pc LS (f6 :: ST) M h := q_g_s rfl
theorem q_p5_6 {a : Nat} {v : Value} {f0 f1 f2 f3 f4 f5 f6 f7 f8 f9 f10 f11 f12 f13 f14 f15 : Value} : q_p X (.inr (5, [f0, f1, f2, f3, f4, f5, f6, f7, f8, f9, f10, f11, f12, f13, f14, f15])) a 5 6 v d i pc LS ST M h = Rn X d i pc LS ST (va_up M a (.inr (5, [f0, f1, f2, f3, f4, f5, v, f7, f8, f9, f10, f11, f12, f13, f14, f15]))) h := q_p_s (Nat.lt_of_sub_pos (Nat.succ_pos _)) rfl
theorem q_g5_7 {f0 f1 f2 f3 f4 f5 f6 f7 f8 f9 f10 f11 f12 f13 f14 f15 : Value} : q_g X (.inr (5, [f0, f1, f2, f3, f4, f5, f6, f7, f8, f9, f10, f11, f12, f13, f14, f15])) 5 7 d i pc LS ST M h = Rn X d i pc LS (f7 :: ST) M h := q_g_s rfl
theorem q_p5_7 {a : Nat} {v : Value} {f0 f1 f2 f3 f4 f5 f6 f7 f8 f9 f10 f11 f12 f13 f14 f15 : Value} : q_p X (.inr (5, [f0, f1, f2, f3, f4, f5, f6, f7, f8, f9, f10, f11, f12, f13, f14, f15])) a 5 7 v d i pc LS ST M h = Rn X d i pc LS ST (va_up M a (.inr (5, [f0, f1, f2, f3, f4, f5, f6, v, f8, f9, f10, f11, f12, f13, f14, f15]))) h := q_p_s (Nat.lt_of_sub_pos (Nat.succ_pos _)) rfl
theorem q_g5_8 {f0 f1 f2 f3 f4 f5 f6 f7 f8 f9 f10 f11 f12 f13 f14 f15 : Value} : q_g X (.inr (5, [f0, f1, f2, f3, f4, f5, f6, f7, f8, f9, f10, f11, f12, f13, f14, f15])) 5 8 d i pc LS ST M h = Rn X d i pc LS (f8 :: ST) M h := q_g_s rfl
theorem q_p5_8 {a : Nat} {v : Value} {f0 f1 f2 f3 f4 f5 f6 f7 f8 f9 f10 f11 f12 f13 f14 f15 : Value} : q_p X (.inr (5, [f0, f1, f2, f3, f4, f5, f6, f7, f8, f9, f10, f11, f12, f13, f14, f15])) a 5 8 v d i pc LS ST M h = Rn X d i pc LS ST (va_up M a (.inr (5, [f0, f1, f2, f3, f4, f5, f6, f7, v, f9, f10, f11, f12, f13, f14, f15]))) h := q_p_s (Nat.lt_of_sub_pos (Nat.succ_pos _)) rfl
theorem q_g5_9 {f0 f1 f2 f3 f4 f5 f6 f7 f8 f9 f10 f11 f12 f13 f14 f15 : Value} : q_g X (.inr (5, [f0, f1, f2, f3, f4, f5, f6, f7, f8, f9, f10, f11, f12, f13, f14, f15])) 5 9 d i pc LS ST M h = Rn X d i pc LS (f9 :: ST) M h := q_g_s rfl
theorem q_p5_9 {a : Nat} {v : Value} {f0 f1 f2 f3 f4 f5 f6 f7 f8 f9 f10 f11 f12 f13 f14 f15 : Value} : q_p X (.inr (5, [f0, f1, f2, f3, f4, f5, f6, f7, f8, f9, f10, f11, f12, f13, f14, f15])) a 5 9 v d i pc LS ST M h = Rn X d i pc LS ST (va_up M a (.inr (5, [f0, f1, f2, f3, f4, f5, f6, f7, f8, v, f10, f11, f12, f13, f14, f15]))) h := q_p_s (Nat.lt_of_sub_pos (Nat.succ_pos _)) rfl
theorem q_g5_10 {f0 f1 f2 f3 f4 f5 f6 f7 f8 f9 f10 f11 f12 f13 f14 f15 : Value} : q_g X (.inr (5, [f0, f1, f2, f3, f4, f5, f6, f7, f8, f9, f10, f11, f12, f13, f14, f15])) 5 10 d i pc LS ST M h = Rn X d i pc LS (f10 :: ST) M h := q_g_s rfl
theorem q_p5_10 {a : Nat} {v : Value} {f0 f1 f2 f3 f4 f5 f6 f7 f8 f9 f10 f11 f12 f13 f14 f15 : Value} : q_p X (.inr (5, [f0, f1, f2, f3, f4, f5, f6, f7, f8, f9, f10, f11, f12, f13, f14, f15])) a 5 10 v d i pc LS ST M h = Rn X d i pc LS ST (va_up M a (.inr (5, [f0, f1, f2, f3, f4, f5, f6, f7, f8, f9, v, f11, f12, f13, f14, f15]))) h := q_p_s (Nat.lt_of_sub_pos (Nat.succ_pos _)) rfl
theorem q_g5_11 {f0 f1 f2 f3 f4 f5 f6 f7 f8 f9 f10 f11 f12 f13 f14 f15 : Value} : q_g X (.inr (5, [f0, f1, f2, f3, f4, f5, f6, f7, f8, f9, f10, f11, f12, f13, f14, f15])) 5 11 d i pc LS ST M h = Rn X d i pc LS (f11 :: ST) M h := q_g_s rfl
theorem q_p5_11 {a : Nat} {v : Value} {f0 f1 f2 f3 f4 f5 f6 f7 f8 f9 f10 f11 f12 f13 f14 f15 : Value} : q_p X (.inr (5, [f0, f1, f2, f3, f4, f5, f6, f7, f8, f9, f10, f11, f12, f13, f14, f15])) a 5 11 v d i pc LS ST M h = Rn X d i pc LS ST (va_up M a (.inr (5, [f0, f1, f2, f3, f4, f5, f6, f7, f8, f9, f10, v, f12, f13, f14, f15]))) h := q_p_s (Nat.lt_of_sub_pos (Nat.succ_pos _)) rfl
theorem q_g5_12 {f0 f1 f2 f3 f4 f5 f6 f7 f8 f9 f10 f11 f12 f13 f14 f15 : Value} : q_g X (.inr (5, [f0, f1, f2, f3, f4, f5, f6, f7, f8, f9, f10, f11, f12, f13, f14, f15])) 5 12 d i pc LS ST M h = Rn X d i pc LS (f12 :: ST) M h := q_g_s rfl
theorem q_p5_12 {a : Nat} {v : Value} {f0 f1 f2 f3 f4 f5 f6 f7 f8 f9 f10 f11 f12 f13 f14 f15 : Value} : q_p X (.inr (5, [f0, f1, f2, f3, f4, f5, f6, f7, f8, f9, f10, f11, f12, f13, f14, f15])) a 5 12 v d i pc LS ST M h = Rn X d i pc LS ST (va_up M a (.inr (5, [f0, f1, f2, f3, f4, f5, f6, f7, f8, f9, f10, f11, v, f13, f14, f15]))) h := q_p_s (Nat.lt_of_sub_pos (Nat.succ_pos _)) rfl
theorem q_g5_13 {f0 f1 f2 f3 f4 f5 f6 f7 f8 f9 f10 f11 f12 f13 f14 f15 : Value} : q_g X (.inr (5, [f0, f1, f2, f3, f4, f5, f6, f7, f8, f9, f10, f11, f12, f13, f14, f15])) 5 13 d i pc LS ST M h = Rn X d i pc LS (f13 :: ST) M h := q_g_s rfl
theorem q_p5_13 {a : Nat} {v : Value} {f0 f1 f2 f3 f4 f5 f6 f7 f8 f9 f10 f11 f12 f13 f14 f15 : Value} : q_p X (.inr (5, [f0, f1, f2, f3, f4, f5, f6, f7, f8, f9, f10, f11, f12, f13, f14, f15])) a 5 13 v d i pc LS ST M h = Rn X d i pc LS ST (va_up M a (.inr (5, [f0, f1, f2, f3, f4, f5, f6, f7, f8, f9, f10, f11, f12, v, f14, f15]))) h := q_p_s (Nat.lt_of_sub_pos (Nat.succ_pos _)) rfl
theorem q_g5_14 {f0 f1 f2 f3 f4 f5 f6 f7 f8 f9 f10 f11 f12 f13 f14 f15 : Value} : q_g X (.inr (5, [f0, f1, f2, f3, f4, f5, f6, f7, f8, f9, f10, f11, f12, f13, f14, f15])) 5 14 d i pc LS ST M h = Rn X d i pc LS (f14 :: ST) M h := q_g_s rfl
theorem q_p5_14 {a : Nat} {v : Value} {f0 f1 f2 f3 f4 f5 f6 f7 f8 f9 f10 f11 f12 f13 f14 f15 : Value} : q_p X (.inr (5, [f0, f1, f2, f3, f4, f5, f6, f7, f8, f9, f10, f11, f12, f13, f14, f15])) a 5 14 v d i pc LS ST M h = Rn X d i pc LS ST (va_up M a (.inr (5, [f0, f1, f2, f3, f4, f5, f6, f7, f8, f9, f10, f11, f12, f13, v, f15]))) h := q_p_s (Nat.lt_of_sub_pos (Nat.succ_pos _)) rfl
theorem q_g5_15 {f0 f1 f2 f3 f4 f5 f6 f7 f8 f9 f10 f11 f12 f13 f14 f15 : Value} : q_g X (.inr (5, [f0, f1, f2, f3, f4, f5, f6, f7, f8, f9, f10, f11, f12, f13, f14, f15])) 5 15 d i pc LS ST M h = Rn X d i pc LS (f15 :: ST) M h := q_g_s rfl
theorem q_p5_15 {a : Nat} {v : Value} {f0 f1 f2 f3 f4 f5 f6 f7 f8 f9 f10 f11 f12 f13 f14 f15 : Value} : q_p X (.inr (5, [f0, f1, f2, f3, f4, f5, f6, f7, f8, f9, f10, f11, f12, f13, f14, f15])) a 5 15 v d i pc LS ST M h = Rn X d i pc LS ST (va_up M a (.inr (5, [f0, f1, f2, f3, f4, f5, f6, f7, f8, f9, f10, f11, f12, f13, f14, v]))) h := q_p_s (Nat.lt_of_sub_pos (Nat.succ_pos _)) rfl
end
