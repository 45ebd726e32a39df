/-! the rules in the forms above -/
section
variable {X : jX} {d i pc pc' : Nat} {LS LS' LE : jL} {ST : List Value} {M : jM} {h : jH} {me mf : jMe}
theorem s_ifeq {x : Int32} {off : Int} {tgt : Nat} (hme : j_mt[i]? = some me) (hd : decode me.2.2.1 pc = .ok (.ifCond .eq off, 3)) (ht : (pc : Int) + off = (tgt : Int)) : Rn X d i pc LS (.int x :: ST) M h = q_eq X x (zN 0) d i tgt (pc + 3) LS ST M h := r_ifeq hme hd ht
theorem s_ifne {x : Int32} {off : Int} {tgt : Nat} (hme : j_mt[i]? = some me) (hd : decode me.2.2.1 pc = .ok (.ifCond .ne off, 3)) (ht : (pc : Int) + off = (tgt : Int)) : Rn X d i pc LS (.int x :: ST) M h = q_eq X x (zN 0) d i (pc + 3) tgt LS ST M h := r_ifne hme hd ht
theorem s_iflt {x : Int32} {off : Int} {tgt : Nat} (hme : j_mt[i]? = some me) (hd : decode me.2.2.1 pc = .ok (.ifCond .lt off, 3)) (ht : (pc : Int) + off = (tgt : Int)) : Rn X d i pc LS (.int x :: ST) M h = q_lt X x (zN 0) d i tgt (pc + 3) LS ST M h := r_iflt hme hd ht
theorem s_ifle {x : Int32} {off : Int} {tgt : Nat} (hme : j_mt[i]? = some me) (hd : decode me.2.2.1 pc = .ok (.ifCond .le off, 3)) (ht : (pc : Int) + off = (tgt : Int)) : Rn X d i pc LS (.int x :: ST) M h = q_le X x (zN 0) d i tgt (pc + 3) LS ST M h := r_ifle hme hd ht
theorem s_ifgt {x : Int32} {off : Int} {tgt : Nat} (hme : j_mt[i]? = some me) (hd : decode me.2.2.1 pc = .ok (.ifCond .gt off, 3)) (ht : (pc : Int) + off = (tgt : Int)) : Rn X d i pc LS (.int x :: ST) M h = q_lt X (zN 0) x d i tgt (pc + 3) LS ST M h := r_ifgt hme hd ht
theorem s_iceq {x y : Int32} {off : Int} {tgt : Nat} (hme : j_mt[i]? = some me) (hd : decode me.2.2.1 pc = .ok (.if_icmp .eq off, 3)) (ht : (pc : Int) + off = (tgt : Int)) : Rn X d i pc LS (.int y :: .int x :: ST) M h = q_eq X x y d i tgt (pc + 3) LS ST M h := r_iceq hme hd ht
theorem s_icne {x y : Int32} {off : Int} {tgt : Nat} (hme : j_mt[i]? = some me) (hd : decode me.2.2.1 pc = .ok (.if_icmp .ne off, 3)) (ht : (pc : Int) + off = (tgt : Int)) : Rn X d i pc LS (.int y :: .int x :: ST) M h = q_eq X x y d i (pc + 3) tgt LS ST M h := r_icne hme hd ht
theorem s_iclt {x y : Int32} {off : Int} {tgt : Nat} (hme : j_mt[i]? = some me) (hd : decode me.2.2.1 pc = .ok (.if_icmp .lt off, 3)) (ht : (pc : Int) + off = (tgt : Int)) : Rn X d i pc LS (.int y :: .int x :: ST) M h = q_lt X x y d i tgt (pc + 3) LS ST M h := r_iclt hme hd ht
theorem s_icge {x y : Int32} {off : Int} {tgt : Nat} (hme : j_mt[i]? = some me) (hd : decode me.2.2.1 pc = .ok (.if_icmp .ge off, 3)) (ht : (pc : Int) + off = (tgt : Int)) : Rn X d i pc LS (.int y :: .int x :: ST) M h = q_le X y x d i tgt (pc + 3) LS ST M h := r_icge hme hd ht
theorem s_icgt {x y : Int32} {off : Int} {tgt : Nat} (hme : j_mt[i]? = some me) (hd : decode me.2.2.1 pc = .ok (.if_icmp .gt off, 3)) (ht : (pc : Int) + off = (tgt : Int)) : Rn X d i pc LS (.int y :: .int x :: ST) M h = q_lt X y x d i tgt (pc + 3) LS ST M h := r_icgt hme hd ht
theorem s_icle {x y : Int32} {off : Int} {tgt : Nat} (hme : j_mt[i]? = some me) (hd : decode me.2.2.1 pc = .ok (.if_icmp .le off, 3)) (ht : (pc : Int) + off = (tgt : Int)) : Rn X d i pc LS (.int y :: .int x :: ST) M h = q_le X x y d i tgt (pc + 3) LS ST M h := r_icle hme hd ht
theorem s_acne {a b : Nat} {off : Int} {tgt : Nat} (hme : j_mt[i]? = some me) (hd : decode me.2.2.1 pc = .ok (.if_acmp .ne off, 3)) (ht : (pc : Int) + off = (tgt : Int)) : Rn X d i pc LS (.ref b :: .ref a :: ST) M h = q_ac X a b d i (pc + 3) tgt LS ST M h := r_acne hme hd ht
theorem s_get {idx c k a : Nat} (hme : j_mt[i]? = some me) (hd : decode me.2.2.1 pc = .ok (.getfield idx, 3)) (hf : j_fl me.1 idx = some (c, k)) : Rn X d i pc LS (.ref a :: ST) M h = q_g X (M a) c k d i (pc + 3) LS ST M h := r_get hme hd hf
theorem s_putN {idx c k a : Nat} {v : Value} (hme : j_mt[i]? = some me) (hd : decode me.2.2.1 pc = .ok (.putfield idx, 3)) (hf : j_fl me.1 idx = some (c, k)) (h1 : (j_T c k).2.2.2 = false) (h2 : narrow (j_ty c k) v = v) (h3 : fits (j_ty c k) v = true) : Rn X d i pc LS (v :: .ref a :: ST) M h = q_p X (M a) a c k v d i (pc + 3) LS ST M h :=
  r_put hme hd hf ⟨by rw [h1, Bool.and_false], h2, h3⟩
theorem s_putF {idx c k a : Nat} {v : Value} (hme : j_mt[i]? = some me) (hd : decode me.2.2.1 pc = .ok (.putfield idx, 3)) (hf : j_fl me.1 idx = some (c, k)) (h0 : (c == me.1) = true) (h1 : (me.2.1.name == "<init>") = true) (h2 : narrow (j_ty c k) v = v) (h3 : fits (j_ty c k) v = true) : Rn X d i pc LS (v :: .ref a :: ST) M h = q_p X (M a) a c k v d i (pc + 3) LS ST M h :=
  r_put hme hd hf ⟨by rw [h0, h1]; rfl, h2, h3⟩
theorem zN_b {a : Nat} (h : a < 2) : zN a &&& 1 = zN a := by
  obtain rfl | rfl : a = 0 ∨ a = 1 := by omega
  · decide
  · decide
theorem zN_nb {a : Nat} (h : a < 2) : narrow .boolean (.int (zN a)) = .int (zN a) := by
  obtain rfl | rfl : a = 0 ∨ a = 1 := by omega
  · decide
  · decide
theorem s_zret {a : Nat} (hme : j_mt[i]? = some me) (hd : decode me.2.2.1 pc = .ok (.ireturn, 1)) (hr : me.2.2.2.2.1 = some .boolean) (ha : a < 2) : Rn X d i pc LS [.int (zN a)] M h = some (.inl (some (.int (zN a))), M, h) := r_zret hme hd hr (zN_b ha)
theorem s_idiv {x y : Int32} (hme : j_mt[i]? = some me) (hd : decode me.2.2.1 pc = .ok (.idiv, 1)) : Rn X d i pc LS (.int y :: .int x :: ST) M h = q_dv X x y d i (pc + 1) LS ST M h := r_idiv hme hd
theorem s_irem {x y : Int32} (hme : j_mt[i]? = some me) (hd : decode me.2.2.1 pc = .ok (.irem, 1)) : Rn X d i pc LS (.int y :: .int x :: ST) M h = q_rm X x y d i (pc + 1) LS ST M h := r_irem hme hd
theorem s_iald {a : Nat} {x : Int32} (hme : j_mt[i]? = some me) (hd : decode me.2.2.1 pc = .ok (.iaload, 1)) : Rn X d i pc LS (.int x :: .ref a :: ST) M h = q_ld X (M a) a x d i (pc + 1) LS ST M h := r_iald hme hd
theorem s_bald {a : Nat} {x : Int32} (hme : j_mt[i]? = some me) (hd : decode me.2.2.1 pc = .ok (.baload, 1)) : Rn X d i pc LS (.int x :: .ref a :: ST) M h = q_lB X (M a) x d i (pc + 1) LS ST M h := r_bald hme hd
theorem s_aald {a : Nat} {x : Int32} (hme : j_mt[i]? = some me) (hd : decode me.2.2.1 pc = .ok (.aaload, 1)) : Rn X d i pc LS (.int x :: .ref a :: ST) M h = q_lQ X (M a) x d i (pc + 1) LS ST M h := r_aald hme hd
theorem s_iast {a : Nat} {x y : Int32} (hme : j_mt[i]? = some me) (hd : decode me.2.2.1 pc = .ok (.iastore, 1)) : Rn X d i pc LS (.int y :: .int x :: .ref a :: ST) M h = q_st X (M a) a x y d i (pc + 1) LS ST M h := r_iast hme hd
theorem s_bast {a : Nat} {x y : Int32} (hme : j_mt[i]? = some me) (hd : decode me.2.2.1 pc = .ok (.bastore, 1)) : Rn X d i pc LS (.int y :: .int x :: .ref a :: ST) M h = q_sB X (M a) a x y d i (pc + 1) LS ST M h := r_bast hme hd
theorem s_aast {a v : Nat} {x : Int32} (hme : j_mt[i]? = some me) (hd : decode me.2.2.1 pc = .ok (.aastore, 1)) : Rn X d i pc LS (.ref v :: .int x :: .ref a :: ST) M h = q_sQ X (M a) (M v) a x v d i (pc + 1) LS ST M h := r_aast hme hd
theorem s_cpy {idx t s e : Nat} {n dp sp : Int32} (hme : j_mt[i]? = some me) (hd : decode me.2.2.1 pc = .ok (.invokestatic idx, 3)) (hcl : j_cl me.1 idx = some (7, t)) : Rn X (d + 1) i pc LS [.int n, .int dp, .ref e, .int sp, .ref s] M h = q_cp X (M s) (M e) e sp dp n (d + 1) i (pc + 3) LS M h := r_cpy hme hd hcl
theorem s_alen (hme : j_mt[i]? = some me) (hd : decode me.2.2.1 pc = .ok (.arraylength, 1)) : Rn X d i pc LS (.ref 1000000 :: ST) M h = Rn X d i (pc + 1) LS (.int (zN X.1) :: ST) M h := by
  rw [r_alen hme hd, zN_ofNat]
theorem s_callV {idx t a na ci : Nat} {as : List Value} (hme : j_mt[i]? = some me) (hd : decode me.2.2.1 pc = .ok (.invokevirtual idx, 3)) (hcl : j_cl me.1 idx = some (0, t)) (hmf : j_mt[t]? = some mf) (hna : mf.2.2.2.2.2.1 = na) (hci : mf.1 = ci) (hn : na ≤ ST.length) (ha : (ST.take na).reverse = .ref a :: as) (hl : Nat.ble (j_sl (.ref a :: as)).length mf.2.2.2.1 = true) (he : j_ent mf.2.2.2.1 (.ref a :: as) = LE) (hh : me.2.2.2.2.2.2 = []) (hcs : Nat.ble (j_cs (ST.drop na)) 8 = true) :
    Rn X (d + 1) i pc LS ST M h = j_rc (M a) ci (q_k X (Rn X d t 0 LE [] M (j_h0 h)) h (d + 1) i (pc + 3) LS (ST.drop na)) := by
  subst hna hci he
  rw [r_callV hme hd hcl hmf hn (Nat.le_of_ble_eq_true hcs) ha (Nat.le_of_ble_eq_true hl), hh]
  rfl
theorem s_callC {idx t a na ci : Nat} {as : List Value} (hme : j_mt[i]? = some me) (hd : decode me.2.2.1 pc = .ok (.invokevirtual idx, 3)) (hcl : j_cl me.1 idx = some (0, t)) (hmf : j_mt[t]? = some mf) (hna : mf.2.2.2.2.2.1 = na) (hci : mf.1 = ci) (hn : na ≤ ST.length) (ha : (ST.take na).reverse = .ref a :: as) (hl : Nat.ble (j_sl (.ref a :: as)).length mf.2.2.2.1 = true) (he : j_ent mf.2.2.2.1 (.ref a :: as) = LE) (hh : me.2.2.2.2.2.2 ≠ []) (hcs : Nat.ble (j_cs (ST.drop na)) 8 = true) :
    Rn X (d + 1) i pc LS ST M h = j_rc (M a) ci (q_kc X (Rn X d t 0 LE [] M (j_h0 h)) h me (d + 1) i pc (pc + 3) LS (ST.drop na)) := by
  subst hna hci he
  rw [r_callV hme hd hcl hmf hn (Nat.le_of_ble_eq_true hcs) ha (Nat.le_of_ble_eq_true hl)]
  unfold q_kc
  congr 2
  funext E M h
  split
  · rename_i e
    exact absurd e hh
  · rfl
theorem s_callI {idx t a na ci kd : Nat} {as : List Value} (hkd : kd = 3 ∨ kd = 4) (hme : j_mt[i]? = some me) (hd : decode me.2.2.1 pc = .ok (.invokespecial idx, 3)) (hcl : j_cl me.1 idx = some (kd, t)) (hmf : j_mt[t]? = some mf) (hna : mf.2.2.2.2.2.1 = na) (hci : mf.1 = ci) (hn : na ≤ ST.length) (ha : (ST.take na).reverse = .ref a :: as) (hl : Nat.ble (j_sl (.ref a :: as)).length mf.2.2.2.1 = true) (he : j_ent mf.2.2.2.1 (.ref a :: as) = LE) (hh : me.2.2.2.2.2.2 = []) (hcs : Nat.ble (j_cs (ST.drop na)) 8 = true) :
    Rn X (d + 1) i pc LS ST M h = j_rc (M a) ci (q_k X (Rn X d t 0 LE [] M (j_h0 h)) h (d + 1) i (pc + 3) LS (ST.drop na)) := by
  subst hna hci he
  rw [r_callI hkd hme hd hcl hmf hn (Nat.le_of_ble_eq_true hcs) ha (Nat.le_of_ble_eq_true hl), hh]
  rfl
theorem s_callS {idx t na kd : Nat} {as : List Value} (hkd : kd = 1 ∨ kd = 2 ∨ kd = 5) (hme : j_mt[i]? = some me) (hd : decode me.2.2.1 pc = .ok (.invokestatic idx, 3)) (hcl : j_cl me.1 idx = some (kd, t)) (hmf : j_mt[t]? = some mf) (hna : mf.2.2.2.2.2.1 = na) (hn : na ≤ ST.length) (ha : (ST.take na).reverse = as) (hl : Nat.ble (j_sl as).length mf.2.2.2.1 = true) (he : j_ent mf.2.2.2.1 as = LE) (hh : me.2.2.2.2.2.2 = []) (hcs : Nat.ble (j_cs (ST.drop na)) 8 = true) :
    Rn X (d + 1) i pc LS ST M h = q_k X (Rn X d t 0 LE [] M (j_h0 h)) h (d + 1) i (pc + 3) LS (ST.drop na) := by
  subst hna he
  rw [r_callS hkd hme hd hcl hmf hn (Nat.le_of_ble_eq_true hcs) ha (Nat.le_of_ble_eq_true hl), hh]
  rfl
theorem s_obj {idx t a : Nat} (hme : j_mt[i]? = some me) (hd : decode me.2.2.1 pc = .ok (.invokespecial idx, 3)) (hcl : j_cl me.1 idx = some (6, t)) (hcs : Nat.ble (j_cs ST) 8 = true) : Rn X (d + 1) i pc LS (.ref a :: ST) M h = Rn X (d + 1) i (pc + 3) LS ST M h := r_obj hme hd hcl (Nat.le_of_ble_eq_true hcs)
theorem s_max {idx t a b : Nat} (hme : j_mt[i]? = some me) (hd : decode me.2.2.1 pc = .ok (.invokestatic idx, 3)) (hcl : j_cl me.1 idx = some (8, t)) (ha : a < 2147483648) (hb : b < 2147483648) (hcs : Nat.ble (j_cs ST) 8 = true) : Rn X (d + 1) i pc LS (.int (zN b) :: .int (zN a) :: ST) M h = Rn X (d + 1) i (pc + 3) LS (.int (zN (max a b)) :: ST) M h := by
  rw [r_max hme hd hcl (Nat.le_of_ble_eq_true hcs)]
  congr 3
  by_cases q : a < b
  · rw [if_pos ((zN_lt ha hb).mpr q), Nat.max_eq_right (by omega)]
  · rw [if_neg (fun q' => q ((zN_lt ha hb).mp q')), Nat.max_eq_left (by omega)]
theorem s_maxM {idx t a b : Nat} (hme : j_mt[i]? = some me) (hd : decode me.2.2.1 pc = .ok (.invokestatic idx, 3)) (hcl : j_cl me.1 idx = some (8, t)) (ha : a < 2147483648) (hb : b < 2147483648) (hcs : Nat.ble (j_cs ST) 8 = true) : Rn X (d + 1) i pc LS (.int (zN b) :: .int (zM a) :: ST) M h = Rn X (d + 1) i (pc + 3) LS (.int (zN b) :: ST) M h := by
  rw [r_max hme hd hcl (Nat.le_of_ble_eq_true hcs), if_pos (zM_lt_zN ha hb)]
theorem s_min {idx t a b : Nat} (hme : j_mt[i]? = some me) (hd : decode me.2.2.1 pc = .ok (.invokestatic idx, 3)) (hcl : j_cl me.1 idx = some (9, t)) (ha : a < 2147483648) (hb : b < 2147483648) (hcs : Nat.ble (j_cs ST) 8 = true) : Rn X (d + 1) i pc LS (.int (zN b) :: .int (zN a) :: ST) M h = Rn X (d + 1) i (pc + 3) LS (.int (zN (min a b)) :: ST) M h := by
  rw [r_min hme hd hcl (Nat.le_of_ble_eq_true hcs)]
  congr 3
  by_cases q : b < a
  · rw [if_pos ((zN_lt hb ha).mpr q), Nat.min_eq_right (by omega)]
  · rw [if_neg (fun q' => q ((zN_lt hb ha).mp q')), Nat.min_eq_left (by omega)]
theorem s_newI {n c z a : Nat} (hme : j_mt[i]? = some me) (hd : decode me.2.2.1 pc = .ok (.newarray .int, 2)) (hn : n < 1000) (hx : a ≤ 1000) : Rn X d i pc LS (.int (zN a) :: ST) M (n, true, c, z) = Rn X d i (pc + 2) LS (.ref n :: ST) (va_up M n (.inl (0, a, .inl (fun _ => 0)))) (n + 1, true, c + 1, z + a) := by
  have k := zN_nat (a := a) (by omega)
  have := r_newI (X := X) (d := d) (LS := LS) (ST := ST) (M := M) (c := c) (z := z) (x := zN a) hme hd hn ⟨(zN_in (z := a + 1) (by omega) (by omega)).1, by omega⟩
  rw [k] at this
  exact this
theorem s_newB {n c z a : Nat} (hme : j_mt[i]? = some me) (hd : decode me.2.2.1 pc = .ok (.newarray .byte, 2)) (hn : n < 1000) (hx : a ≤ 1000) : Rn X d i pc LS (.int (zN a) :: ST) M (n, true, c, z) = Rn X d i (pc + 2) LS (.ref n :: ST) (va_up M n (.inl (1, a, .inl (fun _ => 0)))) (n + 1, true, c + 1, z + a) := by
  have k := zN_nat (a := a) (by omega)
  have := r_newB (X := X) (d := d) (LS := LS) (ST := ST) (M := M) (c := c) (z := z) (x := zN a) hme hd hn ⟨(zN_in (z := a + 1) (by omega) (by omega)).1, by omega⟩
  rw [k] at this
  exact this
theorem s_anew {idx n c z a : Nat} (hme : j_mt[i]? = some me) (hd : decode me.2.2.1 pc = .ok (.anewarray idx, 3)) (hol : j_ol me.1 idx = some 2) (hn : n < 1000) (hx : a ≤ 1000) : Rn X d i pc LS (.int (zN a) :: ST) M (n, true, c, z) = Rn X d i (pc + 3) LS (.ref n :: ST) (va_up M n (.inl (2, a, .inr (.inr (.inr (.inr (fun _ => none))))))) (n + 1, true, c + 1, z + a) := by
  have k := zN_nat (a := a) (by omega)
  have := r_anew (X := X) (d := d) (LS := LS) (ST := ST) (M := M) (c := c) (z := z) (x := zN a) hme hd hol hn ⟨(zN_in (z := a + 1) (by omega) (by omega)).1, by omega⟩
  rw [k] at this
  exact this
theorem s_tab {dflt lo hi : Int} {offs : Array Int} {len v : Nat} {off : Int} {tgt : Nat} (hme : j_mt[i]? = some me) (hd : decode me.2.2.1 pc = .ok (.tableswitch dflt lo hi offs, len)) (h0 : v < 2147483648) (h1 : ¬ ((v : Int) < lo ∨ hi < (v : Int))) (ho : offs[((v : Int) - lo).toNat]? = some off) (ht : (pc : Int) + off = (tgt : Int)) : Rn X d i pc LS (.int (zN v) :: ST) M h = Rn X d i tgt LS ST M h :=
  r_tab hme hd (by rw [zN_toInt h0]; exact h1) (by rw [zN_toInt h0]; exact ho) ht
theorem s_tabD {dflt lo hi : Int} {offs : Array Int} {len v : Nat} {tgt : Nat} (hme : j_mt[i]? = some me) (hd : decode me.2.2.1 pc = .ok (.tableswitch dflt lo hi offs, len)) (ht : (pc : Int) + dflt = (tgt : Int)) (h0 : v < 2147483648) (h1 : (v : Int) < lo ∨ hi < (v : Int)) : Rn X d i pc LS (.int (zN v) :: ST) M h = Rn X d i tgt LS ST M h :=
  r_tabD hme hd (by rw [zN_toInt h0]; exact h1) ht
theorem s_tabM {dflt lo hi : Int} {offs : Array Int} {len v : Nat} {tgt : Nat} (hme : j_mt[i]? = some me) (hd : decode me.2.2.1 pc = .ok (.tableswitch dflt lo hi offs, len)) (ht : (pc : Int) + dflt = (tgt : Int)) (hl : 0 ≤ lo) (h0 : v < 2147483648) : Rn X d i pc LS (.int (zM v) :: ST) M h = Rn X d i tgt LS ST M h :=
  r_tabD hme hd (by rw [zM_toInt h0]; left; omega) ht
end
