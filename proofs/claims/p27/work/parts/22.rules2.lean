section
variable {X : jX} {d i pc pc' : Nat} {LS LS' : jL} {ST : List Value} {M : jM} {h : jH} {me : jMe}
theorem j_ob_c {α β : Type} {e : va_E} {K : Nat → List Value → Option α} {f : α → Option β} : (j_ob e K).bind f = j_ob e fun c fs => (K c fs).bind f := by
  unfold j_ob
  split <;> rfl
theorem j_c_b {α β : Type} {c : Prop} [Decidable c] {x : Option α} {f : α → Option β} : (j_c c x).bind f = j_c c (x.bind f) := by
  unfold j_c
  split <;> rfl
theorem r_get {idx c k a : Nat} (hme : j_mt[i]? = some me) (hd : decode me.2.2.1 pc = .ok (.getfield idx, 3)) (hf : j_fl me.1 idx = some (c, k)) : Rn X d i pc LS (.ref a :: ST) M h = j_g (M a) c k fun v => Rn X d i (pc + 3) LS (v :: ST) M h := by
  rw [Rn_eq hme hd]
  show (j_c (3 = 3) ((j_fl me.1 idx).bind fun f => j_ob (M a) fun c fs => j_c (c = f.1) ((fs[f.2]?).bind fun v => some (pc + 3, LS, v :: ST, M)))).bind _ = _
  rw [j_ct rfl, hf]
  unfold j_g
  show (j_ob (M a) _).bind _ = _
  rw [j_ob_c]
  congr 1
  funext c' fs
  rw [j_c_b]
  show j_c (c' = c) _ = _
  congr 1
  cases fs[k]? <;> rfl
theorem r_put {idx c k a : Nat} {v : Value} (hme : j_mt[i]? = some me) (hd : decode me.2.2.1 pc = .ok (.putfield idx, 3)) (hf : j_fl me.1 idx = some (c, k)) (hp : j_pok (c == me.1) (me.2.1.name == "<init>") c k v) : Rn X d i pc LS (v :: .ref a :: ST) M h = j_p (M a) c k v fun e => Rn X d i (pc + 3) LS ST (va_up M a e) h := by
  rw [Rn_eq hme hd]
  show (j_c (3 = 3) ((j_fl me.1 idx).bind fun f => j_vr (v :: .ref a :: ST) fun v a r => j_ob (M a) fun c fs => j_c (c = f.1 ∧ f.2 < fs.length) (j_c (j_pok (f.1 == me.1) (me.2.1.name == "<init>") f.1 f.2 v) (some (pc + 3, LS, r, va_up M a (.inr (c, fs.set f.2 v))))))).bind _ = _
  rw [j_ct rfl, hf]
  unfold j_p
  show (j_ob (M a) _).bind _ = _
  rw [j_ob_c]
  congr 1
  funext c' fs
  rw [j_c_b]
  show j_c (c' = c ∧ k < fs.length) ((j_c (j_pok (c == me.1) (me.2.1.name == "<init>") c k v) _).bind _) = _
  rw [j_ct hp]
  rfl
theorem r_iald {a : Nat} {x : Int32} (hme : j_mt[i]? = some me) (hd : decode me.2.2.1 pc = .ok (.iaload, 1)) : Rn X d i pc LS (.int x :: .ref a :: ST) M h = j_ld X (M a) a x fun v => Rn X d i (pc + 1) LS (.int v :: ST) M h := by
  rw [Rn_eq hme hd]
  show (j_c (1 = 1) (j_aE (M a) _ _)).bind _ = _
  rw [j_ct rfl]
  unfold j_ld j_aE
  split
  · rw [j_c_b]; rfl
  · rw [j_c_b]; rfl
theorem r_bald {a : Nat} {x : Int32} (hme : j_mt[i]? = some me) (hd : decode me.2.2.1 pc = .ok (.baload, 1)) : Rn X d i pc LS (.int x :: .ref a :: ST) M h = j_ldB (M a) x fun v => Rn X d i (pc + 1) LS (.int v :: ST) M h := by
  rw [Rn_eq hme hd]
  show (j_c (1 = 1) (j_aI (M a) _)).bind _ = _
  rw [j_ct rfl]
  unfold j_ldB j_aI
  split
  · rw [j_c_b]; rfl
  · rfl
theorem r_aald {a : Nat} {x : Int32} (hme : j_mt[i]? = some me) (hd : decode me.2.2.1 pc = .ok (.aaload, 1)) : Rn X d i pc LS (.int x :: .ref a :: ST) M h = j_ldQ (M a) x fun v => Rn X d i (pc + 1) LS (.ref v :: ST) M h := by
  rw [Rn_eq hme hd]
  show (j_c (1 = 1) (j_aQ (M a) _)).bind _ = _
  rw [j_ct rfl]
  unfold j_ldQ j_aQ
  split
  · rw [j_c_b]
    congr 1
    rename_i f he
    cases f x.toNatClampNeg <;> rfl
  · rfl
theorem r_iast {a : Nat} {x y : Int32} (hme : j_mt[i]? = some me) (hd : decode me.2.2.1 pc = .ok (.iastore, 1)) : Rn X d i pc LS (.int y :: .int x :: .ref a :: ST) M h = j_st (M a) x y fun e => Rn X d i (pc + 1) LS ST (va_up M a e) h := by
  rw [Rn_eq hme hd]
  show (j_c (1 = 1) (j_aI (M a) _)).bind _ = _
  rw [j_ct rfl]
  unfold j_st j_aI
  split
  · rw [j_c_b]; rfl
  · rfl
theorem r_bast {a : Nat} {x y : Int32} (hme : j_mt[i]? = some me) (hd : decode me.2.2.1 pc = .ok (.bastore, 1)) : Rn X d i pc LS (.int y :: .int x :: .ref a :: ST) M h = j_stB (M a) x y fun e => Rn X d i (pc + 1) LS ST (va_up M a e) h := by
  rw [Rn_eq hme hd]
  show (j_c (1 = 1) (j_aI (M a) _)).bind _ = _
  rw [j_ct rfl]
  unfold j_stB j_aI
  split
  · rw [j_c_b]; rfl
  · rfl
theorem r_aast {a v : Nat} {x : Int32} (hme : j_mt[i]? = some me) (hd : decode me.2.2.1 pc = .ok (.aastore, 1)) : Rn X d i pc LS (.ref v :: .int x :: .ref a :: ST) M h = j_stQ (M a) (M v) x v fun e => Rn X d i (pc + 1) LS ST (va_up M a e) h := by
  rw [Rn_eq hme hd]
  show (j_c (1 = 1) (j_aQ (M a) _)).bind _ = _
  rw [j_ct rfl]
  unfold j_stQ j_aQ
  split
  · rw [j_ob_c]
    congr 1
    funext c fs
    rw [j_c_b]; rfl
  · rfl
theorem r_alen (hme : j_mt[i]? = some me) (hd : decode me.2.2.1 pc = .ok (.arraylength, 1)) : Rn X d i pc LS (.ref 1000000 :: ST) M h = Rn X d i (pc + 1) LS (.int (Int32.ofNat X.1) :: ST) M h := r_stp hme hd (fun _ => rfl) rfl
-- returns
theorem r_iret {x : Int32} (hme : j_mt[i]? = some me) (hd : decode me.2.2.1 pc = .ok (.ireturn, 1)) (hr : me.2.2.2.2.1 = some .int) : Rn X d i pc LS [.int x] M h = some (.inl (some (.int x)), M, h) := by
  rw [Rn_eq hme hd]
  show j_c (1 = 1) (j_c ([] = [] ∧ _) _) = _
  rw [j_ct rfl]
  exact j_ct ⟨rfl, Or.inl hr⟩ _
theorem r_zret {x : Int32} (hme : j_mt[i]? = some me) (hd : decode me.2.2.1 pc = .ok (.ireturn, 1)) (hr : me.2.2.2.2.1 = some .boolean) (hx : x &&& 1 = x) : Rn X d i pc LS [.int x] M h = some (.inl (some (.int x)), M, h) := by
  rw [Rn_eq hme hd]
  show j_c (1 = 1) (j_c ([] = [] ∧ _) _) = _
  rw [j_ct rfl]
  exact j_ct ⟨rfl, Or.inr ⟨hr, hx⟩⟩ _
theorem r_lret {x : Int64} (hme : j_mt[i]? = some me) (hd : decode me.2.2.1 pc = .ok (.lreturn, 1)) (hr : me.2.2.2.2.1 = some .long) : Rn X d i pc LS [.long x] M h = some (.inl (some (.long x)), M, h) := by
  rw [Rn_eq hme hd]
  show j_c (1 = 1) (j_c ([] = [] ∧ _) _) = _
  rw [j_ct rfl]
  exact j_ct ⟨rfl, hr⟩ _
theorem r_dret {x : UInt64} (hme : j_mt[i]? = some me) (hd : decode me.2.2.1 pc = .ok (.dreturn, 1)) (hr : me.2.2.2.2.1 = some .double) : Rn X d i pc LS [.double x] M h = some (.inl (some (.double x)), M, h) := by
  rw [Rn_eq hme hd]
  show j_c (1 = 1) (j_c ([] = [] ∧ _) _) = _
  rw [j_ct rfl]
  exact j_ct ⟨rfl, hr⟩ _
theorem r_aret {x : Nat} (hme : j_mt[i]? = some me) (hd : decode me.2.2.1 pc = .ok (.areturn, 1)) (hr : me.2.2.2.2.1 = some (.object "ShipJournal$Ship")) : Rn X d i pc LS [.ref x] M h = some (.inl (some (.ref x)), M, h) := by
  rw [Rn_eq hme hd]
  show j_c (1 = 1) (j_c ([] = [] ∧ _) _) = _
  rw [j_ct rfl]
  exact j_ct ⟨rfl, hr⟩ _
theorem r_vret (hme : j_mt[i]? = some me) (hd : decode me.2.2.1 pc = .ok (.return_, 1)) (hr : me.2.2.2.2.1 = none) : Rn X d i pc LS [] M h = some (.inl none, M, h) := by
  rw [Rn_eq hme hd]
  exact j_ct ⟨rfl, rfl, hr⟩ _
-- calls
theorem r_own {t : Nat} {mf : jMe} {kd : Nat} {as : List Value} {R : Option jR} (hmf : j_mt[t]? = some mf) (hn : mf.2.2.2.2.2.1 ≤ ST.length) (hcs : j_cs (ST.drop mf.2.2.2.2.2.1) ≤ 8) (ha : (ST.take mf.2.2.2.2.2.1).reverse = as) (hl : (j_sl as).length ≤ mf.2.2.2.1) (hR : Rn X d t 0 (j_ent mf.2.2.2.1 as) [] M (j_h0 h) = R) :
    j_own (Rn X) me (d + 1) i pc LS ST M h kd t = j_bd R h (fun v M h => Rn X (d + 1) i (pc + 3) LS (v.toList ++ ST.drop mf.2.2.2.2.2.1) M h) (fun E M h => match me.2.2.2.2.2.2 with | [] => j_up E M h | _ => j_cat (Rn X) me (d + 1) i pc LS E M h) := by
  subst ha; subst hR
  unfold j_own
  rw [hmf]
  show j_c _ _ = _
  rw [j_ct ⟨hn, hcs, hl⟩]
  unfold j_bd
  show Option.bind (Rn X d t 0 _ [] M (j_h0 h)) _ = _
  congr 1
theorem r_rcv {α : Type} {na ci a : Nat} {as : List Value} {x : Option α} (ha : (ST.take na).reverse = .ref a :: as) : j_rcv ST M na ci x = j_rc (M a) ci x := by
  unfold j_rcv
  rw [ha]
  rfl
theorem r_callV {idx t a : Nat} {mf : jMe} {as : List Value} (hme : j_mt[i]? = some me) (hd : decode me.2.2.1 pc = .ok (.invokevirtual idx, 3)) (hcl : j_cl me.1 idx = some (0, t)) (hmf : j_mt[t]? = some mf) (hn : mf.2.2.2.2.2.1 ≤ ST.length) (hcs : j_cs (ST.drop mf.2.2.2.2.2.1) ≤ 8) (ha : (ST.take mf.2.2.2.2.2.1).reverse = .ref a :: as) (hl : (j_sl (.ref a :: as)).length ≤ mf.2.2.2.1) :
    Rn X (d + 1) i pc LS ST M h = j_rc (M a) mf.1 (j_bd (Rn X d t 0 (j_ent mf.2.2.2.1 (.ref a :: as)) [] M (j_h0 h)) h (fun v M h => Rn X (d + 1) i (pc + 3) LS (v.toList ++ ST.drop mf.2.2.2.2.2.1) M h) (fun E M h => match me.2.2.2.2.2.2 with | [] => j_up E M h | _ => j_cat (Rn X) me (d + 1) i pc LS E M h)) := by
  rw [Rn_eq hme hd]
  show j_c (3 = 3) ((j_cl me.1 idx).bind _) = _
  rw [j_ct rfl, hcl]
  show j_c (0 = 0) ((j_mt[t]?).bind _) = _
  rw [j_ct rfl, hmf]
  show j_rcv _ _ _ _ _ = _
  rw [r_rcv ha, r_own hmf hn hcs ha hl rfl]
theorem r_callI {idx t a kd : Nat} {mf : jMe} {as : List Value} (hkd : kd = 3 ∨ kd = 4) (hme : j_mt[i]? = some me) (hd : decode me.2.2.1 pc = .ok (.invokespecial idx, 3)) (hcl : j_cl me.1 idx = some (kd, t)) (hmf : j_mt[t]? = some mf) (hn : mf.2.2.2.2.2.1 ≤ ST.length) (hcs : j_cs (ST.drop mf.2.2.2.2.2.1) ≤ 8) (ha : (ST.take mf.2.2.2.2.2.1).reverse = .ref a :: as) (hl : (j_sl (.ref a :: as)).length ≤ mf.2.2.2.1) :
    Rn X (d + 1) i pc LS ST M h = j_rc (M a) mf.1 (j_bd (Rn X d t 0 (j_ent mf.2.2.2.1 (.ref a :: as)) [] M (j_h0 h)) h (fun v M h => Rn X (d + 1) i (pc + 3) LS (v.toList ++ ST.drop mf.2.2.2.2.2.1) M h) (fun E M h => match me.2.2.2.2.2.2 with | [] => j_up E M h | _ => j_cat (Rn X) me (d + 1) i pc LS E M h)) := by
  rw [Rn_eq hme hd]
  show j_c (3 = 3) ((j_cl me.1 idx).bind _) = _
  rw [j_ct rfl, hcl]
  rcases hkd with rfl | rfl
  · show j_c (3 = 3 ∨ 3 = 4 ∨ 3 = 6) ((j_mt[t]?).bind _) = _
    rw [j_ct (Or.inl rfl), hmf]
    show j_rcv _ _ _ _ _ = _
    rw [r_rcv ha, r_own hmf hn hcs ha hl rfl]
  · show j_c (4 = 3 ∨ 4 = 4 ∨ 4 = 6) ((j_mt[t]?).bind _) = _
    rw [j_ct (Or.inr (Or.inl rfl)), hmf]
    show j_rcv _ _ _ _ _ = _
    rw [r_rcv ha, r_own hmf hn hcs ha hl rfl]
theorem r_callS {idx t kd : Nat} {mf : jMe} {as : List Value} (hkd : kd = 1 ∨ kd = 2 ∨ kd = 5) (hme : j_mt[i]? = some me) (hd : decode me.2.2.1 pc = .ok (.invokestatic idx, 3)) (hcl : j_cl me.1 idx = some (kd, t)) (hmf : j_mt[t]? = some mf) (hn : mf.2.2.2.2.2.1 ≤ ST.length) (hcs : j_cs (ST.drop mf.2.2.2.2.2.1) ≤ 8) (ha : (ST.take mf.2.2.2.2.2.1).reverse = as) (hl : (j_sl as).length ≤ mf.2.2.2.1) :
    Rn X (d + 1) i pc LS ST M h = j_bd (Rn X d t 0 (j_ent mf.2.2.2.1 as) [] M (j_h0 h)) h (fun v M h => Rn X (d + 1) i (pc + 3) LS (v.toList ++ ST.drop mf.2.2.2.2.2.1) M h) (fun E M h => match me.2.2.2.2.2.2 with | [] => j_up E M h | _ => j_cat (Rn X) me (d + 1) i pc LS E M h) := by
  rw [Rn_eq hme hd]
  show j_c (3 = 3) ((j_cl me.1 idx).bind _) = _
  rw [j_ct rfl, hcl]
  rcases hkd with rfl | rfl | rfl
  · show j_c _ (j_own (Rn X) me (d + 1) i pc LS ST M h 1 t) = _
    rw [j_ct (Or.inl rfl), r_own hmf hn hcs ha hl rfl]
  · show j_c _ (j_own (Rn X) me (d + 1) i pc LS ST M h 2 t) = _
    rw [j_ct (Or.inr (Or.inl rfl)), r_own hmf hn hcs ha hl rfl]
  · show j_c _ (j_own (Rn X) me (d + 1) i pc LS ST M h 5 t) = _
    rw [j_ct (Or.inr (Or.inr (Or.inl rfl))), r_own hmf hn hcs ha hl rfl]
theorem r_obj {idx t a : Nat} (hme : j_mt[i]? = some me) (hd : decode me.2.2.1 pc = .ok (.invokespecial idx, 3)) (hcl : j_cl me.1 idx = some (6, t)) (hcs : j_cs ST ≤ 8) : Rn X (d + 1) i pc LS (.ref a :: ST) M h = Rn X (d + 1) i (pc + 3) LS ST M h := by
  rw [Rn_eq hme hd]
  show j_c (3 = 3) ((j_cl me.1 idx).bind _) = _
  rw [j_ct rfl, hcl]
  show j_c _ (j_c _ _) = _
  rw [j_ct (Or.inr (Or.inr rfl))]
  exact j_ct ⟨hcs, Nat.le_add_left 1 d⟩ _
theorem r_max {idx t : Nat} {x y : Int32} (hme : j_mt[i]? = some me) (hd : decode me.2.2.1 pc = .ok (.invokestatic idx, 3)) (hcl : j_cl me.1 idx = some (8, t)) (hcs : j_cs ST ≤ 8) : Rn X (d + 1) i pc LS (.int y :: .int x :: ST) M h = Rn X (d + 1) i (pc + 3) LS (.int (if x < y then y else x) :: ST) M h := by
  rw [Rn_eq hme hd]
  show j_c (3 = 3) ((j_cl me.1 idx).bind _) = _
  rw [j_ct rfl, hcl]
  show j_c _ (j_c _ _) = _
  rw [j_ct (by simp)]
  exact j_ct ⟨hcs, Nat.le_add_left 1 d⟩ _
theorem r_min {idx t : Nat} {x y : Int32} (hme : j_mt[i]? = some me) (hd : decode me.2.2.1 pc = .ok (.invokestatic idx, 3)) (hcl : j_cl me.1 idx = some (9, t)) (hcs : j_cs ST ≤ 8) : Rn X (d + 1) i pc LS (.int y :: .int x :: ST) M h = Rn X (d + 1) i (pc + 3) LS (.int (if y < x then y else x) :: ST) M h := by
  rw [Rn_eq hme hd]
  show j_c (3 = 3) ((j_cl me.1 idx).bind _) = _
  rw [j_ct rfl, hcl]
  show j_c _ (j_c _ _) = _
  rw [j_ct (by simp)]
  exact j_ct ⟨hcs, Nat.le_add_left 1 d⟩ _
def j_cpy (es ee : va_E) (sp dp n : Int32) (K : va_E → Option jR) : Option jR := j_aI es fun t0 z0 f => j_aI ee fun t1 z1 g => j_c (t0 = 0 ∧ t1 = 0 ∧ ¬ sp < 0 ∧ ¬ dp < 0 ∧ ¬ n < 0 ∧ sp.toNatClampNeg + n.toNatClampNeg ≤ z0 ∧ dp.toNatClampNeg + n.toNatClampNeg ≤ z1) (K (.inl (t1, z1, .inl (va_cpy f g sp.toNatClampNeg dp.toNatClampNeg n.toNatClampNeg))))
theorem r_cpy {idx t s e : Nat} {n dp sp : Int32} (hme : j_mt[i]? = some me) (hd : decode me.2.2.1 pc = .ok (.invokestatic idx, 3)) (hcl : j_cl me.1 idx = some (7, t)) : Rn X (d + 1) i pc LS [.int n, .int dp, .ref e, .int sp, .ref s] M h = j_cpy (M s) (M e) sp dp n fun x => Rn X (d + 1) i (pc + 3) LS [] (va_up M e x) h := by
  rw [Rn_eq hme hd]
  show j_c (3 = 3) ((j_cl me.1 idx).bind _) = _
  rw [j_ct rfl, hcl]
  show j_c _ (j_aI (M s) _) = _
  rw [j_ct (by simp)]
  unfold j_cpy j_aI
  split
  · split
    · unfold j_c
      simp
    · rfl
  · rfl
-- what is made, what is thrown
theorem r_newo {idx k n c z : Nat} (hme : j_mt[i]? = some me) (hd : decode me.2.2.1 pc = .ok (.new idx, 3)) (htl : j_tl me.1 idx = none) (hol : j_ol me.1 idx = some k) (hn : n < 1000) : Rn X d i pc LS ST M (n, true, c, z) = Rn X d i (pc + 3) LS (.ref n :: ST) (va_up M n (.inr (k, j_df k))) (n + 1, true, c + 1, z + j_nf k) := by
  rw [Rn_eq hme hd]
  show j_c (3 = 3) (j_new _ _ _ _ _ _ _ _ _ _) = _
  rw [j_ct rfl]
  unfold j_new
  rw [htl, hol]
  exact j_ct ⟨rfl, hn⟩ _
theorem r_newI {n c z : Nat} {x : Int32} (hme : j_mt[i]? = some me) (hd : decode me.2.2.1 pc = .ok (.newarray .int, 2)) (hn : n < 1000) (hx : ¬ x < 0 ∧ x.toNatClampNeg ≤ 1000) : Rn X d i pc LS (.int x :: ST) M (n, true, c, z) = Rn X d i (pc + 2) LS (.ref n :: ST) (va_up M n (.inl (0, x.toNatClampNeg, .inl (fun _ => 0)))) (n + 1, true, c + 1, z + x.toNatClampNeg) := by
  rw [Rn_eq hme hd]
  show j_c (2 = 2) (j_c _ _) = _
  rw [j_ct rfl]
  exact j_ct ⟨rfl, hn, hx⟩ _
theorem r_newB {n c z : Nat} {x : Int32} (hme : j_mt[i]? = some me) (hd : decode me.2.2.1 pc = .ok (.newarray .byte, 2)) (hn : n < 1000) (hx : ¬ x < 0 ∧ x.toNatClampNeg ≤ 1000) : Rn X d i pc LS (.int x :: ST) M (n, true, c, z) = Rn X d i (pc + 2) LS (.ref n :: ST) (va_up M n (.inl (1, x.toNatClampNeg, .inl (fun _ => 0)))) (n + 1, true, c + 1, z + x.toNatClampNeg) := by
  rw [Rn_eq hme hd]
  show j_c (2 = 2) (j_c _ _) = _
  rw [j_ct rfl]
  exact j_ct ⟨rfl, hn, hx⟩ _
theorem r_anew {idx n c z : Nat} {x : Int32} (hme : j_mt[i]? = some me) (hd : decode me.2.2.1 pc = .ok (.anewarray idx, 3)) (hol : j_ol me.1 idx = some 2) (hn : n < 1000) (hx : ¬ x < 0 ∧ x.toNatClampNeg ≤ 1000) : Rn X d i pc LS (.int x :: ST) M (n, true, c, z) = Rn X d i (pc + 3) LS (.ref n :: ST) (va_up M n (.inl (2, x.toNatClampNeg, .inr (.inr (.inr (.inr (fun _ => none))))))) (n + 1, true, c + 1, z + x.toNatClampNeg) := by
  rw [Rn_eq hme hd]
  show j_c (3 = 3) (j_c _ _) = _
  rw [j_ct rfl]
  exact j_ct ⟨rfl, hn, hx.1, hx.2, hol⟩ _
theorem r_throw {idx is ic : Nat} {E : String} (hme : j_mt[i]? = some me) (hd : decode me.2.2.1 pc = .ok (.new idx, 3)) (htl : j_tl me.1 idx = some (E, ic)) (hh : me.2.2.2.2.2.2 = []) (h3 : decode me.2.2.1 (pc + 3) = .ok (.dup, 1)) (h4 : decode me.2.2.1 (pc + 4) = .ok (.ldc is, 2)) (hs : (j_sr me.1 is).isSome = true) (h6 : decode me.2.2.1 (pc + 6) = .ok (.invokespecial ic, 3)) (h9 : decode me.2.2.1 (pc + 9) = .ok (.athrow, 1)) : Rn X (d + 6) i pc LS [] M h = some (.inr E, M, j_thr h) := by
  rw [Rn_eq hme hd]
  show j_c (3 = 3) (j_new _ _ _ _ _ _ _ _ _ _) = _
  rw [j_ct rfl]
  unfold j_new
  rw [htl]
  show j_c _ (match decode me.2.2.1 (pc + 4) with | .ok (.ldc is, 2) => _ | .ok (.ldc_w is, 3) => _ | _ => none) = _
  rw [j_ct ⟨rfl, Nat.le_add_left 6 d, hh, h3⟩, h4]
  exact j_ct ⟨hs, h6, h9⟩ _
theorem r_throwW {idx is ic : Nat} {E : String} (hme : j_mt[i]? = some me) (hd : decode me.2.2.1 pc = .ok (.new idx, 3)) (htl : j_tl me.1 idx = some (E, ic)) (hh : me.2.2.2.2.2.2 = []) (h3 : decode me.2.2.1 (pc + 3) = .ok (.dup, 1)) (h4 : decode me.2.2.1 (pc + 4) = .ok (.ldc_w is, 3)) (hs : (j_sr me.1 is).isSome = true) (h7 : decode me.2.2.1 (pc + 7) = .ok (.invokespecial ic, 3)) (h10 : decode me.2.2.1 (pc + 10) = .ok (.athrow, 1)) : Rn X (d + 6) i pc LS [] M h = some (.inr E, M, j_thr h) := by
  rw [Rn_eq hme hd]
  show j_c (3 = 3) (j_new _ _ _ _ _ _ _ _ _ _) = _
  rw [j_ct rfl]
  unfold j_new
  rw [htl]
  show j_c _ (match decode me.2.2.1 (pc + 4) with | .ok (.ldc is, 2) => _ | .ok (.ldc_w is, 3) => _ | _ => none) = _
  rw [j_ct ⟨rfl, Nat.le_add_left 6 d, hh, h3⟩, h4]
  exact j_ct ⟨hs, h7, h10⟩ _
/-- caught -/
theorem r_cat {hp k : Nat} {E : String} (hf : j_find me.1 E pc me.2.2.2.2.2.2 = some hp) (hk : k < LS.length) (ho : j_ok1 LS k = true) (hd : (decode me.2.2.1 hp = .ok (.astore k, 2) ∧ pc' = hp + 2) ∨ (∃ q : Fin 4, q.val = k ∧ decode me.2.2.1 hp = .ok (.astore_n q, 1) ∧ pc' = hp + 1)) (hl : LS.set k none = LS') : j_cat (Rn X) me d i pc LS E M h = Rn X d i pc' LS' [] M h := by
  subst hl
  unfold j_cat
  rw [hf]
  rcases hd with ⟨h1, rfl⟩ | ⟨q, rfl, h1, rfl⟩
  · show (match decode me.2.2.1 hp with | .ok (.astore k, len) => _ | .ok (.astore_n k, len) => _ | _ => none) = _
    rw [h1]
    show j_c (2 = 2) _ = _
    rw [j_ct rfl, j_s1t hk ho]
  · show (match decode me.2.2.1 hp with | .ok (.astore k, len) => _ | .ok (.astore_n k, len) => _ | _ => none) = _
    rw [h1]
    show j_c (1 = 1) _ = _
    rw [j_ct rfl, j_s1t hk ho]
end
