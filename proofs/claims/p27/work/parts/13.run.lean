section
variable {l : Launch} {base b L : Nat} {xs : Nat → Int32} {D : va_G} {tc : Nat → ClassId} {rec : jQ} {d i pc : Nat} {LS : jL} {ST : List Value} {M : jM} {h : jH} {r : jR} {me : jMe}
/-- a return -/
theorem j_rt {I : Instr} {v : Option Value} (hme : j_mt[i]? = some me) (hd : decode me.2.2.1 pc = .ok (I, 1)) (hI : j_isR I me.2.2.2.2.1 v) (hST : ST = v.toList) (hr : r = (.inl v, M, h)) : j_Cn l base b L xs D tc d i pc LS ST M h r := by
  subst hr; subst hST
  refine ⟨⟨Nat.le_refl _, Nat.le_refl _⟩, fun q => ⟨q, rfl⟩, ?_⟩
  intro p e R s m args below meth c H locs Q me' ls hme' C K hc hs hfr hlen w hS hl hE
  obtain rfl : me' = me := Option.some.inj (hme'.symm.trans hme)
  exact hE.1 v rfl pc ls H locs I hd hI w hS
set_option maxHeartbeats 8000000 in
theorem j_one1_ok {I : Instr} {len : Nat} (hlt : l.stackTraces = false) (G : j_Good l base b L xs D tc rec) (hme : j_mt[i]? = some me) (hd : decode me.2.2.1 pc = .ok (I, len)) (hr : j_one1 (L, xs) rec me d i I len pc LS ST M h = some r) : j_Cn l base b L xs D tc d i pc LS ST M h r := by
  have stp : ((j_stp (L, xs) me.1 (me.2.1.name == "<init>") I len pc LS ST M).bind fun s => rec d i s.1 s.2.1 s.2.2.1 s.2.2.2 h) = some r → j_Cn l base b L xs D tc d i pc LS ST M h r := by
    intro g
    obtain ⟨⟨pc', LS', ST', M'⟩, hst, g2⟩ := Option.bind_eq_some_iff.mp g
    exact j_on G hme g2 (fun p e R s m args below meth c H locs Q ls C K hc hs hlen w hS hl kk => j_stp_ok C K hst hd w hS hl kk)
  cases I with
  | ireturn =>
    obtain ⟨rfl, g⟩ := j_c_some hr
    obtain ⟨x, rr, e1, g1⟩ := j_i_some g
    subst e1
    obtain ⟨⟨h1, h2⟩, g2⟩ := j_c_some g1
    subst h1
    exact j_rt hme hd (Or.inl ⟨rfl, x, rfl, h2⟩) rfl (Option.some.inj g2).symm
  | lreturn =>
    obtain ⟨rfl, g⟩ := j_c_some hr
    obtain ⟨x, rr, e1, g1⟩ := j_l_some g
    subst e1
    obtain ⟨⟨h1, h2⟩, g2⟩ := j_c_some g1
    subst h1
    exact j_rt hme hd (Or.inr (Or.inl ⟨rfl, h2, x, rfl⟩)) rfl (Option.some.inj g2).symm
  | dreturn =>
    obtain ⟨rfl, g⟩ := j_c_some hr
    obtain ⟨x, rr, e1, g1⟩ := j_d_some g
    subst e1
    obtain ⟨⟨h1, h2⟩, g2⟩ := j_c_some g1
    subst h1
    exact j_rt hme hd (Or.inr (Or.inr (Or.inl ⟨rfl, h2, x, rfl⟩))) rfl (Option.some.inj g2).symm
  | areturn =>
    obtain ⟨rfl, g⟩ := j_c_some hr
    obtain ⟨x, rr, e1, g1⟩ := j_r_some g
    subst e1
    obtain ⟨⟨h1, h2⟩, g2⟩ := j_c_some g1
    subst h1
    exact j_rt hme hd (Or.inr (Or.inr (Or.inr (Or.inl ⟨rfl, h2, x, rfl⟩)))) rfl (Option.some.inj g2).symm
  | return_ =>
    obtain ⟨⟨rfl, h1, h2⟩, g2⟩ := j_c_some hr
    subst h1
    exact j_rt hme hd (Or.inr (Or.inr (Or.inr (Or.inr ⟨rfl, h2, rfl⟩)))) rfl (Option.some.inj g2).symm
  | invokevirtual idx =>
    obtain ⟨rfl, g⟩ := j_c_some hr
    obtain ⟨⟨kd, t⟩, hcl, g1⟩ := Option.bind_eq_some_iff.mp g
    obtain ⟨h1, g2⟩ := j_c_some g1
    exact j_inv_ok hlt G hme (j_cl_ok hcl) (Or.inl ⟨h1, rfl⟩) hd g2
  | invokestatic idx =>
    obtain ⟨rfl, g⟩ := j_c_some hr
    obtain ⟨⟨kd, t⟩, hcl, g1⟩ := Option.bind_eq_some_iff.mp g
    obtain ⟨h1, g2⟩ := j_c_some g1
    exact j_inv_ok hlt G hme (j_cl_ok hcl) (Or.inr (Or.inl ⟨h1, rfl⟩)) hd g2
  | invokespecial idx =>
    obtain ⟨rfl, g⟩ := j_c_some hr
    obtain ⟨⟨kd, t⟩, hcl, g1⟩ := Option.bind_eq_some_iff.mp g
    obtain ⟨h1, g2⟩ := j_c_some g1
    exact j_inv_ok hlt G hme (j_cl_ok hcl) (Or.inr (Or.inr ⟨h1, rfl⟩)) hd g2
  | new idx =>
    obtain ⟨rfl, g⟩ := j_c_some hr
    exact j_new_ok G hme hd g
  | newarray t =>
    obtain ⟨rfl, g⟩ := j_c_some hr
    exact j_nar_ok G hme hd g
  | anewarray idx =>
    obtain ⟨rfl, g⟩ := j_c_some hr
    exact j_anar_ok G hme hd g
  | _ => exact stp hr
/-- a run is a run of the machine -/
theorem j_run_good (hlt : l.stackTraces = false) : ∀ N, j_Good l base b L xs D tc (j_run (L, xs) N) := by
  intro N
  induction N with
  | zero => intro d i pc LS ST M h r hr; cases hr
  | succ N ih =>
    intro d i pc LS ST M h r hr
    unfold j_run at hr
    obtain ⟨me, hme, g⟩ := Option.bind_eq_some_iff.mp hr
    split at g
    · rename_i I len hd
      exact j_one1_ok hlt ih hme hd g
    · cases g
end
