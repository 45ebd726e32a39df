section
variable {l : Launch} {base b L : Nat} {xs : Nat → Int32} {D : va_G} {tc : Nat → ClassId} {rec : jQ} {d i pc : Nat} {LS : jL} {ST : List Value} {M : jM} {h : jH} {r : jR} {me : jMe}
/-- one row of the machine, then on, with nothing made -/
theorem j_on {pc' : Nat} {LS' : jL} {ST' : List Value} {M' : jM} (G : j_Good l base b L xs D tc rec) (hme : j_mt[i]? = some me) (hr : rec d i pc' LS' ST' M' h = some r)
    (k : ∀ (p : Program) (e : Env) (R : Room) (s : State) (m : MethodId) (args : Array Value) (below : List Frame) (meth : Method) (c : Code) (H : Heap) (locs : List Loc) (Q : State → Prop) (ls : Array Slot), j_C p l R s m args meth c me d → j_K base b L xs D tc s s.heap → h.2.2.1 ≤ R.cells → h.2.2.2 ≤ R.slots → LS.length = me.2.2.2.1 → j_W base b D tc h.1 M H → va_S (j_A base) s.heap H locs → j_LH (j_ad base b) ls LS →
      (∀ (H' : Heap) (locs' : List Loc) (ls' : Array Slot), j_W base b D tc h.1 M' H' → va_S (j_A base) s.heap H' locs' → j_LH (j_ad base b) ls' LS' → LS'.length = LS.length → W p l e R s m args below meth c H' locs' h.2.2.1 h.2.2.2 Q (F0 m pc' ls' (ST'.map (j_cv (j_ad base b))))) →
      W p l e R s m args below meth c H locs h.2.2.1 h.2.2.2 Q (F0 m pc ls (ST.map (j_cv (j_ad base b))))) : j_Cn l base b L xs D tc d i pc LS ST M h r := by
  obtain ⟨n1, n2, n3⟩ := G _ _ _ _ _ _ _ _ hr
  refine ⟨n1, n2, ?_⟩
  intro p e R s m args below meth c H locs Q me' ls hme' C K hc hs hfr hlen w hS hl hE
  obtain rfl : me' = me := Option.some.inj (hme'.symm.trans hme)
  refine k p e R s m args below meth c H locs Q ls C K (by omega) (by omega) hlen w hS hl (fun H' locs' ls' w' hS' hl' hlen' => ?_)
  exact n3 p e R s m args below meth c H' locs' Q _ ls' hme' C K hc hs hfr (by rw [hlen', hlen]) w' hS' hl' hE
theorem j_cs_map (ad : Nat → Nat) (st : List Value) : ((st.map (j_cv ad)).map fun v => v.category).sum = j_cs st := by
  unfold j_cs
  rw [List.map_map]
  congr 2
  exact funext fun v => j_cv_cat ad v
set_option maxHeartbeats 4000000 in
theorem j_inv_ok {idx kd t : Nat} {I : Instr} (hlt : l.stackTraces = false) (G : j_Good l base b L xs D tc rec) (hme : j_mt[i]? = some me) (hcl : (me.1, idx, kd, t) ∈ j_clT)
    (hI : (kd = 0 ∧ I = .invokevirtual idx) ∨ ((kd = 1 ∨ kd = 2 ∨ kd = 5 ∨ kd = 7 ∨ kd = 8 ∨ kd = 9) ∧ I = .invokestatic idx) ∨ ((kd = 3 ∨ kd = 4 ∨ kd = 6) ∧ I = .invokespecial idx)) (hd : decode me.2.2.1 pc = .ok (I, 3))
    (hr : j_inv rec me d i pc LS ST M h kd t = some r) : j_Cn l base b L xs D tc d i pc LS ST M h r := by
  have hWd := j_clW hcl
  have own : ∀ (hk6 : kd < 6), j_own rec me d i pc LS ST M h kd t = some r → ((kd = 0 ∨ kd = 3 ∨ kd = 4) → ∀ mf, j_mt[t]? = some mf → ∃ a as fs, (ST.take mf.2.2.2.2.2.1).reverse = .ref a :: as ∧ M a = .inr (mf.1, fs)) → j_Cn l base b L xs D tc d i pc LS ST M h r := fun hk6 hr hrc =>
    j_own_ok hlt G hme hcl hk6 (by rcases hI with q | ⟨q, q2⟩ | ⟨q, q2⟩; exact Or.inl q; exact Or.inr (Or.inl ⟨by omega, q2⟩); exact Or.inr (Or.inr ⟨by omega, q2⟩)) hd hrc hr
  have rcv : ∀ (hk6 : kd < 6), ((j_mt[t]?).bind fun mf => j_rcv ST M mf.2.2.2.2.2.1 mf.1 (j_own rec me d i pc LS ST M h kd t)) = some r → j_Cn l base b L xs D tc d i pc LS ST M h r := by
    intro hk6 hr
    obtain ⟨mf, hmf, g1⟩ := Option.bind_eq_some_iff.mp hr
    unfold j_rcv at g1
    split at g1
    · rename_i a as hta
      obtain ⟨cc, fs, hM, g2⟩ := j_ob_some g1
      obtain ⟨rfl, g3⟩ := j_c_some g2
      exact own hk6 g3 (fun _ mf' hmf' => by
        obtain rfl : mf' = mf := Option.some.inj (hmf'.symm.trans hmf)
        exact ⟨a, as, fs, hta, hM⟩)
    · cases g1
  match kd with
  | 0 => exact rcv (by omega) hr
  | 1 => exact own (by omega) hr (fun q => by omega)
  | 2 => exact own (by omega) hr (fun q => by omega)
  | 3 => exact rcv (by omega) hr
  | 4 => exact rcv (by omega) hr
  | 5 => exact own (by omega) hr (fun q => by omega)
  | 6 =>
    obtain rfl : I = .invokespecial idx := by rcases hI with ⟨q, -⟩ | ⟨q, -⟩ | ⟨-, q⟩; omega; omega; exact q
    obtain ⟨a, rr, rfl, g1⟩ := j_r_some (show j_r ST _ = some _ from hr)
    have hWd' : ∀ w ∈ ([.methodLink (j_cn me.1) idx objectInit, .instanceMethod objectInit, .code objectInit ⟨#[0xb1]⟩ 1 none] : List Cond), w ∈ j_gws := by
      have h8 := List.all_eq_true.mp j_okC_all _ hcl
      unfold j_okC at h8
      unfold j_wC at hWd
      dsimp only at h8 hWd
      cases hq : j_mt[t]? with
      | none => rw [hq] at h8; cases h8
      | some x => rw [hq] at hWd; exact hWd
    obtain ⟨⟨hcs8, hd1⟩, g2⟩ := j_c_some g1
    refine j_on G hme g2 ?_
    intro p e R s m args below meth c H locs Q ls C K hc hs hlen w hS hl kk
    obtain ⟨hx, hb, hml, hown, hts, hlocks, hini, htab, hret, hRf, hRl, -⟩ := C
    refine W.objInit hx hb hown (hts _ (hWd' _ List.mem_cons_self)) (hts _ (hWd' _ (List.mem_cons_of_mem _ List.mem_cons_self))) (hts _ (hWd' _ (List.mem_cons_of_mem _ (List.mem_cons_of_mem _ List.mem_cons_self)))) rfl (by rw [hml, ← hlen]; exact hl.1) rfl hd (Nat.le_trans hd1 hRf) ?_ (kk _ _ _ w hS hl rfl)
    show 2 * 0 + ((rr.map (j_cv (j_ad base b))).map fun v => v.category).sum + 12 ≤ R.locals
    rw [j_cs_map]
    omega
  | 7 =>
    obtain rfl : I = .invokestatic idx := by rcases hI with ⟨q, -⟩ | ⟨-, q⟩ | ⟨q, -⟩; omega; exact q; omega
    obtain ⟨nn, dp, e, sp, sa, rr, rfl, g1⟩ := j_cp_some (show j_cp ST _ = some _ from hr)
    obtain ⟨t0, z0, f, hM0, g2⟩ := j_aI_some g1
    obtain ⟨t1, z1, g, hM1, g3⟩ := j_aI_some g2
    obtain ⟨⟨h0, h1, h2, h3, h4, h5, h6, h7, hd1⟩, g4⟩ := j_c_some g3
    subst h0; subst h1; subst h7
    have hWd' : ∀ w ∈ ([.methodLink (j_cn me.1) idx arraycopyName, .native arraycopyName, .static arraycopyName, .initialized "java/lang/System"] : List Cond), w ∈ j_gws := by
      have h8 := List.all_eq_true.mp j_okC_all _ hcl
      unfold j_okC at h8
      unfold j_wC at hWd
      dsimp only at h8 hWd
      cases hq : j_mt[t]? with
      | none => rw [hq] at h8; cases h8
      | some x => rw [hq] at hWd; exact hWd
    refine j_on G hme g4 ?_
    intro p e' R s m args below meth c H locs Q ls C K hc hs hlen w hS hl kk
    obtain ⟨hx, hb, hml, hown, hts, hlocks, hini, htab, hret, hRf, hRl, -⟩ := C
    have hsa : sa < h.1 := w.lt (by rw [hM0]; exact j_nil_ar)
    have hea : e < h.1 := w.lt (by rw [hM1]; exact j_nil_ar)
    have he0 := j_wl_at (base := base) (b := b) (tc := tc) (M := M) hsa
    rw [hM0] at he0
    have he1 := j_wl_at (base := base) (b := b) (tc := tc) (M := M) hea
    rw [hM1] at he1
    show W p l e' R s m args below meth c H locs h.2.2.1 h.2.2.2 Q (F0 m pc ls (.int nn :: .int dp :: .ref (j_ad base b e) :: .int sp :: .ref (j_ad base b sa) :: []))
    rw [w.ad hsa, w.ad hea]
    exact va_copyi hx hb (by rw [hml, ← hlen]; exact hl.1.symm) hown (hts _ (hWd' _ List.mem_cons_self)) (hts _ (hWd' _ (List.mem_cons_of_mem _ List.mem_cons_self))) (hts _ (hWd' _ (List.mem_cons_of_mem _ (List.mem_cons_of_mem _ List.mem_cons_self)))) (hts _ (hWd' _ (List.mem_cons_of_mem _ (List.mem_cons_of_mem _ (List.mem_cons_of_mem _ List.mem_cons_self))))) K.1 w.1 j_wl_D hS sa e 0 0 he0 he1 rfl rfl rfl h2 h3 h4 h5 h6 (fun _ _ => rfl) (Nat.le_trans hd1 hRf) (Nat.le_trans (by decide) (Nat.le_trans (show 98 ≤ 31 * d + 89 by omega) hRl)) hd
      (fun H1 locs1 hP hD hS1 => kk _ _ _ (w.up hea (e := .inl (0, z1, .inl (va_cpy f g sp.toNatClampNeg dp.toNatClampNeg nn.toNatClampNeg))) hP) hS1 hl rfl)
  | 8 =>
    obtain rfl : I = .invokestatic idx := by rcases hI with ⟨q, -⟩ | ⟨-, q⟩ | ⟨q, -⟩; omega; exact q; omega
    obtain ⟨x, y, rr, rfl, g1⟩ := j_ii_some (show j_ii ST _ = some _ from hr)
    obtain ⟨⟨hcs8, hd1⟩, g2⟩ := j_c_some g1
    have hWd' : ∀ w ∈ ([.methodLink (j_cn me.1) idx Lib.Math.max.name, .static Lib.Math.max.name, .initialized "java/lang/Math", .code Lib.Math.max.name Lib.Math.max.code 2 (some .int)] : List Cond), w ∈ j_gws := by
      have h8 := List.all_eq_true.mp j_okC_all _ hcl
      unfold j_okC at h8
      unfold j_wC at hWd
      dsimp only at h8 hWd
      cases hq : j_mt[t]? with
      | none => rw [hq] at h8; cases h8
      | some x => rw [hq] at hWd; exact hWd
    refine j_on G hme g2 ?_
    intro p e' R s m args below meth c H locs Q ls C K hc hs hlen w hS hl kk
    obtain ⟨hx, hb, hml, hown, hts, hlocks, hini, htab, hret, hRf, hRl, -⟩ := C
    refine va_mmax hx hb (by rw [hml, ← hlen]; exact hl.1.symm) hown (hts _ (hWd' _ List.mem_cons_self)) (hts _ (hWd' _ (List.mem_cons_of_mem _ List.mem_cons_self))) (hts _ (hWd' _ (List.mem_cons_of_mem _ (List.mem_cons_of_mem _ List.mem_cons_self)))) (hts _ (hWd' _ (List.mem_cons_of_mem _ (List.mem_cons_of_mem _ (List.mem_cons_of_mem _ List.mem_cons_self))))) (Nat.le_trans hd1 hRf) ?_ hc hs hd (kk _ _ _ w hS hl rfl)
    rw [j_cs_map]
    omega
  | 9 =>
    obtain rfl : I = .invokestatic idx := by rcases hI with ⟨q, -⟩ | ⟨-, q⟩ | ⟨q, -⟩; omega; exact q; omega
    obtain ⟨x, y, rr, rfl, g1⟩ := j_ii_some (show j_ii ST _ = some _ from hr)
    obtain ⟨⟨hcs8, hd1⟩, g2⟩ := j_c_some g1
    have hWd' : ∀ w ∈ ([.methodLink (j_cn me.1) idx Lib.Math.min.name, .static Lib.Math.min.name, .initialized "java/lang/Math", .code Lib.Math.min.name Lib.Math.min.code 2 (some .int)] : List Cond), w ∈ j_gws := by
      have h8 := List.all_eq_true.mp j_okC_all _ hcl
      unfold j_okC at h8
      unfold j_wC at hWd
      dsimp only at h8 hWd
      cases hq : j_mt[t]? with
      | none => rw [hq] at h8; cases h8
      | some x => rw [hq] at hWd; exact hWd
    refine j_on G hme g2 ?_
    intro p e' R s m args below meth c H locs Q ls C K hc hs hlen w hS hl kk
    obtain ⟨hx, hb, hml, hown, hts, hlocks, hini, htab, hret, hRf, hRl, -⟩ := C
    refine va_mmin hx hb (by rw [hml, ← hlen]; exact hl.1.symm) hown (hts _ (hWd' _ List.mem_cons_self)) (hts _ (hWd' _ (List.mem_cons_of_mem _ List.mem_cons_self))) (hts _ (hWd' _ (List.mem_cons_of_mem _ (List.mem_cons_of_mem _ List.mem_cons_self)))) (hts _ (hWd' _ (List.mem_cons_of_mem _ (List.mem_cons_of_mem _ (List.mem_cons_of_mem _ List.mem_cons_self))))) (Nat.le_trans hd1 hRf) ?_ hc hs hd (kk _ _ _ w hS hl rfl)
    rw [j_cs_map]
    omega
  | k + 10 => omega
end
