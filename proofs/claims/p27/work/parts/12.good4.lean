theorem j_df_ok : ∀ k, k < 5 → ∀ j, j < j_nf k → defaultValue (j_ty k j) = vp_V (j_df k) j := by decide +kernel
theorem j_df_cv (ad : Nat → Nat) : ∀ k, k < 5 → (j_df k).map (j_cv ad) = j_df k := by
  intro k hk
  rcases (show k = 0 ∨ k = 1 ∨ k = 2 ∨ k = 3 ∨ k = 4 by omega) with rfl | rfl | rfl | rfl | rfl <;> rfl
theorem j_W.push {base b : Nat} {D : va_G} {tc : Nat → ClassId} {n : Nat} {M : jM} {H H1 : Heap} {e : va_E} (w : j_W base b D tc n M H) (hn : n < 1000) (o1 : ∀ q : Nat, q < H.size → H1[q]? = H[q]?) (he : va_at D vwCl (base + n, j_ce (j_ad base b) tc e) H1) : j_W base b D tc (n + 1) (va_up M n e) H1 := by
  refine ⟨fun k q hk => ?_, by omega, fun k hk => by rw [va_up_ne _ _ (by omega)]; exact w.2.2 k (by omega)⟩
  obtain ⟨h1, rfl⟩ := j_wl_at2 hk
  by_cases hkn : k = n
  · subst hkn
    rw [va_up_self]
    exact he
  · rw [va_up_ne _ _ hkn]
    have h2 := w.1 k _ (j_wl_at (by omega))
    exact h2.kept (o1 _ h2.lt)
theorem j_atS : ∀ t ∈ j_tlT, ∀ w ∈ (vx_atS (j_cn t.1) t.2.2.2 t.2.2.1 j_exN), (w ∈ j_gws ∨ (w = .castable t.2.2.1 t.2.2.1 ∧ t.2.2.1 ∈ j_exs) ∨ (∃ y ∈ j_dcN, w = .declares y)) ∧ vx_ot w = true := by
  have h : j_tlT.all (fun t => (vx_atS (j_cn t.1) t.2.2.2 t.2.2.1 j_exN).all (fun w => ((decide (w ∈ lw_tbl) && goodWord w) || (decide (w = .castable t.2.2.1 t.2.2.1) && decide (t.2.2.1 ∈ j_exs)) || j_dcN.any (fun y => decide (w = .declares y))) && vx_ot w)) = true := by decide +kernel
  intro t ht w hw
  have h1 := List.all_eq_true.mp (List.all_eq_true.mp h t ht) w hw
  simp only [Bool.and_eq_true, Bool.or_eq_true, decide_eq_true_eq, List.any_eq_true] at h1
  refine ⟨?_, h1.2⟩
  rcases h1.1 with (⟨q1, q2⟩ | q) | q
  · exact Or.inl (List.mem_filter.mpr ⟨q1, q2⟩)
  · exact Or.inr (Or.inl q)
  · exact Or.inr (Or.inr q)
theorem j_exNok : ∀ n ∈ j_exN, Bundle.fit n = true := by decide +kernel
section
variable {l : Launch} {base b L : Nat} {xs : Nat → Int32} {D : va_G} {tc : Nat → ClassId} {rec : jQ} {d i pc : Nat} {LS : jL} {ST : List Value} {M : jM} {h : jH} {r : jR} {me : jMe}
/-- a cell is made, then on -/
theorem j_mk {pc' : Nat} {ST' : List Value} {e : va_E} {z : Nat} (G : j_Good l base b L xs D tc rec) (hme : j_mt[i]? = some me) (hfr1 : h.2.1 = true) (hn : h.1 < 1000)
    (hr : rec d i pc' LS (.ref h.1 :: ST') (va_up M h.1 e) (h.1 + 1, true, h.2.2.1 + 1, h.2.2.2 + z) = some r)
    (k : ∀ (p : Program) (e' : Env) (R : Room) (s : State) (m : MethodId) (args : Array Value) (below : List Frame) (meth : Method) (c : Code) (H : Heap) (locs : List Loc) (Q : State → Prop) (ls : Array Slot), j_C p l R s m args meth c me d → j_K base b L xs D tc s s.heap → h.2.2.1 + 1 ≤ R.cells → h.2.2.2 + z ≤ R.slots → H.size = base + h.1 →
      (∀ (H1 : Heap), H1.size = H.size + 1 → (∀ q : Nat, q < H.size → H1[q]? = H[q]?) → va_at D vwCl (base + h.1, j_ce (j_ad base b) tc e) H1 → W p l e' R s m args below meth c H1 locs (h.2.2.1 + 1) (h.2.2.2 + z) Q (F0 m pc' ls (.ref (base + h.1) :: ST'.map (j_cv (j_ad base b))))) →
      W p l e' R s m args below meth c H locs h.2.2.1 h.2.2.2 Q (F0 m pc ls (ST.map (j_cv (j_ad base b))))) : j_Cn l base b L xs D tc d i pc LS ST M h r := by
  obtain ⟨n1, n2, n3⟩ := G _ _ _ _ _ _ _ _ hr
  dsimp only at n1 n2
  refine ⟨by omega, fun q => ⟨hfr1, by have := n2 q; omega⟩, ?_⟩
  intro p e' R s m args below meth c H locs Q me' ls hme' C K hc hs hfr hlen w hS hl hE
  obtain rfl : me' = me := Option.some.inj (hme'.symm.trans hme)
  refine j_bound (fun hbd => ?_)
  have hsz := w.sz (Nat.le_trans K.2.2.2.2.2.2.2.2.2.2 hS.1)
  have hf := hfr hfr1
  refine k p e' R s m args below meth c H locs Q ls C K (by omega) (by omega) (by omega) (fun H1 z1 o1 he => ?_)
  have hk := n3 p e' R s m args below meth c H1 locs Q me' ls hme' C K hc hs (fun _ => by dsimp only; omega) hlen (w.push hn o1 he) ⟨Nat.le_trans hS.1 (by omega), fun q h1 h2 => (o1 q (Nat.lt_of_lt_of_le h1 hS.1)).trans (hS.2.1 q h1 h2), hS.2.2⟩ hl hE
  have hcv : j_cv (j_ad base b) (.ref h.1) = .ref (base + h.1) := by
    show Value.ref (j_ad base b h.1) = _
    unfold j_ad
    rw [if_neg (by omega)]
  rw [List.map_cons, hcv] at hk
  exact hk
set_option maxHeartbeats 4000000 in
theorem j_new_ok {idx : Nat} (G : j_Good l base b L xs D tc rec) (hme : j_mt[i]? = some me) (hd : decode me.2.2.1 pc = .ok (.new idx, 3)) (hr : j_new rec me d i idx pc LS ST M h = some r) : j_Cn l base b L xs D tc d i pc LS ST M h r := by
  unfold j_new at hr
  split at hr
  · rename_i E ic htl
    obtain ⟨ht, hfit, hck, hini⟩ := j_tl_ok htl
    obtain ⟨⟨hst, hd6, hhh, hdup⟩, g1⟩ := j_c_some hr
    subst hst
    have fin : r = (.inr E, M, (h.1, false, h.2.2.1 + 1, h.2.2.2 + 6)) → (∀ (p : Program) (e : Env) (R : Room) (s : State) (m : MethodId) (args : Array Value) (below : List Frame) (meth : Method) (c : Code) (H : Heap) (locs : List Loc) (ls : Array Slot) (Qc : Array Value → State → Outcome → State → Prop) (XC : String → State → State → Prop) (mc ms : Nat), j_C p l R s m args meth c me d → j_K base b L xs D tc s s.heap → va_S (j_A base) s.heap H locs → ls.size = c.maxLocals → h.2.2.1 + 1 ≤ R.cells → h.2.2.2 + 6 ≤ R.slots → h.2.2.1 + 1 ≤ mc → h.2.2.2 + 6 ≤ ms →
        (∀ t : State, s.vm.Alike t.vm → H.size ≤ t.heap.size → (∀ q : Nat, q < H.size → t.heap[q]? = H[q]?) → XC E s t) → W p l e R s m args below meth c H locs h.2.2.1 h.2.2.2 (vx_MQ below Qc XC args s mc ms (j_A base)) (F0 m pc ls [])) → j_Cn l base b L xs D tc d i pc LS [] M h r := by
      intro hre k
      subst hre
      refine ⟨⟨Nat.le_add_right _ _, Nat.le_add_right _ _⟩, fun q => absurd (show false = true from q) Bool.false_ne_true, ?_⟩
      intro p e R s m args below meth c H locs Q me' ls hme' C K hc hs hfr hlen w hS hl hE
      obtain rfl : me' = me := Option.some.inj (hme'.symm.trans hme)
      obtain ⟨Qc, XC, mc, ms, rfl, hmc, hms, hXC⟩ := hE.2 E rfl
      exact k p e R s m args below meth c H locs ls Qc XC mc ms C K hS (by rw [C.2.2.1, ← hlen]; exact hl.1) hc hs hmc hms (fun t hal hz ho => hXC t hal (w.of ho) ⟨Nat.le_trans hS.1 hz, fun q h1 h2 => (ho q (Nat.lt_of_lt_of_le h1 hS.1)).trans (hS.2.1 q h1 h2)⟩)
    have hat : ∀ {s : State} {args : Array Value}, (∀ w ∈ j_gws, w.before args s = true) → j_K base b L xs D tc s s.heap → ∀ w ∈ vx_atS (j_cn me.1) ic E j_exN, w.before args s = true := by
      intro s args hts K w hw
      rcases (j_atS _ ht w hw).1 with q | ⟨rfl, q⟩ | ⟨y, hy, rfl⟩
      · exact hts w q
      · exact va_Nw.use rfl (K.2.1.1 E q)
      · exact va_Nw.use rfl (K.2.1.2 y hy)
    have hgood : ∀ w ∈ Cond.classLink (j_cn me.1) idx E :: Cond.initialized E :: vx_atS (j_cn me.1) ic E j_exN, vx_ot w = true := by
      intro w hw
      rcases List.mem_cons.mp hw with rfl | hw
      · rfl
      · rcases List.mem_cons.mp hw with rfl | hw
        · rfl
        · exact (j_atS _ ht w hw).2
    split at g1
    · rename_i is hldc
      obtain ⟨⟨hsr, h6, h9⟩, g2⟩ := j_c_some g1
      obtain ⟨tx, htx⟩ := Option.isSome_iff_exists.mp hsr
      refine fin (Option.some.inj g2).symm ?_
      intro p e R s m args below meth c H locs ls Qc XC mc ms C K hS hsz hc hs hmc hms hX
      obtain ⟨sa, hsa⟩ := K.2.2.2.2.2.1 _ (j_sr_ok htx)
      obtain ⟨hx, hb, hml, hown, hts, hlocks, hinit, htab, hret, hRf, hRl, hlt⟩ := C
      exact vx_throwS hx hb hlt hown hfit j_exNok (hts _ hck) (hts _ hini) hsa (hat hts K) hgood K.2.2.2.2.2.2.1 K.2.2.2.2.2.2.2.1 hS hsz hd hdup hldc h6 h9 (fun x hx => by rw [htab, hhh] at hx; cases hx) (show 2 + 3 < R.frames by omega) (show 0 + 82 ≤ R.locals by omega) hc hs hlocks hX hS.2.2 hmc hms
    · rename_i is hldc
      obtain ⟨⟨hsr, h7, h10⟩, g2⟩ := j_c_some g1
      obtain ⟨tx, htx⟩ := Option.isSome_iff_exists.mp hsr
      refine fin (Option.some.inj g2).symm ?_
      intro p e R s m args below meth c H locs ls Qc XC mc ms C K hS hsz hc hs hmc hms hX
      obtain ⟨sa, hsa⟩ := K.2.2.2.2.2.1 _ (j_sr_ok htx)
      obtain ⟨hx, hb, hml, hown, hts, hlocks, hinit, htab, hret, hRf, hRl, hlt⟩ := C
      exact vx_throwSW hx hb hlt hown hfit j_exNok (hts _ hck) (hts _ hini) hsa (hat hts K) hgood K.2.2.2.2.2.2.1 K.2.2.2.2.2.2.2.1 hS hsz hd hdup hldc h7 h10 (fun x hx => by rw [htab, hhh] at hx; cases hx) (show 2 + 3 < R.frames by omega) (show 0 + 82 ≤ R.locals by omega) hc hs hlocks hX hS.2.2 hmc hms
    · cases g1
  · obtain ⟨k, hk, g1⟩ := Option.bind_eq_some_iff.mp hr
    obtain ⟨⟨hfr1, hn⟩, g2⟩ := j_c_some g1
    obtain ⟨hk6, hw⟩ := j_ol_ok hk
    simp only [List.mem_cons, List.not_mem_nil, or_false, forall_eq_or_imp, forall_eq] at hw
    obtain ⟨w1, w2, w3⟩ := hw
    refine j_mk G hme hfr1 hn g2 ?_
    intro p e R s m args below meth c H locs Q ls C K hc hs hsz kk
    obtain ⟨hx, hb, hml, hown, hts, hlocks, hinit, htab, hret, hRf, hRl, -⟩ := C
    have hKn := K.1.1 k _ (j_cl_at k hk6)
    refine W.newcK hx hb hown (hts _ w1) (hts _ w2) (hts _ w3) rfl hd hc hs hKn.2.1 rfl (fun H1 kC hkC e1 z1 o1 => ?_)
    have e2 : H1[base + h.1]? = some (blank (D.1 k) kC) := by rw [← hsz]; exact e1
    have hkk := kk H1 z1 o1 (show va_at D vwCl (base + h.1, .inr (k, (j_df k).map (j_cv (j_ad base b)))) H1 from by
      rw [j_df_cv _ k hk6]
      exact ⟨_, j_cl_at k hk6, (u_born (j_ty k) hts (j_inG k hk6) hKn hkC e2 (j_tyG k hk6)).to (j_df_ok k hk6)⟩)
    rw [hsz]
    exact hkk
set_option maxHeartbeats 4000000 in
theorem j_nar_ok {t : ArrayType} (G : j_Good l base b L xs D tc rec) (hme : j_mt[i]? = some me) (hd : decode me.2.2.1 pc = .ok (.newarray t, 2)) (hr : j_nar rec t d i pc LS ST M h = some r) : j_Cn l base b L xs D tc d i pc LS ST M h r := by
  unfold j_nar at hr
  obtain ⟨x, rr, rfl, g1⟩ := j_i_some hr
  obtain ⟨⟨hfr1, hn, hx0, hx1⟩, g2⟩ := j_c_some g1
  have hA := j_fA_i
  have go : ∀ (ty : FieldType) (q : Nat) (f : Nat → Value) (e0 : va_E), newarray.typeOf t = ty → ty ∈ ([.int, .byte] : List FieldType) → (j_tys tc)[q]? = some (tc q, ty) → componentBytes ty ≤ 8 → (∀ U, va_RA U (tc q) ty → U.vm.findClass ("[" ++ ty.toString) = some (tc q)) →
      (∀ H1 : Heap, H1[base + h.1]? = some (arrV (tc q) x.toNatClampNeg (fun _ => defaultValue ty)) → va_at D vwCl (base + h.1, j_ce (j_ad base b) tc e0) H1) → rec d i (pc + 2) LS (.ref h.1 :: rr) (va_up M h.1 e0) (h.1 + 1, true, h.2.2.1 + 1, h.2.2.2 + x.toNatClampNeg) = some r → j_Cn l base b L xs D tc d i pc LS (.int x :: rr) M h r := by
    intro ty q f e0 hty hm htq hcb hRA he g3
    refine j_mk G hme hfr1 hn g3 ?_
    intro p e R s m args below meth c H locs Q ls C K hc hs hsz kk
    obtain ⟨hx, hb, hml, hown, hts, hlocks, hinit, htab, hret, hRf, hRl, -⟩ := C
    subst hty
    refine va_newaK hx hb (hts _ (hA _ hm _ List.mem_cons_self)) rfl hd rfl hx0 rfl (Nat.le_trans (Nat.mul_le_mul hx1 hcb) (by decide)) hc hs rfl (fun H1 cA e1 z1 o1 hAr hNm => ?_)
    have hcA : cA = tc q := Option.some.inj (hNm.symm.trans (hRA s (K.1.2 q _ htq).2))
    subst hcA
    have hkk := kk H1 z1 o1 (he H1 (by rw [← hsz]; exact e1))
    rw [hsz]
    exact hkk
  split at g2
  · exact go .int 0 (fun _ => .null) (.inl (0, x.toNatClampNeg, .inl (fun _ => 0))) rfl (by decide) rfl (by decide) (fun U q => q) (fun H1 q => q) g2
  · exact go .byte 1 (fun _ => .null) (.inl (1, x.toNatClampNeg, .inl (fun _ => 0))) rfl (by decide) rfl (by decide) (fun U q => q) (fun H1 q => q) g2
  · cases g2
set_option maxHeartbeats 4000000 in
theorem j_anar_ok {idx : Nat} (G : j_Good l base b L xs D tc rec) (hme : j_mt[i]? = some me) (hd : decode me.2.2.1 pc = .ok (.anewarray idx, 3)) (hr : j_anar rec me d i idx pc LS ST M h = some r) : j_Cn l base b L xs D tc d i pc LS ST M h r := by
  unfold j_anar at hr
  obtain ⟨x, rr, rfl, g1⟩ := j_i_some hr
  obtain ⟨⟨hfr1, hn, hx0, hx1, hol⟩, g2⟩ := j_c_some g1
  obtain ⟨hk6, hw⟩ := j_ol_ok hol
  refine j_mk G hme hfr1 hn g2 ?_
  intro p e R s m args below meth c H locs Q ls C K hc hs hsz kk
  obtain ⟨hx, hb, hml, hown, hts, hlocks, hinit, htab, hret, hRf, hRl, -⟩ := C
  refine W.anew (C := "ShipJournal$State") hx hb hown (hts _ (hw _ List.mem_cons_self)) (va_AO.use K.2.2.2.2.1) rfl hd rfl hx0 (by omega) hc hs (fun cA kA comp f1 f2 f3 f4 => ?_)
  have hRA := (K.1.2 2 _ rfl).2
  obtain ⟨kA', comp', k1, k2, k3, k4⟩ := hRA
  have hcA : cA = tc 2 := Option.some.inj (f1.symm.trans k4)
  subst hcA
  have hkk := kk (H.push ({ cls := tc 2, slots := Array.replicate x.toNatClampNeg .null, vm := .none } : Cell)) (by rw [Array.size_push]) (fun q hq => by rw [Array.getElem?_push, if_neg (Nat.ne_of_lt hq)])
    (show (H.push ({ cls := tc 2, slots := Array.replicate x.toNatClampNeg .null, vm := .none } : Cell))[base + h.1]? = some (arrV (tc 2) x.toNatClampNeg (fun _ => .null)) from by rw [← hsz, Array.getElem?_push_size, ← arrV_new])
  rw [hsz]
  exact hkk
end
