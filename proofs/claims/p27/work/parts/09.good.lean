section
variable {l : Launch} {base b L : Nat} {xs : Nat → Int32} {D : va_G} {tc : Nat → ClassId} {rec : jQ} {d i pc : Nat} {LS : jL} {ST : List Value} {M : jM} {h : jH} {r : jR} {me : jMe}
set_option maxHeartbeats 8000000 in
/-- the call's own part: the frame of the callee, by its kind -/
theorem j_vrun {p : Program} {e : Env} {R : Room} {s : State} {m : MethodId} {args : Array Value} {below : List Frame} {meth : Method} {c : Code} {H : Heap} {locs : List Loc} {cells slots : Nat} {ls : Array Slot} {idx kd t n : Nat} {fr : Bool} {mf : jMe} {st vs : List Value} {r1 : jR} {I : Instr}
    (hlt : l.stackTraces = false) (G : j_Good l base b L xs D tc rec) (C : j_C p l R s m args meth c me (d + 1)) (K : j_K base b L xs D tc s s.heap) (hmf : j_mt[t]? = some mf) (hcl : (me.1, idx, kd, t) ∈ j_clT) (hk6 : kd < 6)
    (hI : (kd = 0 ∧ I = .invokevirtual idx) ∨ ((kd = 1 ∨ kd = 2 ∨ kd = 5) ∧ I = .invokestatic idx) ∨ ((kd = 3 ∨ kd = 4) ∧ I = .invokespecial idx)) (hd : decode me.2.2.1 pc = .ok (I, 3))
    (hna : mf.2.2.2.2.2.1 ≤ st.length) (hcs : j_cs (st.drop mf.2.2.2.2.2.1) ≤ 8) (hvs : (st.take mf.2.2.2.2.2.1).reverse = vs) (hlen : (j_sl vs).length ≤ mf.2.2.2.1)
    (hrc : (kd = 0 ∨ kd = 3 ∨ kd = 4) → ∃ a as fs, vs = .ref a :: as ∧ M a = .inr (mf.1, fs)) (hr1 : rec d t 0 (j_ent mf.2.2.2.1 vs) [] M (n, fr, 0, 0) = some r1) (hsz : ls.size = me.2.2.2.1)
    (w : j_W base b D tc n M H) (hS : va_S (j_A base) s.heap H locs) (hfr : fr = true → H.size = base + n) (hfc : cells + r1.2.2.2.2.1 ≤ R.cells) (hfs : slots + r1.2.2.2.2.2 ≤ R.slots) :
    vx_Run p l e R s m args below meth c H locs cells slots r1.2.2.2.2.1 r1.2.2.2.2.2 (F0 m pc ls (st.map (j_cv (j_ad base b)))) ((st.drop mf.2.2.2.2.2.1).map (j_cv (j_ad base b))) (j_Qc base b D tc r1 (vs.map (j_cv (j_ad base b))).toArray) (j_XC base b D tc r1) (j_A base) := by
  obtain ⟨hx, hb, hml, hown, hts, hlocks, hini, htab, hret, hRf, hRl, -⟩ := C
  have hM := j_met hlt G hmf hlen hr1
  have ht127 := j_clI _ hcl hk6
  dsimp only at ht127
  obtain ⟨hml9, hpn, hne, hcn, hinit⟩ := j_me_ok hmf
  have hWd := j_clW hcl
  have hOk := List.all_eq_true.mp j_okC_all _ hcl
  have hG := j_ws_in ht127 hmf
  have hpre : ∀ U : State, U.heap = H → s.WarmedH U.vm → va_Pc (vs.map (j_cv (j_ad base b))) (j_Pre base b L xs D tc n fr M) (vs.map (j_cv (j_ad base b))).toArray U := fun U hU hW =>
    ⟨rfl, K.warm hW (fun q hq => by rw [hU]; exact hS.2.1 q (Nat.lt_of_lt_of_le hq K.2.2.2.2.2.2.2.2.2.2) (Nat.not_le.mpr hq)) (by rw [hU]; exact Nat.le_trans K.2.2.2.2.2.2.2.2.2.2 hS.1), by rw [hU]; exact w, fun q => by rw [hU]; exact hfr q⟩
  have hstk := j_stk (f := j_cv (j_ad base b)) hvs
  have hroom : 2 * (F0 m pc ls (st.map (j_cv (j_ad base b)))).monitorRoom + (((st.drop mf.2.2.2.2.2.1).map (j_cv (j_ad base b))).map fun v => v.category).sum ≤ 8 := by
    refine lv_room ?_
    rw [List.map_map, show ((fun v : Value => v.category) ∘ j_cv (j_ad base b)) = (fun v : Value => v.category) from funext fun v => j_cv_cat _ v]
    exact hcs
  have hvl : vs.length = mf.2.2.2.2.2.1 := by rw [← hvs, List.length_reverse, List.length_take]; omega
  have hR1 : (j_rm d r1).frames + 1 ≤ R.frames ∧ 8 + (mf.2.2.2.1 + 11) + (j_rm d r1).locals ≤ R.locals := by
    refine ⟨hRf, ?_⟩
    show 8 + (mf.2.2.2.1 + 11) + (31 * d + 89) ≤ R.locals
    omega
  have hS0 : CallFix p m c me.2.2.1 me.2.2.2.1 s args j_gws (j_cn me.1) := ⟨hx, hb, hml, hown, hts⟩
  have hnp : ∀ k, j_np mf.2.1 = some k → (parseMethodDescriptor mf.2.1.desc).map (fun d => d.parameters.length) = some k := fun k q => q
  match kd, hk6 with
  | 0, _ =>
    obtain ⟨a, as, fs, rfl, hMa⟩ := hrc (Or.inl rfl)
    obtain ⟨-, rfl⟩ : (0 : Nat) = 0 ∧ I = .invokevirtual idx := by rcases hI with q | ⟨q, -⟩ | ⟨q, -⟩; exact q; all_goals omega
    simp only [j_okC, hmf, Bool.and_eq_true, decide_eq_true_eq, List.isEmpty_iff] at hOk
    obtain ⟨⟨hk0, hnn⟩, hhh⟩ := hOk
    simp only [j_wC, hmf, List.mem_cons, List.not_mem_nil, or_false, forall_eq_or_imp, forall_eq] at hWd
    obtain ⟨w1, w2, w3⟩ := hWd
    have ha : a < n := w.lt (by rw [hMa]; exact j_nil_ob (by have := (List.all_eq_true.mp j_okM_all mf (List.mem_of_getElem? hmf)); simp only [j_okM, Bool.and_eq_true, decide_eq_true_eq] at this; omega))
    have hrecv : ∃ cellB : Cell, H[j_ad base b a]? = some cellB ∧ cellB.vm.isStatics = false ∧ s.vm.findClass mf.2.1.cls = some cellB.cls := by
      have he := j_wl_at (base := base) (b := b) (tc := tc) (M := M) ha
      rw [hMa] at he
      obtain ⟨q, hq, -⟩ := w.1 a _ he
      have h6 : mf.1 < 5 := (List.getElem?_eq_some_iff.mp hq).1
      rw [w.ad ha, ← hcn]
      exact va_recv K.1 w.1 (ci := mf.1) (q0 := a) (j_cl_at mf.1 h6) he
    have cw : CallW R s args (j_cn me.1) mf.2.1.cls idx mf.2.1 mf.2.2.1 mf.2.2.2.1 mf.2.2.2.2.1 (j_ws mf) (j_rm d r1) r1.2.2.2.2.1 r1.2.2.2.2.2 as.length :=
      ⟨callB_of (ws' := j_gws) as.length hts hG (by unfold j_ws; rw [hhh]) rfl rfl (hts _ hinit) (hts _ w1) ⟨hne.1, hne.2, by rw [hnp _ hnn, ← hvl]; rfl⟩ hR1, hts _ w2, hts _ w3⟩
    have hR := vx_runV (e := e) (below := below) (meth := meth) (H := H) (locs := locs) (cells := cells) (slots := slots) (As := as.map (j_cv (j_ad base b))) (rest := (st.drop mf.2.2.2.2.2.1).map (j_cv (j_ad base b))) (g := F0 m pc ls (st.map (j_cv (j_ad base b)))) (b := j_ad base b a) hS0 hM cw ⟨j_blind, hrecv, hpre⟩ rfl (List.length_map ..) hsz (by
      show st.map (j_cv (j_ad base b)) = _
      rw [hstk]
      simp [j_cv]) hroom hd ⟨hfc, hfs⟩
    exact hR
  | 1, _ =>
    obtain rfl : I = .invokestatic idx := by rcases hI with ⟨q, -⟩ | ⟨-, q⟩ | ⟨q, -⟩; omega; exact q; omega
    simp only [j_okC, hmf, Bool.and_eq_true, decide_eq_true_eq, List.isEmpty_iff] at hOk
    obtain ⟨hnn, hhh⟩ := hOk
    simp only [j_wC, hmf, List.mem_cons, List.not_mem_nil, or_false, forall_eq_or_imp, forall_eq] at hWd
    obtain ⟨w1, w2⟩ := hWd
    have cw : CallB R s args (j_cn me.1) idx mf.2.1 mf.2.2.1 mf.2.2.2.1 mf.2.2.2.2.1 (j_ws mf) (j_rm d r1) r1.2.2.2.2.1 r1.2.2.2.2.2 vs.length :=
      callB_of (ws' := j_gws) vs.length hts hG (by unfold j_ws; rw [hhh]) rfl rfl (hts _ hinit) (hts _ w1) ⟨hne.1, hne.2, by rw [hnp _ hnn, hvl]⟩ hR1
    exact vx_runS (e := e) (below := below) (meth := meth) (H := H) (locs := locs) (cells := cells) (slots := slots) (As := vs.map (j_cv (j_ad base b))) (rest := (st.drop mf.2.2.2.2.2.1).map (j_cv (j_ad base b))) (g := F0 m pc ls (st.map (j_cv (j_ad base b)))) hS0 hM ⟨cw, hts _ w2⟩ ⟨j_blind, hpre⟩ rfl (List.length_map ..) hsz hstk hroom hd ⟨hfc, hfs⟩
  | 2, _ =>
    obtain rfl : I = .invokestatic idx := by rcases hI with ⟨q, -⟩ | ⟨-, q⟩ | ⟨q, -⟩; omega; exact q; omega
    simp only [j_okC, hmf, Bool.and_eq_true, decide_eq_true_eq, Bool.not_eq_true'] at hOk
    obtain ⟨hnn, hhh⟩ := hOk
    simp only [j_wC, hmf, List.mem_cons, List.not_mem_nil, or_false, forall_eq_or_imp, forall_eq] at hWd
    obtain ⟨w1, w2⟩ := hWd
    cases hh0 : mf.2.2.2.2.2.2 with
    | nil => rw [hh0] at hhh; cases hhh
    | cons x y =>
      have hws : j_ws mf = .codeWith mf.2.1 mf.2.2.1 mf.2.2.2.1 mf.2.2.2.2.1 (x :: y) :: j_gws := by unfold j_ws; rw [hh0]
      have cw : vx_CSW R s args (j_cn me.1) idx mf.2.1 mf.2.2.1 mf.2.2.2.1 mf.2.2.2.2.1 (x :: y) (j_ws mf) (j_rm d r1) r1.2.2.2.2.1 r1.2.2.2.2.2 vs.length := by
        refine ⟨⟨rfl, rfl, hR1.1, hR1.2, pay_in hts hG, by rw [hws]; exact List.mem_cons_self⟩, hts _ (hG _ (by rw [hws]; exact List.mem_cons_self)).1, hts _ hinit, hne, fun sig q => ?_, hts _ w1, hts _ w2⟩
        have q2 := hnp _ hnn
        rw [q] at q2
        rw [hvl]
        exact (Option.some.inj q2).symm
      exact vx_runSX (e := e) (below := below) (meth := meth) (H := H) (locs := locs) (cells := cells) (slots := slots) (As := vs.map (j_cv (j_ad base b))) (rest := (st.drop mf.2.2.2.2.2.1).map (j_cv (j_ad base b))) (g := F0 m pc ls (st.map (j_cv (j_ad base b)))) hS0 hM cw ⟨j_blind, hpre⟩ rfl (List.length_map ..) hsz hstk hroom hd ⟨hfc, hfs⟩
  | 3, _ =>
    obtain ⟨a, as, fs, rfl, hMa⟩ := hrc (Or.inr (Or.inl rfl))
    obtain rfl : I = .invokespecial idx := by rcases hI with ⟨q, -⟩ | ⟨q, -⟩ | ⟨-, q⟩; omega; omega; exact q
    simp only [j_okC, hmf, Bool.and_eq_true, decide_eq_true_eq, List.isEmpty_iff, beq_iff_eq] at hOk
    obtain ⟨⟨⟨⟨hy1, hk0⟩, hnn⟩, hhh⟩, hrn⟩ := hOk
    simp only [j_wC, hmf, List.mem_cons, List.not_mem_nil, or_false, forall_eq_or_imp, forall_eq] at hWd
    obtain ⟨w1, w2⟩ := hWd
    have cw : CallB R s args (j_cn me.1) idx mf.2.1 mf.2.2.1 mf.2.2.2.1 none (j_ws mf) (j_rm d r1) r1.2.2.2.2.1 r1.2.2.2.2.2 as.length :=
      callB_of (ws' := j_gws) as.length hts hG (by unfold j_ws; rw [hhh, hrn]) rfl rfl (hts _ hinit) (hts _ w1) ⟨hne.1, hne.2, by rw [hnp _ hnn, ← hvl]; rfl⟩ hR1
    exact vx_runI (e := e) (below := below) (meth := meth) (H := H) (locs := locs) (cells := cells) (slots := slots) (As := as.map (j_cv (j_ad base b))) (rest := (st.drop mf.2.2.2.2.2.1).map (j_cv (j_ad base b))) (g := F0 m pc ls (st.map (j_cv (j_ad base b)))) (b := j_ad base b a) hS0 hM ⟨cw, hy1, hts _ w2⟩ ⟨j_blind, hpre⟩ rfl (List.length_map ..) hsz (by
      show st.map (j_cv (j_ad base b)) = _
      rw [hstk]
      simp [j_cv]) hroom hd ⟨hfc, hfs⟩
  | 4, _ =>
    obtain ⟨a, as, fs, rfl, hMa⟩ := hrc (Or.inr (Or.inr rfl))
    obtain rfl : I = .invokespecial idx := by rcases hI with ⟨q, -⟩ | ⟨q, -⟩ | ⟨-, q⟩; omega; omega; exact q
    simp only [j_okC, hmf, Bool.and_eq_true, decide_eq_true_eq, List.isEmpty_iff, beq_iff_eq] at hOk
    obtain ⟨⟨⟨⟨⟨hns, hy1⟩, hk0⟩, hnn⟩, hhh⟩, hrn⟩ := hOk
    simp only [j_wC, hmf, List.mem_cons, List.not_mem_nil, or_false, forall_eq_or_imp, forall_eq] at hWd
    have w2 := hWd
    have hws : j_ws mf = .code mf.2.1 mf.2.2.1 mf.2.2.2.1 none :: j_gws := by unfold j_ws; rw [hhh, hrn]
    have hN : va_Nw (.methodLinkNest (j_cn me.1) idx mf.2.1 "ShipJournal") s := K.2.2.2.1 (me.1, idx, mf.2.1) hns
    have cw : va_CN R s args (j_cn me.1) idx mf.2.1 "ShipJournal" mf.2.2.1 mf.2.2.2.1 none (j_ws mf) (j_rm d r1) r1.2.2.2.2.1 r1.2.2.2.2.2 as.length :=
      va_cnB (ws' := j_gws) as.length hts hG hws rfl rfl hN (hts _ hinit) ⟨hne.1, hne.2, by rw [hnp _ hnn, ← hvl]; rfl⟩ hR1
    exact vx_runIN (e := e) (below := below) (meth := meth) (H := H) (locs := locs) (cells := cells) (slots := slots) (As := as.map (j_cv (j_ad base b))) (rest := (st.drop mf.2.2.2.2.2.1).map (j_cv (j_ad base b))) (g := F0 m pc ls (st.map (j_cv (j_ad base b)))) (b := j_ad base b a) hS0 hM ⟨cw, hy1, hts _ w2⟩ ⟨j_blind, hpre⟩ rfl (List.length_map ..) hsz (by
      show st.map (j_cv (j_ad base b)) = _
      rw [hstk]
      simp [j_cv]) hroom hd ⟨hfc, hfs⟩
  | 5, _ =>
    obtain rfl : I = .invokestatic idx := by rcases hI with ⟨q, -⟩ | ⟨-, q⟩ | ⟨q, -⟩; omega; exact q; omega
    simp only [j_okC, hmf, Bool.and_eq_true, decide_eq_true_eq, List.isEmpty_iff] at hOk
    obtain ⟨⟨hns, hnn⟩, hhh⟩ := hOk
    simp only [j_wC, hmf, List.mem_cons, List.not_mem_nil, or_false, forall_eq_or_imp, forall_eq] at hWd
    have hN : va_Nw (.methodLinkNest (j_cn me.1) idx mf.2.1 "ShipJournal") s := K.2.2.2.1 (me.1, idx, mf.2.1) hns
    have cw : va_CN R s args (j_cn me.1) idx mf.2.1 "ShipJournal" mf.2.2.1 mf.2.2.2.1 mf.2.2.2.2.1 (j_ws mf) (j_rm d r1) r1.2.2.2.2.1 r1.2.2.2.2.2 vs.length :=
      va_cnB (ws' := j_gws) vs.length hts hG (by unfold j_ws; rw [hhh]) rfl rfl hN (hts _ hinit) ⟨hne.1, hne.2, by rw [hnp _ hnn, hvl]⟩ hR1
    exact vx_runSN (e := e) (below := below) (meth := meth) (H := H) (locs := locs) (cells := cells) (slots := slots) (As := vs.map (j_cv (j_ad base b))) (rest := (st.drop mf.2.2.2.2.2.1).map (j_cv (j_ad base b))) (g := F0 m pc ls (st.map (j_cv (j_ad base b)))) hS0 hM ⟨cw, hts _ hWd, trivial⟩ ⟨j_blind, hpre⟩ rfl (List.length_map ..) hsz hstk hroom hd ⟨hfc, hfs⟩
  | k + 6, q => omega
end
