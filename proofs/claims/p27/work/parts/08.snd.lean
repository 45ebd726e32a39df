/-! a run is a run of the machine: calls, throws, what is made -/
theorem j_gw {w : Cond} (h : w ∈ j_gws) : (w.onTables && w.keeps) = true ∨ ∃ ty, w = .arrayClass ty := good_of_word (List.mem_filter.mp h).2
set_option maxRecDepth 100000 in
theorem j_mtW : ∀ (t : Nat) (mf : jMe), t < 127 → j_mt[t]? = some mf → ∀ w ∈ j_wM mf, w ∈ j_gws := by
  intro t mf ht hmf
  have h1 : mf ∈ j_mt0 ++ (j_mt1 ++ (j_mt2 ++ (j_mt3 ++ (j_mt4 ++ (j_mt5 ++ (j_mt6 ++ j_mtL7)))))) := by
    have h2 : (j_mt.take 127)[t]? = some mf := by rw [List.getElem?_take_of_lt ht]; exact hmf
    have h3 : j_mt.take 127 = j_mt0 ++ (j_mt1 ++ (j_mt2 ++ (j_mt3 ++ (j_mt4 ++ (j_mt5 ++ (j_mt6 ++ j_mtL7)))))) := rfl
    rw [h3] at h2
    exact List.mem_of_getElem? h2
  simp only [List.mem_append] at h1
  rcases h1 with h | h | h | h | h | h | h | h
  · exact j_fM0_i mf h
  · exact j_fM1_i mf h
  · exact j_fM2_i mf h
  · exact j_fM3_i mf h
  · exact j_fM4_i mf h
  · exact j_fM5_i mf h
  · exact j_fM6_i mf h
  · exact j_fM7_i mf h
theorem j_ws_in {t : Nat} {mf : jMe} (ht : t < 127) (hmf : j_mt[t]? = some mf) : GoodIn j_gws (j_ws mf) := by
  have h := j_mtW t mf ht hmf
  unfold j_wM at h
  unfold j_ws
  intro w hw
  split at hw
  · rename_i q
    rw [q] at h
    rcases List.mem_cons.mp hw with rfl | hw
    · have := h _ List.mem_cons_self
      exact ⟨this, j_gw this⟩
    · exact ⟨hw, j_gw hw⟩
  · rename_i x y q
    rw [q] at h
    rcases List.mem_cons.mp hw with rfl | hw
    · have := h _ List.mem_cons_self
      exact ⟨this, j_gw this⟩
    · exact ⟨hw, j_gw hw⟩
theorem j_me_ok {t : Nat} {mf : jMe} (hmf : j_mt[t]? = some mf) : mf.2.2.2.1 ≤ 12 ∧ Jvm.plainName mf.2.1.cls = true ∧ (mf.2.1.cls ≠ "java/lang/invoke/MethodHandle" ∧ mf.2.1.cls ≠ "java/lang/invoke/VarHandle") ∧ j_cn mf.1 = mf.2.1.cls ∧ Cond.initialized mf.2.1.cls ∈ j_gws := by
  have hok := List.all_eq_true.mp j_okM_all mf (List.mem_of_getElem? hmf)
  simp only [j_okM, j_pn, Bool.and_eq_true, decide_eq_true_eq, bne_iff_ne] at hok
  obtain ⟨⟨⟨hml9, hpn, hne⟩, hci9⟩, hcn⟩ := hok
  refine ⟨hml9, hpn, hne, hcn, ?_⟩
  rw [← hcn]
  exact j_fI_i mf.1 (List.mem_range.mpr hci9) _ List.mem_cons_self
theorem j_clW {q : Nat × Nat × Nat × Nat} (h : q ∈ j_clT) : ∀ w ∈ j_wC q, w ∈ j_gws := by
  have h1 : q ∈ j_clT0 ++ (j_clT1 ++ (j_clT2 ++ j_clT3)) := h
  simp only [List.mem_append] at h1
  rcases h1 with h | h | h | h
  · exact j_fC0_i q h
  · exact j_fC1_i q h
  · exact j_fC2_i q h
  · exact j_fC3_i q h
theorem j_clI : ∀ q ∈ j_clT, q.2.2.1 < 6 → q.2.2.2 < 127 := by
  have h : j_clT.all (fun q => decide (q.2.2.1 < 6 → q.2.2.2 < 127)) = true := by decide +kernel
  intro q hq
  exact of_decide_eq_true (List.all_eq_true.mp h q hq)
theorem j_kl0 {ci idx : Nat} {nm : String} (h : j_kl ci idx = some nm) : idx ≠ 0 := by
  unfold j_kl at h
  obtain ⟨t, ht, rfl⟩ := Option.map_eq_some_iff.mp h
  have hm := List.mem_of_find?_eq_some ht
  have hp := List.find?_some ht
  simp only [Bool.and_eq_true, beq_iff_eq] at hp
  have h2 : j_klT.all (fun t => decide (t.2.1 ≠ 0)) = true := by decide +kernel
  have h3 := List.all_eq_true.mp h2 t hm
  rw [← hp.2]
  simpa using h3
theorem j_find_ok {ci : Nat} {E : String} {pc hp : Nat} : ∀ {hh : List (Nat × Nat × Nat × Nat)}, j_find ci E pc hh = some hp → ∃ pre x suf, hh = pre ++ x :: suf ∧ (x.1 ≤ pc ∧ pc < x.2.1) ∧ x.2.2.1 = hp ∧ j_kl ci x.2.2.2 = some E ∧ E ∈ j_exs ∧ ∀ z ∈ pre, ¬ (z.1 ≤ pc ∧ pc < z.2.1) ∨ ∃ nm, j_kl ci z.2.2.2 = some nm ∧ nm ≠ E ∧ nm ∈ j_exs := by
  intro hh
  induction hh with
  | nil => intro h; cases h
  | cons x r ih =>
    intro h
    unfold j_find at h
    split at h
    · rename_i hc
      obtain ⟨nm, hn, h⟩ := Option.bind_eq_some_iff.mp h
      split at h
      · rename_i he
        obtain ⟨e1, he⟩ := he
        exact ⟨[], x, r, rfl, hc, Option.some.inj h, e1 ▸ hn, he, fun z hz => absurd hz List.not_mem_nil⟩
      · split at h
        · rename_i he
          obtain ⟨pre, y, suf, h1, h2, h3, h4, h5, h6⟩ := ih h
          exact ⟨x :: pre, y, suf, by rw [h1]; rfl, h2, h3, h4, h5, fun z hz => (List.mem_cons.mp hz).elim (fun q => Or.inr ⟨nm, by rw [q]; exact hn, he.2.2, he.2.1⟩) (h6 z)⟩
        · cases h
    · rename_i hc
      obtain ⟨pre, y, suf, h1, h2, h3, h4, h5, h6⟩ := ih h
      exact ⟨x :: pre, y, suf, by rw [h1]; rfl, h2, h3, h4, h5, fun z hz => (List.mem_cons.mp hz).elim (fun q => Or.inl (by rw [q]; exact hc)) (h6 z)⟩
theorem j_stk {f : Value → Value} {st vs : List Value} {k : Nat} (h : (st.take k).reverse = vs) : st.map f = (vs.map f).reverse ++ (st.drop k).map f := by
  subst h
  rw [List.map_reverse, List.reverse_reverse, ← List.map_append, List.take_append_drop]
theorem j_W.of {base b : Nat} {D : va_G} {tc : Nat → ClassId} {n : Nat} {M : jM} {H H1 : Heap} (w : j_W base b D tc n M H) (hq : ∀ q : Nat, q < H.size → H1[q]? = H[q]?) : j_W base b D tc n M H1 :=
  ⟨w.1.kept (fun k q hk => hq _ (w.1 k q hk).lt), w.2⟩
section
variable {p : Program} {l : Launch} {e : Env} {R : Room} {s : State} {m : MethodId} {args : Array Value} {below : List Frame} {meth : Method} {c : Code} {H : Heap} {locs : List Loc} {cells slots : Nat} {Q : State → Prop}
variable {base b L : Nat} {xs : Nat → Int32} {D : va_G} {tc : Nat → ClassId} {n : Nat} {M : jM} {ls : Array Slot} {pc mc ms : Nat} {st0 rest : List Value} {r : jR} {a : Array Value}
theorem j_callX (hr : vx_Run p l e R s m args below meth c H locs cells slots mc ms (F0 m pc ls st0) rest (j_Qc base b D tc r a) (j_XC base b D tc r) (j_A base)) (hS : va_S (j_A base) s.heap H locs)
    (kx : ∀ (E : String) (ce : Cell) (q9 : Addr) (H1 : Heap) (locs1 : List Loc), r.1 = .inr E → j_W base b D tc r.2.2.1 r.2.1 H1 → va_S (j_A base) s.heap H1 locs1 → H1[q9]? = some ce → ce.vm = .none → s.vm.findClass E = some ce.cls → vx_W p l e R s m args below meth c H1 locs1 (cells + mc) (slots + ms) Q (F0 m pc ls rest) q9)
    (kk : ∀ (v : Option Value) (H1 : Heap) (locs1 : List Loc), r.1 = .inl v → j_W base b D tc r.2.2.1 r.2.1 H1 → va_S (j_A base) s.heap H1 locs1 → W p l e R s m args below meth c H1 locs1 (cells + mc) (slots + ms) Q (F0 m (pc + 3) ls ((v.map (j_cv (j_ad base b))).toList ++ rest))) :
    W p l e R s m args below meth c H locs cells slots Q (F0 m pc ls st0) := by
  intro T hT X
  rcases hr T hT X with ⟨v, st₀, t, T', L', h0, X', hL, e1, e2, ⟨⟨v', hv', hv⟩, hW, hF⟩, st⟩ | ⟨q, st₀, t, T', L', E, ce, h0, X', hL, e1, e2, ⟨hE, hW, hF⟩, hce, hcv, hcl, st⟩
  · cases hv
    obtain ⟨k1, k2, k3⟩ := vx_keep (A1 := j_A base) h0 e1 hS (fun q _ h => h) (fun q h => h) hL hF
    obtain ⟨t2, a1, b1⟩ := kk v' T'.heap (locs ++ L') hv' (by rw [e1]; exact hW) k3 T' rfl X'
    exact ⟨t2, st t2 a1, b1⟩
  · obtain ⟨k1, k2, k3⟩ := vx_keep (A1 := j_A base) h0 e1 hS (fun q _ h => h) (fun q h => h) hL hF
    obtain ⟨t2, a1, b1⟩ := kx E ce q T'.heap (locs ++ L') hE (by rw [e1]; exact hW) k3 (by rw [e1]; exact hce) hcv hcl T' rfl X'
    exact ⟨t2, st.trans a1, b1⟩
/-- the cells made in this method bound the heap -/
theorem j_bound {g : JFrame} (k : H.size ≤ s.heap.size + cells → W p l e R s m args below meth c H locs cells slots Q g) : W p l e R s m args below meth c H locs cells slots Q g := by
  intro T hT X
  refine k ?_ T hT X
  have h := X.same.2.2.1
  rw [← hT]
  exact h
theorem j_blind {n : Nat} {fr : Bool} {vs : List Value} : FrameBlind (va_Pc vs (j_Pre base b L xs D tc n fr M)) := by
  intro a U g mk h
  obtain ⟨h1, h2, h3, h4⟩ := h
  exact ⟨h1, h2.warm (U := U.calling g mk a) (State.WarmedH.refl U) (fun _ _ => rfl) h2.2.2.2.2.2.2.2.2.2.2, h3, h4⟩
end
