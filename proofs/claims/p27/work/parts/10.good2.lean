section
variable {l : Launch} {base b L : Nat} {xs : Nat → Int32} {D : va_G} {tc : Nat → ClassId} {rec : jQ} {d i pc : Nat} {LS : jL} {ST : List Value} {M : jM} {h : jH} {r : jR} {me : jMe}
theorem j_mapv (f : Value → Value) (v : Option Value) (st : List Value) : (v.map f).toList ++ st.map f = (v.toList ++ st).map f := by
  cases v <;> simp
set_option maxHeartbeats 4000000 in
theorem j_own_ok {idx kd t : Nat} {I : Instr} (hlt : l.stackTraces = false) (G : j_Good l base b L xs D tc rec) (hme : j_mt[i]? = some me) (hcl : (me.1, idx, kd, t) ∈ j_clT) (hk6 : kd < 6)
    (hI : (kd = 0 ∧ I = .invokevirtual idx) ∨ ((kd = 1 ∨ kd = 2 ∨ kd = 5) ∧ I = .invokestatic idx) ∨ ((kd = 3 ∨ kd = 4) ∧ I = .invokespecial idx)) (hd : decode me.2.2.1 pc = .ok (I, 3))
    (hrc : (kd = 0 ∨ kd = 3 ∨ kd = 4) → ∀ mf, j_mt[t]? = some mf → ∃ a as fs, (ST.take mf.2.2.2.2.2.1).reverse = .ref a :: as ∧ M a = .inr (mf.1, fs))
    (hr : j_own rec me d i pc LS ST M h kd t = some r) : j_Cn l base b L xs D tc d i pc LS ST M h r := by
  unfold j_own at hr
  obtain ⟨mf, hmf, g1⟩ := Option.bind_eq_some_iff.mp hr
  obtain ⟨⟨c1, c2, c3⟩, g2⟩ := j_c_some g1
  cases d with
  | zero => cases g2
  | succ d' =>
    obtain ⟨r1, hr1, g3⟩ := Option.bind_eq_some_iff.mp g2
    obtain ⟨k1, k2, -⟩ := G _ _ _ _ _ _ _ _ hr1
    dsimp only at k1 k2
    have base_le : ∀ {s : State} {H : Heap} {locs : List Loc}, j_K base b L xs D tc s s.heap → va_S (j_A base) s.heap H locs → base ≤ H.size := fun K hS => Nat.le_trans K.2.2.2.2.2.2.2.2.2.2 hS.1
    have run : ∀ {p : Program} {e : Env} {R : Room} {s : State} {m : MethodId} {args : Array Value} {below : List Frame} {meth : Method} {c : Code} {H : Heap} {locs : List Loc} {Q : State → Prop} {ls : Array Slot},
        j_C p l R s m args meth c me (d' + 1) → j_K base b L xs D tc s s.heap → (h.2.1 = true → s.heap.size + h.2.2.1 = base + h.1) → LS.length = me.2.2.2.1 → j_W base b D tc h.1 M H → va_S (j_A base) s.heap H locs → j_LH (j_ad base b) ls LS → h.2.2.1 + r1.2.2.2.2.1 ≤ R.cells → h.2.2.2 + r1.2.2.2.2.2 ≤ R.slots →
        (vx_Run p l e R s m args below meth c H locs h.2.2.1 h.2.2.2 r1.2.2.2.2.1 r1.2.2.2.2.2 (F0 m pc ls (ST.map (j_cv (j_ad base b)))) ((ST.drop mf.2.2.2.2.2.1).map (j_cv (j_ad base b))) (j_Qc base b D tc r1 (((ST.take mf.2.2.2.2.2.1).reverse).map (j_cv (j_ad base b))).toArray) (j_XC base b D tc r1) (j_A base) → W p l e R s m args below meth c H locs h.2.2.1 h.2.2.2 Q (F0 m pc ls (ST.map (j_cv (j_ad base b))))) →
        W p l e R s m args below meth c H locs h.2.2.1 h.2.2.2 Q (F0 m pc ls (ST.map (j_cv (j_ad base b)))) := by
      intro p e R s m args below meth c H locs Q ls C K hfr hlen w hS hl hfc hfs kk
      refine j_bound (fun hbd => ?_)
      have hsz := w.sz (base_le K hS)
      refine kk (j_vrun hlt G C K hmf hcl hk6 hI hd c1 c2 rfl c3 (fun q => hrc q mf hmf) hr1 (by rw [hl.1, hlen]) w hS (fun q => by have := hfr q; omega) hfc hfs)
    cases hr1o : r1.1 with
    | inl v =>
      rw [hr1o] at g3
      dsimp only at g3
      obtain ⟨n1, n2, n3⟩ := G _ _ _ _ _ _ _ _ g3
      dsimp only [j_add] at n1 n2
      refine ⟨by omega, fun q => ?_, ?_⟩
      · obtain ⟨q1, q2⟩ := n2 q
        obtain ⟨q3, q4⟩ := k2 q1
        exact ⟨q3, by omega⟩
      · intro p e R s m args below meth c H locs Q me' ls hme' C K hc hs hfr hlen w hS hl hE
        obtain rfl : me' = me := Option.some.inj (hme'.symm.trans hme)
        refine run C K hfr hlen w hS hl (by omega) (by omega) (fun hR => j_callX hR hS ?_ ?_)
        · intro E ce q9 H1 locs1 hE1
          rw [hr1o] at hE1
          cases hE1
        · intro v' H1 locs1 hv' w1 hS1
          rw [hr1o] at hv'
          cases hv'
          rw [j_mapv]
          exact n3 p e R s m args below meth c H1 locs1 Q _ ls hme' C K hc hs (fun q => by
            obtain ⟨q3, q4⟩ := k2 q
            have := hfr q3
            dsimp only [j_add]
            omega) hlen w1 hS1 hl hE
    | inr E =>
      rw [hr1o] at g3
      dsimp only at g3
      cases hhh : me.2.2.2.2.2.2 with
      | nil =>
        rw [hhh] at g3
        cases g3
        refine ⟨⟨Nat.le_add_right _ _, Nat.le_add_right _ _⟩, fun q => ?_, ?_⟩
        · obtain ⟨q3, q4⟩ := k2 q
          exact ⟨q3, by dsimp only [j_add]; omega⟩
        · intro p e R s m args below meth c H locs Q me' ls hme' C K hc hs hfr hlen w hS hl hE
          obtain rfl : me' = me := Option.some.inj (hme'.symm.trans hme)
          refine run C K hfr hlen w hS hl hc hs (fun hR => j_callX hR hS ?_ ?_)
          · intro E' ce q9 H1 locs1 hE1 w1 hS1 hce hcv hcl1
            rw [hr1o] at hE1
            cases hE1
            obtain ⟨Qc, XC, mc, ms, rfl, hmc, hms, hXC⟩ := hE.2 E rfl
            obtain ⟨-, -, -, -, -, hlocks, -, htab, -⟩ := C
            refine vx_out (fun x hx => ?_) hlocks hce hcv hcl1 (fun t ht hal => hXC t hal (by rw [ht]; exact w1) (hS1.F ht)) hS1.2.2 hmc hms
            rw [htab, hhh] at hx
            cases hx
          · intro v' H1 locs1 hv'
            rw [hr1o] at hv'
            cases hv'
      | cons x0 y0 =>
        rw [hhh] at g3
        dsimp only at g3
        unfold j_cat at g3
        obtain ⟨hp, hfind, g4⟩ := Option.bind_eq_some_iff.mp g3
        obtain ⟨pre, x, suf, e1, hcov, e2, hkE, hEx, hpass⟩ := j_find_ok hfind
        have fin : ∀ (k : Nat) (g : Nat), (∀ {p : Program} {e : Env} {R : Room} {s : State} {m : MethodId} {args : Array Value} {below : List Frame} {meth : Method} {c : Code} {H : Heap} {locs : List Loc} {cells slots : Nat} {Q : State → Prop} {ls : Array Slot} {q : Nat}, p.tables.exec = Jvm.exec → c.code = me.2.2.1 → j_LH (j_ad base b) ls LS → (∀ ls', j_LH (j_ad base b) ls' (LS.set k none) → W p l e R s m args below meth c H locs cells slots Q (F0 m g ls' [])) → W p l e R s m args below meth c H locs cells slots Q (F0 m hp ls [.ref q])) →
            rec (d' + 1) i g (LS.set k none) [] r1.2.1 (j_add h r1.2.2) = some r → j_Cn l base b L xs D tc (d' + 1) i pc LS ST M h r := by
          intro k g hput g5
          obtain ⟨n1, n2, n3⟩ := G _ _ _ _ _ _ _ _ g5
          dsimp only [j_add] at n1 n2
          refine ⟨by omega, fun q => ?_, ?_⟩
          · obtain ⟨q1, q2⟩ := n2 q
            obtain ⟨q3, q4⟩ := k2 q1
            exact ⟨q3, by omega⟩
          · intro p e R s m args below meth c H locs Q me' ls hme' C K hc hs hfr hlen w hS hl hE
            obtain rfl : me' = me := Option.some.inj (hme'.symm.trans hme)
            refine run C K hfr hlen w hS hl (by omega) (by omega) (fun hR => j_callX hR hS ?_ ?_)
            · intro E' ce q9 H1 locs1 hE1 w1 hS1 hce hcv hcl1
              rw [hr1o] at hE1
              cases hE1
              have C' := C
              obtain ⟨hx, hb, hml, hown, hts, hlocks, -, htab, -⟩ := C
              refine vx_catch (own := j_cn me'.1) (name := E) hown (pre.map fun q => ⟨q.1, q.2.1, q.2.2.1, q.2.2.2⟩) ⟨x.1, x.2.1, x.2.2.1, x.2.2.2⟩ (suf.map fun q => ⟨q.1, q.2.1, q.2.2.1, q.2.2.2⟩) (by rw [htab, e1]; simp [tableOf]) ?_ ?_ (j_kl0 hkE) (hts _ (j_kl_ok hkE)) (va_Nw.use rfl (K.2.1.1 E hEx)) hce hcv hcl1 ?_
              · intro z hz
                obtain ⟨z0, hz0, rfl⟩ := List.mem_map.mp hz
                rcases hpass z0 hz0 with q | ⟨nm, q1, q2, q3⟩
                · refine Or.inl ?_
                  simp only [covers]
                  by_cases c1 : z0.1 ≤ pc
                  · have c2 : ¬ pc < z0.2.1 := fun c2 => q ⟨c1, c2⟩
                    simp [c1, c2]
                  · simp [c1]
                · exact Or.inr ⟨j_kl0 q1, nm, hts _ (j_kl_ok q1), K.2.2.1 E hEx nm q3 (Ne.symm q2)⟩
              · simp [covers, hcov.1, hcov.2]
              · dsimp only
                rw [e2]
                refine hput hx hb hl (fun ls' hl' => ?_)
                exact n3 p e R s m args below meth c H1 locs1 Q _ ls' hme' C' K hc hs (fun q => by
                  obtain ⟨q3, q4⟩ := k2 q
                  have := hfr q3
                  dsimp only [j_add]
                  omega) (by rw [List.length_set]; exact hlen) w1 hS1 hl' hE
            · intro v' H1 locs1 hv'
              rw [hr1o] at hv'
              cases hv'
        split at g4
        · rename_i k len hdec
          obtain ⟨rfl, g5⟩ := j_c_some g4
          obtain ⟨s1, s2, g6⟩ := j_s1_some g5
          refine fin k (hp + 2) ?_ g6
          intro p e R s m args below meth c H locs cells slots Q ls q hx hb hl kk
          exact lv_astore hx hb hdec hl s1 rfl (fun ls' hl' => kk ls' (j_LH.set1 (fun v q => by cases q) s1 s2 hl'))
        · rename_i k len hdec
          obtain ⟨rfl, g5⟩ := j_c_some g4
          obtain ⟨s1, s2, g6⟩ := j_s1_some g5
          refine fin k.val (hp + 1) ?_ g6
          intro p e R s m args below meth c H locs cells slots Q ls q hx hb hl kk
          exact lv_astore_n hx hb hdec rfl hl s1 rfl (fun ls' hl' => kk ls' (j_LH.set1 (fun v q => by cases q) s1 s2 hl'))
        · cases g4
end
