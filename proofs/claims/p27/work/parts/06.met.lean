/-! contracts out of runs -/
section
variable {base b L : Nat} {xs : Nat → Int32} {D : va_G} {tc : Nat → ClassId}
theorem j_K.warm {s U : State} {H H1 : Heap} (h : j_K base b L xs D tc s H) (hW : s.WarmedH U.vm) (hq : ∀ q : Nat, q < base → H1[q]? = H[q]?) (hz : base ≤ H1.size) : j_K base b L xs D tc U H1 := by
  obtain ⟨h1, h2, h3, h4, h5, h6, h7, h8, h9, h10, h11⟩ := h
  have hk : ∀ a : Nat, a < H.size → ¬ j_A base a → H1[a]? = H[a]? := fun a _ ha => hq a (Nat.not_le.mp ha)
  refine ⟨va_K.moved hW.alike h1, ⟨fun E hE => va_Nw.warmC hW (h2.1 E hE), fun y hy => va_Nw.warmD hW (h2.2 y hy)⟩, fun E hE F hF n => (h3 E hE F hF n).moved hW.alike, fun t ht => va_Nw.warmM hW (h4 t ht), va_AO.moved hW.alike h5, fun t ht => ?_, (h7.moved hW.alike).kept hk, (h8.moved hW.alike).kept hk, (h9.moved hW.alike).kept (hq b h10), h10, hz⟩
  obtain ⟨a, ha⟩ := h6 t ht
  exact ⟨a, vk_R.warm hW ha⟩
def j_Pre (base b L : Nat) (xs : Nat → Int32) (D : va_G) (tc : Nat → ClassId) (n : Nat) (fr : Bool) (M : jM) (U : State) : Prop :=
  j_K base b L xs D tc U U.heap ∧ j_W base b D tc n M U.heap ∧ (fr = true → U.heap.size = base + n)
def j_Qc (base b : Nat) (D : va_G) (tc : Nat → ClassId) (r : jR) : Array Value → State → Outcome → State → Prop := fun _ st o t =>
  (∃ v, r.1 = .inl v ∧ o = .returned (v.map (j_cv (j_ad base b)))) ∧ j_W base b D tc r.2.2.1 r.2.1 t.heap ∧ va_F (j_A base) st t
def j_XC (base b : Nat) (D : va_G) (tc : Nat → ClassId) (r : jR) : String → State → State → Prop := fun E st t =>
  r.1 = .inr E ∧ j_W base b D tc r.2.2.1 r.2.1 t.heap ∧ va_F (j_A base) st t
def j_ws (me : jMe) : List Cond := match me.2.2.2.2.2.2 with
  | [] => .code me.2.1 me.2.2.1 me.2.2.2.1 me.2.2.2.2.1 :: j_gws
  | x :: r => .codeWith me.2.1 me.2.2.1 me.2.2.2.1 me.2.2.2.2.1 (x :: r) :: j_gws
def j_rm (d : Nat) (r : jR) : Room := { frames := d, cells := r.2.2.2.2.1, slots := r.2.2.2.2.2, locals := 31 * d + 89 }
def j_isR (I : Instr) (ret : Option FieldType) (v : Option Value) : Prop :=
  (I = .ireturn ∧ ∃ x, v = some (.int x) ∧ (ret = some .int ∨ (ret = some .boolean ∧ x &&& 1 = x))) ∨ (I = .lreturn ∧ ret = some .long ∧ ∃ x, v = some (.long x)) ∨ (I = .dreturn ∧ ret = some .double ∧ ∃ x, v = some (.double x)) ∨
  (I = .areturn ∧ ret = some (.object "ShipJournal$Ship") ∧ ∃ x, v = some (.ref x)) ∨ (I = .return_ ∧ ret = none ∧ v = none)
/-- the ends of a run: what is owed there -/
def j_E (base b : Nat) (D : va_G) (tc : Nat → ClassId) (p : Program) (l : Launch) (e : Env) (R : Room) (s : State) (m : MethodId) (args : Array Value) (below : List Frame) (meth : Method) (c : Code) (me : jMe) (Q : State → Prop) (r : jR) : Prop :=
  (∀ (v : Option Value), r.1 = .inl v → ∀ (pc : Nat) (ls : Array Slot) (H : Heap) (locs : List Loc) (I : Instr), decode me.2.2.1 pc = .ok (I, 1) → j_isR I me.2.2.2.2.1 v → j_W base b D tc r.2.2.1 r.2.1 H → va_S (j_A base) s.heap H locs → W p l e R s m args below meth c H locs r.2.2.2.2.1 r.2.2.2.2.2 Q (F0 m pc ls (v.toList.map (j_cv (j_ad base b))))) ∧
  (∀ E : String, r.1 = .inr E → ∃ (Qc : Array Value → State → Outcome → State → Prop) (XC : String → State → State → Prop) (mc ms : Nat), Q = vx_MQ below Qc XC args s mc ms (j_A base) ∧ r.2.2.2.2.1 ≤ mc ∧ r.2.2.2.2.2 ≤ ms ∧ ∀ t : State, s.vm.Alike t.vm → j_W base b D tc r.2.2.1 r.2.1 t.heap → va_F (j_A base) s t → XC E s t)
/-- what a run from here says -/
def j_Cn (l : Launch) (base b L : Nat) (xs : Nat → Int32) (D : va_G) (tc : Nat → ClassId) (d i pc : Nat) (LS : jL) (ST : List Value) (M : jM) (h : jH) (r : jR) : Prop :=
  (h.2.2.1 ≤ r.2.2.2.2.1 ∧ h.2.2.2 ≤ r.2.2.2.2.2) ∧ (r.2.2.2.1 = true → h.2.1 = true ∧ r.2.2.1 + h.2.2.1 = h.1 + r.2.2.2.2.1) ∧
  ∀ (p : Program) (e : Env) (R : Room) (s : State) (m : MethodId) (args : Array Value) (below : List Frame) (meth : Method) (c : Code) (H : Heap) (locs : List Loc) (Q : State → Prop) (me : jMe) (ls : Array Slot),
    j_mt[i]? = some me → j_C p l R s m args meth c me d → j_K base b L xs D tc s s.heap → r.2.2.2.2.1 ≤ R.cells → r.2.2.2.2.2 ≤ R.slots → (h.2.1 = true → s.heap.size + h.2.2.1 = base + h.1) → LS.length = me.2.2.2.1 → j_W base b D tc h.1 M H → va_S (j_A base) s.heap H locs → j_LH (j_ad base b) ls LS → j_E base b D tc p l e R s m args below meth c me Q r →
    W p l e R s m args below meth c H locs h.2.2.1 h.2.2.2 Q (F0 m pc ls (ST.map (j_cv (j_ad base b))))
def j_Good (l : Launch) (base b L : Nat) (xs : Nat → Int32) (D : va_G) (tc : Nat → ClassId) (rec : jQ) : Prop :=
  ∀ (d i pc : Nat) (LS : jL) (ST : List Value) (M : jM) (h : jH) (r : jR), rec d i pc LS ST M h = some r → j_Cn l base b L xs D tc d i pc LS ST M h r
theorem j_sl_args (ad : Nat → Nat) (vs : List Value) : ∀ (k : Nat) (j : Nat) (v : Value), (j_sl vs)[j]? = some (some v) → (k + j, j_cv ad v) ∈ lv_args k (vs.map (j_cv ad)) := by
  induction vs with
  | nil => intro k j v h; simp [j_sl] at h
  | cons x vs ih =>
    intro k j v h
    unfold j_sl at h
    show _ ∈ (k, j_cv ad x) :: lv_args _ _
    split at h
    · rename_i hc
      rw [j_cv_cat, if_pos hc]
      match j, h with
      | 0, h => cases h; exact List.mem_cons_self
      | 1, h => cases h
      | j + 2, h =>
        have h2 := ih (k + 2) j v h
        rw [show k + (j + 2) = k + 2 + j by omega]
        exact List.mem_cons_of_mem _ h2
    · rename_i hc
      rw [j_cv_cat, if_neg hc]
      match j, h with
      | 0, h => cases h; exact List.mem_cons_self
      | j + 1, h =>
        have h2 := ih (k + 1) j v h
        rw [show k + (j + 1) = k + 1 + j by omega]
        exact List.mem_cons_of_mem _ h2
theorem j_sl_len (ad : Nat → Nat) (vs : List Value) : (lg_sl (vs.map (j_cv ad))).length = (j_sl vs).length := by
  induction vs with
  | nil => rfl
  | cons x vs ih =>
    unfold j_sl
    have h1 : lg_sl ((x :: vs).map (j_cv ad)) = (if (j_cv ad x).category = 2 then [.val (j_cv ad x), .second] else [.val (j_cv ad x)]) ++ lg_sl (vs.map (j_cv ad)) := rfl
    rw [h1, j_cv_cat]
    split
    · simp [ih]
    · simp [ih]
theorem j_ent_len {n : Nat} {vs : List Value} (h : (j_sl vs).length ≤ n) : (j_ent n vs).length = n := by
  unfold j_ent j_pad
  simp
  omega
theorem j_ent_LH (ad : Nat → Nat) {n : Nat} {vs : List Value} (h : (j_sl vs).length ≤ n) : j_LH ad ((lg_sl (vs.map (j_cv ad)) ++ List.replicate (n - (lg_sl (vs.map (j_cv ad))).length) Slot.unset).toArray) (j_ent n vs) := by
  have h0 := lv_entry (vs.map (j_cv ad)) (n := n) (by rw [j_sl_len]; exact h)
  refine ⟨by rw [j_ent_len h]; exact h0.1, h0.2.1, fun q hq => h0.2.2 q ?_⟩
  obtain ⟨v, hv, h2⟩ := j_lv_mem.mp hq
  obtain ⟨j, c⟩ := q
  dsimp only at hv h2
  subst h2
  have h3 : (j_sl vs)[j]? = some (some v) := by
    unfold j_ent j_pad at hv
    by_cases hj : j < (j_sl vs).length
    · rw [List.getElem?_append_left hj] at hv
      exact hv
    · rw [List.getElem?_append_right (by omega)] at hv
      have := List.eq_of_mem_replicate (List.mem_of_getElem? hv)
      cases this
  have h4 := j_sl_args ad vs 0 j v h3
  rwa [Nat.zero_add] at h4
theorem j_bool {x : Int32} (h : x &&& 1 = x) : narrow .boolean (.int x) = .int x := by
  show Value.int (x &&& 1) = _
  rw [h]
set_option maxHeartbeats 4000000 in
set_option maxRecDepth 100000 in
theorem j_met {l : Launch} (hlt : l.stackTraces = false) {rec : jQ} (G : j_Good l base b L xs D tc rec) {d t n : Nat} {fr : Bool} {mf : jMe} {vs : List Value} {M : jM} {r : jR} (hmf : j_mt[t]? = some mf) (hlen : (j_sl vs).length ≤ mf.2.2.2.1) (hr : rec d t 0 (j_ent mf.2.2.2.1 vs) [] M (n, fr, 0, 0) = some r) :
    vx_Met l mf.2.1 (j_ws mf) (j_rm d r) (va_Pc (vs.map (j_cv (j_ad base b))) (j_Pre base b L xs D tc n fr M)) (j_Qc base b D tc r) (j_XC base b D tc r) r.2.2.2.2.1 r.2.2.2.2.2 (j_A base) := by
  have hmem := List.mem_of_getElem? hmf
  have hok := List.all_eq_true.mp j_okM_all mf hmem
  simp only [j_okM, j_pn, Bool.and_eq_true, decide_eq_true_eq] at hok
  obtain ⟨⟨⟨hml9, hpn, -⟩, hci9⟩, hcn⟩ := hok
  have key : ∀ (p : Program) (e : Env) (s : State) (m : MethodId) (args : Array Value) (below : List Frame) (meth : Method) (c : Code), j_C p l (headSpec (j_ws mf) (j_rm d r)).room s m args meth c mf d → va_Pc (vs.map (j_cv (j_ad base b))) (j_Pre base b L xs D tc n fr M) args s →
      W p l e (headSpec (j_ws mf) (j_rm d r)).room s m args below meth c s.heap [] 0 0 (vx_MQ below (j_Qc base b D tc r) (j_XC base b D tc r) args s r.2.2.2.2.1 r.2.2.2.2.2 (j_A base)) (entryFrame m args mf.2.2.2.1) := by
    intro p e s m args below meth c C hv
    obtain ⟨rfl, hK, hW, hfr⟩ := hv
    obtain ⟨h1, h2, h3⟩ := G d t 0 (j_ent mf.2.2.2.1 vs) [] M (n, fr, 0, 0) r hr
    rw [lg_entry_eq]
    refine h3 p e _ s m _ below meth c s.heap [] _ mf _ hmf C hK (Nat.le_refl _) (Nat.le_refl _) (fun q => hfr q) (j_ent_len hlen) hW va_S.rf (j_ent_LH _ hlen) ⟨?_, ?_⟩
    · obtain ⟨hx, hb, hml, hown, hts, hlocks, hini, htab, hret, -, -, -⟩ := C
      intro v hv pc ls H locs I hd hI hW1 hS1
      refine vx_ret ?_
      rcases hI with ⟨rfl, x, rfl, hx1 | ⟨hx1, hx2⟩⟩ | ⟨rfl, hx1, x, rfl⟩ | ⟨rfl, hx1, x, rfl⟩ | ⟨rfl, hx1, x, rfl⟩ | ⟨rfl, hx1, rfl⟩
      · exact W.iret (v := x) hx hb (hret.trans hx1) (fun t ht _ => ⟨⟨_, hv, rfl⟩, by rw [ht]; exact hW1, hS1.F ht⟩) hS1.2.2 hd
      · exact W.zret (v := x) hx hb (hret.trans hx1) (j_bool hx2) (fun t ht _ => ⟨⟨_, hv, rfl⟩, by rw [ht]; exact hW1, hS1.F ht⟩) hS1.2.2 hd
      · exact W.lret (v := x) hx hb (hret.trans hx1) (fun t ht _ => ⟨⟨_, hv, rfl⟩, by rw [ht]; exact hW1, hS1.F ht⟩) hS1.2.2 hd
      · exact W.dret (v := x) hx hb (hret.trans hx1) (fun t ht _ => ⟨⟨_, hv, rfl⟩, by rw [ht]; exact hW1, hS1.F ht⟩) hS1.2.2 hd
      · exact W.aret (v := .ref (j_ad base b x)) hx hb (hret.trans hx1) (Or.inl ⟨_, rfl⟩) (Or.inr ⟨_, rfl⟩) (fun t ht _ => ⟨⟨_, hv, rfl⟩, by rw [ht]; exact hW1, hS1.F ht⟩) hS1.2.2 hd
      · exact W.vret hx hb (hret.trans hx1) (fun t ht _ => ⟨⟨_, hv, rfl⟩, by rw [ht]; exact hW1, hS1.F ht⟩) hS1.2.2 hd
    · intro E hE
      exact ⟨_, _, _, _, rfl, Nat.le_refl _, Nat.le_refl _, fun t _ hW1 hF => ⟨hE, hW1, hF⟩⟩
  have hC0 : ∀ {p : Program} {e : Env} {s s₁ : State} {m : MethodId} {args : Array Value} {below : List Frame} {meth : Method} {c : Code}, BodyLoose p l mf.2.1 (headSpec (j_ws mf) (j_rm d r)) mf.2.2.1 mf.2.2.2.1 mf.2.2.2.2.1 e s m args below meth c s₁ → c.maxLocals = mf.2.2.2.1 → c.exceptionTable.toList = tableOf mf.2.2.2.2.2.2 → j_C p l (headSpec (j_ws mf) (j_rm d r)).room s m args meth c mf d := by
    intro p e s s₁ m args below meth c B hml htab
    have hts := atoms_spec (ws := j_ws mf) B.pre
    refine ⟨B.exec, B.bytes, hml, ?_, fun w hw => hts w ?_, B.notSynchronized, fun q => (name_of_methodNamed B.named B.method).1.trans q, htab, B.returns, Nat.le_refl _, Nat.le_refl _, hlt⟩
    · rw [hcn]; exact findClass_of_methodNamed B.named
    · unfold j_ws
      split
      · exact List.mem_cons_of_mem _ hw
      · exact List.mem_cons_of_mem _ hw
  cases hhh : mf.2.2.2.2.2.2 with
  | nil =>
    refine vx_ofW (cc := mf.2.2.1) (maxL := mf.2.2.2.1) (ret := mf.2.2.2.2.1) (ws' := j_gws) hpn (by unfold j_ws; rw [hhh]) ?_
    intro p e s m args below meth c s₁ B hml hno hv
    exact key p e s m args below meth c (hC0 B hml (by rw [hhh]; exact List.eq_nil_iff_forall_not_mem.mpr hno)) hv
  | cons x y =>
    refine vx_ofWH (cc := mf.2.2.1) (maxL := mf.2.2.2.1) (ret := mf.2.2.2.2.1) (hh := x :: y) (ws' := j_gws) hpn (by unfold j_ws; rw [hhh]) ?_
    intro p e s m args below meth c s₁ B hml hv
    exact key p e s m args below meth c (hC0 B hml (by
      have hts := atoms_spec (ws := j_ws mf) B.pre
      have := vx_table (x := mf.2.1) B (hts (.codeWith mf.2.1 mf.2.2.1 mf.2.2.2.1 mf.2.2.2.2.1 (x :: y)) (by unfold j_ws; rw [hhh]; exact List.mem_cons_self))
      rw [this, hhh])) hv
end
