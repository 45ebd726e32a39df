/-! one instruction of the logical machine is one of the machine's -/
def j_dcN : List MethodName := [⟨"java/lang/RuntimeException", "<init>", "(Ljava/lang/String;)V"⟩, ⟨"java/lang/Exception", "<init>", "(Ljava/lang/String;)V"⟩, ⟨"java/lang/Throwable", "<init>", "(Ljava/lang/String;)V"⟩]
/-- what a method knows of the tables, of what lies under base, of the script -/
def j_K (base b L : Nat) (xs : Nat → Int32) (D : va_G) (tc : Nat → ClassId) (s : State) (H : Heap) : Prop :=
  va_K D vwCl (j_tys tc) s ∧ ((∀ E ∈ j_exs, va_Nw (.castable E E) s) ∧ ∀ y ∈ j_dcN, va_Nw (.declares y) s) ∧ (∀ E ∈ j_exs, ∀ F ∈ j_exs, E ≠ F → va_Nc E F s) ∧ (∀ t ∈ j_nsT, va_Nw (.methodLinkNest (j_cn t.1) t.2.1 t.2.2 "ShipJournal") s) ∧ va_AO "ShipJournal$State" s ∧ (∀ t ∈ j_srT, ∃ a, vk_R (j_cn t.1) t.2.1 t.2.2 a s) ∧
  vx_Zq Bundle.tN "UNASSIGNED_STACK" Bundle.steD (j_A base) s H ∧ vx_Zq Bundle.tN "SUPPRESSED_SENTINEL" Bundle.listD (j_A base) s H ∧ va_X b L xs s H ∧ b < base ∧ base ≤ H.size
/-- a method's frame: its code, its class, the words -/
def j_C (p : Program) (l : Launch) (R : Room) (s : State) (m : MethodId) (args : Array Value) (meth : Method) (c : Code) (me : jMe) (d : Nat) : Prop :=
  p.tables.exec = Jvm.exec ∧ c.code = me.2.2.1 ∧ c.maxLocals = me.2.2.2.1 ∧ s.vm.findClass (j_cn me.1) = some m.cls ∧ (∀ w ∈ j_gws, w.before args s = true) ∧ meth.locks = false ∧ (me.2.1.name = "<init>" → meth.name = "<init>") ∧ c.exceptionTable.toList = tableOf me.2.2.2.2.2.2 ∧ meth.sig.returnType = me.2.2.2.2.1 ∧ d ≤ R.frames ∧ 31 * d + 89 ≤ R.locals ∧ l.stackTraces = false
theorem j_fitcv (ad : Nat → Nat) (ty : FieldType) (v : Value) : (narrow ty v = v → narrow ty (j_cv ad v) = j_cv ad v) ∧ (fits ty v = true → fits ty (j_cv ad v) = true) := by
  cases v <;> cases ty <;> simp [j_cv, narrow, fits]
theorem j_in_vp {i : Int32} {z : Nat} (h : j_in i z) : vp_in i z := fun q => q.elim h.1 (fun q => Nat.not_le.mpr h.2 q)
section
variable {p : Program} {l : Launch} {e : Env} {R : Room} {s : State} {m : MethodId} {args : Array Value} {below : List Frame} {meth : Method} {c : Code} {H : Heap} {locs : List Loc} {cells slots : Nat} {Q : State → Prop}
variable {base b L : Nat} {xs : Nat → Int32} {D : va_G} {tc : Nat → ClassId} {n : Nat} {M M' : jM} {LS LS' : jL} {ST ST' : List Value} {ls : Array Slot} {pc pc' len d : Nat} {me : jMe} {I : Instr}
theorem j_go_ok {cnd : Prop} [Decidable cnd] {off : Int} {r : List Value} (h : j_go cnd pc off LS r M = some (pc', LS', ST', M')) : (LS' = LS ∧ ST' = r ∧ M' = M) ∧ ((pc : Int) + off = ((((pc : Int) + off).toNat : Nat) : Int)) ∧ ((cnd ∧ pc' = ((pc : Int) + off).toNat) ∨ (¬ cnd ∧ pc' = pc + 3)) := by
  unfold j_go at h
  obtain ⟨h0, h⟩ := j_c_some h
  split at h
  · rename_i h1
    cases h
    exact ⟨⟨rfl, rfl, rfl⟩, (Int.toNat_of_nonneg h0).symm, Or.inl ⟨h1, rfl⟩⟩
  · rename_i h1
    cases h
    exact ⟨⟨rfl, rfl, rfl⟩, (Int.toNat_of_nonneg h0).symm, Or.inr ⟨h1, rfl⟩⟩
set_option maxHeartbeats 8000000 in
set_option maxRecDepth 100000 in
theorem j_stp_ok (C : j_C p l R s m args meth c me d) (K : j_K base b L xs D tc s s.heap) (hst : j_stp (L, xs) me.1 (me.2.1.name == "<init>") I len pc LS ST M = some (pc', LS', ST', M')) (hd : decode me.2.2.1 pc = .ok (I, len))
    (w : j_W base b D tc n M H) (hS : va_S (j_A base) s.heap H locs) (hl : j_LH (j_ad base b) ls LS)
    (k : ∀ (H' : Heap) (locs' : List Loc) (ls' : Array Slot), j_W base b D tc n M' H' → va_S (j_A base) s.heap H' locs' → j_LH (j_ad base b) ls' LS' → LS'.length = LS.length → W p l e R s m args below meth c H' locs' cells slots Q (F0 m pc' ls' (ST'.map (j_cv (j_ad base b))))) :
    W p l e R s m args below meth c H locs cells slots Q (F0 m pc ls (ST.map (j_cv (j_ad base b)))) := by
  obtain ⟨hx, hb, hml, hown, hts, hlocks, hini, -, -, -, -, -⟩ := C
  obtain ⟨hK, -, -, -, -, -, -, -, hX, hbb, hbs⟩ := K
  have hbA : ¬ j_A base b := Nat.not_le.mpr hbb
  cases I with
  | iconst i =>
    obtain ⟨rfl, g0⟩ := j_c_some hst
    cases g0
    exact lv_iconst hx hb hd rfl (k _ _ _ w hS hl rfl)
  | bipush i =>
    obtain ⟨rfl, g0⟩ := j_c_some hst
    cases g0
    exact lv_bipush hx hb hd rfl (k _ _ _ w hS hl rfl)
  | sipush i =>
    obtain ⟨rfl, g0⟩ := j_c_some hst
    cases g0
    exact lv_sipush hx hb hd rfl (k _ _ _ w hS hl rfl)
  | ldc_w idx =>
    obtain ⟨rfl, g0⟩ := j_c_some hst
    obtain ⟨x, hk, g1⟩ := Option.bind_eq_some_iff.mp g0
    cases g1
    exact lv_ldcw hx hb hown (hts _ (j_ki_ok hk)) hd (k _ _ _ w hS hl rfl)
  | ldc idx =>
    obtain ⟨rfl, g0⟩ := j_c_some hst
    obtain ⟨x, hk, g1⟩ := Option.bind_eq_some_iff.mp g0
    cases g1
    exact lv_ldc hx hb hown (hts _ (j_ki_ok hk)) hd (k _ _ _ w hS hl rfl)
  | ldc2_w idx =>
    obtain ⟨rfl, g0⟩ := j_c_some hst
    obtain ⟨x, hk, g1⟩ := Option.bind_eq_some_iff.mp g0
    cases g1
    exact lv_ldc2 hx hb hown (hts _ (j_kj_ok hk)) hd (k _ _ _ w hS hl rfl)
  | iload i =>
    obtain ⟨rfl, g0⟩ := j_c_some hst
    obtain ⟨x, hk, g1⟩ := j_gI_some g0
    cases g1
    exact lv_iload hx hb hd (hl.at hk) (k _ _ _ w hS hl rfl)
  | iload_n i =>
    obtain ⟨rfl, g0⟩ := j_c_some hst
    obtain ⟨x, hk, g1⟩ := j_gI_some g0
    cases g1
    exact lv_iload_n hx hb hd rfl (hl.at hk) (k _ _ _ w hS hl rfl)
  | aload i =>
    obtain ⟨rfl, g0⟩ := j_c_some hst
    obtain ⟨x, hk, g1⟩ := j_gR_some g0
    cases g1
    exact lv_aload hx hb hd (hl.at hk) (k _ _ _ w hS hl rfl)
  | aload_n i =>
    obtain ⟨rfl, g0⟩ := j_c_some hst
    obtain ⟨x, hk, g1⟩ := j_gR_some g0
    cases g1
    exact lv_aload_n hx hb hd rfl (hl.at hk) (k _ _ _ w hS hl rfl)
  | lload_n i =>
    obtain ⟨rfl, g0⟩ := j_c_some hst
    obtain ⟨x, hk, g1⟩ := j_gJ_some g0
    cases g1
    exact lv_lload_n hx hb hd rfl (hl.at hk) (k _ _ _ w hS hl rfl)
  | dload i =>
    obtain ⟨rfl, g0⟩ := j_c_some hst
    obtain ⟨x, hk, g1⟩ := j_gD_some g0
    cases g1
    exact lv_dload hx hb hd (hl.at hk) (k _ _ _ w hS hl rfl)
  | istore i =>
    obtain ⟨rfl, g0⟩ := j_c_some hst
    obtain ⟨x, r, rfl, g1⟩ := j_i_some g0
    obtain ⟨h1, h2, g2⟩ := j_s1_some g1
    cases g2
    exact lv_istore hx hb hd hl h1 rfl (fun ls' hl' => k _ _ _ w hS (j_LH.set1 (fun v q => by cases q; rfl) h1 h2 hl') (List.length_set ..))
  | istore_n i =>
    obtain ⟨rfl, g0⟩ := j_c_some hst
    obtain ⟨x, r, rfl, g1⟩ := j_i_some g0
    obtain ⟨h1, h2, g2⟩ := j_s1_some g1
    cases g2
    exact lv_istore_n hx hb hd rfl hl h1 rfl (fun ls' hl' => k _ _ _ w hS (j_LH.set1 (fun v q => by cases q; rfl) h1 h2 hl') (List.length_set ..))
  | astore i =>
    obtain ⟨rfl, g0⟩ := j_c_some hst
    obtain ⟨x, r, rfl, g1⟩ := j_r_some g0
    obtain ⟨h1, h2, g2⟩ := j_s1_some g1
    cases g2
    exact lv_astore hx hb hd hl h1 rfl (fun ls' hl' => k _ _ _ w hS (j_LH.set1 (fun v q => by cases q; rfl) h1 h2 hl') (List.length_set ..))
  | astore_n i =>
    obtain ⟨rfl, g0⟩ := j_c_some hst
    obtain ⟨x, r, rfl, g1⟩ := j_r_some g0
    obtain ⟨h1, h2, g2⟩ := j_s1_some g1
    cases g2
    exact lv_astore_n hx hb hd rfl hl h1 rfl (fun ls' hl' => k _ _ _ w hS (j_LH.set1 (fun v q => by cases q; rfl) h1 h2 hl') (List.length_set ..))
  | lstore_n i =>
    obtain ⟨rfl, g0⟩ := j_c_some hst
    obtain ⟨x, r, rfl, g1⟩ := j_l_some g0
    obtain ⟨h1, h2, g2⟩ := j_s2_some g1
    cases g2
    exact lv_lstore_n hx hb hd rfl hl h1 rfl (fun ls' hl' => k _ _ _ w hS (j_LH.set2 (v := .long x) h1 h2 hl') (by rw [List.length_set, List.length_set]))
  | dstore i =>
    obtain ⟨rfl, g0⟩ := j_c_some hst
    obtain ⟨x, r, rfl, g1⟩ := j_d_some g0
    obtain ⟨h1, h2, g2⟩ := j_s2_some g1
    cases g2
    exact lv_dstore hx hb hd hl h1 rfl (fun ls' hl' => k _ _ _ w hS (j_LH.set2 (v := .double x) h1 h2 hl') (by rw [List.length_set, List.length_set]))
  | iinc i q =>
    obtain ⟨rfl, g0⟩ := j_c_some hst
    obtain ⟨x, hk, g1⟩ := j_gI_some g0
    obtain ⟨h1, h2, g2⟩ := j_s1_some g1
    cases g2
    obtain ⟨q0, hq0⟩ := List.getElem?_of_mem (j_lv_mem (ad := j_ad base b) (L := LS) (q := (i, .int x)) |>.mpr ⟨_, hk, rfl⟩)
    exact lv_iinc hx hb hd hl hq0 rfl h1 rfl (fun ls' hl' => k _ _ _ w hS (j_LH.set1 (fun v q => by cases q; rfl) h1 h2 hl') (List.length_set ..))
  | dup =>
    obtain ⟨rfl, g0⟩ := j_c_some hst
    obtain ⟨v, r, rfl, g1⟩ := j_v_some g0
    obtain ⟨h1, g2⟩ := j_c_some g1
    cases g2
    exact lv_dup hx hb hd (by rw [j_cv_cat]; exact h1) (k _ _ _ w hS hl rfl)
  | dup2 =>
    obtain ⟨rfl, g0⟩ := j_c_some hst
    obtain ⟨v, v2, r, rfl, g1⟩ := j_vv_some g0
    obtain ⟨h1, g2⟩ := j_c_some g1
    cases g2
    exact lv_dup2_11 hx hb hd (by rw [j_cv_cat]; first | exact h1.1 | exact h1.2) (by rw [j_cv_cat]; first | exact h1.2 | exact h1.1) (k _ _ _ w hS hl rfl)
  | pop =>
    obtain ⟨rfl, g0⟩ := j_c_some hst
    obtain ⟨v, r, rfl, g1⟩ := j_v_some g0
    obtain ⟨h1, g2⟩ := j_c_some g1
    cases g2
    exact lv_pop hx hb hd (by rw [j_cv_cat]; exact h1) (k _ _ _ w hS hl rfl)
  | iadd =>
    obtain ⟨rfl, g0⟩ := j_c_some hst
    obtain ⟨x, y, r, rfl, g1⟩ := j_ii_some g0
    cases g1
    exact lv_iadd hx hb hd (k _ _ _ w hS hl rfl)
  | isub =>
    obtain ⟨rfl, g0⟩ := j_c_some hst
    obtain ⟨x, y, r, rfl, g1⟩ := j_ii_some g0
    cases g1
    exact lv_isub hx hb hd (k _ _ _ w hS hl rfl)
  | imul =>
    obtain ⟨rfl, g0⟩ := j_c_some hst
    obtain ⟨x, y, r, rfl, g1⟩ := j_ii_some g0
    cases g1
    exact lv_imul hx hb hd (k _ _ _ w hS hl rfl)
  | idiv =>
    obtain ⟨rfl, g0⟩ := j_c_some hst
    obtain ⟨x, y, r, rfl, g1⟩ := j_ii_some g0
    obtain ⟨h1, g2⟩ := j_c_some g1
    cases g2
    exact lv_idiv hx hb hd h1 (k _ _ _ w hS hl rfl)
  | irem =>
    obtain ⟨rfl, g0⟩ := j_c_some hst
    obtain ⟨x, y, r, rfl, g1⟩ := j_ii_some g0
    obtain ⟨h1, g2⟩ := j_c_some g1
    cases g2
    exact lv_irem hx hb hd h1 (k _ _ _ w hS hl rfl)
  | ishl =>
    obtain ⟨rfl, g0⟩ := j_c_some hst
    obtain ⟨x, y, r, rfl, g1⟩ := j_ii_some g0
    cases g1
    exact lv_ishl hx hb hd (k _ _ _ w hS hl rfl)
  | ishr =>
    obtain ⟨rfl, g0⟩ := j_c_some hst
    obtain ⟨x, y, r, rfl, g1⟩ := j_ii_some g0
    cases g1
    exact lv_ishr hx hb hd (k _ _ _ w hS hl rfl)
  | iushr =>
    obtain ⟨rfl, g0⟩ := j_c_some hst
    obtain ⟨x, y, r, rfl, g1⟩ := j_ii_some g0
    cases g1
    exact lv_iushr hx hb hd rfl (k _ _ _ w hS hl rfl)
  | iand =>
    obtain ⟨rfl, g0⟩ := j_c_some hst
    obtain ⟨x, y, r, rfl, g1⟩ := j_ii_some g0
    cases g1
    exact lv_iand hx hb hd (k _ _ _ w hS hl rfl)
  | ior =>
    obtain ⟨rfl, g0⟩ := j_c_some hst
    obtain ⟨x, y, r, rfl, g1⟩ := j_ii_some g0
    cases g1
    exact lv_ior hx hb hd (k _ _ _ w hS hl rfl)
  | i2l =>
    obtain ⟨rfl, g0⟩ := j_c_some hst
    obtain ⟨x, r, rfl, g1⟩ := j_i_some g0
    cases g1
    exact lv_i2l hx hb hd rfl (k _ _ _ w hS hl rfl)
  | i2b =>
    obtain ⟨rfl, g0⟩ := j_c_some hst
    obtain ⟨x, r, rfl, g1⟩ := j_i_some g0
    cases g1
    exact lv_i2b hx hb hd rfl (k _ _ _ w hS hl rfl)
  | i2d =>
    obtain ⟨rfl, g0⟩ := j_c_some hst
    obtain ⟨x, r, rfl, g1⟩ := j_i_some g0
    cases g1
    exact lv_i2d hx hb hd (k _ _ _ w hS hl rfl)
  | ladd =>
    obtain ⟨rfl, g0⟩ := j_c_some hst
    obtain ⟨x, y, r, rfl, g1⟩ := j_ll_some g0
    cases g1
    exact lv_ladd hx hb hd (k _ _ _ w hS hl rfl)
  | lmul =>
    obtain ⟨rfl, g0⟩ := j_c_some hst
    obtain ⟨x, y, r, rfl, g1⟩ := j_ll_some g0
    cases g1
    exact lv_lmul hx hb hd (k _ _ _ w hS hl rfl)
  | lcmp =>
    obtain ⟨rfl, g0⟩ := j_c_some hst
    obtain ⟨x, y, r, rfl, g1⟩ := j_ll_some g0
    cases g1
    exact W.lcmp hx hb hd (k _ _ _ w hS hl rfl)
  | ddiv =>
    obtain ⟨rfl, g0⟩ := j_c_some hst
    obtain ⟨x, y, r, rfl, g1⟩ := j_dd_some g0
    obtain ⟨h1, g2⟩ := j_c_some g1
    cases g2
    exact lv_ddiv hx hb hd h1 (k _ _ _ w hS hl rfl)
  | dcmp op =>
    obtain ⟨rfl, g0⟩ := j_c_some hst
    obtain ⟨x, y, r, rfl, g1⟩ := j_dd_some g0
    cases g1
    exact lv_dcmp hx hb hd (k _ _ _ w hS hl rfl)
  | goto off =>
    obtain ⟨rfl, g0⟩ := j_c_some hst
    obtain ⟨⟨e2, e3, e4⟩, ht, ⟨h1, e5⟩ | ⟨h1, e5⟩⟩ := j_go_ok g0
    · subst e2; subst e3; subst e4; subst e5
      exact lv_goto hx hb hd ht (k _ _ _ w hS hl rfl)
    · exact absurd trivial h1
  | ifCond cnd off =>
    cases cnd with
    | eq =>
      obtain ⟨rfl, g⟩ := j_c_some hst
      obtain ⟨x, r, e1, g1⟩ := j_i_some g
      subst e1
      obtain ⟨⟨e2, e3, e4⟩, ht, ⟨h1, e5⟩ | ⟨h1, e5⟩⟩ := j_go_ok g1 <;> subst e2 <;> subst e3 <;> subst e4 <;> subst e5
      · exact lv_if_eq hx hb hd ht (fun _ => k _ _ _ w hS hl rfl) (fun q => absurd h1 q)
      · exact lv_if_eq hx hb hd ht (fun q => absurd q h1) (fun _ => k _ _ _ w hS hl rfl)
    | ne =>
      obtain ⟨rfl, g⟩ := j_c_some hst
      obtain ⟨x, r, e1, g1⟩ := j_i_some g
      subst e1
      obtain ⟨⟨e2, e3, e4⟩, ht, ⟨h1, e5⟩ | ⟨h1, e5⟩⟩ := j_go_ok g1 <;> subst e2 <;> subst e3 <;> subst e4 <;> subst e5
      · exact lv_if_ne hx hb hd ht (fun _ => k _ _ _ w hS hl rfl) (fun q => absurd q h1)
      · exact lv_if_ne hx hb hd ht (fun q => absurd q h1) (fun _ => k _ _ _ w hS hl rfl)
    | lt =>
      obtain ⟨rfl, g⟩ := j_c_some hst
      obtain ⟨x, r, e1, g1⟩ := j_i_some g
      subst e1
      obtain ⟨⟨e2, e3, e4⟩, ht, ⟨h1, e5⟩ | ⟨h1, e5⟩⟩ := j_go_ok g1 <;> subst e2 <;> subst e3 <;> subst e4 <;> subst e5
      · exact lv_if_lt hx hb hd ht (fun _ => k _ _ _ w hS hl rfl) (fun q => absurd h1 q)
      · exact lv_if_lt hx hb hd ht (fun q => absurd q h1) (fun _ => k _ _ _ w hS hl rfl)
    | le =>
      obtain ⟨rfl, g⟩ := j_c_some hst
      obtain ⟨x, r, e1, g1⟩ := j_i_some g
      subst e1
      obtain ⟨⟨e2, e3, e4⟩, ht, ⟨h1, e5⟩ | ⟨h1, e5⟩⟩ := j_go_ok g1 <;> subst e2 <;> subst e3 <;> subst e4 <;> subst e5
      · exact lv_if_le hx hb hd ht (fun _ => k _ _ _ w hS hl rfl) (fun q => absurd h1 q)
      · exact lv_if_le hx hb hd ht (fun q => absurd q h1) (fun _ => k _ _ _ w hS hl rfl)
    | gt =>
      obtain ⟨rfl, g⟩ := j_c_some hst
      obtain ⟨x, r, e1, g1⟩ := j_i_some g
      subst e1
      obtain ⟨⟨e2, e3, e4⟩, ht, ⟨h1, e5⟩ | ⟨h1, e5⟩⟩ := j_go_ok g1 <;> subst e2 <;> subst e3 <;> subst e4 <;> subst e5
      · exact lv_if_gt hx hb hd ht (fun _ => k _ _ _ w hS hl rfl) (fun q => absurd h1 q)
      · exact lv_if_gt hx hb hd ht (fun q => absurd q h1) (fun _ => k _ _ _ w hS hl rfl)
    | _ => exact absurd (show none = some _ from hst) (fun q => by cases q)
  | if_icmp cnd off =>
    cases cnd with
    | eq =>
      obtain ⟨rfl, g⟩ := j_c_some hst
      obtain ⟨x, y, r, e1, g1⟩ := j_ii_some g
      subst e1
      obtain ⟨⟨e2, e3, e4⟩, ht, ⟨h1, e5⟩ | ⟨h1, e5⟩⟩ := j_go_ok g1 <;> subst e2 <;> subst e3 <;> subst e4 <;> subst e5
      · exact lv_icmp_eq hx hb hd ht (fun _ => k _ _ _ w hS hl rfl) (fun q => absurd h1 q)
      · exact lv_icmp_eq hx hb hd ht (fun q => absurd q h1) (fun _ => k _ _ _ w hS hl rfl)
    | ne =>
      obtain ⟨rfl, g⟩ := j_c_some hst
      obtain ⟨x, y, r, e1, g1⟩ := j_ii_some g
      subst e1
      obtain ⟨⟨e2, e3, e4⟩, ht, ⟨h1, e5⟩ | ⟨h1, e5⟩⟩ := j_go_ok g1 <;> subst e2 <;> subst e3 <;> subst e4 <;> subst e5
      · exact lv_icmp_ne hx hb hd ht (fun _ => k _ _ _ w hS hl rfl) (fun q => absurd q h1)
      · exact lv_icmp_ne hx hb hd ht (fun q => absurd q h1) (fun _ => k _ _ _ w hS hl rfl)
    | lt =>
      obtain ⟨rfl, g⟩ := j_c_some hst
      obtain ⟨x, y, r, e1, g1⟩ := j_ii_some g
      subst e1
      obtain ⟨⟨e2, e3, e4⟩, ht, ⟨h1, e5⟩ | ⟨h1, e5⟩⟩ := j_go_ok g1 <;> subst e2 <;> subst e3 <;> subst e4 <;> subst e5
      · exact lv_icmp_lt hx hb hd ht (fun _ => k _ _ _ w hS hl rfl) (fun q => absurd h1 q)
      · exact lv_icmp_lt hx hb hd ht (fun q => absurd q h1) (fun _ => k _ _ _ w hS hl rfl)
    | ge =>
      obtain ⟨rfl, g⟩ := j_c_some hst
      obtain ⟨x, y, r, e1, g1⟩ := j_ii_some g
      subst e1
      obtain ⟨⟨e2, e3, e4⟩, ht, ⟨h1, e5⟩ | ⟨h1, e5⟩⟩ := j_go_ok g1 <;> subst e2 <;> subst e3 <;> subst e4 <;> subst e5
      · exact lv_icmp_ge hx hb hd ht (fun _ => k _ _ _ w hS hl rfl) (fun q => absurd h1 q)
      · exact lv_icmp_ge hx hb hd ht (fun q => absurd q h1) (fun _ => k _ _ _ w hS hl rfl)
    | gt =>
      obtain ⟨rfl, g⟩ := j_c_some hst
      obtain ⟨x, y, r, e1, g1⟩ := j_ii_some g
      subst e1
      obtain ⟨⟨e2, e3, e4⟩, ht, ⟨h1, e5⟩ | ⟨h1, e5⟩⟩ := j_go_ok g1 <;> subst e2 <;> subst e3 <;> subst e4 <;> subst e5
      · exact lv_icmp_gt hx hb hd ht (fun _ => k _ _ _ w hS hl rfl) (fun q => absurd h1 q)
      · exact lv_icmp_gt hx hb hd ht (fun q => absurd q h1) (fun _ => k _ _ _ w hS hl rfl)
    | le =>
      obtain ⟨rfl, g⟩ := j_c_some hst
      obtain ⟨x, y, r, e1, g1⟩ := j_ii_some g
      subst e1
      obtain ⟨⟨e2, e3, e4⟩, ht, ⟨h1, e5⟩ | ⟨h1, e5⟩⟩ := j_go_ok g1 <;> subst e2 <;> subst e3 <;> subst e4 <;> subst e5
      · exact lv_icmp_le hx hb hd ht (fun _ => k _ _ _ w hS hl rfl) (fun q => absurd h1 q)
      · exact lv_icmp_le hx hb hd ht (fun q => absurd q h1) (fun _ => k _ _ _ w hS hl rfl)
  | if_acmp cnd off =>
    cases cnd with
    | ne =>
      obtain ⟨rfl, g⟩ := j_c_some hst
      obtain ⟨x, y, r, e1, g1⟩ := j_rr_some g
      subst e1
      obtain ⟨⟨hx1, hx2⟩, g2⟩ := j_c_some g1
      have hinj : some (j_ad base b x) = some (j_ad base b y) → x = y := fun q => by
        have q := Option.some.inj q
        unfold j_ad at q
        rw [if_neg hx1, if_neg hx2] at q
        exact Nat.add_left_cancel q
      obtain ⟨⟨e2, e3, e4⟩, ht, ⟨h1, e5⟩ | ⟨h1, e5⟩⟩ := j_go_ok g2 <;> subst e2 <;> subst e3 <;> subst e4 <;> subst e5
      · exact lv_acmp_ne (rx := some (j_ad base b x)) (ry := some (j_ad base b y)) hx hb hd ht (fun _ => k _ _ _ w hS hl rfl) (fun q => absurd (hinj q) h1)
      · exact lv_acmp_ne (rx := some (j_ad base b x)) (ry := some (j_ad base b y)) hx hb hd ht (fun q => absurd (by rw [Decidable.not_not.mp h1]) q) (fun _ => k _ _ _ w hS hl rfl)
    | _ => exact absurd (show none = some _ from hst) (fun q => by cases q)
  | tableswitch dflt lo hi offs =>
    obtain ⟨x, r, e1, g1⟩ := j_i_some (show j_i ST _ = some _ from hst)
    subst e1
    split at g1
    · rename_i h1
      obtain ⟨h2, g2⟩ := j_c_some g1
      cases g2
      exact lv_tableOut hx hb hd h1 (Int.toNat_of_nonneg h2).symm (k _ _ _ w hS hl rfl)
    · rename_i h1
      obtain ⟨off, ho, g2⟩ := Option.bind_eq_some_iff.mp g1
      obtain ⟨h2, g3⟩ := j_c_some g2
      cases g3
      exact lv_tableIn hx hb hd (fun q => h1 (Or.inl q)) (fun q => h1 (Or.inr q)) ho (Int.toNat_of_nonneg h2).symm (k _ _ _ w hS hl rfl)
  | getfield idx =>
    obtain ⟨rfl, g⟩ := j_c_some hst
    obtain ⟨f, hf, g1⟩ := Option.bind_eq_some_iff.mp g
    obtain ⟨a, r, e1, g2⟩ := j_r_some g1
    subst e1
    obtain ⟨cc, fs, hM, g3⟩ := j_ob_some g2
    obtain ⟨h1, g4⟩ := j_c_some g3
    subst h1
    obtain ⟨v, hv, g5⟩ := Option.bind_eq_some_iff.mp g4
    cases g5
    obtain ⟨f1, f2, f3⟩ := j_fl_ok hf
    have ha : a < n := w.lt (by rw [hM]; exact j_nil_ob (by omega))
    show W p l e R s m args below meth c H locs cells slots Q (F0 m pc ls (.ref (j_ad base b a) :: r.map (j_cv (j_ad base b))))
    rw [w.ad ha]
    have he := j_wl_at (base := base) (b := b) (tc := tc) (M := M) ha
    rw [hM] at he
    exact va_get hx hb hts (j_inG f.1 f1) hown hK w.1 a he (j_cl_at f.1 f1) f.2 f2 (hts _ f3) (fun _ q => q) (v := j_cv (j_ad base b) v) (by rw [List.getElem?_map, hv]; rfl) hd (k _ _ _ w hS hl rfl)
  | putfield idx =>
    obtain ⟨rfl, g⟩ := j_c_some hst
    obtain ⟨f, hf, g1⟩ := Option.bind_eq_some_iff.mp g
    obtain ⟨v, a, r, e1, g2⟩ := j_vr_some g1
    subst e1
    obtain ⟨cc, fs, hM, g3⟩ := j_ob_some g2
    obtain ⟨⟨h1, hlen⟩, g4⟩ := j_c_some g3
    subst h1
    obtain ⟨⟨h2, h3, h4⟩, g5⟩ := j_c_some g4
    cases g5
    obtain ⟨f1, f2, f3⟩ := j_fl_ok hf
    have ha : a < n := w.lt (by rw [hM]; exact j_nil_ob (by omega))
    show W p l e R s m args below meth c H locs cells slots Q (F0 m pc ls (j_cv (j_ad base b) v :: .ref (j_ad base b a) :: ST'.map (j_cv (j_ad base b))))
    rw [w.ad ha]
    have he := j_wl_at (base := base) (b := b) (tc := tc) (M := M) ha
    rw [hM] at he
    have hcv := j_fitcv (j_ad base b) (j_ty f.1 f.2) v
    by_cases hfin : (j_T f.1 f.2).2.2.2 = true
    · rw [hfin] at h2
      simp only [Bool.and_true] at h2
      have h2 := h2.symm
      simp only [Bool.and_eq_true, beq_iff_eq] at h2
      obtain ⟨h5, h6⟩ := h2
      exact va_putF hx hb hts (j_inG f.1 f1) (j_ty f.1) (j_tyG f.1 f1) (j_nmG f.1 f1) hown hK w.1 j_wl_D hS a he (j_cl_at f.1 f1) f.2 f2 (hts _ f3) (fun _ q => q) hfin (hini h6) (by rw [j_dcl f.1 f1 f.2 f2, h5]) (j_tyG f.1 f1 f.2 f2) (hcv.1 h3) (hcv.2 h4) (by rw [List.length_map]; exact hlen) hd
        (fun H1 locs1 hP hD hS1 => by
          exact k _ _ _ (w.up ha (e := .inr (f.1, fs.set f.2 v)) (by rw [show j_ce (j_ad base b) tc (.inr (f.1, fs.set f.2 v)) = .inr (f.1, (fs.map (j_cv (j_ad base b))).set f.2 (j_cv (j_ad base b) v)) by simp [j_ce, List.map_set]]; exact hP)) hS1 hl rfl)
    · have hfin := Bool.eq_false_iff.mpr hfin
      exact va_put hx hb hts (j_inG f.1 f1) (j_ty f.1) (j_tyG f.1 f1) (j_nmG f.1 f1) hown hK w.1 j_wl_D hS a he (j_cl_at f.1 f1) f.2 f2 (hts _ f3) (fun _ q => q) hfin (j_tyG f.1 f1 f.2 f2) (hcv.1 h3) (hcv.2 h4) (by rw [List.length_map]; exact hlen) hd
        (fun H1 locs1 hP hD hS1 => by
          exact k _ _ _ (w.up ha (e := .inr (f.1, fs.set f.2 v)) (by rw [show j_ce (j_ad base b) tc (.inr (f.1, fs.set f.2 v)) = .inr (f.1, (fs.map (j_cv (j_ad base b))).set f.2 (j_cv (j_ad base b) v)) by simp [j_ce, List.map_set]]; exact hP)) hS1 hl rfl)
  | arraylength =>
    obtain ⟨rfl, g⟩ := j_c_some hst
    obtain ⟨a, r, e1, g1⟩ := j_r_some g
    subst e1
    obtain ⟨h1, g2⟩ := j_c_some g1
    subst h1
    cases g2
    exact va_slen hx hb hX (Nat.lt_of_lt_of_le hbb hbs) hbA hS hd (k _ _ _ w hS hl rfl)
  | iaload =>
    obtain ⟨rfl, g⟩ := j_c_some hst
    obtain ⟨i, a, r, e1, g1⟩ := j_ir_some g
    subst e1
    rcases j_aE_some g1 with ⟨t, z, f, hM, g2⟩ | g2
    · obtain ⟨⟨h1, h2⟩, g3⟩ := j_c_some g2
      subst h1
      cases g3
      have ha : a < n := w.lt (by rw [hM]; exact j_nil_ar)
      have he := j_wl_at (base := base) (b := b) (tc := tc) (M := M) ha
      rw [hM] at he
      show W p l e R s m args below meth c H locs cells slots Q (F0 m pc ls (.int i :: .ref (j_ad base b a) :: r.map (j_cv (j_ad base b))))
      rw [w.ad ha]
      exact va_iald hx hb hK w.1 a 0 he rfl (j_in_vp h2) hd (k _ _ _ w hS hl rfl)
    · obtain ⟨⟨h1, h2⟩, g3⟩ := j_c_some g2
      subst h1
      cases g3
      exact va_sld hx hb hX (Nat.lt_of_lt_of_le hbb hbs) hbA hS (j_in_vp h2) hd (k _ _ _ w hS hl rfl)
  | baload =>
    obtain ⟨rfl, g⟩ := j_c_some hst
    obtain ⟨i, a, r, e1, g1⟩ := j_ir_some g
    subst e1
    obtain ⟨t, z, f, hM, g2⟩ := j_aI_some g1
    obtain ⟨⟨h1, h2⟩, g3⟩ := j_c_some g2
    subst h1
    cases g3
    have ha : a < n := w.lt (by rw [hM]; exact j_nil_ar)
    have he := j_wl_at (base := base) (b := b) (tc := tc) (M := M) ha
    rw [hM] at he
    show W p l e R s m args below meth c H locs cells slots Q (F0 m pc ls (.int i :: .ref (j_ad base b a) :: r.map (j_cv (j_ad base b))))
    rw [w.ad ha]
    exact va_bald hx hb hK w.1 a 1 he rfl (j_in_vp h2) hd (k _ _ _ w hS hl rfl)
  | aaload =>
    obtain ⟨rfl, g⟩ := j_c_some hst
    obtain ⟨i, a, r, e1, g1⟩ := j_ir_some g
    subst e1
    obtain ⟨t, z, f, hM, g2⟩ := j_aQ_some g1
    obtain ⟨⟨h1, h2⟩, g3⟩ := j_c_some g2
    subst h1
    obtain ⟨q, hq, g4⟩ := Option.bind_eq_some_iff.mp g3
    cases g4
    have ha : a < n := w.lt (by rw [hM]; exact j_nil_ar)
    have he := j_wl_at (base := base) (b := b) (tc := tc) (M := M) ha
    rw [hM] at he
    show W p l e R s m args below meth c H locs cells slots Q (F0 m pc ls (.int i :: .ref (j_ad base b a) :: r.map (j_cv (j_ad base b))))
    rw [w.ad ha]
    refine va_aldq hx hb hK w.1 a 2 he rfl (j_in_vp h2) hd ?_
    rw [show va_rf ((fun j => (f j).map (j_ad base b)) i.toNatClampNeg) = .ref (j_ad base b q) by simp [hq, va_rf]]
    exact k _ _ _ w hS hl rfl
  | iastore =>
    obtain ⟨rfl, g⟩ := j_c_some hst
    obtain ⟨x, i, a, r, e1, g1⟩ := j_iir_some g
    subst e1
    obtain ⟨t, z, f, hM, g2⟩ := j_aI_some g1
    obtain ⟨⟨h1, h2⟩, g3⟩ := j_c_some g2
    subst h1
    cases g3
    have ha : a < n := w.lt (by rw [hM]; exact j_nil_ar)
    have he := j_wl_at (base := base) (b := b) (tc := tc) (M := M) ha
    rw [hM] at he
    show W p l e R s m args below meth c H locs cells slots Q (F0 m pc ls (.int x :: .int i :: .ref (j_ad base b a) :: ST'.map (j_cv (j_ad base b))))
    rw [w.ad ha]
    exact va_iast hx hb hK w.1 j_wl_D hS a 0 he rfl (j_in_vp h2) hd (fun H1 locs1 hP hD hS1 => k _ _ _ (w.up ha (e := .inl (0, z, .inl (upd f i.toNatClampNeg x))) hP) hS1 hl rfl)
  | bastore =>
    obtain ⟨rfl, g⟩ := j_c_some hst
    obtain ⟨x, i, a, r, e1, g1⟩ := j_iir_some g
    subst e1
    obtain ⟨t, z, f, hM, g2⟩ := j_aI_some g1
    obtain ⟨⟨h1, h2⟩, g3⟩ := j_c_some g2
    subst h1
    cases g3
    have ha : a < n := w.lt (by rw [hM]; exact j_nil_ar)
    have he := j_wl_at (base := base) (b := b) (tc := tc) (M := M) ha
    rw [hM] at he
    show W p l e R s m args below meth c H locs cells slots Q (F0 m pc ls (.int x :: .int i :: .ref (j_ad base b a) :: ST'.map (j_cv (j_ad base b))))
    rw [w.ad ha]
    exact va_bast hx hb hK w.1 j_wl_D hS a 1 he rfl (j_in_vp h2) hd (fun H1 locs1 hP hD hS1 => k _ _ _ (w.up ha (e := .inl (1, z, .inl (upd f i.toNatClampNeg (vp_nar .byte x)))) hP) hS1 hl rfl)
  | aastore =>
    obtain ⟨rfl, g⟩ := j_c_some hst
    obtain ⟨v, i, a, r, e1, g1⟩ := j_rir_some g
    subst e1
    obtain ⟨t, z, f, hM, g2⟩ := j_aQ_some g1
    obtain ⟨cv, fs, hV, g3⟩ := j_ob_some g2
    obtain ⟨⟨h1, h3, h2⟩, g4⟩ := j_c_some g3
    subst h1; subst h3
    cases g4
    have ha : a < n := w.lt (by rw [hM]; exact j_nil_ar)
    have hv : v < n := w.lt (by rw [hV]; exact j_nil_ob (by omega))
    have he := j_wl_at (base := base) (b := b) (tc := tc) (M := M) ha
    rw [hM] at he
    have he2 := j_wl_at (base := base) (b := b) (tc := tc) (M := M) hv
    rw [hV] at he2
    show W p l e R s m args below meth c H locs cells slots Q (F0 m pc ls (.ref (j_ad base b v) :: .int i :: .ref (j_ad base b a) :: ST'.map (j_cv (j_ad base b))))
    rw [w.ad ha, w.ad hv]
    refine va_astq hx hb hK w.1 j_wl_D hS a 2 v 2 (r := (RX2, TX2, 4)) he rfl he2 rfl (j_in_vp h2) hd (fun H1 locs1 hP hD hS1 => ?_)
    refine k _ _ _ (w.up ha (e := .inl (2, z, .inr (.inr (.inr (.inr (va_up f i.toNatClampNeg (some v))))))) ?_) hS1 hl rfl
    rw [show j_ce (j_ad base b) tc (.inl (2, z, .inr (.inr (.inr (.inr (va_up f i.toNatClampNeg (some v))))))) = .inl (tc 2, z, .inr (.inr (.inr (.inr (va_up (fun j => (f j).map (j_ad base b)) i.toNatClampNeg (some (base + v))))))) from ?_]
    · exact hP
    · have hf : (fun j => (va_up f i.toNatClampNeg (some v) j).map (j_ad base b)) = va_up (fun j => (f j).map (j_ad base b)) i.toNatClampNeg (some (base + v)) := by
        funext j
        by_cases hj : j = i.toNatClampNeg
        · subst hj
          rw [va_up_self, va_up_self, ← w.ad hv]
          rfl
        · rw [va_up_ne _ _ hj, va_up_ne _ _ hj]
      show (Sum.inl (tc 2, z, .inr (.inr (.inr (.inr (fun j => (va_up f i.toNatClampNeg (some v) j).map (j_ad base b)))))) : va_E) = _
      rw [hf]
  | _ => exact absurd (show none = some _ from hst) (fun q => by cases q)
end
