section
-- ===== PART A: goes FIRST, ahead of the names: the tables' words, and 'selects' of the private methods out of them =====
/-- a private method of a class that the tables say can be made, by its rows of tables_1 -/
def lw_okq (q : MethodName × Nat) : Prop := (q.1.cls ≠ "java/lang/invoke/MethodHandle" ∧ q.1.cls ≠ "java/lang/invoke/VarHandle") ∧ Cond.instantiable q.1.cls q.2 ∈ tables_1 ∧ Cond.privateMethod q.1 ∈ tables_1 ∧ Cond.instanceMethod q.1 ∈ tables_1
theorem lw_p0 : lw_okq (⟨"java/lang/Throwable", "fillInStackTrace", "(I)Ljava/lang/Throwable;"⟩, 6) := ⟨⟨by decide +kernel, by decide +kernel⟩, List.mem_of_getElem? (i := 313) (by decide +kernel), List.mem_of_getElem? (i := 311) (by decide +kernel), List.mem_of_getElem? (i := 312) (by decide +kernel)⟩
theorem lw_p1 : lw_okq (⟨"ShipJournal", "requireKept", "(I)V"⟩, 5) := ⟨⟨by decide +kernel, by decide +kernel⟩, List.mem_of_getElem? (i := 16) (by decide +kernel), List.mem_of_getElem? (i := 429) (by decide +kernel), List.mem_of_getElem? (i := 430) (by decide +kernel)⟩
theorem lw_p2 : lw_okq (⟨"ShipJournal", "mixOrders", "(J)J"⟩, 5) := ⟨⟨by decide +kernel, by decide +kernel⟩, List.mem_of_getElem? (i := 16) (by decide +kernel), List.mem_of_getElem? (i := 524) (by decide +kernel), List.mem_of_getElem? (i := 525) (by decide +kernel)⟩
theorem lw_p3 : lw_okq (⟨"ShipJournal", "mixShips", "(J)J"⟩, 5) := ⟨⟨by decide +kernel, by decide +kernel⟩, List.mem_of_getElem? (i := 16) (by decide +kernel), List.mem_of_getElem? (i := 529) (by decide +kernel), List.mem_of_getElem? (i := 530) (by decide +kernel)⟩
theorem lw_p4 : lw_okq (⟨"ShipJournal", "mixForecasts", "(J)J"⟩, 5) := ⟨⟨by decide +kernel, by decide +kernel⟩, List.mem_of_getElem? (i := 16) (by decide +kernel), List.mem_of_getElem? (i := 535) (by decide +kernel), List.mem_of_getElem? (i := 536) (by decide +kernel)⟩
theorem lw_p5 : lw_okq (⟨"ShipJournal", "saveState", "()V"⟩, 5) := ⟨⟨by decide +kernel, by decide +kernel⟩, List.mem_of_getElem? (i := 16) (by decide +kernel), List.mem_of_getElem? (i := 550) (by decide +kernel), List.mem_of_getElem? (i := 551) (by decide +kernel)⟩
theorem lw_p6 : lw_okq (⟨"ShipJournal$State", "canReplay", "(LShipJournal$Ship;)Z"⟩, 4) := ⟨⟨by decide +kernel, by decide +kernel⟩, List.mem_of_getElem? (i := 24) (by decide +kernel), List.mem_of_getElem? (i := 604) (by decide +kernel), List.mem_of_getElem? (i := 605) (by decide +kernel)⟩
theorem lw_p7 : lw_okq (⟨"ShipJournal$State", "canRepair", "(I)Z"⟩, 4) := ⟨⟨by decide +kernel, by decide +kernel⟩, List.mem_of_getElem? (i := 24) (by decide +kernel), List.mem_of_getElem? (i := 685) (by decide +kernel), List.mem_of_getElem? (i := 686) (by decide +kernel)⟩
theorem lw_p8 : lw_okq (⟨"ShipJournal$Text", "byteAt", "(I)I"⟩, 7) := ⟨⟨by decide +kernel, by decide +kernel⟩, List.mem_of_getElem? (i := 137) (by decide +kernel), List.mem_of_getElem? (i := 730) (by decide +kernel), List.mem_of_getElem? (i := 731) (by decide +kernel)⟩
theorem lw_p9 : lw_okq (⟨"ShipJournal$Text", "readSign", "(I)Z"⟩, 7) := ⟨⟨by decide +kernel, by decide +kernel⟩, List.mem_of_getElem? (i := 137) (by decide +kernel), List.mem_of_getElem? (i := 734) (by decide +kernel), List.mem_of_getElem? (i := 735) (by decide +kernel)⟩
theorem lw_p10 : lw_okq (⟨"ShipJournal$Text", "readFirst", "(I)Z"⟩, 7) := ⟨⟨by decide +kernel, by decide +kernel⟩, List.mem_of_getElem? (i := 137) (by decide +kernel), List.mem_of_getElem? (i := 738) (by decide +kernel), List.mem_of_getElem? (i := 739) (by decide +kernel)⟩
theorem lw_p11 : lw_okq (⟨"ShipJournal$Text", "readDigit", "(I)I"⟩, 7) := ⟨⟨by decide +kernel, by decide +kernel⟩, List.mem_of_getElem? (i := 137) (by decide +kernel), List.mem_of_getElem? (i := 742) (by decide +kernel), List.mem_of_getElem? (i := 743) (by decide +kernel)⟩
theorem lw_p12 : lw_okq (⟨"ShipJournal$Text", "readNumber", "()Z"⟩, 7) := ⟨⟨by decide +kernel, by decide +kernel⟩, List.mem_of_getElem? (i := 137) (by decide +kernel), List.mem_of_getElem? (i := 746) (by decide +kernel), List.mem_of_getElem? (i := 747) (by decide +kernel)⟩
theorem lw_p13 : lw_okq (⟨"ShipJournal$Text", "readSecond", "(I)Z"⟩, 7) := ⟨⟨by decide +kernel, by decide +kernel⟩, List.mem_of_getElem? (i := 137) (by decide +kernel), List.mem_of_getElem? (i := 753) (by decide +kernel), List.mem_of_getElem? (i := 754) (by decide +kernel)⟩
theorem lw_p14 : lw_okq (⟨"ShipJournal", "obeyCommand", "()Z"⟩, 5) := ⟨⟨by decide +kernel, by decide +kernel⟩, List.mem_of_getElem? (i := 16) (by decide +kernel), List.mem_of_getElem? (i := 760) (by decide +kernel), List.mem_of_getElem? (i := 761) (by decide +kernel)⟩
theorem lw_p15 : lw_okq (⟨"ShipJournal", "obeyWrite", "(I)Z"⟩, 5) := ⟨⟨by decide +kernel, by decide +kernel⟩, List.mem_of_getElem? (i := 16) (by decide +kernel), List.mem_of_getElem? (i := 764) (by decide +kernel), List.mem_of_getElem? (i := 765) (by decide +kernel)⟩
def lw_privs_1 : List (MethodName × Nat) := [(⟨"java/lang/Throwable", "fillInStackTrace", "(I)Ljava/lang/Throwable;"⟩, 6), (⟨"ShipJournal", "requireKept", "(I)V"⟩, 5), (⟨"ShipJournal", "mixOrders", "(J)J"⟩, 5), (⟨"ShipJournal", "mixShips", "(J)J"⟩, 5), (⟨"ShipJournal", "mixForecasts", "(J)J"⟩, 5), (⟨"ShipJournal", "saveState", "()V"⟩, 5), (⟨"ShipJournal$State", "canReplay", "(LShipJournal$Ship;)Z"⟩, 4), (⟨"ShipJournal$State", "canRepair", "(I)Z"⟩, 4), (⟨"ShipJournal$Text", "byteAt", "(I)I"⟩, 7), (⟨"ShipJournal$Text", "readSign", "(I)Z"⟩, 7), (⟨"ShipJournal$Text", "readFirst", "(I)Z"⟩, 7), (⟨"ShipJournal$Text", "readDigit", "(I)I"⟩, 7), (⟨"ShipJournal$Text", "readNumber", "()Z"⟩, 7), (⟨"ShipJournal$Text", "readSecond", "(I)Z"⟩, 7), (⟨"ShipJournal", "obeyCommand", "()Z"⟩, 5), (⟨"ShipJournal", "obeyWrite", "(I)Z"⟩, 5)]
theorem lw_r1 : ∀ q ∈ lw_privs_1, lw_okq q := List.forall_mem_cons.mpr ⟨lw_p0, List.forall_mem_cons.mpr ⟨lw_p1, List.forall_mem_cons.mpr ⟨lw_p2, List.forall_mem_cons.mpr ⟨lw_p3, List.forall_mem_cons.mpr ⟨lw_p4, List.forall_mem_cons.mpr ⟨lw_p5, List.forall_mem_cons.mpr ⟨lw_p6, List.forall_mem_cons.mpr ⟨lw_p7, List.forall_mem_cons.mpr ⟨lw_p8, List.forall_mem_cons.mpr ⟨lw_p9, List.forall_mem_cons.mpr ⟨lw_p10, List.forall_mem_cons.mpr ⟨lw_p11, List.forall_mem_cons.mpr ⟨lw_p12, List.forall_mem_cons.mpr ⟨lw_p13, List.forall_mem_cons.mpr ⟨lw_p14, List.forall_mem_cons.mpr ⟨lw_p15, fun _ h => absurd h List.not_mem_nil⟩⟩⟩⟩⟩⟩⟩⟩⟩⟩⟩⟩⟩⟩⟩⟩
theorem lw_p16 : lw_okq (⟨"ShipJournal", "obeySnapshot", "()Z"⟩, 5) := ⟨⟨by decide +kernel, by decide +kernel⟩, List.mem_of_getElem? (i := 16) (by decide +kernel), List.mem_of_getElem? (i := 768) (by decide +kernel), List.mem_of_getElem? (i := 769) (by decide +kernel)⟩
def lw_privs_2 : List (MethodName × Nat) := [(⟨"ShipJournal", "obeySnapshot", "()Z"⟩, 5)]
theorem lw_r2 : ∀ q ∈ lw_privs_2, lw_okq q := List.forall_mem_cons.mpr ⟨lw_p16, fun _ h => absurd h List.not_mem_nil⟩
def lw_privs : List (MethodName × Nat) := lw_privs_1 ++ (lw_privs_2)
def lw_tbl : List Cond := k2_sels lw_privs ++ tables_1
theorem lw_privs_ok : ∀ q ∈ lw_privs, lw_okq q := by
  show ∀ q ∈ lw_privs_1 ++ (lw_privs_2), lw_okq q
  exact List.forall_mem_append.mpr ⟨lw_r1, lw_r2⟩
-- ===== end of PART A; then your names; then what follows =====
/-! ===== BEGIN words of one list among another's, by their places ===== -/
theorem goodIn_r {big : List Cond} (ws : List Cond) (ps : List Nat) (hp : ws = ps.filterMap (fun i => big[i]?)) (h : ws.all goodWord = true) : GoodIn big ws := by
  intro w hw
  have h1 := List.all_eq_true.mp h w hw
  rw [hp] at hw
  obtain ⟨i, -, hi⟩ := List.mem_filterMap.mp hw
  have hm : w ∈ big := by first | exact List.mem_of_getElem? hi | exact List.getElem?_mem hi
  exact ⟨hm, good_of_word h1⟩
theorem goodIn_app {big a b : List Cond} (ha : GoodIn big a) (hb : GoodIn big b) : GoodIn big (a ++ b) := fun w h => (List.mem_append.mp h).elim (ha w) (hb w)
theorem goodIn_ca {big a b : List Cond} {c : Cond} (ha : GoodIn big (c :: a)) (hb : GoodIn big b) : GoodIn big (c :: (a ++ b)) := fun w h => (List.mem_cons.mp h).elim (fun e => ha w (List.mem_cons.mpr (Or.inl e))) (fun h => (List.mem_append.mp h).elim (fun h => ha w (List.mem_cons.mpr (Or.inr h))) (hb w))
theorem goodIn_sub {big ws : List Cond} (hm : ∀ w ∈ ws, w ∈ big) (h : ws.all goodWord = true) : GoodIn big ws := fun w hw => ⟨hm w hw, good_of_word (List.all_eq_true.mp h w hw)⟩
/-! ===== END ===== -/

/-! ===== BEGIN exceptions that leave a method, and their catching by the caller (launches without stack traces) ===== -/
section VXA
/-! The laws vx_back, vx_callV, vx_callS, vx_callSW, vx_throw0, vx_throwS follow proofs of the library, with one case more: JvmDerived/Free/Laws.lean (Back.of_free), Shelf42/LK1.lean (callV, callS), Shelf/KitTraced.lean (throwNew0V, throwNewS). -/
/-- where a method has thrown q: the class by its name, the cell, what was written, the world -/
def vx_T (XC : String → State → State → Prop) (st : State) (q : Addr) (t : State) (mc ms : Nat) (free : Addr → Prop) : Prop :=
  ∃ (E : String) (ce : Cell) (L : List Loc), XC E st t ∧ t.heap[q]? = some ce ∧ ce.vm = .none ∧ st.vm.findClass E = some ce.cls ∧ st.WarmedH t.vm ∧ st.sameButNew ({ t with vm := st.vm } : State) L mc ms ∧ ∀ z ∈ L, free z.base
def vx_Q (Qc : Array Value → State → Outcome → State → Prop) (XC : String → State → State → Prop) (mc ms : Nat) (free : Addr → Prop) : Array Value → State → Outcome → State → Prop := fun a st o t =>
  (Qc a st o t ∧ ∃ L, FrameEnd st o t L mc ms ∧ ∀ q ∈ L, free q.base) ∨ ∃ q, o = .threw q ∧ vx_T XC st q t mc ms free
/-- a callee that returns or throws -/
def vx_Met (l : Launch) (y : MethodName) (ws : List Cond) (rm : Room) (Pc : Array Value → State → Prop) (Qc : Array Value → State → Outcome → State → Prop) (XC : String → State → State → Prop) (mc ms : Nat) (free : Addr → Prop) : Prop :=
  MetFree l y (headSpec ws rm) Pc (fun _ _ _ _ _ => True) (vx_Q Qc XC mc ms free)
def vx_Post (XC : String → State → State → Prop) (mc ms : Nat) (free : Addr → Prop) : Pt → Array Value → Addr → Pt → Prop := fun A a q B =>
  ∃ (g : JFrame) (mk : MethodId) (t : State) (L : List Loc) (E : String) (ce : Cell), B.U.heap = t.heap ∧ B.U.vm = t.vm ∧ XC E (A.U.calling g mk a) t ∧ t.heap[q]? = some ce ∧ ce.vm = .none ∧ A.U.vm.findClass E = some ce.cls ∧ B.locs = A.locs ++ L ∧ (∀ z ∈ L, free z.base) ∧ B.cells = A.cells + mc ∧ B.slots = A.slots + ms
def vx_Back (l : Launch) (R : Room) (p : Program) (e : Env) (below : List Frame) (s : State) (sargs : Array Value) (y : MethodName) (len W9 : Nat)
    (Pre : Pt → Array Value → Prop) (Post : Pt → Array Value → Option Value → Pt → Prop) (PostX : Pt → Array Value → Addr → Pt → Prop) : Prop :=
  ∀ (m : MethodId) (meth : Method) (c : Code) (A : Pt) (g : JFrame) (ig : Instr) (mk : MethodId) (a : Array Value),
    Stand p l e R s m sargs below meth c A.U A.locs A.cells A.slots → g.method = m → g.locals.size = c.maxLocals → decode c.code g.pc = .ok (ig, len) →
    2 * g.monitorRoom + (g.stack.map fun v => v.category).sum ≤ W9 → A.U.methodNamed? y = some mk → Pre A a →
    (∃ (v : Option Value) (B : Pt), Stand p l e R s m sargs below meth c B.U B.locs B.cells B.slots ∧ Post A a v B ∧
      Steps p.tables e below (doInvoke e (A.U.setTop g) [] mk a).1 (B.U.setTop { g with pc := g.pc + len, stack := v.toList ++ g.stack })) ∨
    (∃ (q : Addr) (B : Pt), Stand p l e R s m sargs below meth c B.U B.locs B.cells B.slots ∧ PostX A a q B ∧
      Steps p.tables e below (doInvoke e (A.U.setTop g) [] mk a).1 ((B.U.setTop g).pushFrame (.throwing q)))
section Payer
variable {l : Launch} {R : Room} {p : Program} {e : Env} {below : List Frame} {s : State} {sargs : Array Value} {y : MethodName} {len W9 : Nat}
theorem vx_back {ws : List Cond} {rm : Room} {Pc : Array Value → State → Prop} {Qc : Array Value → State → Outcome → State → Prop} {XC : String → State → State → Prop} {mc ms : Nat} {free : Addr → Prop} {bytes : ByteArray} {maxL : Nat} {ret : Option FieldType}
    (hM : vx_Met l y ws rm Pc Qc XC mc ms free) (hblind : FrameBlind Pc) (hrc : rm.cells = mc) (hrs : rm.slots = ms)
    (hframes : rm.frames + 1 ≤ R.frames) (hlocals : W9 + (maxL + 11) + rm.locals ≤ R.locals)
    (hws : ∀ w ∈ ws, ∀ a' U, s.WarmedH U.vm → w.before a' U = true) (hcode : Cond.code y bytes maxL ret ∈ ws) (hinit : ∀ a' U, s.WarmedH U.vm → (Cond.initialized y.cls).before a' U = true) :
    vx_Back l R p e below s sargs y len W9 (PreOf R mc ms Pc) (PostOf Qc mc ms free) (vx_Post XC mc ms free) := by
  intro m meth c A g ig mk a X hg hsize hdg hW hn hp
  have h1 : (headSpec ws rm).pre.before a A.U = true := atoms_intro fun w hw => hws w hw _ _ X.warmed
  have h2 : (Cond.code y bytes maxL ret).before a A.U = true := hws _ hcode _ _ X.warmed
  have h3 : (Cond.initialized y.cls).before a A.U = true := hinit _ _ X.warmed
  have h4 : A.cells + (headSpec ws rm).room.cells ≤ R.cells := by rw [show (headSpec ws rm).room.cells = mc from hrc]; exact hp.1
  have h5 : A.slots + (headSpec ws rm).room.slots ≤ R.slots := by rw [show (headSpec ws rm).room.slots = ms from hrs]; exact hp.2.1
  have hPc : Pc a (A.U.calling g mk a) := hblind _ _ _ _ hp.2.2
  obtain ⟨U, Ls, c0, s0⟩ := A
  dsimp only [Pt.U, Pt.locs, Pt.cells, Pt.slots] at h1 h2 h3 h4 h5 X hn hPc ⊢
  obtain ⟨methY, cY, hmY, hcY, -, hlY, -, -, -, -⟩ := Cond.code_spec hn h2
  obtain ⟨kY, hkY, -⟩ := className_of_methodNamed hn
  have hinitY : kY.init = .initialized := Cond.initialized_spec (findClass_of_methodNamed hn) hkY h3
  have h : At U g.method c below := by rw [hg]; exact X.here
  have hlocals9 : W9 + (maxL + 11) + (headSpec ws rm).room.locals ≤ R.locals := hlocals
  have happ : (headSpec ws rm).appliesLoose y e.platform (U.calling g mk a) = true :=
    Spec.appliesLoose_calling (g := g) h hdg hn hkY hinitY
      (X.room_calling (g := g) (R' := (headSpec ws rm).room) hsize hmY hcY hframes (by rw [hlY]; omega) h4 h5) h1
  obtain ⟨mid, hmid⟩ := h.above
  have hfr : (U.setTop g).frames = (.java g :: mid) ++ below := by rw [State.frames_setTop' g h.top, hmid]; rfl
  obtain ⟨o, s₂, hsteps, -, hend, hq⟩ := Steps.callFree hM p X.admits X.cas X.clock (acts := []) hfr happ hPc trivial
  have hq' : vx_Q Qc XC mc ms free a (U.calling g mk a) o s₂ := hq
  rw [State.frames_setTop' g h.top] at hend
  obtain ⟨g₀, hg0⟩ := Option.isSome_iff_exists.mp h.top
  obtain ⟨r, hr⟩ := State.topJava?_eq_some.mp hg0
  have hr' : (({ U with heap := s₂.heap, slotsUsed := s₂.slotsUsed } : State).setVm s₂.vm).frames = .java g₀ :: r := hr
  rcases hq' with ⟨hqc, L, hfe, hL⟩ | ⟨q, rfl, E, ce, L, hx, hce, hcv, hcl, hW₂, hsm, hL⟩
  · obtain ⟨⟨v, rfl⟩, hW₂, e2, q2, q3, q4, q5, q6⟩ := id hfe
    have e3 : s₂ = ({ (U.calling g mk a).setFrames s₂.frames with heap := s₂.heap, slotsUsed := s₂.slotsUsed } : State).setVm s₂.vm := by
      have : s₂ = ({ s₂ with vm := (U.calling g mk a).vm } : State).setVm s₂.vm := rfl
      rw [e2] at this
      exact this
    obtain ⟨c₂, i₂, len₂, hc₂, hd₂, hf₂⟩ := hend
    have hW' : U.WarmedH s₂.vm := hW₂
    have hcc : c₂ = c := by
      have h1 : s₂.code? g.method = U.code? g.method := by
        rw [State.code?_eq, State.code?_eq, hW'.alike.method?]
      exact Option.some.inj (hc₂.symm.trans (h1.trans h.code))
    subst hcc
    have hlen : len₂ = len := by rw [hdg] at hd₂; cases hd₂; rfl
    subst hlen
    have hs₂ : s₂ = (({ U with heap := s₂.heap, slotsUsed := s₂.slotsUsed } : State).setVm s₂.vm).setTop { g with pc := g.pc + len₂, stack := v.toList ++ g.stack } := by
      refine e3.trans ?_
      rw [hf₂, State.calling_eq h.top, State.setFrames_setFrames, State.setTop_of_frames _ hr', hr]
      rfl
    have hsame : U.sameButNew ({ U with heap := s₂.heap, slotsUsed := s₂.slotsUsed } : State) L mc ms := by
      refine ⟨?_, q2, q3, q4, q5, q6⟩
      obtain ⟨t, ht, -⟩ := State.frames_cons hr
      show ({ U with heap := s₂.heap, slotsUsed := s₂.slotsUsed } : State) = { U.setFrames U.frames with heap := s₂.heap, slotsUsed := s₂.slotsUsed }
      rw [State.setFrames_self ht]
    subst hg
    refine Or.inl ⟨v, ⟨(({ U with heap := s₂.heap, slotsUsed := s₂.slotsUsed } : State).setVm s₂.vm), Ls ++ L, c0 + mc, s0 + ms⟩,
      ⟨X.admits, X.cas, X.clock, X.frames, X.room, X.hears, X.method, X.code, (X.here.setHeapUsed s₂.heap s₂.slotsUsed).setVm hW'.alike, X.tail, State.WarmedH.trans X.warmed hW', X.limits, X.bytes, X.same.trans (hsame.setVm s.vm)⟩,
      ⟨g, mk, s₂, L, rfl, rfl, hqc, rfl, hL, rfl, rfl⟩, ?_⟩
    show Steps p.tables e below _ ((({ U with heap := s₂.heap, slotsUsed := s₂.slotsUsed } : State).setVm s₂.vm).setTop { g with pc := g.pc + len₂, stack := v.toList ++ g.stack })
    rw [← hs₂]
    exact hsteps
  · obtain ⟨e2, q2, q3, q4, q5, q6⟩ := id hsm
    have e3 : s₂ = ({ (U.calling g mk a).setFrames s₂.frames with heap := s₂.heap, slotsUsed := s₂.slotsUsed } : State).setVm s₂.vm := by
      have : s₂ = ({ s₂ with vm := (U.calling g mk a).vm } : State).setVm s₂.vm := rfl
      rw [e2] at this
      exact this
    have hf₂ : s₂.frames = .throwing q :: .java g :: U.frames.tail := hend
    have hW' : U.WarmedH s₂.vm := hW₂
    have hs₂ : s₂ = ((({ U with heap := s₂.heap, slotsUsed := s₂.slotsUsed } : State).setVm s₂.vm).setTop g).pushFrame (.throwing q) := by
      refine e3.trans ?_
      rw [hf₂, State.calling_eq h.top, State.setFrames_setFrames, State.pushFrame, State.frames_setTop _ hr', State.setTop_of_frames _ hr', State.setFrames_setFrames, hr]
      rfl
    have hsame : U.sameButNew ({ U with heap := s₂.heap, slotsUsed := s₂.slotsUsed } : State) L mc ms := by
      refine ⟨?_, q2, q3, q4, q5, q6⟩
      obtain ⟨t, ht, -⟩ := State.frames_cons hr
      show ({ U with heap := s₂.heap, slotsUsed := s₂.slotsUsed } : State) = { U.setFrames U.frames with heap := s₂.heap, slotsUsed := s₂.slotsUsed }
      rw [State.setFrames_self ht]
    subst hg
    refine Or.inr ⟨q, ⟨(({ U with heap := s₂.heap, slotsUsed := s₂.slotsUsed } : State).setVm s₂.vm), Ls ++ L, c0 + mc, s0 + ms⟩,
      ⟨X.admits, X.cas, X.clock, X.frames, X.room, X.hears, X.method, X.code, (X.here.setHeapUsed s₂.heap s₂.slotsUsed).setVm hW'.alike, X.tail, State.WarmedH.trans X.warmed hW', X.limits, X.bytes, X.same.trans (hsame.setVm s.vm)⟩,
      ⟨g, mk, s₂, L, E, ce, rfl, rfl, hx, hce, hcv, hcl, rfl, hL, rfl, rfl⟩, ?_⟩
    show Steps p.tables e below _ (((({ U with heap := s₂.heap, slotsUsed := s₂.slotsUsed } : State).setVm s₂.vm).setTop g).pushFrame (.throwing q))
    rw [← hs₂]
    exact hsteps
end Payer
section Calls
variable {p : Program} {l : Launch} {e : Env} {R : Room} {s : State} {m : MethodId} {args : Array Value} {below : List Frame} {meth : Method} {c : Code} {T : State} {locs : List Loc} {cells slots : Nat}
theorem vx_callV (X : Stand p l e R s m args below meth c T locs cells slots) (hexec : p.tables.exec = Jvm.exec) {own C : String} {index : Nat} {y : MethodName} {bytes : ByteArray} {maxL : Nat} {ret : Option FieldType}
    (hown : s.vm.findClass own = some m.cls) (hlink : (Cond.methodLink own index y).before args s = true) (hinst : (Cond.instanceMethod y).before args s = true) (hsel : (Cond.selects C y y).before args s = true)
    (hcode : (Cond.code y bytes maxL ret).before args s = true) (hy : y.cls ≠ "java/lang/invoke/MethodHandle" ∧ y.cls ≠ "java/lang/invoke/VarHandle")
    {W9 : Nat} {Pre : Pt → Array Value → Prop} {Post : Pt → Array Value → Option Value → Pt → Prop} {PostX : Pt → Array Value → Addr → Pt → Prop} (hK : vx_Back l R p e below s args y 3 W9 Pre Post PostX)
    {b : Addr} {cellB : Cell} (hcell : T.heap[b]? = some cellB) (hobj : cellB.vm.isStatics = false) (hcls : s.vm.findClass C = some cellB.cls)
    {g : JFrame} (hg : g.method = m) (hsize : g.locals.size = c.maxLocals) {argsL rest : List Value} (hlen : ∀ sig, parseMethodDescriptor y.desc = some sig → argsL.length = sig.parameters.length)
    (hstack : g.stack = argsL.reverse ++ .ref b :: rest) (hW : 2 * g.monitorRoom + (rest.map fun v => v.category).sum ≤ W9) (hdg : decode c.code g.pc = .ok (.invokevirtual index, 3))
    (hpre : ∀ vm₁, s.WarmedH vm₁ → Pre ⟨T.setVm vm₁, locs, cells, slots⟩ (Value.ref b :: argsL).toArray) :
    (∃ (v : Option Value) (vm₁ : Vm) (B : Pt), s.WarmedH vm₁ ∧ Stand p l e R s m args below meth c B.U B.locs B.cells B.slots ∧ Post ⟨T.setVm vm₁, locs, cells, slots⟩ (Value.ref b :: argsL).toArray v B ∧
      ∀ target, Steps p.tables e below (B.U.setTop { g with pc := g.pc + 3, stack := v.toList ++ rest }) target → Steps p.tables e below (T.setTop g) target) ∨
    (∃ (q : Addr) (vm₁ : Vm) (B : Pt), s.WarmedH vm₁ ∧ Stand p l e R s m args below meth c B.U B.locs B.cells B.slots ∧ PostX ⟨T.setVm vm₁, locs, cells, slots⟩ (Value.ref b :: argsL).toArray q B ∧
      Steps p.tables e below (T.setTop g) ((B.U.setTop { g with stack := rest }).pushFrame (.throwing q))) := by
  obtain ⟨mk, methM, hnamed, hmethM, hstM, habM⟩ := Cond.instanceMethod_spec hinst
  obtain ⟨methM', cM, hmethM', -, -, -, -, -, -, hsigM⟩ := Cond.code_spec hnamed hcode
  cases hmethM.symm.trans hmethM'
  obtain ⟨c2, r2, m2, q1, q2, q3, q4, kP, hkP, hkPi⟩ := Cond.selects_spec hsel
  cases hcls.symm.trans q1
  cases (State.methodFound?_of_named hnamed hy).symm.trans q2
  cases hnamed.symm.trans q3
  have hselP : selectMethod e.platform s.vm cellB.cls mk = .method mk := by rw [Launch.admits_selectMethod X.admits]; exact q4
  obtain ⟨vm₁, X₁, hstep₁⟩ := X.invokevirtual hexec hown hlink hnamed hmethM hstM hkP hkPi hy (a := b) (cell := cellB) hcell
    (fun z h => by rw [h] at hobj; cases hobj) hselP hmethM habM hkP hkPi (g := g) hg (argsL := argsL) (rest := rest) (hlen _ hsigM) hstack hdg
  rcases hK m meth c ⟨T.setVm vm₁, locs, cells, slots⟩ { g with stack := rest } (.invokevirtual index) mk (Value.ref b :: argsL).toArray X₁ hg hsize hdg hW (X₁.named hnamed) (hpre vm₁ X₁.warmed) with ⟨v, B, X', hpost, hsteps⟩ | ⟨q, B, X', hpost, hsteps⟩
  · exact Or.inl ⟨v, vm₁, B, X₁.warmed, X', hpost, fun target h => hstep₁ _ fun acts => by rw [doInvoke_state]; exact hsteps.trans h⟩
  · exact Or.inr ⟨q, vm₁, B, X₁.warmed, X', hpost, hstep₁ _ fun acts => by rw [doInvoke_state]; exact hsteps⟩
theorem vx_callS (X : Stand p l e R s m args below meth c T locs cells slots) (hexec : p.tables.exec = Jvm.exec) {own : String} {index : Nat} {y : MethodName} {bytes : ByteArray} {maxL : Nat} {ret : Option FieldType}
    (hown : s.vm.findClass own = some m.cls) (hlink : (Cond.methodLink own index y).before args s = true) (hstat : (Cond.static y).before args s = true) (hinit : (Cond.initialized y.cls).before args s = true)
    (hcode : (Cond.code y bytes maxL ret).before args s = true) (hy : y.cls ≠ "java/lang/invoke/MethodHandle" ∧ y.cls ≠ "java/lang/invoke/VarHandle")
    {W9 : Nat} {Pre : Pt → Array Value → Prop} {Post : Pt → Array Value → Option Value → Pt → Prop} {PostX : Pt → Array Value → Addr → Pt → Prop} (hK : vx_Back l R p e below s args y 3 W9 Pre Post PostX)
    {g : JFrame} (hg : g.method = m) (hsize : g.locals.size = c.maxLocals) {argsL rest : List Value} (hlen : ∀ sig, parseMethodDescriptor y.desc = some sig → argsL.length = sig.parameters.length)
    (hstack : g.stack = argsL.reverse ++ rest) (hW : 2 * g.monitorRoom + (rest.map fun v => v.category).sum ≤ W9) (hdg : decode c.code g.pc = .ok (.invokestatic index, 3))
    (hpre : ∀ vm₁, s.WarmedH vm₁ → Pre ⟨T.setVm vm₁, locs, cells, slots⟩ argsL.toArray) :
    (∃ (v : Option Value) (vm₁ : Vm) (B : Pt), s.WarmedH vm₁ ∧ Stand p l e R s m args below meth c B.U B.locs B.cells B.slots ∧ Post ⟨T.setVm vm₁, locs, cells, slots⟩ argsL.toArray v B ∧
      ∀ target, Steps p.tables e below (B.U.setTop { g with pc := g.pc + 3, stack := v.toList ++ rest }) target → Steps p.tables e below (T.setTop g) target) ∨
    (∃ (q : Addr) (vm₁ : Vm) (B : Pt), s.WarmedH vm₁ ∧ Stand p l e R s m args below meth c B.U B.locs B.cells B.slots ∧ PostX ⟨T.setVm vm₁, locs, cells, slots⟩ argsL.toArray q B ∧
      Steps p.tables e below (T.setTop g) ((B.U.setTop { g with stack := rest }).pushFrame (.throwing q))) := by
  obtain ⟨mk, hnamed⟩ := Cond.code_named hcode
  obtain ⟨methM, cM, hmethM, -, -, -, -, -, -, hsigM⟩ := Cond.code_spec hnamed hcode
  have hstatic : methM.isStatic = true := Cond.static_spec hnamed hmethM hstat
  obtain ⟨kP, hkP, -⟩ := className_of_methodNamed hnamed
  have hinitP : kP.init = .initialized := Cond.initialized_spec (findClass_of_methodNamed hnamed) hkP hinit
  obtain ⟨vm₁, X₁, hstep₁⟩ := X.invokestatic hexec hown hlink hnamed hmethM hstatic hkP hinitP hy (g := g) hg (argsL := argsL) (rest := rest) (hlen _ hsigM) hstack hdg
  rcases hK m meth c ⟨T.setVm vm₁, locs, cells, slots⟩ { g with stack := rest } (.invokestatic index) mk argsL.toArray X₁ hg hsize hdg hW (X₁.named hnamed) (hpre vm₁ X₁.warmed) with ⟨v, B, X', hpost, hsteps⟩ | ⟨q, B, X', hpost, hsteps⟩
  · exact Or.inl ⟨v, vm₁, B, X₁.warmed, X', hpost, fun target h => hstep₁ _ fun acts => by rw [doInvoke_state]; exact hsteps.trans h⟩
  · exact Or.inr ⟨q, vm₁, B, X₁.warmed, X', hpost, hstep₁ _ fun acts => by rw [doInvoke_state]; exact hsteps⟩
end Calls
theorem vx_cls {s : State} {T : State} {vm₁ : Vm} {E : String} {k : ClassId} (hW : s.WarmedH vm₁) (h : (T.setVm vm₁).vm.findClass E = some k) : s.vm.findClass E = some k := by
  have h1 : vm₁.findClass E = some k := h
  rw [hW.alike.findClass] at h1
  exact h1
/-- the method's frame g, with q thrown over it -/
def vx_W (p : Program) (l : Launch) (e : Env) (R : Room) (s : State) (m : MethodId) (args : Array Value) (below : List Frame) (meth : Method) (c : Code) (H : Heap) (locs : List Loc) (cells slots : Nat) (Q : State → Prop) (g : JFrame) (q : Addr) : Prop :=
  ∀ T : State, T.heap = H → Stand p l e R s m args below meth c T locs cells slots → ∃ t, Steps p.tables e below ((T.setTop g).pushFrame (.throwing q)) t ∧ Q t
def vx_Run (p : Program) (l : Launch) (e : Env) (R : Room) (s : State) (m : MethodId) (args : Array Value) (below : List Frame) (meth : Method) (c : Code) (H : Heap) (locs : List Loc) (cells slots mc ms : Nat) (g : JFrame) (rest : List Value) (Qa : State → Outcome → State → Prop) (XC : String → State → State → Prop) (free : Addr → Prop) : Prop :=
  ∀ T : State, T.heap = H → Stand p l e R s m args below meth c T locs cells slots →
    (∃ (v : Option Value) (st₀ t T' : State) (L : List Loc), st₀.heap = H ∧ Stand p l e R s m args below meth c T' (locs ++ L) (cells + mc) (slots + ms) ∧ (∀ q ∈ L, free q.base) ∧ T'.heap = t.heap ∧ T'.vm = t.vm ∧ Qa st₀ (.returned v) t ∧
      Goes p e below T g T' { g with pc := g.pc + 3, stack := v.toList ++ rest }) ∨
    (∃ (q : Addr) (st₀ t T' : State) (L : List Loc) (E : String) (ce : Cell), st₀.heap = H ∧ Stand p l e R s m args below meth c T' (locs ++ L) (cells + mc) (slots + ms) ∧ (∀ z ∈ L, free z.base) ∧ T'.heap = t.heap ∧ T'.vm = t.vm ∧ XC E st₀ t ∧ t.heap[q]? = some ce ∧ ce.vm = .none ∧ s.vm.findClass E = some ce.cls ∧
      Steps p.tables e below (T.setTop g) ((T'.setTop { g with stack := rest }).pushFrame (.throwing q)))
def vx_X {S : Type} (px : S → Prop) (B : String → S → State → Prop) (A : Nat → Prop) : String → State → State → Prop := fun E st t => ∃ u : S, px u ∧ B E u t ∧ va_F A st t
section Runs
variable {p : Program} {l : Launch} {e : Env} {R : Room} {s : State} {m : MethodId} {args : Array Value} {below : List Frame} {meth : Method} {c : Code} {H : Heap} {locs : List Loc} {cells slots : Nat}
variable {y : MethodName} {bytes cc : ByteArray} {maxL nL mc ms n index : Nat} {ret : Option FieldType} {ws : List Cond} {rm : Room} {Pc : Array Value → State → Prop} {Qc : Array Value → State → Outcome → State → Prop} {XC : String → State → State → Prop} {free : Addr → Prop} {Ts : List Cond} {own C : String} {b : Addr} {As rest : List Value} {g : JFrame}
theorem vx_callBack (cb : CallB R s args own index y bytes maxL ret ws rm mc ms n) (hM : vx_Met l y ws rm Pc Qc XC mc ms free) (hbl : FrameBlind Pc) : vx_Back l R p e below s args y 3 8 (PreOf R mc ms Pc) (PostOf Qc mc ms free) (vx_Post XC mc ms free) := by
  obtain ⟨hrc, hrs, hfr, hlo, hws, hcw, -, hini, -⟩ := cb
  exact vx_back (bytes := bytes) (maxL := maxL) (ret := ret) hM hbl hrc hrs hfr hlo hws hcw (fun a' U hW => word_at hW (Or.inl (by first | rfl | simp [Cond.onTables, Cond.keeps, Cond.steady])) hini)
theorem vx_runV (S : CallFix p m c cc nL s args Ts own) (hM : vx_Met l y ws rm Pc Qc XC mc ms free) (cw : CallW R s args own C index y bytes maxL ret ws rm mc ms n) (hp : PreV s H C b Pc As)
    (hg : g.method = m) (hn : As.length = n) (hsize : g.locals.size = nL) (hstack : g.stack = As.reverse ++ .ref b :: rest) (hW : 2 * g.monitorRoom + (rest.map fun v => v.category).sum ≤ 8) (hdg : decode cc g.pc = .ok (.invokevirtual index, 3)) (hf : cells + mc ≤ R.cells ∧ slots + ms ≤ R.slots) :
    vx_Run p l e R s m args below meth c H locs cells slots mc ms g rest (Qc (Value.ref b :: As).toArray) XC free := by
  have hK : vx_Back l R p e below s args y 3 8 (PreOf R mc ms Pc) (PostOf Qc mc ms free) (vx_Post XC mc ms free) := vx_callBack cw.1 hM hp.1
  obtain ⟨⟨-, -, -, -, -, -, hcode, -, hy, hlen, hl⟩, hin, hse⟩ := cw
  obtain ⟨hx, hb, hml, ho, -⟩ := S
  obtain ⟨-, ⟨cellB, hcB, hoB, hclB⟩, hPc⟩ := hp
  intro T hT X
  rcases vx_callV X hx (C := C) (bytes := bytes) (maxL := maxL) (ret := ret) ho hl hin hse hcode hy hK (by rw [hT]; exact hcB) hoB hclB hg (hsize.trans hml.symm) (argsL := As) (rest := rest) (fun sig h => hn.trans (hlen sig h)) hstack hW (by rw [hb]; exact hdg)
    (fun vm₁ hW₁ => ⟨hf.1, hf.2, hPc (T.setVm vm₁) hT hW₁⟩) with ⟨v, vm₁, ⟨U', l2, c2, s2⟩, hW₁, X', ⟨g', mk, t, L, e1, e2, hq, h1, hL, h2, h3⟩, st⟩ | ⟨q, vm₁, ⟨U', l2, c2, s2⟩, hW₁, X', ⟨g', mk, t, L, E, ce, e1, e2, hq, hce, hcv, hcl, h1, hL, h2, h3⟩, st⟩
  · dsimp only [Pt.U, Pt.locs, Pt.cells, Pt.slots] at X' e1 e2 h1 h2 h3 st
    subst h1; subst h2; subst h3
    exact Or.inl ⟨v, (T.setVm vm₁).calling g' mk (Value.ref b :: As).toArray, t, U', L, hT, X', hL, e1, e2, hq, st⟩
  · dsimp only [Pt.U, Pt.locs, Pt.cells, Pt.slots] at X' e1 e2 h1 h2 h3 st hcl
    subst h1; subst h2; subst h3
    exact Or.inr ⟨q, (T.setVm vm₁).calling g' mk (Value.ref b :: As).toArray, t, U', L, E, ce, hT, X', hL, e1, e2, hq, hce, hcv, vx_cls hW₁ hcl, st⟩
theorem vx_runS (S : CallFix p m c cc nL s args Ts own) (hM : vx_Met l y ws rm Pc Qc XC mc ms free) (cw : CallB R s args own index y bytes maxL ret ws rm mc ms n ∧ (Cond.static y).before args s = true) (hp : PreS s H Pc As)
    (hg : g.method = m) (hn : As.length = n) (hsize : g.locals.size = nL) (hstack : g.stack = As.reverse ++ rest) (hW : 2 * g.monitorRoom + (rest.map fun v => v.category).sum ≤ 8) (hdg : decode cc g.pc = .ok (.invokestatic index, 3)) (hf : cells + mc ≤ R.cells ∧ slots + ms ≤ R.slots) :
    vx_Run p l e R s m args below meth c H locs cells slots mc ms g rest (Qc As.toArray) XC free := by
  have hK : vx_Back l R p e below s args y 3 8 (PreOf R mc ms Pc) (PostOf Qc mc ms free) (vx_Post XC mc ms free) := vx_callBack cw.1 hM hp.1
  obtain ⟨⟨-, -, -, -, -, -, hcode, hini, hy, hlen, hl⟩, hstt⟩ := cw
  obtain ⟨hx, hb, hml, ho, -⟩ := S
  intro T hT X
  rcases vx_callS X hx (bytes := bytes) (maxL := maxL) (ret := ret) ho hl hstt hini hcode hy hK hg (hsize.trans hml.symm) (argsL := As) (rest := rest) (fun sig h => hn.trans (hlen sig h)) hstack hW (by rw [hb]; exact hdg)
    (fun vm₁ hW₁ => ⟨hf.1, hf.2, hp.2 (T.setVm vm₁) hT hW₁⟩) with ⟨v, vm₁, ⟨U', l2, c2, s2⟩, hW₁, X', ⟨g', mk, t, L, e1, e2, hq, h1, hL, h2, h3⟩, st⟩ | ⟨q, vm₁, ⟨U', l2, c2, s2⟩, hW₁, X', ⟨g', mk, t, L, E, ce, e1, e2, hq, hce, hcv, hcl, h1, hL, h2, h3⟩, st⟩
  · dsimp only [Pt.U, Pt.locs, Pt.cells, Pt.slots] at X' e1 e2 h1 h2 h3 st
    subst h1; subst h2; subst h3
    exact Or.inl ⟨v, (T.setVm vm₁).calling g' mk As.toArray, t, U', L, hT, X', hL, e1, e2, hq, st⟩
  · dsimp only [Pt.U, Pt.locs, Pt.cells, Pt.slots] at X' e1 e2 h1 h2 h3 st hcl
    subst h1; subst h2; subst h3
    exact Or.inr ⟨q, (T.setVm vm₁).calling g' mk As.toArray, t, U', L, E, ce, hT, X', hL, e1, e2, hq, hce, hcv, vx_cls hW₁ hcl, st⟩
end Runs
section Rows
variable {p : Program} {l : Launch} {e : Env} {R : Room} {s : State} {m : MethodId} {args : Array Value} {below : List Frame} {meth : Method} {c : Code} {H : Heap} {locs : List Loc} {cells slots : Nat} {Q : State → Prop}
variable {mc ms : Nat} {free : Addr → Prop} {A0 A1 : Nat → Prop} {H0 : Heap} {a : Array Value} {pc : Nat} {ls : Array Slot} {st0 rest : List Value}
theorem vx_keep {st₀ t T' : State} {L : List Loc} (h0 : st₀.heap = H) (e1 : T'.heap = t.heap) (hS : va_S A0 H0 H locs) (hA : ∀ q, q < H.size → A1 q → A0 q) (hf : ∀ q, free q → A0 q) (hL : ∀ q ∈ L, free q.base) (hF : va_F A1 st₀ t) :
    H.size ≤ T'.heap.size ∧ (∀ q : Nat, q < H.size → ¬ A1 q → T'.heap[q]? = H[q]?) ∧ va_S A0 H0 T'.heap (locs ++ L) := by
  obtain ⟨hz, hk⟩ := hF
  rw [h0] at hz hk
  exact ⟨by rw [e1]; exact hz, fun q h1 h2 => by rw [e1]; exact hk q h1 h2,
    ⟨Nat.le_trans hS.1 (by rw [e1]; exact hz), fun q h1 h2 => by rw [e1, hk q (Nat.lt_of_lt_of_le h1 hS.1) (fun z => h2 (hA q (Nat.lt_of_lt_of_le h1 hS.1) z))]; exact hS.2.1 q h1 h2, fun q hq => by
      rcases List.mem_append.mp hq with h | h
      · exact hS.2.2 q h
      · exact hf _ (hL q h)⟩⟩
theorem vx_calli {S SX : Type} {post : Int32 → S → Prop} {px : SX → Prop} {B : S → State → Prop} {BX : String → SX → State → Prop} {AX : Nat → Prop} (hr : vx_Run p l e R s m args below meth c H locs cells slots mc ms (F0 m pc ls st0) rest (va_Qi post B A1 a) (vx_X px BX AX) free) (hS : va_S A0 H0 H locs) (hA : ∀ q, q < H.size → A1 q → A0 q) (hf : ∀ q, free q → A0 q) (hAX : ∀ q, q < H.size → AX q → A0 q)
    (kx : ∀ (E : String) (ce : Cell) (q9 : Addr) (u : SX) (t : State) (H1 : Heap) (locs1 : List Loc), t.heap = H1 → s.vm.Alike t.vm → px u → BX E u t → H.size ≤ H1.size → (∀ q : Nat, q < H.size → ¬ AX q → H1[q]? = H[q]?) → va_S A0 H0 H1 locs1 → H1[q9]? = some ce → ce.vm = .none → s.vm.findClass E = some ce.cls → vx_W p l e R s m args below meth c H1 locs1 (cells + mc) (slots + ms) Q (F0 m pc ls rest) q9)
    (kk : ∀ (r : Int32) (u : S) (t : State) (H1 : Heap) (locs1 : List Loc), t.heap = H1 → s.vm.Alike t.vm → post r u → B u t → H.size ≤ H1.size → (∀ q : Nat, q < H.size → ¬ A1 q → H1[q]? = H[q]?) → va_S A0 H0 H1 locs1 → W p l e R s m args below meth c H1 locs1 (cells + mc) (slots + ms) Q (F0 m (pc + 3) ls (.int r :: rest))) : W p l e R s m args below meth c H locs cells slots Q (F0 m pc ls st0) := by
  intro T hT X
  rcases hr T hT X with ⟨v, st₀, t, T', L, h0, X', hL, e1, e2, ⟨⟨r, u, hv, hp, hb⟩, hF⟩, st⟩ | ⟨q, st₀, t, T', L, E, ce, h0, X', hL, e1, e2, ⟨u, hp, hb, hF⟩, hce, hcv, hcl, st⟩
  · cases hv
    obtain ⟨k1, k2, k3⟩ := vx_keep h0 e1 hS hA hf hL hF
    obtain ⟨t2, a1, b1⟩ := kk r u t T'.heap (locs ++ L) e1.symm (by rw [← e2]; exact X'.warmed.alike) hp hb k1 k2 k3 T' rfl X'
    exact ⟨t2, st t2 a1, b1⟩
  · obtain ⟨k1, k2, k3⟩ := vx_keep h0 e1 hS hAX hf hL hF
    obtain ⟨t2, a1, b1⟩ := kx E ce q u t T'.heap (locs ++ L) e1.symm (by rw [← e2]; exact X'.warmed.alike) hp hb k1 k2 k3 (by rw [e1]; exact hce) hcv hcl T' rfl X'
    exact ⟨t2, st.trans a1, b1⟩
theorem vx_calll {S SX : Type} {post : Int64 → S → Prop} {px : SX → Prop} {B : S → State → Prop} {BX : String → SX → State → Prop} {AX : Nat → Prop} (hr : vx_Run p l e R s m args below meth c H locs cells slots mc ms (F0 m pc ls st0) rest (va_Ql post B A1 a) (vx_X px BX AX) free) (hS : va_S A0 H0 H locs) (hA : ∀ q, q < H.size → A1 q → A0 q) (hf : ∀ q, free q → A0 q) (hAX : ∀ q, q < H.size → AX q → A0 q)
    (kx : ∀ (E : String) (ce : Cell) (q9 : Addr) (u : SX) (t : State) (H1 : Heap) (locs1 : List Loc), t.heap = H1 → s.vm.Alike t.vm → px u → BX E u t → H.size ≤ H1.size → (∀ q : Nat, q < H.size → ¬ AX q → H1[q]? = H[q]?) → va_S A0 H0 H1 locs1 → H1[q9]? = some ce → ce.vm = .none → s.vm.findClass E = some ce.cls → vx_W p l e R s m args below meth c H1 locs1 (cells + mc) (slots + ms) Q (F0 m pc ls rest) q9)
    (kk : ∀ (r : Int64) (u : S) (t : State) (H1 : Heap) (locs1 : List Loc), t.heap = H1 → s.vm.Alike t.vm → post r u → B u t → H.size ≤ H1.size → (∀ q : Nat, q < H.size → ¬ A1 q → H1[q]? = H[q]?) → va_S A0 H0 H1 locs1 → W p l e R s m args below meth c H1 locs1 (cells + mc) (slots + ms) Q (F0 m (pc + 3) ls (.long r :: rest))) : W p l e R s m args below meth c H locs cells slots Q (F0 m pc ls st0) := by
  intro T hT X
  rcases hr T hT X with ⟨v, st₀, t, T', L, h0, X', hL, e1, e2, ⟨⟨r, u, hv, hp, hb⟩, hF⟩, st⟩ | ⟨q, st₀, t, T', L, E, ce, h0, X', hL, e1, e2, ⟨u, hp, hb, hF⟩, hce, hcv, hcl, st⟩
  · cases hv
    obtain ⟨k1, k2, k3⟩ := vx_keep h0 e1 hS hA hf hL hF
    obtain ⟨t2, a1, b1⟩ := kk r u t T'.heap (locs ++ L) e1.symm (by rw [← e2]; exact X'.warmed.alike) hp hb k1 k2 k3 T' rfl X'
    exact ⟨t2, st t2 a1, b1⟩
  · obtain ⟨k1, k2, k3⟩ := vx_keep h0 e1 hS hAX hf hL hF
    obtain ⟨t2, a1, b1⟩ := kx E ce q u t T'.heap (locs ++ L) e1.symm (by rw [← e2]; exact X'.warmed.alike) hp hb k1 k2 k3 (by rw [e1]; exact hce) hcv hcl T' rfl X'
    exact ⟨t2, st.trans a1, b1⟩
theorem vx_callf {S SX : Type} {post : UInt32 → S → Prop} {px : SX → Prop} {B : S → State → Prop} {BX : String → SX → State → Prop} {AX : Nat → Prop} (hr : vx_Run p l e R s m args below meth c H locs cells slots mc ms (F0 m pc ls st0) rest (va_Qf post B A1 a) (vx_X px BX AX) free) (hS : va_S A0 H0 H locs) (hA : ∀ q, q < H.size → A1 q → A0 q) (hf : ∀ q, free q → A0 q) (hAX : ∀ q, q < H.size → AX q → A0 q)
    (kx : ∀ (E : String) (ce : Cell) (q9 : Addr) (u : SX) (t : State) (H1 : Heap) (locs1 : List Loc), t.heap = H1 → s.vm.Alike t.vm → px u → BX E u t → H.size ≤ H1.size → (∀ q : Nat, q < H.size → ¬ AX q → H1[q]? = H[q]?) → va_S A0 H0 H1 locs1 → H1[q9]? = some ce → ce.vm = .none → s.vm.findClass E = some ce.cls → vx_W p l e R s m args below meth c H1 locs1 (cells + mc) (slots + ms) Q (F0 m pc ls rest) q9)
    (kk : ∀ (r : UInt32) (u : S) (t : State) (H1 : Heap) (locs1 : List Loc), t.heap = H1 → s.vm.Alike t.vm → post r u → B u t → H.size ≤ H1.size → (∀ q : Nat, q < H.size → ¬ A1 q → H1[q]? = H[q]?) → va_S A0 H0 H1 locs1 → W p l e R s m args below meth c H1 locs1 (cells + mc) (slots + ms) Q (F0 m (pc + 3) ls (.float r :: rest))) : W p l e R s m args below meth c H locs cells slots Q (F0 m pc ls st0) := by
  intro T hT X
  rcases hr T hT X with ⟨v, st₀, t, T', L, h0, X', hL, e1, e2, ⟨⟨r, u, hv, hp, hb⟩, hF⟩, st⟩ | ⟨q, st₀, t, T', L, E, ce, h0, X', hL, e1, e2, ⟨u, hp, hb, hF⟩, hce, hcv, hcl, st⟩
  · cases hv
    obtain ⟨k1, k2, k3⟩ := vx_keep h0 e1 hS hA hf hL hF
    obtain ⟨t2, a1, b1⟩ := kk r u t T'.heap (locs ++ L) e1.symm (by rw [← e2]; exact X'.warmed.alike) hp hb k1 k2 k3 T' rfl X'
    exact ⟨t2, st t2 a1, b1⟩
  · obtain ⟨k1, k2, k3⟩ := vx_keep h0 e1 hS hAX hf hL hF
    obtain ⟨t2, a1, b1⟩ := kx E ce q u t T'.heap (locs ++ L) e1.symm (by rw [← e2]; exact X'.warmed.alike) hp hb k1 k2 k3 (by rw [e1]; exact hce) hcv hcl T' rfl X'
    exact ⟨t2, st.trans a1, b1⟩
theorem vx_calld {S SX : Type} {post : UInt64 → S → Prop} {px : SX → Prop} {B : S → State → Prop} {BX : String → SX → State → Prop} {AX : Nat → Prop} (hr : vx_Run p l e R s m args below meth c H locs cells slots mc ms (F0 m pc ls st0) rest (va_Qd post B A1 a) (vx_X px BX AX) free) (hS : va_S A0 H0 H locs) (hA : ∀ q, q < H.size → A1 q → A0 q) (hf : ∀ q, free q → A0 q) (hAX : ∀ q, q < H.size → AX q → A0 q)
    (kx : ∀ (E : String) (ce : Cell) (q9 : Addr) (u : SX) (t : State) (H1 : Heap) (locs1 : List Loc), t.heap = H1 → s.vm.Alike t.vm → px u → BX E u t → H.size ≤ H1.size → (∀ q : Nat, q < H.size → ¬ AX q → H1[q]? = H[q]?) → va_S A0 H0 H1 locs1 → H1[q9]? = some ce → ce.vm = .none → s.vm.findClass E = some ce.cls → vx_W p l e R s m args below meth c H1 locs1 (cells + mc) (slots + ms) Q (F0 m pc ls rest) q9)
    (kk : ∀ (r : UInt64) (u : S) (t : State) (H1 : Heap) (locs1 : List Loc), t.heap = H1 → s.vm.Alike t.vm → post r u → B u t → H.size ≤ H1.size → (∀ q : Nat, q < H.size → ¬ A1 q → H1[q]? = H[q]?) → va_S A0 H0 H1 locs1 → W p l e R s m args below meth c H1 locs1 (cells + mc) (slots + ms) Q (F0 m (pc + 3) ls (.double r :: rest))) : W p l e R s m args below meth c H locs cells slots Q (F0 m pc ls st0) := by
  intro T hT X
  rcases hr T hT X with ⟨v, st₀, t, T', L, h0, X', hL, e1, e2, ⟨⟨r, u, hv, hp, hb⟩, hF⟩, st⟩ | ⟨q, st₀, t, T', L, E, ce, h0, X', hL, e1, e2, ⟨u, hp, hb, hF⟩, hce, hcv, hcl, st⟩
  · cases hv
    obtain ⟨k1, k2, k3⟩ := vx_keep h0 e1 hS hA hf hL hF
    obtain ⟨t2, a1, b1⟩ := kk r u t T'.heap (locs ++ L) e1.symm (by rw [← e2]; exact X'.warmed.alike) hp hb k1 k2 k3 T' rfl X'
    exact ⟨t2, st t2 a1, b1⟩
  · obtain ⟨k1, k2, k3⟩ := vx_keep h0 e1 hS hAX hf hL hF
    obtain ⟨t2, a1, b1⟩ := kx E ce q u t T'.heap (locs ++ L) e1.symm (by rw [← e2]; exact X'.warmed.alike) hp hb k1 k2 k3 (by rw [e1]; exact hce) hcv hcl T' rfl X'
    exact ⟨t2, st.trans a1, b1⟩
theorem vx_callv {S SX : Type} {post : S → Prop} {px : SX → Prop} {B : S → State → Prop} {BX : String → SX → State → Prop} {AX : Nat → Prop} (hr : vx_Run p l e R s m args below meth c H locs cells slots mc ms (F0 m pc ls st0) rest (va_Qv post B A1 a) (vx_X px BX AX) free) (hS : va_S A0 H0 H locs) (hA : ∀ q, q < H.size → A1 q → A0 q) (hf : ∀ q, free q → A0 q) (hAX : ∀ q, q < H.size → AX q → A0 q)
    (kx : ∀ (E : String) (ce : Cell) (q9 : Addr) (u : SX) (t : State) (H1 : Heap) (locs1 : List Loc), t.heap = H1 → s.vm.Alike t.vm → px u → BX E u t → H.size ≤ H1.size → (∀ q : Nat, q < H.size → ¬ AX q → H1[q]? = H[q]?) → va_S A0 H0 H1 locs1 → H1[q9]? = some ce → ce.vm = .none → s.vm.findClass E = some ce.cls → vx_W p l e R s m args below meth c H1 locs1 (cells + mc) (slots + ms) Q (F0 m pc ls rest) q9)
    (kk : ∀ (u : S) (t : State) (H1 : Heap) (locs1 : List Loc), t.heap = H1 → s.vm.Alike t.vm → post u → B u t → H.size ≤ H1.size → (∀ q : Nat, q < H.size → ¬ A1 q → H1[q]? = H[q]?) → va_S A0 H0 H1 locs1 → W p l e R s m args below meth c H1 locs1 (cells + mc) (slots + ms) Q (F0 m (pc + 3) ls (rest))) : W p l e R s m args below meth c H locs cells slots Q (F0 m pc ls st0) := by
  intro T hT X
  rcases hr T hT X with ⟨v, st₀, t, T', L, h0, X', hL, e1, e2, ⟨⟨u, hv, hp, hb⟩, hF⟩, st⟩ | ⟨q, st₀, t, T', L, E, ce, h0, X', hL, e1, e2, ⟨u, hp, hb, hF⟩, hce, hcv, hcl, st⟩
  · cases hv
    obtain ⟨k1, k2, k3⟩ := vx_keep h0 e1 hS hA hf hL hF
    obtain ⟨t2, a1, b1⟩ := kk u t T'.heap (locs ++ L) e1.symm (by rw [← e2]; exact X'.warmed.alike) hp hb k1 k2 k3 T' rfl X'
    exact ⟨t2, st t2 a1, b1⟩
  · obtain ⟨k1, k2, k3⟩ := vx_keep h0 e1 hS hAX hf hL hF
    obtain ⟨t2, a1, b1⟩ := kx E ce q u t T'.heap (locs ++ L) e1.symm (by rw [← e2]; exact X'.warmed.alike) hp hb k1 k2 k3 (by rw [e1]; exact hce) hcv hcl T' rfl X'
    exact ⟨t2, st.trans a1, b1⟩
/-- caught by the row x of this method's table; the rows ahead don't take it -/
theorem vx_catch {own name : String} {E : String} {ce : Cell} {q : Addr} (hown : s.vm.findClass own = some m.cls) (pre : List ExceptionTableEntry) (x : ExceptionTableEntry) (suf : List ExceptionTableEntry) (hsplit : c.exceptionTable.toList = pre ++ x :: suf)
    (hpass : ∀ z ∈ pre, covers z pc = false ∨ (z.catchType ≠ 0 ∧ ∃ nm : String, (Cond.classLink own z.catchType nm).before args s = true ∧ va_Nc E nm s)) (hx : covers x pc = true) (h0 : x.catchType ≠ 0)
    (hlink : (Cond.classLink own x.catchType name).before args s = true) (hcast : (Cond.castable E name).before args s = true) (hcell : H[q]? = some ce) (hv : ce.vm = .none) (hcl : s.vm.findClass E = some ce.cls)
    (kk : W p l e R s m args below meth c H locs cells slots Q (F0 m x.handlerPc ls [.ref q])) : vx_W p l e R s m args below meth c H locs cells slots Q (F0 m pc ls rest) q := by
  intro T hT X
  have hpl : e.platform.magicAccessors = ({} : Platform).magicAccessors := by rw [X.admits.platform]
  obtain ⟨c3, c4, hc3, hc4, hasg⟩ := Cond.castable_spec hcast
  cases Option.some.inj (hc3.symm.trans hcl)
  obtain ⟨c5, hc5, hcl5⟩ := Cond.classLink_spec hown hlink e.platform hpl
  cases Option.some.inj (hc4.symm.trans hc5)
  obtain ⟨vm', X', st⟩ := X.thenCaughtThrough q (g := F0 m pc ls rest) rfl (Steps.refl _) (by rw [hT]; exact hcell) (by rw [hv]; rfl) (by obtain ⟨k9, h9, -⟩ := Vm.findClass_spec hcl; exact ⟨k9, h9⟩) pre x suf hsplit
    (fun z hz => by
      rcases hpass z hz with h | ⟨hz0, nm, hl1, hn1⟩
      · exact Or.inl h
      · obtain ⟨c6, hc6, hcl6⟩ := Cond.classLink_spec hown hl1 e.platform hpl
        obtain ⟨a8, b8, h1, h2, h3⟩ := hn1
        cases Option.some.inj (h1.symm.trans hcl)
        cases Option.some.inj (h2.symm.trans hc6)
        exact Or.inr ⟨hz0, _, hcl6, h3⟩) hx (Or.inr ⟨h0, c4, hcl5, hasg⟩)
  obtain ⟨t, a1, b1⟩ := kk (T.setVm vm') hT X'
  exact ⟨t, st.trans a1, b1⟩
end Rows
section Ends
variable {p : Program} {l : Launch} {e : Env} {R : Room} {s : State} {m : MethodId} {args : Array Value} {below : List Frame} {meth : Method} {c : Code} {H : Heap} {locs : List Loc} {cells slots : Nat} {Q : State → Prop}
variable {mc ms : Nat} {free : Addr → Prop} {A0 A1 : Nat → Prop} {H0 : Heap} {a : Array Value} {ls : Array Slot} {st0 rest : List Value}
variable {Qc : Array Value → State → Outcome → State → Prop} {XC : String → State → State → Prop}
/-- what a body that may throw owes at its end -/
def vx_MQ (below : List Frame) (Qc : Array Value → State → Outcome → State → Prop) (XC : String → State → State → Prop) (a : Array Value) (s : State) (mc ms : Nat) (free : Addr → Prop) : State → Prop := fun t =>
  ∃ o, t.status = .running ∧ Ended t below o ∧ vx_Q Qc XC mc ms free a s o t
theorem vx_ret {g : JFrame} {mc ms : Nat} (k : W p l e R s m args below meth c H locs cells slots (MQ below Qc args s mc ms free) g) : W p l e R s m args below meth c H locs cells slots (vx_MQ below Qc XC args s mc ms free) g := by
  intro T hT X
  obtain ⟨t, a1, o, b1, b2, b3, b4⟩ := k T hT X
  exact ⟨t, a1, o, b1, b2, Or.inl ⟨b3, b4⟩⟩
/-- not caught here: it goes on to the caller -/
theorem vx_widen {g : JFrame} {q : Addr} {k n : Nat} (h1 : cells ≤ k) (h2 : slots ≤ n) (kk : vx_W p l e R s m args below meth c H locs k n Q g q) : vx_W p l e R s m args below meth c H locs cells slots Q g q := fun T hT X => kk T hT (stand_widen X h1 h2)
theorem vx_out {pc : Nat} {E : String} {ce : Cell} {q : Addr} {mc ms : Nat} (hout : ∀ x ∈ c.exceptionTable.toList, covers x pc = false) (hlocks : meth.locks = false) (hcell : H[q]? = some ce) (hv : ce.vm = .none) (hcl : s.vm.findClass E = some ce.cls)
    (hx : ∀ t : State, t.heap = H → s.vm.Alike t.vm → XC E s t) (hf : ∀ z ∈ locs, free z.base) (hc : cells ≤ mc) (hs : slots ≤ ms) :
    vx_W p l e R s m args below meth c H locs cells slots (vx_MQ below Qc XC args s mc ms free) (F0 m pc ls rest) q := by
  intro T hT X
  obtain ⟨st1, hrun, hend, hW, hsm⟩ := X.leaveThrown q (g := F0 m pc ls rest) rfl rfl rfl hout hlocks
  have hcell9 : (T.setFrames (.throwing q :: below)).heap[q]? = some ce := by
    show T.heap[q]? = some ce
    rw [hT]; exact hcell
  exact ⟨_, st1, .threw q, hrun, hend, Or.inr ⟨q, rfl, E, ce, locs, hx _ hT hW.alike, hcell9, hv, hcl, hW, hsm.mono hc hs, hf⟩⟩
theorem vx_frame {U : State} {k n : Nat} (h : s.sameButNew ({ U with vm := s.vm } : State) locs k n) : s.heap.size ≤ U.heap.size ∧ ∀ q : Nat, q < s.heap.size → (∀ z ∈ locs, z.base ≠ q) → U.heap[q]? = s.heap[q]? := by
  obtain ⟨-, h2, -, -, -, h6⟩ := h
  refine ⟨h2, fun q hq hz => ?_⟩
  obtain ⟨c9, e1, e2, e3, e4⟩ := h6 q _ (Array.getElem?_eq_getElem hq)
  have hs : c9.slots = (s.heap[q]).slots := Array.ext_getElem? fun i => e4 i fun hm => hz _ hm rfl
  have h9 : c9 = s.heap[q] := by
    rw [hs] at e2
    exact e2
  have e5 : U.heap[q]? = some c9 := e1
  rw [e5, h9, Array.getElem?_eq_getElem hq]
/-- the words of a throw but the four that speak of the heap -/
def vx_no (w : Cond) : Bool := decide (w ≠ .isRef (.static Bundle.tN "UNASSIGNED_STACK" Bundle.steD)) && decide (w ≠ .isRef (.static Bundle.tN "SUPPRESSED_SENTINEL" Bundle.listD)) && decide (w ≠ .laysStatic Bundle.tN "UNASSIGNED_STACK" Bundle.steD) && decide (w ≠ .laysStatic Bundle.tN "SUPPRESSED_SENTINEL" Bundle.listD)
def vx_at0 (own : String) (ic : Nat) (X : String) (names : List String) : List Cond := (Bundle.ownAtoms0 own ic X names).filter vx_no
def vx_atS (own : String) (ic : Nat) (X : String) (names : List String) : List Cond := (Bundle.ownAtoms own ic X names).filter vx_no
/-- a word that the tables alone decide, or a good one -/
def vx_ot (w : Cond) : Bool := w.onTables || goodWord w
theorem vx_ot_at {args a' : Array Value} {s U : State} {w : Cond} (hW : s.WarmedH U.vm) (hvm : s.vm = U.vm) (hg : vx_ot w = true) (h : w.before args s = true) : w.before a' U = true := by
  simp only [vx_ot, Bool.or_eq_true] at hg
  rcases hg with hg | hg
  · exact va_tabs hg hvm h
  · exact word_at hW (good_of_word hg) h
/-- a list's words: the good ones out of the method's own list, the others by premises of their own -/
theorem vx_hat {args : Array Value} {s : State} {L B : List Cond} (h1 : ∀ w ∈ L.filter goodWord, w.before args s = true) (h2 : ∀ w ∈ L.filter (fun w => !goodWord w), w ∈ B) (h3 : ∀ w ∈ B, w.before args s = true) : ∀ w ∈ L, w.before args s = true := by
  intro w hw
  by_cases g : goodWord w = true
  · exact h1 w (List.mem_filter.mpr ⟨hw, g⟩)
  · refine h3 w (h2 w (List.mem_filter.mpr ⟨hw, ?_⟩))
    show (!goodWord w) = true
    cases hgw : goodWord w
    · rfl
    · exact absurd hgw g
theorem vx_c {args : Array Value} {s : State} {w : Cond} {B : List Cond} (h : w.before args s = true) (t : ∀ w ∈ B, w.before args s = true) : ∀ w' ∈ w :: B, w'.before args s = true := fun w' h' => (List.mem_cons.mp h').elim (fun e => by rw [e]; exact h) (t w')
theorem vx_n {args : Array Value} {s : State} : ∀ w ∈ ([] : List Cond), w.before args s = true := fun _ h => nomatch h
theorem vx_own {args : Array Value} {s : State} {L : List Cond} (h1 : ∀ w ∈ L.filter vx_no, w.before args s = true)
    (hU : (Cond.isRef (.static Bundle.tN "UNASSIGNED_STACK" Bundle.steD)).before args s = true) (hN : (Cond.isRef (.static Bundle.tN "SUPPRESSED_SENTINEL" Bundle.listD)).before args s = true)
    (lU : (Cond.laysStatic Bundle.tN "UNASSIGNED_STACK" Bundle.steD).before args s = true) (lN : (Cond.laysStatic Bundle.tN "SUPPRESSED_SENTINEL" Bundle.listD).before args s = true) : ∀ w ∈ L, w.before args s = true := by
  intro w hw
  by_cases e1 : w = .isRef (.static Bundle.tN "UNASSIGNED_STACK" Bundle.steD)
  · rw [e1]; exact hU
  · by_cases e2 : w = .isRef (.static Bundle.tN "SUPPRESSED_SENTINEL" Bundle.listD)
    · rw [e2]; exact hN
    · by_cases e3 : w = .laysStatic Bundle.tN "UNASSIGNED_STACK" Bundle.steD
      · rw [e3]; exact lU
      · by_cases e4 : w = .laysStatic Bundle.tN "SUPPRESSED_SENTINEL" Bundle.listD
        · rw [e4]; exact lN
        · exact h1 w (List.mem_filter.mpr ⟨hw, by unfold vx_no; rw [decide_eq_true e1, decide_eq_true e2, decide_eq_true e3, decide_eq_true e4]; rfl⟩)
/-- where a static field lies, its class's statics cell in H -/
def vx_L (C n d : String) (A : Nat → Prop) (U : State) (H : Heap) : Prop := ∃ (c : ClassId) (k : Class) (i : Nat) (f : Field) (a : Nat) (cell : Cell), U.vm.findClass C = some c ∧ U.fieldFound? C n d = some (c, k, i, f) ∧ f.isStatic = true ∧ k.statics = some a ∧ H[a]? = some cell ∧ cell.vm.isStatics = true ∧ cell.cls = c ∧ f.slot < cell.slots.size ∧ k.staticTypes[f.slot]? = some f.type ∧ ¬ A a
theorem vx_L.moved {C n d : String} {A : Nat → Prop} {u U : State} {H : Heap} (hvm : u.vm.Alike U.vm) (h : vx_L C n d A u H) : vx_L C n d A U H := by
  obtain ⟨c, k, i, f, a, cell, h1, h2, h3, h4, h5, h6, h7, h8, h9, h10⟩ := h
  obtain ⟨k', hi', he⟩ := State.fieldFound?_setVm hvm h2
  exact ⟨c, k', i, f, a, cell, by rw [hvm.findClass]; exact h1, hi', h3, by rw [he]; exact h4, h5, h6, h7, h8, by rw [he]; exact h9, h10⟩
theorem vx_L.kept {C n d : String} {A : Nat → Prop} {U : State} {H H1 : Heap} (h : vx_L C n d A U H) (hq : ∀ a : Nat, a < H.size → ¬ A a → H1[a]? = H[a]?) : vx_L C n d A U H1 := by
  obtain ⟨c, k, i, f, a, cell, h1, h2, h3, h4, h5, h6, h7, h8, h9, h10⟩ := h
  exact ⟨c, k, i, f, a, cell, h1, h2, h3, h4, by rw [hq a (Array.getElem?_eq_some_iff.mp h5).1 h10]; exact h5, h6, h7, h8, h9, h10⟩
theorem vx_L.narrow {C n d : String} {A B : Nat → Prop} {U : State} {H : Heap} (h : vx_L C n d A U H) (hAB : ∀ q, B q → A q) : vx_L C n d B U H := by
  obtain ⟨c, k, i, f, a, cell, h1, h2, h3, h4, h5, h6, h7, h8, h9, h10⟩ := h
  exact ⟨c, k, i, f, a, cell, h1, h2, h3, h4, h5, h6, h7, h8, h9, fun z => h10 (hAB _ z)⟩
theorem vx_L.word {C n d : String} {A : Nat → Prop} {s : State} {args : Array Value} (h : vx_L C n d A s s.heap) : (Cond.laysStatic C n d).before args s = true := by
  obtain ⟨c, k, i, f, a, cell, h1, h2, h3, h4, h5, h6, h7, h8, h9, -⟩ := h
  show (Cond.laysStatic C n d).holds args s none s [] = true
  exact Cond.laysStatic_of h1 h2 h3 h4 h5 h6 h7 h8 h9
/-- .. and what it holds: null or some reference -/
def vx_Zq (C n d : String) (A : Nat → Prop) (U : State) (H : Heap) : Prop := va_Zq C n d A U H ∧ vx_L C n d A U H
theorem vx_Zq.moved {C n d : String} {A : Nat → Prop} {u U : State} {H : Heap} (hvm : u.vm.Alike U.vm) (h : vx_Zq C n d A u H) : vx_Zq C n d A U H := ⟨va_Zq.moved hvm h.1, vx_L.moved hvm h.2⟩
theorem vx_Zq.kept {C n d : String} {A : Nat → Prop} {U : State} {H H1 : Heap} (h : vx_Zq C n d A U H) (hq : ∀ a : Nat, a < H.size → ¬ A a → H1[a]? = H[a]?) : vx_Zq C n d A U H1 := ⟨va_Zq.kept h.1 hq, vx_L.kept h.2 hq⟩
theorem vx_Zq.narrow {C n d : String} {A B : Nat → Prop} {U : State} {H : Heap} (h : vx_Zq C n d A U H) (hAB : ∀ q, B q → A q) : vx_Zq C n d B U H := ⟨va_Zq.narrow h.1 hAB, vx_L.narrow h.2 hAB⟩
theorem vx_Zqof {args : Array Value} {s : State} {C n d : String} {A : Nat → Prop} (hl : (Cond.laysStatic C n d).before args s = true) (hini : (Cond.initialized C).before args s = true) (h : (Cond.isRef (.static C n d)).before args s = true) (hA : ∀ a : Nat, a < s.heap.size → ¬ A a) : vx_Zq C n d A s s.heap := by
  refine ⟨va_Zqof hl hini h hA, ?_⟩
  obtain ⟨c, k, i, f, a, cell, h1, h2, h3, h4, h5, h6, h7, h8, h9⟩ := Cond.laysStatic_spec hl
  exact ⟨c, k, i, f, a, cell, h1, h2, h3, h4, h5, h6, h7, h8, h9, hA a (Array.getElem?_eq_some_iff.mp h5).1⟩
theorem vx_isRef {C n d : String} {v : Value} {A : Nat → Prop} {s : State} {args : Array Value} (h : va_Z C n d v A s s.heap) (hv : v.isRef = true) : (Cond.isRef (.static C n d)).before args s = true := by
  obtain ⟨cf, kf, fi, f, a, cell, h1, h2, h3, h4, h5, h6, h7, -⟩ := h
  have he : (Term.static C n d).eval args s none [] s = some v := by
    simp [Term.eval, State.fieldNamed?, h1, h2, h4, h5, h6, h7]
  simp only [Cond.before, Cond.holds, Cond.value, he]
  cases v <;> simp_all [Value.isRef]
theorem vx_isRefq {C n d : String} {A : Nat → Prop} {s : State} {args : Array Value} (h : va_Zq C n d A s s.heap) : (Cond.isRef (.static C n d)).before args s = true := by
  rcases h with h | ⟨t, h⟩
  · exact vx_isRef h rfl
  · exact vx_isRef h rfl
/-- the same frame, seen from here: as if the method were called anew in this heap -/
theorem vx_rebase {T : State} (X : Stand p l e R s m args below meth c T locs cells slots) {R' : Room} (hf : R'.frames ≤ R.frames) (hl : R'.locals ≤ R.locals) (hc : cells + R'.cells ≤ R.cells) (hs : slots + R'.slots ≤ R.slots) :
    Stand p l e R' ((T.setVm s.vm).setFrames (.invoking m args :: below)) m args below meth c T [] 0 0 := by
  have htop : (T.setVm s.vm).topJava?.isSome := X.here.top
  have hF : ((T.setVm s.vm).setFrames (.invoking m args :: below)).frames = .invoking m args :: below := State.frames_setFrames _ (State.cur_lt_of_top htop)
  obtain ⟨g₀, hg0⟩ := Option.isSome_iff_exists.mp htop
  obtain ⟨r, hr⟩ := State.topJava?_eq_some.mp hg0
  have hl9 : e.platform.stackLimits (T.setVm s.vm).me = e.platform.stackLimits s.me := X.limits
  have hb9 : (T.setVm s.vm).me.stackBytes = s.me.stackBytes := X.bytes
  refine ⟨X.admits, X.cas, X.clock, hF, ?_, X.hears, X.method, X.code, X.here, X.tail, X.warmed, ?_, ?_, ?_⟩
  · have h := X.room
    have hU : ((T.setVm s.vm).setFrames (.invoking m args :: below)).localsInUse = s.localsInUse := by
      rw [State.localsInUse_invoking hF (meth := meth) (c := c) X.method X.code, State.localsInUse_invoking X.frames X.method X.code]
    simp only [State.hasRoom, Bool.and_eq_true, decide_eq_true_eq] at h ⊢
    obtain ⟨⟨⟨⟨h1, h2, h3, h4, h5, h6⟩, h7⟩, h8⟩, h9⟩ := h
    rw [X.frames, List.length_cons] at h2 h3
    have q1 := X.heapSize
    have q2 := X.used
    simp only [hF, hU, List.length_cons, State.stackLimits_setFrames, State.stackBytes_setFrames, hl9, hb9]
    refine ⟨⟨⟨⟨by omega, by omega, by omega, by omega, by omega, h6⟩, ?_⟩, ?_⟩, X.book⟩
    · show T.heap.size + R'.cells ≤ e.platform.maxCells
      omega
    · show T.slotsUsed + R'.slots ≤ e.platform.maxSlots
      omega
  · rw [State.stackLimits_setFrames]; rfl
  · rw [State.stackBytes_setFrames]; rfl
  · refine ⟨?_, Nat.le_refl _, Nat.le_refl _, ?_, ?_, fun a c9 h9 => ⟨c9, h9, rfl, rfl, fun _ _ => rfl⟩⟩
    · obtain ⟨t, ht, -⟩ := State.frames_cons hr
      show T.setVm s.vm = { ((T.setVm s.vm).setFrames (.invoking m args :: below)).setFrames (T.setVm s.vm).frames with heap := T.heap, slotsUsed := T.slotsUsed }
      rw [State.setFrames_setFrames, State.setFrames_self ht]
      rfl
    · show T.slotsUsed = T.slotsUsed + ((T.heap.toList.drop T.heap.size).map (·.slots.size)).sum
      rw [List.drop_eq_nil_of_le (Nat.le_of_eq Array.length_toList)]
      rfl
    · show ((T.heap.toList.drop T.heap.size).map (·.slots.size)).sum ≤ 0
      rw [List.drop_eq_nil_of_le (Nat.le_of_eq Array.length_toList)]
      exact Nat.le_refl _
/-- 'throw new E()': new; dup; invokespecial; athrow -/
theorem vx_throw0 {cc : ByteArray} {pc : Nat} (hexec : p.tables.exec = Jvm.exec) (hb : c.code = cc) (hl : l.stackTraces = false) {own cls : String} {names : List String} {ik ic mc ms : Nat} {A : Nat → Prop}
    (hown : s.vm.findClass own = some m.cls) (hcls : Bundle.fit cls = true) (hnames : ∀ n ∈ names, Bundle.fit n = true)
    (hk : (Cond.classLink own ik cls).before args s = true) (hini : (Cond.initialized cls).before args s = true) (hat : ∀ w ∈ vx_at0 own ic cls names, w.before args s = true)
    (hgood : ∀ w ∈ Cond.classLink own ik cls :: Cond.initialized cls :: vx_at0 own ic cls names, vx_ot w = true)
    (hU : vx_Zq Bundle.tN "UNASSIGNED_STACK" Bundle.steD A s s.heap) (hN : vx_Zq Bundle.tN "SUPPRESSED_SENTINEL" Bundle.listD A s s.heap) (hS : va_S A s.heap H locs) (hsize : ls.size = c.maxLocals)
    (d0 : decode cc pc = .ok (.new ik, 3)) (d3 : decode cc (pc + 3) = .ok (.dup, 1)) (d4 : decode cc (pc + 4) = .ok (.invokespecial ic, 3)) (d7 : decode cc (pc + 7) = .ok (.athrow, 1))
    (hout : ∀ x ∈ c.exceptionTable.toList, covers x (pc + 7) = false)
    (hRframes : names.length + 3 < R.frames) (hRlocals : (rest.map fun v => v.category).sum + (13 * (names.length + 1) + 42) ≤ R.locals) (hRcells : cells + 1 ≤ R.cells) (hRslots : slots + 6 ≤ R.slots) (hlocks : meth.locks = false)
    (hx : ∀ t : State, s.vm.Alike t.vm → H.size ≤ t.heap.size → (∀ q : Nat, q < H.size → t.heap[q]? = H[q]?) → XC cls s t)
    (hf : ∀ z ∈ locs, free z.base) (hc : cells + 1 ≤ mc) (hs : slots + 6 ≤ ms) :
    W p l e R s m args below meth c H locs cells slots (vx_MQ below Qc XC args s mc ms free) (F0 m pc ls rest) := by
  intro T hT X
  have htr : e.platform.stackTraces = false := (show e.platform.stackTraces = l.stackTraces by rw [X.admits.platform]).trans hl
  have Y := vx_rebase X (R' := { frames := R.frames, locals := R.locals, cells := 1, slots := 6 }) (Nat.le_refl _) (Nat.le_refl _) hRcells hRslots
  obtain ⟨s', hA⟩ : ∃ z, z = (T.setVm s.vm).setFrames (.invoking m args :: below) := ⟨_, rfl⟩
  rw [← hA] at Y
  have hvm : s'.vm = s.vm := by rw [hA]; rfl
  have hhp : s'.heap = H := by rw [hA]; exact hT
  have hW0 : s.WarmedH s'.vm := by rw [hvm]; exact State.WarmedH.refl s
  have hat' : ∀ w ∈ vx_at0 own ic cls names, w.before args s' = true := fun w hw => vx_ot_at hW0 hvm.symm (hgood w (List.mem_cons_of_mem _ (List.mem_cons_of_mem _ hw))) (hat w hw)
  have hk' : (Cond.classLink own ik cls).before args s' = true := vx_ot_at hW0 hvm.symm (hgood _ List.mem_cons_self) hk
  have hini' : (Cond.initialized cls).before args s' = true := vx_ot_at hW0 hvm.symm (hgood _ (List.mem_cons_of_mem _ List.mem_cons_self)) hini
  have hU' : vx_Zq Bundle.tN "UNASSIGNED_STACK" Bundle.steD A s' s'.heap := by rw [hhp]; exact vx_Zq.moved hW0.alike (hU.kept hS.2.1)
  have hN' : vx_Zq Bundle.tN "SUPPRESSED_SENTINEL" Bundle.listD A s' s'.heap := by rw [hhp]; exact vx_Zq.moved hW0.alike (hN.kept hS.2.1)
  have h : ∀ w ∈ Bundle.ownAtoms0 own ic cls names, w.before args s' = true := vx_own hat' (vx_isRefq hU'.1) (vx_isRefq hN'.1) hU'.2.word hN'.2.word
  have hown' : s'.vm.findClass own = some m.cls := by rw [hvm]; exact hown
  have hins : (Cond.instantiable cls 6).before args s' = true := h _ (by simp [Bundle.ownAtoms0])
  obtain ⟨vm₁, cX, kX, hfX, hkX, -, -, X₁, st1⟩ := Y.newCold hexec (own := own) (C := cls) (index := ik) (n := 6) hown' hk' hins hini'
    (g := F0 m pc ls rest) rfl (by rw [hb]; exact d0) (Nat.le_refl _) (Nat.le_refl _)
  generalize hT1 : (T.setVm vm₁).pushCell { cls := cX, slots := kX.instanceTypes.map defaultValue, vm := .none } = T1 at X₁ st1
  have hcat : (Value.ref T.heap.size).category = 1 := rfl
  have hcellA : T1.heap[T.heap.size]? = some (freshCell cX kX) := by rw [← hT1]; exact State.heap_pushCell_size _ _
  have d3' : decode c.code (pc + 3) = .ok (.dup, 1) := by rw [hb]; exact d3
  obtain ⟨U, hsteps, hrun, hend, hW, hsame, ce, hce, hO⟩ := X₁.ctorThrow0 hexec htr (own := own) (cls := cls) (names := names) (ic := ic) hown' hcls hnames h (fun x hx => nomatch hx) hfX hkX hcellA (by rw [hhp, hT]; exact Nat.le_refl _)
    (g := { method := m, pc := pc + 4, locals := ls, stack := .ref T.heap.size :: .ref T.heap.size :: rest, locked := none }) rfl hsize rfl rfl (rest := rest) rfl
    (by rw [hb]; exact d4) (by rw [hb]; exact d7) hout hRframes (by simp only [List.map_cons, List.sum_cons, hcat]; omega) hlocks
  obtain ⟨f1, f2⟩ := vx_frame hsame
  rw [hhp] at f1 f2
  have hWs : s.WarmedH U.vm := State.WarmedH.trans hW0 hW
  have hcl : s.vm.findClass cls = some ce.cls := by
    have h9 := hO.cls
    rw [hvm] at h9
    exact h9
  have hall : s.sameButNew ({ U with vm := s.vm } : State) locs mc ms := by
    subst hA
    obtain ⟨e1, e2⟩ := hsame
    rw [State.setFrames_setFrames] at e1
    have h2 : (T.setVm s.vm).sameButNew ({ U with vm := s.vm } : State) [] (0 + 1) (0 + 6) := ⟨e1, e2⟩
    have h3 := X.same.trans h2
    rw [List.append_nil] at h3
    exact h3.mono hc hs
  refine ⟨U, ?_, .threw T.heap.size, hrun, hend, Or.inr ⟨T.heap.size, rfl, cls, ce, locs, hx U hWs.alike f1 (fun q hq => f2 q hq (fun z hz => nomatch hz)), hce, hO.vm, hcl, hWs, hall, hf⟩⟩
  refine st1 _ ?_
  show Steps p.tables e below (T1.setTop { method := m, pc := pc + 3, locals := ls, stack := .ref T.heap.size :: rest, locked := none }) _
  jvm_step X₁.here [X₁.here.top, hexec, d3', Value.category]
  exact hsteps
/-- 'throw new E("text")': new; dup; ldc; invokespecial; athrow -/
theorem vx_throwS {cc : ByteArray} {pc : Nat} (hexec : p.tables.exec = Jvm.exec) (hb : c.code = cc) (hl : l.stackTraces = false) {own cls text : String} {names : List String} {ik is ic mc ms sa : Nat} {A : Nat → Prop}
    (hown : s.vm.findClass own = some m.cls) (hcls : Bundle.fit cls = true) (hnames : ∀ n ∈ names, Bundle.fit n = true)
    (hk : (Cond.classLink own ik cls).before args s = true) (hini : (Cond.initialized cls).before args s = true) (hstr : vk_R own is text sa s) (hat : ∀ w ∈ vx_atS own ic cls names, w.before args s = true)
    (hgood : ∀ w ∈ Cond.classLink own ik cls :: Cond.initialized cls :: vx_atS own ic cls names, vx_ot w = true)
    (hU : vx_Zq Bundle.tN "UNASSIGNED_STACK" Bundle.steD A s s.heap) (hN : vx_Zq Bundle.tN "SUPPRESSED_SENTINEL" Bundle.listD A s s.heap) (hS : va_S A s.heap H locs) (hsize : ls.size = c.maxLocals)
    (d0 : decode cc pc = .ok (.new ik, 3)) (d3 : decode cc (pc + 3) = .ok (.dup, 1)) (d4 : decode cc (pc + 4) = .ok (.ldc is, 2)) (d6 : decode cc (pc + 6) = .ok (.invokespecial ic, 3)) (d9 : decode cc (pc + 9) = .ok (.athrow, 1))
    (hout : ∀ x ∈ c.exceptionTable.toList, covers x (pc + 9) = false)
    (hRframes : names.length + 3 < R.frames) (hRlocals : (rest.map fun v => v.category).sum + (13 * (names.length + 1) + 43) ≤ R.locals) (hRcells : cells + 1 ≤ R.cells) (hRslots : slots + 6 ≤ R.slots) (hlocks : meth.locks = false)
    (hx : ∀ t : State, s.vm.Alike t.vm → H.size ≤ t.heap.size → (∀ q : Nat, q < H.size → t.heap[q]? = H[q]?) → XC cls s t)
    (hf : ∀ z ∈ locs, free z.base) (hc : cells + 1 ≤ mc) (hs : slots + 6 ≤ ms) :
    W p l e R s m args below meth c H locs cells slots (vx_MQ below Qc XC args s mc ms free) (F0 m pc ls rest) := by
  intro T hT X
  have htr : e.platform.stackTraces = false := (show e.platform.stackTraces = l.stackTraces by rw [X.admits.platform]).trans hl
  have Y := vx_rebase X (R' := { frames := R.frames, locals := R.locals, cells := 1, slots := 6 }) (Nat.le_refl _) (Nat.le_refl _) hRcells hRslots
  obtain ⟨s', hA⟩ : ∃ z, z = (T.setVm s.vm).setFrames (.invoking m args :: below) := ⟨_, rfl⟩
  rw [← hA] at Y
  have hvm : s'.vm = s.vm := by rw [hA]; rfl
  have hhp : s'.heap = H := by rw [hA]; exact hT
  have hW0 : s.WarmedH s'.vm := by rw [hvm]; exact State.WarmedH.refl s
  have hat' : ∀ w ∈ vx_atS own ic cls names, w.before args s' = true := fun w hw => vx_ot_at hW0 hvm.symm (hgood w (List.mem_cons_of_mem _ (List.mem_cons_of_mem _ hw))) (hat w hw)
  have hk' : (Cond.classLink own ik cls).before args s' = true := vx_ot_at hW0 hvm.symm (hgood _ List.mem_cons_self) hk
  have hini' : (Cond.initialized cls).before args s' = true := vx_ot_at hW0 hvm.symm (hgood _ (List.mem_cons_of_mem _ List.mem_cons_self)) hini
  have hU' : vx_Zq Bundle.tN "UNASSIGNED_STACK" Bundle.steD A s' s'.heap := by rw [hhp]; exact vx_Zq.moved hW0.alike (hU.kept hS.2.1)
  have hN' : vx_Zq Bundle.tN "SUPPRESSED_SENTINEL" Bundle.listD A s' s'.heap := by rw [hhp]; exact vx_Zq.moved hW0.alike (hN.kept hS.2.1)
  have h : ∀ w ∈ Bundle.ownAtoms own ic cls names, w.before args s' = true := vx_own hat' (vx_isRefq hU'.1) (vx_isRefq hN'.1) hU'.2.word hN'.2.word
  have hown' : s'.vm.findClass own = some m.cls := by rw [hvm]; exact hown
  have hins : (Cond.instantiable cls 6).before args s' = true := h _ (by simp [Bundle.ownAtoms])
  obtain ⟨vm₁, cX, kX, hfX, hkX, -, -, X₁, st1⟩ := Y.newCold hexec (own := own) (C := cls) (index := ik) (n := 6) hown' hk' hins hini'
    (g := F0 m pc ls rest) rfl (by rw [hb]; exact d0) (Nat.le_refl _) (Nat.le_refl _)
  generalize hT1 : (T.setVm vm₁).pushCell { cls := cX, slots := kX.instanceTypes.map defaultValue, vm := .none } = T1 at X₁ st1
  have hcat : (Value.ref T.heap.size).category = 1 := rfl
  have hcellA : T1.heap[T.heap.size]? = some (freshCell cX kX) := by rw [← hT1]; exact State.heap_pushCell_size _ _
  have d3' : decode c.code (pc + 3) = .ok (.dup, 1) := by rw [hb]; exact d3
  have d4' : decode c.code (pc + 4) = .ok (.ldc is, 2) := by rw [hb]; exact d4
  have hstr' : vk_R own is text sa s' := vk_R.warm hW0 hstr
  obtain ⟨U, hsteps, hrun, hend, hW, hsame, ce, hce, hO⟩ := X₁.ctorThrowS hexec htr (own := own) (cls := cls) (names := names) (ic := ic) hown' hcls hnames h (fun x hx => nomatch hx) hfX hkX hcellA (by rw [hhp, hT]; exact Nat.le_refl _) (msg := .ref sa) rfl
    (g := { method := m, pc := pc + 6, locals := ls, stack := .ref sa :: .ref T.heap.size :: .ref T.heap.size :: rest, locked := none }) rfl hsize rfl rfl (rest := rest) rfl
    (by rw [hb]; exact d6) (by rw [hb]; exact d9) hout hRframes (by simp only [List.map_cons, List.sum_cons, hcat]; omega) hlocks
  obtain ⟨f1, f2⟩ := vx_frame hsame
  rw [hhp] at f1 f2
  have hWs : s.WarmedH U.vm := State.WarmedH.trans hW0 hW
  have hcl : s.vm.findClass cls = some ce.cls := by
    have h9 := hO.cls
    rw [hvm] at h9
    exact h9
  have hall : s.sameButNew ({ U with vm := s.vm } : State) locs mc ms := by
    subst hA
    obtain ⟨e1, e2⟩ := hsame
    rw [State.setFrames_setFrames] at e1
    have h2 : (T.setVm s.vm).sameButNew ({ U with vm := s.vm } : State) [] (0 + 1) (0 + 6) := ⟨e1, e2⟩
    have h3 := X.same.trans h2
    rw [List.append_nil] at h3
    exact h3.mono hc hs
  refine ⟨U, ?_, .threw T.heap.size, hrun, hend, Or.inr ⟨T.heap.size, rfl, cls, ce, locs, hx U hWs.alike f1 (fun q hq => f2 q hq (fun z hz => nomatch hz)), hce, hO.vm, hcl, hWs, hall, hf⟩⟩
  refine st1 _ ?_
  show Steps p.tables e below (T1.setTop { method := m, pc := pc + 3, locals := ls, stack := .ref T.heap.size :: rest, locked := none }) _
  jvm_step X₁.here [X₁.here.top, hexec, d3', Value.category]
  exact X₁.ldcString hexec (own := own) (text := text) (index := is) (a := sa) hown' hstr'.1 hstr'.2
    (g := { method := m, pc := pc + 4, locals := ls, stack := .ref T.heap.size :: .ref T.heap.size :: rest, locked := none }) rfl d4' _ hsteps
/-- 'throw new E("text")', the text by a wide index -/
theorem vx_throwSW {cc : ByteArray} {pc : Nat} (hexec : p.tables.exec = Jvm.exec) (hb : c.code = cc) (hl : l.stackTraces = false) {own cls text : String} {names : List String} {ik is ic mc ms sa : Nat} {A : Nat → Prop}
    (hown : s.vm.findClass own = some m.cls) (hcls : Bundle.fit cls = true) (hnames : ∀ n ∈ names, Bundle.fit n = true)
    (hk : (Cond.classLink own ik cls).before args s = true) (hini : (Cond.initialized cls).before args s = true) (hstr : vk_R own is text sa s) (hat : ∀ w ∈ vx_atS own ic cls names, w.before args s = true)
    (hgood : ∀ w ∈ Cond.classLink own ik cls :: Cond.initialized cls :: vx_atS own ic cls names, vx_ot w = true)
    (hU : vx_Zq Bundle.tN "UNASSIGNED_STACK" Bundle.steD A s s.heap) (hN : vx_Zq Bundle.tN "SUPPRESSED_SENTINEL" Bundle.listD A s s.heap) (hS : va_S A s.heap H locs) (hsize : ls.size = c.maxLocals)
    (d0 : decode cc pc = .ok (.new ik, 3)) (d3 : decode cc (pc + 3) = .ok (.dup, 1)) (d4 : decode cc (pc + 4) = .ok (.ldc_w is, 3)) (d7 : decode cc (pc + 7) = .ok (.invokespecial ic, 3)) (d10 : decode cc (pc + 10) = .ok (.athrow, 1))
    (hout : ∀ x ∈ c.exceptionTable.toList, covers x (pc + 10) = false)
    (hRframes : names.length + 3 < R.frames) (hRlocals : (rest.map fun v => v.category).sum + (13 * (names.length + 1) + 43) ≤ R.locals) (hRcells : cells + 1 ≤ R.cells) (hRslots : slots + 6 ≤ R.slots) (hlocks : meth.locks = false)
    (hx : ∀ t : State, s.vm.Alike t.vm → H.size ≤ t.heap.size → (∀ q : Nat, q < H.size → t.heap[q]? = H[q]?) → XC cls s t)
    (hf : ∀ z ∈ locs, free z.base) (hc : cells + 1 ≤ mc) (hs : slots + 6 ≤ ms) :
    W p l e R s m args below meth c H locs cells slots (vx_MQ below Qc XC args s mc ms free) (F0 m pc ls rest) := by
  intro T hT X
  have htr : e.platform.stackTraces = false := (show e.platform.stackTraces = l.stackTraces by rw [X.admits.platform]).trans hl
  have Y := vx_rebase X (R' := { frames := R.frames, locals := R.locals, cells := 1, slots := 6 }) (Nat.le_refl _) (Nat.le_refl _) hRcells hRslots
  obtain ⟨s', hA⟩ : ∃ z, z = (T.setVm s.vm).setFrames (.invoking m args :: below) := ⟨_, rfl⟩
  rw [← hA] at Y
  have hvm : s'.vm = s.vm := by rw [hA]; rfl
  have hhp : s'.heap = H := by rw [hA]; exact hT
  have hW0 : s.WarmedH s'.vm := by rw [hvm]; exact State.WarmedH.refl s
  have hat' : ∀ w ∈ vx_atS own ic cls names, w.before args s' = true := fun w hw => vx_ot_at hW0 hvm.symm (hgood w (List.mem_cons_of_mem _ (List.mem_cons_of_mem _ hw))) (hat w hw)
  have hk' : (Cond.classLink own ik cls).before args s' = true := vx_ot_at hW0 hvm.symm (hgood _ List.mem_cons_self) hk
  have hini' : (Cond.initialized cls).before args s' = true := vx_ot_at hW0 hvm.symm (hgood _ (List.mem_cons_of_mem _ List.mem_cons_self)) hini
  have hU' : vx_Zq Bundle.tN "UNASSIGNED_STACK" Bundle.steD A s' s'.heap := by rw [hhp]; exact vx_Zq.moved hW0.alike (hU.kept hS.2.1)
  have hN' : vx_Zq Bundle.tN "SUPPRESSED_SENTINEL" Bundle.listD A s' s'.heap := by rw [hhp]; exact vx_Zq.moved hW0.alike (hN.kept hS.2.1)
  have h : ∀ w ∈ Bundle.ownAtoms own ic cls names, w.before args s' = true := vx_own hat' (vx_isRefq hU'.1) (vx_isRefq hN'.1) hU'.2.word hN'.2.word
  have hown' : s'.vm.findClass own = some m.cls := by rw [hvm]; exact hown
  have hins : (Cond.instantiable cls 6).before args s' = true := h _ (by simp [Bundle.ownAtoms])
  obtain ⟨vm₁, cX, kX, hfX, hkX, -, -, X₁, st1⟩ := Y.newCold hexec (own := own) (C := cls) (index := ik) (n := 6) hown' hk' hins hini'
    (g := F0 m pc ls rest) rfl (by rw [hb]; exact d0) (Nat.le_refl _) (Nat.le_refl _)
  generalize hT1 : (T.setVm vm₁).pushCell { cls := cX, slots := kX.instanceTypes.map defaultValue, vm := .none } = T1 at X₁ st1
  have hcat : (Value.ref T.heap.size).category = 1 := rfl
  have hcellA : T1.heap[T.heap.size]? = some (freshCell cX kX) := by rw [← hT1]; exact State.heap_pushCell_size _ _
  have d3' : decode c.code (pc + 3) = .ok (.dup, 1) := by rw [hb]; exact d3
  have d4' : decode c.code (pc + 4) = .ok (.ldc_w is, 3) := by rw [hb]; exact d4
  have hstr' : vk_R own is text sa s' := vk_R.warm hW0 hstr
  obtain ⟨U, hsteps, hrun, hend, hW, hsame, ce, hce, hO⟩ := X₁.ctorThrowS hexec htr (own := own) (cls := cls) (names := names) (ic := ic) hown' hcls hnames h (fun x hx => nomatch hx) hfX hkX hcellA (by rw [hhp, hT]; exact Nat.le_refl _) (msg := .ref sa) rfl
    (g := { method := m, pc := pc + 7, locals := ls, stack := .ref sa :: .ref T.heap.size :: .ref T.heap.size :: rest, locked := none }) rfl hsize rfl rfl (rest := rest) rfl
    (by rw [hb]; exact d7) (by rw [hb]; exact d10) hout hRframes (by simp only [List.map_cons, List.sum_cons, hcat]; omega) hlocks
  obtain ⟨f1, f2⟩ := vx_frame hsame
  rw [hhp] at f1 f2
  have hWs : s.WarmedH U.vm := State.WarmedH.trans hW0 hW
  have hcl : s.vm.findClass cls = some ce.cls := by
    have h9 := hO.cls
    rw [hvm] at h9
    exact h9
  have hall : s.sameButNew ({ U with vm := s.vm } : State) locs mc ms := by
    subst hA
    obtain ⟨e1, e2⟩ := hsame
    rw [State.setFrames_setFrames] at e1
    have h2 : (T.setVm s.vm).sameButNew ({ U with vm := s.vm } : State) [] (0 + 1) (0 + 6) := ⟨e1, e2⟩
    have h3 := X.same.trans h2
    rw [List.append_nil] at h3
    exact h3.mono hc hs
  refine ⟨U, ?_, .threw T.heap.size, hrun, hend, Or.inr ⟨T.heap.size, rfl, cls, ce, locs, hx U hWs.alike f1 (fun q hq => f2 q hq (fun z hz => nomatch hz)), hce, hO.vm, hcl, hWs, hall, hf⟩⟩
  refine st1 _ ?_
  show Steps p.tables e below (T1.setTop { method := m, pc := pc + 3, locals := ls, stack := .ref T.heap.size :: rest, locked := none }) _
  jvm_step X₁.here [X₁.here.top, hexec, d3', Value.category]
  exact X₁.ldcStringW hexec (own := own) (text := text) (index := is) (a := sa) hown' hstr'.1 hstr'.2
    (g := { method := m, pc := pc + 4, locals := ls, stack := .ref T.heap.size :: .ref T.heap.size :: rest, locked := none }) rfl d4' _ hsteps
end Ends
section Bodies
variable {l : Launch}
theorem vx_ofW {y : MethodName} {ws ws' : List Cond} {rm : Room} {Pc : Array Value → State → Prop} {Qc : Array Value → State → Outcome → State → Prop} {XC : String → State → State → Prop} {mc ms : Nat} {free : Addr → Prop} {cc : ByteArray} {maxL : Nat} {ret : Option FieldType}
    (hy : plainName y.cls = true) (hw : ws = Cond.code y cc maxL ret :: ws')
    (body : ∀ p e s m args below meth c s₁, BodyLoose p l y (headSpec ws rm) cc maxL ret e s m args below meth c s₁ → c.maxLocals = maxL → (∀ x ∈ c.exceptionTable.toList, False) → Pc args s →
      W p l e (headSpec ws rm).room s m args below meth c s.heap [] 0 0 (vx_MQ below Qc XC args s mc ms free) (entryFrame m args maxL)) : vx_Met l y ws rm Pc Qc XC mc ms free := by
  refine MetFree.of_bodyS (code := cc) (maxLocals := maxL) (ret := ret) hy ?_ ?_
  · intro args s m h hn
    obtain ⟨meth, c, h1, h2, h3, h4, h5, h6, -, -⟩ := Cond.code_spec hn (atoms_spec (ws := ws) h _ (by rw [hw]; exact List.mem_cons_self))
    exact ⟨meth, c, h1, h2, h3, h4, h5, h6⟩
  · intro p e s m args below meth c s₁ B hml hP _
    have hh0 : s₁.heap = s.heap := by rw [B.state]; rfl
    have ht : ∀ x ∈ c.exceptionTable.toList, False := by
      obtain ⟨meth9, c9, h1, h2, -, -, -, -, h7, -⟩ := Cond.code_spec B.named (atoms_spec (ws := ws) B.pre _ (by rw [hw]; exact List.mem_cons_self))
      cases Option.some.inj (h1.symm.trans B.method)
      cases Option.some.inj (h2.symm.trans (Stand.of_body B).code)
      intro x hx
      rw [Array.isEmpty_iff.mp h7] at hx
      cases hx
    obtain ⟨t, a1, o, b1, b2, b3⟩ := body p e s m args below meth c s₁ B hml ht hP s₁ hh0 (Stand.of_body B)
    exact ⟨t, o, a1, b1, b2, b3⟩
/-- the table of a body with handlers -/
theorem vx_table {p : Program} {x y : MethodName} {S : Spec} {cc bytes : ByteArray} {maxL maxL' : Nat} {ret ret' : Option FieldType} {e : Env} {s s₁ : State} {m : MethodId} {args : Array Value} {below : List Frame} {meth : Method} {c : Code} {hh : List (Nat × Nat × Nat × Nat)}
    (B : BodyLoose p l y S cc maxL ret e s m args below meth c s₁) (h : (Cond.codeWith y bytes maxL' ret' hh).before args s = true) : c.exceptionTable.toList = tableOf hh := by
  obtain ⟨m9, meth9, c9, hn9, h1, h2, -, -, h6, -⟩ := Cond.codeWith_spec h
  cases Option.some.inj (hn9.symm.trans B.named)
  cases Option.some.inj (h1.symm.trans B.method)
  cases Option.some.inj (h2.symm.trans (Stand.of_body B).code)
  rw [← h6, table_eq]
end Bodies
end VXA
/-! ===== END ===== -/
/-! ===== BEGIN a static call of a method with an exception table ===== -/
section VXS
variable {p : Program} {l : Launch} {e : Env} {R : Room} {s : State} {m : MethodId} {args : Array Value} {below : List Frame} {meth : Method} {c : Code} {T : State} {H : Heap} {locs : List Loc} {cells slots : Nat}
abbrev vx_CSW (R : Room) (s : State) (args : Array Value) (own : String) (index : Nat) (y : MethodName) (bytes : ByteArray) (maxL : Nat) (ret : Option FieldType) (hh : List (Nat × Nat × Nat × Nat)) (ws : List Cond) (rm : Room) (mc ms n : Nat) : Prop :=
  (rm.cells = mc ∧ rm.slots = ms ∧ rm.frames + 1 ≤ R.frames ∧ 8 + (maxL + 11) + rm.locals ≤ R.locals ∧ (∀ w ∈ ws, ∀ (a' : Array Value) (U : State), s.WarmedH U.vm → w.before a' U = true) ∧ Cond.codeWith y bytes maxL ret hh ∈ ws) ∧
  (Cond.codeWith y bytes maxL ret hh).before args s = true ∧ (Cond.initialized y.cls).before args s = true ∧ (y.cls ≠ "java/lang/invoke/MethodHandle" ∧ y.cls ≠ "java/lang/invoke/VarHandle") ∧
  (∀ sig, parseMethodDescriptor y.desc = some sig → n = sig.parameters.length) ∧ (Cond.methodLink own index y).before args s = true ∧ (Cond.static y).before args s = true
theorem vx_cwSW {own : String} {index maxL mc ms : Nat} {y : MethodName} {bytes : ByteArray} {ret : Option FieldType} {hh : List (Nat × Nat × Nat × Nat)} {Ts ws ws' : List Cond} {rm : Room} (n : Nat) (ht : ∀ w ∈ Ts, w.before args s = true) (hT : GoodIn Ts (va_wsS own index y ws)) (hw : ws = Cond.codeWith y bytes maxL ret hh :: ws') (hrc : rm.cells = mc) (hrs : rm.slots = ms)
    (hd : y.cls ≠ "java/lang/invoke/MethodHandle" ∧ y.cls ≠ "java/lang/invoke/VarHandle" ∧ (parseMethodDescriptor y.desc).map (fun d => d.parameters.length) = some n) (hR : rm.frames + 1 ≤ R.frames ∧ 8 + (maxL + 11) + rm.locals ≤ R.locals) :
    vx_CSW R s args own index y bytes maxL ret hh ws rm mc ms n := by
  have ok : ∀ w ∈ va_wsS own index y ws, w.before args s = true := fun w h => ht w (hT w h).1
  have hG : GoodIn Ts ws := fun w h => hT w (by unfold va_wsS; exact List.mem_append_right _ h)
  have hc : Cond.codeWith y bytes maxL ret hh ∈ ws := by rw [hw]; exact List.mem_cons_self
  refine ⟨⟨hrc, hrs, hR.1, hR.2, pay_in ht hG, hc⟩, ht _ (hG _ hc).1, ok _ (by simp [va_wsS]), ⟨hd.1, hd.2.1⟩, fun sig h => ?_, ok _ (by simp [va_wsS]), ok _ (by simp [va_wsS])⟩
  have h2 := hd.2.2
  rw [h] at h2
  exact (Option.some.inj h2).symm
theorem vx_callSW (X : Stand p l e R s m args below meth c T locs cells slots) (hexec : p.tables.exec = Jvm.exec) {own : String} {index : Nat} {y : MethodName} {bytes : ByteArray} {maxL : Nat} {ret : Option FieldType} {hh : List (Nat × Nat × Nat × Nat)}
    (hown : s.vm.findClass own = some m.cls) (hlink : (Cond.methodLink own index y).before args s = true) (hstat : (Cond.static y).before args s = true) (hinit : (Cond.initialized y.cls).before args s = true)
    (hcode : (Cond.codeWith y bytes maxL ret hh).before args s = true) (hy : y.cls ≠ "java/lang/invoke/MethodHandle" ∧ y.cls ≠ "java/lang/invoke/VarHandle")
    {W9 : Nat} {Pre : Pt → Array Value → Prop} {Post : Pt → Array Value → Option Value → Pt → Prop} (hK : Back l R p e below s args y 3 W9 Pre Post)
    {g : JFrame} (hg : g.method = m) (hsize : g.locals.size = c.maxLocals) {argsL rest : List Value} (hlen : ∀ sig, parseMethodDescriptor y.desc = some sig → argsL.length = sig.parameters.length)
    (hstack : g.stack = argsL.reverse ++ rest) (hW : 2 * g.monitorRoom + (rest.map fun v => v.category).sum ≤ W9) (hdg : decode c.code g.pc = .ok (.invokestatic index, 3))
    (hpre : ∀ vm₁, s.WarmedH vm₁ → Pre ⟨T.setVm vm₁, locs, cells, slots⟩ argsL.toArray) :
    ∃ (v : Option Value) (vm₁ : Vm) (B : Pt), s.WarmedH vm₁ ∧ Stand p l e R s m args below meth c B.U B.locs B.cells B.slots ∧ Post ⟨T.setVm vm₁, locs, cells, slots⟩ argsL.toArray v B ∧
      ∀ target, Steps p.tables e below (B.U.setTop { g with pc := g.pc + 3, stack := v.toList ++ rest }) target → Steps p.tables e below (T.setTop g) target := by
  obtain ⟨mk, methM, cM, hnamed, hmethM, -, -, -, -, -, -, hsigM⟩ := Cond.codeWith_spec hcode
  have hstatic : methM.isStatic = true := Cond.static_spec hnamed hmethM hstat
  obtain ⟨kP, hkP, -⟩ := className_of_methodNamed hnamed
  have hinitP : kP.init = .initialized := Cond.initialized_spec (findClass_of_methodNamed hnamed) hkP hinit
  obtain ⟨vm₁, X₁, hstep₁⟩ := X.invokestatic hexec hown hlink hnamed hmethM hstatic hkP hinitP hy (g := g) hg (argsL := argsL) (rest := rest) (hlen _ hsigM) hstack hdg
  obtain ⟨v, B, X', hpost, hsteps⟩ := hK m meth c ⟨T.setVm vm₁, locs, cells, slots⟩ { g with stack := rest } (.invokestatic index) mk argsL.toArray X₁ hg hsize hdg hW (X₁.named hnamed) (hpre vm₁ X₁.warmed)
  exact ⟨v, vm₁, B, X₁.warmed, X', hpost, fun target h => hstep₁ _ fun acts => by rw [doInvoke_state]; exact hsteps.trans h⟩
theorem vx_runSW {y : MethodName} {bytes cc : ByteArray} {maxL nL mc ms n index : Nat} {ret : Option FieldType} {hh : List (Nat × Nat × Nat × Nat)} {ws : List Cond} {rm : Room} {Pc : Array Value → State → Prop} {Qc : Array Value → State → Outcome → State → Prop} {free : Addr → Prop} {Ts : List Cond} {own : String} {As rest : List Value} {g : JFrame}
    (S : CallFix p m c cc nL s args Ts own) (hM : Met l y ws rm Pc Qc mc ms free) (cw : vx_CSW R s args own index y bytes maxL ret hh ws rm mc ms n) (hp : PreS s H Pc As)
    (hg : g.method = m) (hn : As.length = n) (hsize : g.locals.size = nL) (hstack : g.stack = As.reverse ++ rest) (hW : 2 * g.monitorRoom + (rest.map fun v => v.category).sum ≤ 8) (hdg : decode cc g.pc = .ok (.invokestatic index, 3)) (hf : cells + mc ≤ R.cells ∧ slots + ms ≤ R.slots) :
    va_Run p l e R s m args below meth c H locs cells slots mc ms g rest (Qc As.toArray) (free) := by
  obtain ⟨⟨hrc, hrs, hfr, hlo, hws, hcw⟩, hcode, hini, hy, hlen, hl, hstt⟩ := cw
  have hK : Back l R p e below s args y 3 8 (PreOf R mc ms Pc) (PostOf Qc mc ms free) := va_backW (hh := hh) (bytes := bytes) (maxL := maxL) (ret := ret) hM hp.1 hrc hrs hfr hlo hws hcw (fun a' U hW => word_at hW (Or.inl (by first | rfl | simp [Cond.onTables, Cond.keeps, Cond.steady])) hini)
  obtain ⟨hx, hb, hml, ho, -⟩ := S
  intro T hT X
  obtain ⟨v, vm₁, ⟨U', l2, c2, s2⟩, hW₁, X', ⟨g', mk, t, L, e1, e2, hq, h1, hL, h2, h3⟩, st⟩ := vx_callSW X hx (hh := hh) (bytes := bytes) (maxL := maxL) (ret := ret) ho hl hstt hini hcode hy hK hg (hsize.trans hml.symm) (argsL := As) (rest := rest) (fun sig h => hn.trans (hlen sig h)) hstack hW (by rw [hb]; exact hdg)
    (fun vm₁ hW₁ => ⟨hf.1, hf.2, hp.2 (T.setVm vm₁) hT hW₁⟩)
  dsimp only [Pt.U, Pt.locs, Pt.cells, Pt.slots] at X' e1 e2 h1 h2 h3 st
  subst h1; subst h2; subst h3
  exact ⟨v, (T.setVm vm₁).calling g' mk As.toArray, t, U', L, hT, X', hL, e1, e2, hq, st⟩
/-- not caught here, past rows that name other classes: it goes on to the caller -/
theorem vx_outP {p : Program} {l : Launch} {e : Env} {R : Room} {s : State} {m : MethodId} {args : Array Value} {below : List Frame} {meth : Method} {c : Code} {H : Heap} {locs : List Loc} {cells slots : Nat} {free : Addr → Prop} {ls : Array Slot} {rest : List Value} {Qc : Array Value → State → Outcome → State → Prop} {XC : String → State → State → Prop}
    {pc : Nat} {own E : String} {ce : Cell} {q : Addr} {mc ms : Nat} (hown : s.vm.findClass own = some m.cls) (hlocks : meth.locks = false)
    (hpass : ∀ z ∈ c.exceptionTable.toList, covers z pc = false ∨ (z.catchType ≠ 0 ∧ ∃ nm : String, (Cond.classLink own z.catchType nm).before args s = true ∧ va_Nc E nm s)) (hcell : H[q]? = some ce) (hv : ce.vm = .none) (hcl : s.vm.findClass E = some ce.cls)
    (hx : ∀ t : State, t.heap = H → s.vm.Alike t.vm → XC E s t) (hf : ∀ z ∈ locs, free z.base) (hc : cells ≤ mc) (hs : slots ≤ ms) :
    vx_W p l e R s m args below meth c H locs cells slots (vx_MQ below Qc XC args s mc ms free) (F0 m pc ls rest) q := by
  intro T hT X
  have hpl : e.platform.magicAccessors = ({} : Platform).magicAccessors := by rw [X.admits.platform]
  obtain ⟨vm', hW', X', st⟩ := X.outThrough hlocks q (g := F0 m pc ls rest) rfl rfl rfl (cell := ce) (by rw [hT]; exact hcell) (by rw [hv]; rfl)
    (by obtain ⟨k9, h9, -⟩ := Vm.findClass_spec hcl; exact ⟨k9, h9⟩) (fun z hz => by
      rcases hpass z hz with h | ⟨hz0, nm, hl1, hn1⟩
      · exact Or.inl h
      · obtain ⟨c6, hc6, hcl6⟩ := Cond.classLink_spec hown hl1 e.platform hpl
        obtain ⟨a8, b8, h1, h2, h3⟩ := hn1
        cases Option.some.inj (h1.symm.trans hcl)
        cases Option.some.inj (h2.symm.trans hc6)
        exact Or.inr ⟨hz0, _, hcl6, h3⟩)
  obtain ⟨g₀, hfr⟩ := X'.frames_eq
  have hcell9 : ((T.setVm vm').setFrames (.throwing q :: below)).heap[q]? = some ce := by
    show T.heap[q]? = some ce
    rw [hT]; exact hcell
  have hend : Ended ((T.setVm vm').setFrames (.throwing q :: below)) below (.threw q) := State.frames_setFrames _ (State.cur_lt_of_frames hfr)
  refine ⟨(T.setVm vm').setFrames (.throwing q :: below), ?_, .threw q, X'.here.running, hend, Or.inr ⟨q, rfl, E, ce, locs, hx _ hT (X'.ends _).1.alike, hcell9, hv, hcl, (X'.ends _).1, (X'.ends _).2.mono hc hs, hf⟩⟩
  rw [X.pushThrowing_eq]
  exact st
/-- a thing of a world lies in the heap -/
theorem vx_lt {D : va_G} {cl : List vw_C} {ws : va_W} {H1 : Heap} (h : va_P D cl ws H1) {k : Nat} {q : Nat × va_E} (hk : ws[k]? = some q) : q.1 < H1.size := (h k q hk).lt
end VXS
/-! ===== END ===== -/
/-! ===== BEGIN methods with a table of their own: called by a name, returning or throwing ===== -/
section VXH
/-! vx_backW, vx_callVX, vx_callSX, vx_callVW, vx_runVW, vx_runVX, vx_runSX, vx_ofWH follow the same proofs as their sisters above (Free/Laws.lean, Shelf42/LK1.lean); vx_outP calls Shelf42/NT130.lean (outThrough). -/
section
variable {l : Launch} {R : Room} {p : Program} {e : Env} {below : List Frame} {s : State} {sargs : Array Value} {y : MethodName} {len W9 : Nat}
theorem vx_backW {ws : List Cond} {rm : Room} {Pc : Array Value → State → Prop} {Qc : Array Value → State → Outcome → State → Prop} {XC : String → State → State → Prop} {mc ms : Nat} {free : Addr → Prop} {bytes : ByteArray} {maxL : Nat} {ret : Option FieldType} {hh : List (Nat × Nat × Nat × Nat)}
    (hM : vx_Met l y ws rm Pc Qc XC mc ms free) (hblind : FrameBlind Pc) (hrc : rm.cells = mc) (hrs : rm.slots = ms)
    (hframes : rm.frames + 1 ≤ R.frames) (hlocals : W9 + (maxL + 11) + rm.locals ≤ R.locals)
    (hws : ∀ w ∈ ws, ∀ a' U, s.WarmedH U.vm → w.before a' U = true) (hcode : Cond.codeWith y bytes maxL ret hh ∈ ws) (hinit : ∀ a' U, s.WarmedH U.vm → (Cond.initialized y.cls).before a' U = true) :
    vx_Back l R p e below s sargs y len W9 (PreOf R mc ms Pc) (PostOf Qc mc ms free) (vx_Post XC mc ms free) := by
  intro m meth c A g ig mk a X hg hsize hdg hW hn hp
  have h1 : (headSpec ws rm).pre.before a A.U = true := atoms_intro fun w hw => hws w hw _ _ X.warmed
  have h2 : (Cond.codeWith y bytes maxL ret hh).before a A.U = true := hws _ hcode _ _ X.warmed
  have h3 : (Cond.initialized y.cls).before a A.U = true := hinit _ _ X.warmed
  have h4 : A.cells + (headSpec ws rm).room.cells ≤ R.cells := by rw [show (headSpec ws rm).room.cells = mc from hrc]; exact hp.1
  have h5 : A.slots + (headSpec ws rm).room.slots ≤ R.slots := by rw [show (headSpec ws rm).room.slots = ms from hrs]; exact hp.2.1
  have hPc : Pc a (A.U.calling g mk a) := hblind _ _ _ _ hp.2.2
  obtain ⟨U, Ls, c0, s0⟩ := A
  dsimp only [Pt.U, Pt.locs, Pt.cells, Pt.slots] at h1 h2 h3 h4 h5 X hn hPc ⊢
  obtain ⟨m9, methY, cY, hn9, hmY, hcY, -, hlY, -⟩ := Cond.codeWith_spec h2
  cases Option.some.inj (hn9.symm.trans hn)
  obtain ⟨kY, hkY, -⟩ := className_of_methodNamed hn
  have hinitY : kY.init = .initialized := Cond.initialized_spec (findClass_of_methodNamed hn) hkY h3
  have h : At U g.method c below := by rw [hg]; exact X.here
  have hlocals9 : W9 + (maxL + 11) + (headSpec ws rm).room.locals ≤ R.locals := hlocals
  have happ : (headSpec ws rm).appliesLoose y e.platform (U.calling g mk a) = true :=
    Spec.appliesLoose_calling (g := g) h hdg hn hkY hinitY
      (X.room_calling (g := g) (R' := (headSpec ws rm).room) hsize hmY hcY hframes (by rw [hlY]; omega) h4 h5) h1
  obtain ⟨mid, hmid⟩ := h.above
  have hfr : (U.setTop g).frames = (.java g :: mid) ++ below := by rw [State.frames_setTop' g h.top, hmid]; rfl
  obtain ⟨o, s₂, hsteps, -, hend, hq⟩ := Steps.callFree hM p X.admits X.cas X.clock (acts := []) hfr happ hPc trivial
  have hq' : vx_Q Qc XC mc ms free a (U.calling g mk a) o s₂ := hq
  rw [State.frames_setTop' g h.top] at hend
  obtain ⟨g₀, hg0⟩ := Option.isSome_iff_exists.mp h.top
  obtain ⟨r, hr⟩ := State.topJava?_eq_some.mp hg0
  have hr' : (({ U with heap := s₂.heap, slotsUsed := s₂.slotsUsed } : State).setVm s₂.vm).frames = .java g₀ :: r := hr
  rcases hq' with ⟨hqc, L, hfe, hL⟩ | ⟨q, rfl, E, ce, L, hx, hce, hcv, hcl, hW₂, hsm, hL⟩
  · obtain ⟨⟨v, rfl⟩, hW₂, e2, q2, q3, q4, q5, q6⟩ := id hfe
    have e3 : s₂ = ({ (U.calling g mk a).setFrames s₂.frames with heap := s₂.heap, slotsUsed := s₂.slotsUsed } : State).setVm s₂.vm := by
      have : s₂ = ({ s₂ with vm := (U.calling g mk a).vm } : State).setVm s₂.vm := rfl
      rw [e2] at this
      exact this
    obtain ⟨c₂, i₂, len₂, hc₂, hd₂, hf₂⟩ := hend
    have hW' : U.WarmedH s₂.vm := hW₂
    have hcc : c₂ = c := by
      have h1 : s₂.code? g.method = U.code? g.method := by
        rw [State.code?_eq, State.code?_eq, hW'.alike.method?]
      exact Option.some.inj (hc₂.symm.trans (h1.trans h.code))
    subst hcc
    have hlen : len₂ = len := by rw [hdg] at hd₂; cases hd₂; rfl
    subst hlen
    have hs₂ : s₂ = (({ U with heap := s₂.heap, slotsUsed := s₂.slotsUsed } : State).setVm s₂.vm).setTop { g with pc := g.pc + len₂, stack := v.toList ++ g.stack } := by
      refine e3.trans ?_
      rw [hf₂, State.calling_eq h.top, State.setFrames_setFrames, State.setTop_of_frames _ hr', hr]
      rfl
    have hsame : U.sameButNew ({ U with heap := s₂.heap, slotsUsed := s₂.slotsUsed } : State) L mc ms := by
      refine ⟨?_, q2, q3, q4, q5, q6⟩
      obtain ⟨t, ht, -⟩ := State.frames_cons hr
      show ({ U with heap := s₂.heap, slotsUsed := s₂.slotsUsed } : State) = { U.setFrames U.frames with heap := s₂.heap, slotsUsed := s₂.slotsUsed }
      rw [State.setFrames_self ht]
    subst hg
    refine Or.inl ⟨v, ⟨(({ U with heap := s₂.heap, slotsUsed := s₂.slotsUsed } : State).setVm s₂.vm), Ls ++ L, c0 + mc, s0 + ms⟩,
      ⟨X.admits, X.cas, X.clock, X.frames, X.room, X.hears, X.method, X.code, (X.here.setHeapUsed s₂.heap s₂.slotsUsed).setVm hW'.alike, X.tail, State.WarmedH.trans X.warmed hW', X.limits, X.bytes, X.same.trans (hsame.setVm s.vm)⟩,
      ⟨g, mk, s₂, L, rfl, rfl, hqc, rfl, hL, rfl, rfl⟩, ?_⟩
    show Steps p.tables e below _ ((({ U with heap := s₂.heap, slotsUsed := s₂.slotsUsed } : State).setVm s₂.vm).setTop { g with pc := g.pc + len₂, stack := v.toList ++ g.stack })
    rw [← hs₂]
    exact hsteps
  · obtain ⟨e2, q2, q3, q4, q5, q6⟩ := id hsm
    have e3 : s₂ = ({ (U.calling g mk a).setFrames s₂.frames with heap := s₂.heap, slotsUsed := s₂.slotsUsed } : State).setVm s₂.vm := by
      have : s₂ = ({ s₂ with vm := (U.calling g mk a).vm } : State).setVm s₂.vm := rfl
      rw [e2] at this
      exact this
    have hf₂ : s₂.frames = .throwing q :: .java g :: U.frames.tail := hend
    have hW' : U.WarmedH s₂.vm := hW₂
    have hs₂ : s₂ = ((({ U with heap := s₂.heap, slotsUsed := s₂.slotsUsed } : State).setVm s₂.vm).setTop g).pushFrame (.throwing q) := by
      refine e3.trans ?_
      rw [hf₂, State.calling_eq h.top, State.setFrames_setFrames, State.pushFrame, State.frames_setTop _ hr', State.setTop_of_frames _ hr', State.setFrames_setFrames, hr]
      rfl
    have hsame : U.sameButNew ({ U with heap := s₂.heap, slotsUsed := s₂.slotsUsed } : State) L mc ms := by
      refine ⟨?_, q2, q3, q4, q5, q6⟩
      obtain ⟨t, ht, -⟩ := State.frames_cons hr
      show ({ U with heap := s₂.heap, slotsUsed := s₂.slotsUsed } : State) = { U.setFrames U.frames with heap := s₂.heap, slotsUsed := s₂.slotsUsed }
      rw [State.setFrames_self ht]
    subst hg
    refine Or.inr ⟨q, ⟨(({ U with heap := s₂.heap, slotsUsed := s₂.slotsUsed } : State).setVm s₂.vm), Ls ++ L, c0 + mc, s0 + ms⟩,
      ⟨X.admits, X.cas, X.clock, X.frames, X.room, X.hears, X.method, X.code, (X.here.setHeapUsed s₂.heap s₂.slotsUsed).setVm hW'.alike, X.tail, State.WarmedH.trans X.warmed hW', X.limits, X.bytes, X.same.trans (hsame.setVm s.vm)⟩,
      ⟨g, mk, s₂, L, E, ce, rfl, rfl, hx, hce, hcv, hcl, rfl, hL, rfl, rfl⟩, ?_⟩
    show Steps p.tables e below _ (((({ U with heap := s₂.heap, slotsUsed := s₂.slotsUsed } : State).setVm s₂.vm).setTop g).pushFrame (.throwing q))
    rw [← hs₂]
    exact hsteps
end
variable {p : Program} {l : Launch} {e : Env} {R : Room} {s : State} {m : MethodId} {args : Array Value} {below : List Frame} {meth : Method} {c : Code} {T : State} {H : Heap} {locs : List Loc} {cells slots : Nat}
theorem vx_callVX (X : Stand p l e R s m args below meth c T locs cells slots) (hexec : p.tables.exec = Jvm.exec) {own C : String} {index : Nat} {y : MethodName} {bytes : ByteArray} {maxL : Nat} {ret : Option FieldType} {hh : List (Nat × Nat × Nat × Nat)}
    (hown : s.vm.findClass own = some m.cls) (hlink : (Cond.methodLink own index y).before args s = true) (hinst : (Cond.instanceMethod y).before args s = true) (hsel : (Cond.selects C y y).before args s = true)
    (hcode : (Cond.codeWith y bytes maxL ret hh).before args s = true) (hy : y.cls ≠ "java/lang/invoke/MethodHandle" ∧ y.cls ≠ "java/lang/invoke/VarHandle")
    {W9 : Nat} {Pre : Pt → Array Value → Prop} {Post : Pt → Array Value → Option Value → Pt → Prop} {PostX : Pt → Array Value → Addr → Pt → Prop} (hK : vx_Back l R p e below s args y 3 W9 Pre Post PostX)
    {b : Addr} {cellB : Cell} (hcell : T.heap[b]? = some cellB) (hobj : cellB.vm.isStatics = false) (hcls : s.vm.findClass C = some cellB.cls)
    {g : JFrame} (hg : g.method = m) (hsize : g.locals.size = c.maxLocals) {argsL rest : List Value} (hlen : ∀ sig, parseMethodDescriptor y.desc = some sig → argsL.length = sig.parameters.length)
    (hstack : g.stack = argsL.reverse ++ .ref b :: rest) (hW : 2 * g.monitorRoom + (rest.map fun v => v.category).sum ≤ W9) (hdg : decode c.code g.pc = .ok (.invokevirtual index, 3))
    (hpre : ∀ vm₁, s.WarmedH vm₁ → Pre ⟨T.setVm vm₁, locs, cells, slots⟩ (Value.ref b :: argsL).toArray) :
    (∃ (v : Option Value) (vm₁ : Vm) (B : Pt), s.WarmedH vm₁ ∧ Stand p l e R s m args below meth c B.U B.locs B.cells B.slots ∧ Post ⟨T.setVm vm₁, locs, cells, slots⟩ (Value.ref b :: argsL).toArray v B ∧
      ∀ target, Steps p.tables e below (B.U.setTop { g with pc := g.pc + 3, stack := v.toList ++ rest }) target → Steps p.tables e below (T.setTop g) target) ∨
    (∃ (q : Addr) (vm₁ : Vm) (B : Pt), s.WarmedH vm₁ ∧ Stand p l e R s m args below meth c B.U B.locs B.cells B.slots ∧ PostX ⟨T.setVm vm₁, locs, cells, slots⟩ (Value.ref b :: argsL).toArray q B ∧
      Steps p.tables e below (T.setTop g) ((B.U.setTop { g with stack := rest }).pushFrame (.throwing q))) := by
  obtain ⟨mk, methM, hnamed, hmethM, hstM, habM⟩ := Cond.instanceMethod_spec hinst
  obtain ⟨m8, methM', cM, hn8, hmethM', -, -, -, -, -, -, hsigM⟩ := Cond.codeWith_spec hcode
  cases Option.some.inj (hn8.symm.trans hnamed)
  cases hmethM.symm.trans hmethM'
  obtain ⟨c2, r2, m2, q1, q2, q3, q4, kP, hkP, hkPi⟩ := Cond.selects_spec hsel
  cases hcls.symm.trans q1
  cases (State.methodFound?_of_named hnamed hy).symm.trans q2
  cases hnamed.symm.trans q3
  have hselP : selectMethod e.platform s.vm cellB.cls mk = .method mk := by rw [Launch.admits_selectMethod X.admits]; exact q4
  obtain ⟨vm₁, X₁, hstep₁⟩ := X.invokevirtual hexec hown hlink hnamed hmethM hstM hkP hkPi hy (a := b) (cell := cellB) hcell
    (fun z h => by rw [h] at hobj; cases hobj) hselP hmethM habM hkP hkPi (g := g) hg (argsL := argsL) (rest := rest) (hlen _ hsigM) hstack hdg
  rcases hK m meth c ⟨T.setVm vm₁, locs, cells, slots⟩ { g with stack := rest } (.invokevirtual index) mk (Value.ref b :: argsL).toArray X₁ hg hsize hdg hW (X₁.named hnamed) (hpre vm₁ X₁.warmed) with ⟨v, B, X', hpost, hsteps⟩ | ⟨q, B, X', hpost, hsteps⟩
  · exact Or.inl ⟨v, vm₁, B, X₁.warmed, X', hpost, fun target h => hstep₁ _ fun acts => by rw [doInvoke_state]; exact hsteps.trans h⟩
  · exact Or.inr ⟨q, vm₁, B, X₁.warmed, X', hpost, hstep₁ _ fun acts => by rw [doInvoke_state]; exact hsteps⟩
theorem vx_callSX (X : Stand p l e R s m args below meth c T locs cells slots) (hexec : p.tables.exec = Jvm.exec) {own : String} {index : Nat} {y : MethodName} {bytes : ByteArray} {maxL : Nat} {ret : Option FieldType} {hh : List (Nat × Nat × Nat × Nat)}
    (hown : s.vm.findClass own = some m.cls) (hlink : (Cond.methodLink own index y).before args s = true) (hstat : (Cond.static y).before args s = true) (hinit : (Cond.initialized y.cls).before args s = true)
    (hcode : (Cond.codeWith y bytes maxL ret hh).before args s = true) (hy : y.cls ≠ "java/lang/invoke/MethodHandle" ∧ y.cls ≠ "java/lang/invoke/VarHandle")
    {W9 : Nat} {Pre : Pt → Array Value → Prop} {Post : Pt → Array Value → Option Value → Pt → Prop} {PostX : Pt → Array Value → Addr → Pt → Prop} (hK : vx_Back l R p e below s args y 3 W9 Pre Post PostX)
    {g : JFrame} (hg : g.method = m) (hsize : g.locals.size = c.maxLocals) {argsL rest : List Value} (hlen : ∀ sig, parseMethodDescriptor y.desc = some sig → argsL.length = sig.parameters.length)
    (hstack : g.stack = argsL.reverse ++ rest) (hW : 2 * g.monitorRoom + (rest.map fun v => v.category).sum ≤ W9) (hdg : decode c.code g.pc = .ok (.invokestatic index, 3))
    (hpre : ∀ vm₁, s.WarmedH vm₁ → Pre ⟨T.setVm vm₁, locs, cells, slots⟩ argsL.toArray) :
    (∃ (v : Option Value) (vm₁ : Vm) (B : Pt), s.WarmedH vm₁ ∧ Stand p l e R s m args below meth c B.U B.locs B.cells B.slots ∧ Post ⟨T.setVm vm₁, locs, cells, slots⟩ argsL.toArray v B ∧
      ∀ target, Steps p.tables e below (B.U.setTop { g with pc := g.pc + 3, stack := v.toList ++ rest }) target → Steps p.tables e below (T.setTop g) target) ∨
    (∃ (q : Addr) (vm₁ : Vm) (B : Pt), s.WarmedH vm₁ ∧ Stand p l e R s m args below meth c B.U B.locs B.cells B.slots ∧ PostX ⟨T.setVm vm₁, locs, cells, slots⟩ argsL.toArray q B ∧
      Steps p.tables e below (T.setTop g) ((B.U.setTop { g with stack := rest }).pushFrame (.throwing q))) := by
  obtain ⟨mk, methM, cM, hnamed, hmethM, -, -, -, -, -, -, hsigM⟩ := Cond.codeWith_spec hcode
  have hstatic : methM.isStatic = true := Cond.static_spec hnamed hmethM hstat
  obtain ⟨kP, hkP, -⟩ := className_of_methodNamed hnamed
  have hinitP : kP.init = .initialized := Cond.initialized_spec (findClass_of_methodNamed hnamed) hkP hinit
  obtain ⟨vm₁, X₁, hstep₁⟩ := X.invokestatic hexec hown hlink hnamed hmethM hstatic hkP hinitP hy (g := g) hg (argsL := argsL) (rest := rest) (hlen _ hsigM) hstack hdg
  rcases hK m meth c ⟨T.setVm vm₁, locs, cells, slots⟩ { g with stack := rest } (.invokestatic index) mk argsL.toArray X₁ hg hsize hdg hW (X₁.named hnamed) (hpre vm₁ X₁.warmed) with ⟨v, B, X', hpost, hsteps⟩ | ⟨q, B, X', hpost, hsteps⟩
  · exact Or.inl ⟨v, vm₁, B, X₁.warmed, X', hpost, fun target h => hstep₁ _ fun acts => by rw [doInvoke_state]; exact hsteps.trans h⟩
  · exact Or.inr ⟨q, vm₁, B, X₁.warmed, X', hpost, hstep₁ _ fun acts => by rw [doInvoke_state]; exact hsteps⟩
theorem vx_callVW (X : Stand p l e R s m args below meth c T locs cells slots) (hexec : p.tables.exec = Jvm.exec) {own C : String} {index : Nat} {y : MethodName} {bytes : ByteArray} {maxL : Nat} {ret : Option FieldType} {hh : List (Nat × Nat × Nat × Nat)}
    (hown : s.vm.findClass own = some m.cls) (hlink : (Cond.methodLink own index y).before args s = true) (hinst : (Cond.instanceMethod y).before args s = true) (hsel : (Cond.selects C y y).before args s = true)
    (hcode : (Cond.codeWith y bytes maxL ret hh).before args s = true) (hy : y.cls ≠ "java/lang/invoke/MethodHandle" ∧ y.cls ≠ "java/lang/invoke/VarHandle")
    {W9 : Nat} {Pre : Pt → Array Value → Prop} {Post : Pt → Array Value → Option Value → Pt → Prop} (hK : Back l R p e below s args y 3 W9 Pre Post)
    {b : Addr} {cellB : Cell} (hcell : T.heap[b]? = some cellB) (hobj : cellB.vm.isStatics = false) (hcls : s.vm.findClass C = some cellB.cls)
    {g : JFrame} (hg : g.method = m) (hsize : g.locals.size = c.maxLocals) {argsL rest : List Value} (hlen : ∀ sig, parseMethodDescriptor y.desc = some sig → argsL.length = sig.parameters.length)
    (hstack : g.stack = argsL.reverse ++ .ref b :: rest) (hW : 2 * g.monitorRoom + (rest.map fun v => v.category).sum ≤ W9) (hdg : decode c.code g.pc = .ok (.invokevirtual index, 3))
    (hpre : ∀ vm₁, s.WarmedH vm₁ → Pre ⟨T.setVm vm₁, locs, cells, slots⟩ (Value.ref b :: argsL).toArray) :
    ∃ (v : Option Value) (vm₁ : Vm) (B : Pt), s.WarmedH vm₁ ∧ Stand p l e R s m args below meth c B.U B.locs B.cells B.slots ∧ Post ⟨T.setVm vm₁, locs, cells, slots⟩ (Value.ref b :: argsL).toArray v B ∧
      ∀ target, Steps p.tables e below (B.U.setTop { g with pc := g.pc + 3, stack := v.toList ++ rest }) target → Steps p.tables e below (T.setTop g) target := by
  obtain ⟨mk, methM, hnamed, hmethM, hstM, habM⟩ := Cond.instanceMethod_spec hinst
  obtain ⟨m8, methM', cM, hn8, hmethM', -, -, -, -, -, -, hsigM⟩ := Cond.codeWith_spec hcode
  cases Option.some.inj (hn8.symm.trans hnamed)
  cases hmethM.symm.trans hmethM'
  obtain ⟨c2, r2, m2, q1, q2, q3, q4, kP, hkP, hkPi⟩ := Cond.selects_spec hsel
  cases hcls.symm.trans q1
  cases (State.methodFound?_of_named hnamed hy).symm.trans q2
  cases hnamed.symm.trans q3
  have hselP : selectMethod e.platform s.vm cellB.cls mk = .method mk := by rw [Launch.admits_selectMethod X.admits]; exact q4
  obtain ⟨vm₁, X₁, hstep₁⟩ := X.invokevirtual hexec hown hlink hnamed hmethM hstM hkP hkPi hy (a := b) (cell := cellB) hcell
    (fun z h => by rw [h] at hobj; cases hobj) hselP hmethM habM hkP hkPi (g := g) hg (argsL := argsL) (rest := rest) (hlen _ hsigM) hstack hdg
  obtain ⟨v, B, X', hpost, hsteps⟩ := hK m meth c ⟨T.setVm vm₁, locs, cells, slots⟩ { g with stack := rest } (.invokevirtual index) mk (Value.ref b :: argsL).toArray X₁ hg hsize hdg hW (X₁.named hnamed) (hpre vm₁ X₁.warmed)
  exact ⟨v, vm₁, B, X₁.warmed, X', hpost, fun target h => hstep₁ _ fun acts => by rw [doInvoke_state]; exact hsteps.trans h⟩
abbrev vx_CVW (R : Room) (s : State) (args : Array Value) (own C : String) (index : Nat) (y : MethodName) (bytes : ByteArray) (maxL : Nat) (ret : Option FieldType) (hh : List (Nat × Nat × Nat × Nat)) (ws : List Cond) (rm : Room) (mc ms n : Nat) : Prop :=
  (rm.cells = mc ∧ rm.slots = ms ∧ rm.frames + 1 ≤ R.frames ∧ 8 + (maxL + 11) + rm.locals ≤ R.locals ∧ (∀ w ∈ ws, ∀ (a' : Array Value) (U : State), s.WarmedH U.vm → w.before a' U = true) ∧ Cond.codeWith y bytes maxL ret hh ∈ ws) ∧
  (Cond.codeWith y bytes maxL ret hh).before args s = true ∧ (Cond.initialized y.cls).before args s = true ∧ (y.cls ≠ "java/lang/invoke/MethodHandle" ∧ y.cls ≠ "java/lang/invoke/VarHandle") ∧
  (∀ sig, parseMethodDescriptor y.desc = some sig → n = sig.parameters.length) ∧ (Cond.methodLink own index y).before args s = true ∧ (Cond.instanceMethod y).before args s = true ∧ (Cond.selects C y y).before args s = true
theorem vx_cwVW {own C : String} {index maxL mc ms : Nat} {y : MethodName} {bytes : ByteArray} {ret : Option FieldType} {hh : List (Nat × Nat × Nat × Nat)} {Ts ws ws' : List Cond} {rm : Room} (n : Nat) (ht : ∀ w ∈ Ts, w.before args s = true) (hT : GoodIn Ts (wsV own index C y ws)) (hw : ws = Cond.codeWith y bytes maxL ret hh :: ws') (hrc : rm.cells = mc) (hrs : rm.slots = ms)
    (hd : y.cls = C ∧ y.cls ≠ "java/lang/invoke/MethodHandle" ∧ y.cls ≠ "java/lang/invoke/VarHandle" ∧ (parseMethodDescriptor y.desc).map (fun d => d.parameters.length) = some n) (hR : rm.frames + 1 ≤ R.frames ∧ 8 + (maxL + 11) + rm.locals ≤ R.locals) :
    vx_CVW R s args own C index y bytes maxL ret hh ws rm mc ms n := by
  obtain ⟨hC, hd⟩ := hd
  subst hC
  have ok : ∀ w ∈ wsV own index y.cls y ws, w.before args s = true := fun w h => ht w (hT w h).1
  have hG : GoodIn Ts ws := fun w h => hT w (by unfold wsV; exact List.mem_append_right _ h)
  have hc : Cond.codeWith y bytes maxL ret hh ∈ ws := by rw [hw]; exact List.mem_cons_self
  refine ⟨⟨hrc, hrs, hR.1, hR.2, pay_in ht hG, hc⟩, ht _ (hG _ hc).1, ok _ (by simp [wsV]), ⟨hd.1, hd.2.1⟩, fun sig h => ?_, ok _ (by simp [wsV]), ok _ (by simp [wsV]), ok _ (by simp [wsV])⟩
  have h2 := hd.2.2
  rw [h] at h2
  exact (Option.some.inj h2).symm
theorem vx_runVW {y : MethodName} {bytes cc : ByteArray} {maxL nL mc ms n index : Nat} {ret : Option FieldType} {hh : List (Nat × Nat × Nat × Nat)} {ws : List Cond} {rm : Room} {Pc : Array Value → State → Prop} {Qc : Array Value → State → Outcome → State → Prop} {free : Addr → Prop} {Ts : List Cond} {own C : String} {b : Addr} {As rest : List Value} {g : JFrame}
    (S : CallFix p m c cc nL s args Ts own) (hM : Met l y ws rm Pc Qc mc ms free) (cw : vx_CVW R s args own C index y bytes maxL ret hh ws rm mc ms n) (hp : PreV s H C b Pc As)
    (hg : g.method = m) (hn : As.length = n) (hsize : g.locals.size = nL) (hstack : g.stack = As.reverse ++ .ref b :: rest) (hW : 2 * g.monitorRoom + (rest.map fun v => v.category).sum ≤ 8) (hdg : decode cc g.pc = .ok (.invokevirtual index, 3)) (hf : cells + mc ≤ R.cells ∧ slots + ms ≤ R.slots) :
    va_Run p l e R s m args below meth c H locs cells slots mc ms g rest (Qc (Value.ref b :: As).toArray) free := by
  obtain ⟨⟨hrc, hrs, hfr, hlo, hws, hcw⟩, hcode, hini, hy, hlen, hl, hin, hse⟩ := cw
  have hK : Back l R p e below s args y 3 8 (PreOf R mc ms Pc) (PostOf Qc mc ms free) := va_backW (hh := hh) (bytes := bytes) (maxL := maxL) (ret := ret) hM hp.1 hrc hrs hfr hlo hws hcw (fun a' U hW => word_at hW (Or.inl (by first | rfl | simp [Cond.onTables, Cond.keeps, Cond.steady])) hini)
  obtain ⟨hx, hb, hml, ho, -⟩ := S
  obtain ⟨-, ⟨cellB, hcB, hoB, hclB⟩, hPc⟩ := hp
  intro T hT X
  obtain ⟨v, vm₁, ⟨U', l2, c2, s2⟩, hW₁, X', ⟨g', mk, t, L, e1, e2, hq, h1, hL, h2, h3⟩, st⟩ := vx_callVW X hx (C := C) (hh := hh) (bytes := bytes) (maxL := maxL) (ret := ret) ho hl hin hse hcode hy hK (by rw [hT]; exact hcB) hoB hclB hg (hsize.trans hml.symm) (argsL := As) (rest := rest) (fun sig h => hn.trans (hlen sig h)) hstack hW (by rw [hb]; exact hdg)
    (fun vm₁ hW₁ => ⟨hf.1, hf.2, hPc (T.setVm vm₁) hT hW₁⟩)
  dsimp only [Pt.U, Pt.locs, Pt.cells, Pt.slots] at X' e1 e2 h1 h2 h3 st
  subst h1; subst h2; subst h3
  exact ⟨v, (T.setVm vm₁).calling g' mk (Value.ref b :: As).toArray, t, U', L, hT, X', hL, e1, e2, hq, st⟩
section
variable {y : MethodName} {bytes cc : ByteArray} {maxL nL mc ms n index : Nat} {ret : Option FieldType} {ws : List Cond} {rm : Room} {Pc : Array Value → State → Prop} {Qc : Array Value → State → Outcome → State → Prop} {XC : String → State → State → Prop} {free : Addr → Prop} {Ts : List Cond} {own C : String} {b : Addr} {As rest : List Value} {g : JFrame}
theorem vx_runVX {hh : List (Nat × Nat × Nat × Nat)} (S : CallFix p m c cc nL s args Ts own) (hM : vx_Met l y ws rm Pc Qc XC mc ms free) (cw : vx_CVW R s args own C index y bytes maxL ret hh ws rm mc ms n) (hp : PreV s H C b Pc As)
    (hg : g.method = m) (hn : As.length = n) (hsize : g.locals.size = nL) (hstack : g.stack = As.reverse ++ .ref b :: rest) (hW : 2 * g.monitorRoom + (rest.map fun v => v.category).sum ≤ 8) (hdg : decode cc g.pc = .ok (.invokevirtual index, 3)) (hf : cells + mc ≤ R.cells ∧ slots + ms ≤ R.slots) :
    vx_Run p l e R s m args below meth c H locs cells slots mc ms g rest (Qc (Value.ref b :: As).toArray) XC free := by
  obtain ⟨⟨hrc, hrs, hfr, hlo, hws, hcw⟩, hcode, hini, hy, hlen, hl, hin, hse⟩ := cw
  have hK : vx_Back l R p e below s args y 3 8 (PreOf R mc ms Pc) (PostOf Qc mc ms free) (vx_Post XC mc ms free) := vx_backW (hh := hh) (bytes := bytes) (maxL := maxL) (ret := ret) hM hp.1 hrc hrs hfr hlo hws hcw (fun a' U hW => word_at hW (Or.inl (by first | rfl | simp [Cond.onTables, Cond.keeps, Cond.steady])) hini)
  obtain ⟨hx, hb, hml, ho, -⟩ := S
  obtain ⟨-, ⟨cellB, hcB, hoB, hclB⟩, hPc⟩ := hp
  intro T hT X
  rcases vx_callVX X hx (C := C) (hh := hh) (bytes := bytes) (maxL := maxL) (ret := ret) ho hl hin hse hcode hy hK (by rw [hT]; exact hcB) hoB hclB hg (hsize.trans hml.symm) (argsL := As) (rest := rest) (fun sig h => hn.trans (hlen sig h)) hstack hW (by rw [hb]; exact hdg)
    (fun vm₁ hW₁ => ⟨hf.1, hf.2, hPc (T.setVm vm₁) hT hW₁⟩) with ⟨v, vm₁, ⟨U', l2, c2, s2⟩, hW₁, X', ⟨g', mk, t, L, e1, e2, hq, h1, hL, h2, h3⟩, st⟩ | ⟨q, vm₁, ⟨U', l2, c2, s2⟩, hW₁, X', ⟨g', mk, t, L, E, ce, e1, e2, hq, hce, hcv, hcl, h1, hL, h2, h3⟩, st⟩
  · dsimp only [Pt.U, Pt.locs, Pt.cells, Pt.slots] at X' e1 e2 h1 h2 h3 st
    subst h1; subst h2; subst h3
    exact Or.inl ⟨v, (T.setVm vm₁).calling g' mk (Value.ref b :: As).toArray, t, U', L, hT, X', hL, e1, e2, hq, st⟩
  · dsimp only [Pt.U, Pt.locs, Pt.cells, Pt.slots] at X' e1 e2 h1 h2 h3 st hcl
    subst h1; subst h2; subst h3
    exact Or.inr ⟨q, (T.setVm vm₁).calling g' mk (Value.ref b :: As).toArray, t, U', L, E, ce, hT, X', hL, e1, e2, hq, hce, hcv, vx_cls hW₁ hcl, st⟩
theorem vx_runSX {hh : List (Nat × Nat × Nat × Nat)} (S : CallFix p m c cc nL s args Ts own) (hM : vx_Met l y ws rm Pc Qc XC mc ms free) (cw : vx_CSW R s args own index y bytes maxL ret hh ws rm mc ms n) (hp : PreS s H Pc As)
    (hg : g.method = m) (hn : As.length = n) (hsize : g.locals.size = nL) (hstack : g.stack = As.reverse ++ rest) (hW : 2 * g.monitorRoom + (rest.map fun v => v.category).sum ≤ 8) (hdg : decode cc g.pc = .ok (.invokestatic index, 3)) (hf : cells + mc ≤ R.cells ∧ slots + ms ≤ R.slots) :
    vx_Run p l e R s m args below meth c H locs cells slots mc ms g rest (Qc As.toArray) XC free := by
  obtain ⟨⟨hrc, hrs, hfr, hlo, hws, hcw⟩, hcode, hini, hy, hlen, hl, hstt⟩ := cw
  have hK : vx_Back l R p e below s args y 3 8 (PreOf R mc ms Pc) (PostOf Qc mc ms free) (vx_Post XC mc ms free) := vx_backW (hh := hh) (bytes := bytes) (maxL := maxL) (ret := ret) hM hp.1 hrc hrs hfr hlo hws hcw (fun a' U hW => word_at hW (Or.inl (by first | rfl | simp [Cond.onTables, Cond.keeps, Cond.steady])) hini)
  obtain ⟨hx, hb, hml, ho, -⟩ := S
  intro T hT X
  rcases vx_callSX X hx (hh := hh) (bytes := bytes) (maxL := maxL) (ret := ret) ho hl hstt hini hcode hy hK hg (hsize.trans hml.symm) (argsL := As) (rest := rest) (fun sig h => hn.trans (hlen sig h)) hstack hW (by rw [hb]; exact hdg)
    (fun vm₁ hW₁ => ⟨hf.1, hf.2, hp.2 (T.setVm vm₁) hT hW₁⟩) with ⟨v, vm₁, ⟨U', l2, c2, s2⟩, hW₁, X', ⟨g', mk, t, L, e1, e2, hq, h1, hL, h2, h3⟩, st⟩ | ⟨q, vm₁, ⟨U', l2, c2, s2⟩, hW₁, X', ⟨g', mk, t, L, E, ce, e1, e2, hq, hce, hcv, hcl, h1, hL, h2, h3⟩, st⟩
  · dsimp only [Pt.U, Pt.locs, Pt.cells, Pt.slots] at X' e1 e2 h1 h2 h3 st
    subst h1; subst h2; subst h3
    exact Or.inl ⟨v, (T.setVm vm₁).calling g' mk As.toArray, t, U', L, hT, X', hL, e1, e2, hq, st⟩
  · dsimp only [Pt.U, Pt.locs, Pt.cells, Pt.slots] at X' e1 e2 h1 h2 h3 st hcl
    subst h1; subst h2; subst h3
    exact Or.inr ⟨q, (T.setVm vm₁).calling g' mk As.toArray, t, U', L, E, ce, hT, X', hL, e1, e2, hq, hce, hcv, vx_cls hW₁ hcl, st⟩
end
end VXH
theorem vx_ofWH {l : Launch} {y : MethodName} {ws ws' : List Cond} {rm : Room} {Pc : Array Value → State → Prop} {Qc : Array Value → State → Outcome → State → Prop} {XC : String → State → State → Prop} {mc ms : Nat} {free : Addr → Prop} {cc : ByteArray} {maxL : Nat} {ret : Option FieldType} {hh : List (Nat × Nat × Nat × Nat)}
    (hy : plainName y.cls = true) (hw : ws = Cond.codeWith y cc maxL ret hh :: ws')
    (body : ∀ p e s m args below meth c s₁, BodyLoose p l y (headSpec ws rm) cc maxL ret e s m args below meth c s₁ → c.maxLocals = maxL → Pc args s →
      W p l e (headSpec ws rm).room s m args below meth c s.heap [] 0 0 (vx_MQ below Qc XC args s mc ms free) (entryFrame m args maxL)) : vx_Met l y ws rm Pc Qc XC mc ms free := by
  refine MetFree.of_bodyS (code := cc) (maxLocals := maxL) (ret := ret) hy ?_ ?_
  · intro args s m h hn
    obtain ⟨m9, meth, c, hn9, h1, h2, h3, h4, -, h5, h6, -⟩ := Cond.codeWith_spec (atoms_spec (ws := ws) h _ (by rw [hw]; exact List.mem_cons_self))
    cases hn.symm.trans hn9
    exact ⟨meth, c, h1, h2, h3, h4, h5, h6⟩
  · intro p e s m args below meth c s₁ B hml hP _
    have hh0 : s₁.heap = s.heap := by rw [B.state]; rfl
    obtain ⟨t, a1, o, b1, b2, b3⟩ := body p e s m args below meth c s₁ B hml hP s₁ hh0 (Stand.of_body B)
    exact ⟨t, o, a1, b1, b2, b3⟩
/-! ===== END ===== -/

/-! ===== BEGIN printed: names, fields, word lists, decode rows ===== -/
def RX0 : String := "ShipJournal$Ring"
def TX0 : u_T := fun k => match k with
  | 0 => ("ShipJournal$Ring", "places", "I", false)
  | 1 => ("ShipJournal$Ring", "olderEnd", "I", false)
  | 2 => ("ShipJournal$Ring", "newerEnd", "I", false)
  | 3 => ("ShipJournal$Ring", "kinds", "[I", true)
  | 4 => ("ShipJournal$Ring", "holdsA", "[I", true)
  | 5 => ("ShipJournal$Ring", "holdsB", "[I", true)
  | 6 => ("ShipJournal$Ring", "amounts", "[I", true)
  | _ => ("ShipJournal$Ring", "spoiled", "[I", true)
def tyX0 : Nat → FieldType := fun k => match k with
  | 0 => .int
  | 1 => .int
  | 2 => .int
  | 3 => .array .int
  | 4 => .array .int
  | 5 => .array .int
  | 6 => .array .int
  | _ => .array .int
abbrev wsX00 : List Cond := u_ws RX0 TX0 8
theorem nmX0 : ∀ a, a < 8 → ∀ b, b < 8 → a ≠ b → (TX0 a).2.1 ≠ (TX0 b).2.1 := by decide +kernel
theorem tyX0_ok : ∀ k, k < 8 → parseFieldDescriptor (TX0 k).2.2.1 = some (tyX0 k) := by decide +kernel
abbrev cX0_init : ByteArray := prog_2_method_1_code
def yX0_init : MethodName := ⟨RX0, "<init>", "()V"⟩
abbrev cX0_slot : ByteArray := prog_2_method_2_code
def yX0_slot : MethodName := ⟨RX0, "slot", "(I)I"⟩
abbrev cX0_restart : ByteArray := prog_2_method_3_code
def yX0_restart : MethodName := ⟨RX0, "restart", "(I)V"⟩
abbrev cX0_copyFrom : ByteArray := prog_2_method_4_code
def yX0_copyFrom : MethodName := ⟨RX0, "copyFrom", "(LShipJournal$Ring;)V"⟩
abbrev cX0_kept : ByteArray := prog_2_method_5_code
def yX0_kept : MethodName := ⟨RX0, "kept", "()I"⟩
abbrev cX0_isFull : ByteArray := prog_2_method_6_code
def yX0_isFull : MethodName := ⟨RX0, "isFull", "()Z"⟩
abbrev cX0_isKept : ByteArray := prog_2_method_7_code
def yX0_isKept : MethodName := ⟨RX0, "isKept", "(I)Z"⟩
abbrev cX0_add : ByteArray := prog_2_method_8_code
def yX0_add : MethodName := ⟨RX0, "add", "(IIII)I"⟩
abbrev cX0_kindAt : ByteArray := prog_2_method_9_code
def yX0_kindAt : MethodName := ⟨RX0, "kindAt", "(I)I"⟩
abbrev cX0_holdAAt : ByteArray := prog_2_method_10_code
def yX0_holdAAt : MethodName := ⟨RX0, "holdAAt", "(I)I"⟩
abbrev cX0_holdBAt : ByteArray := prog_2_method_11_code
def yX0_holdBAt : MethodName := ⟨RX0, "holdBAt", "(I)I"⟩
abbrev cX0_amountAt : ByteArray := prog_2_method_12_code
def yX0_amountAt : MethodName := ⟨RX0, "amountAt", "(I)I"⟩
abbrev cX0_spoiledAt : ByteArray := prog_2_method_13_code
def yX0_spoiledAt : MethodName := ⟨RX0, "spoiledAt", "(I)I"⟩
abbrev cX0_canBeRead : ByteArray := prog_2_method_14_code
def yX0_canBeRead : MethodName := ⟨RX0, "canBeRead", "(I)Z"⟩
abbrev cX0_spoilCopy : ByteArray := prog_2_method_15_code
def yX0_spoilCopy : MethodName := ⟨RX0, "spoilCopy", "(II)I"⟩
abbrev cX0_repairOrder : ByteArray := prog_2_method_16_code
def yX0_repairOrder : MethodName := ⟨RX0, "repairOrder", "(I)I"⟩
abbrev cX0_spoiledCopies : ByteArray := prog_2_method_17_code
def yX0_spoiledCopies : MethodName := ⟨RX0, "spoiledCopies", "()I"⟩
abbrev cX0_unreadableOrders : ByteArray := prog_2_method_18_code
def yX0_unreadableOrders : MethodName := ⟨RX0, "unreadableOrders", "()I"⟩
abbrev cX0_firstUnreadable : ByteArray := prog_2_method_19_code
def yX0_firstUnreadable : MethodName := ⟨RX0, "firstUnreadable", "(I)I"⟩
abbrev cX0_replayOn : ByteArray := prog_2_method_20_code
def yX0_replayOn : MethodName := ⟨RX0, "replayOn", "([III)Z"⟩
abbrev cX0_replayOne : ByteArray := prog_2_method_21_code
def yX0_replayOne : MethodName := ⟨RX0, "replayOne", "([II)V"⟩
abbrev cX0_moveTons : ByteArray := prog_2_method_22_code
def yX0_moveTons : MethodName := ⟨RX0, "moveTons", "([IIII)V"⟩
abbrev cX0_swapTons : ByteArray := prog_2_method_23_code
def yX0_swapTons : MethodName := ⟨RX0, "swapTons", "([III)V"⟩
abbrev cX0_levelTons : ByteArray := prog_2_method_24_code
def yX0_levelTons : MethodName := ⟨RX0, "levelTons", "([III)V"⟩
def RX1 : String := "ShipJournal$Ship"
def TX1 : u_T := fun k => match k with
  | 0 => ("ShipJournal$Ship", "position", "I", false)
  | 1 => ("ShipJournal$Ship", "snapshotPosition", "I", false)
  | 2 => ("ShipJournal$Ship", "linkUp", "Z", false)
  | 3 => ("ShipJournal$Ship", "replayed", "I", false)
  | 4 => ("ShipJournal$Ship", "crashes", "I", false)
  | 5 => ("ShipJournal$Ship", "holds", "[I", true)
  | _ => ("ShipJournal$Ship", "snapshotHolds", "[I", true)
def tyX1 : Nat → FieldType := fun k => match k with
  | 0 => .int
  | 1 => .int
  | 2 => .boolean
  | 3 => .int
  | 4 => .int
  | 5 => .array .int
  | _ => .array .int
abbrev wsX10 : List Cond := u_ws RX1 TX1 7
theorem nmX1 : ∀ a, a < 7 → ∀ b, b < 7 → a ≠ b → (TX1 a).2.1 ≠ (TX1 b).2.1 := by decide +kernel
theorem tyX1_ok : ∀ k, k < 7 → parseFieldDescriptor (TX1 k).2.2.1 = some (tyX1 k) := by decide +kernel
abbrev cX1_init : ByteArray := prog_3_method_1_code
def yX1_init : MethodName := ⟨RX1, "<init>", "()V"⟩
abbrev cX1_restart : ByteArray := prog_3_method_2_code
def yX1_restart : MethodName := ⟨RX1, "restart", "()V"⟩
abbrev cX1_copyFrom : ByteArray := prog_3_method_3_code
def yX1_copyFrom : MethodName := ⟨RX1, "copyFrom", "(LShipJournal$Ship;)V"⟩
abbrev cX1_keepSnapshot : ByteArray := prog_3_method_4_code
def yX1_keepSnapshot : MethodName := ⟨RX1, "keepSnapshot", "()V"⟩
abbrev cX1_fallBack : ByteArray := prog_3_method_5_code
def yX1_fallBack : MethodName := ⟨RX1, "fallBack", "()I"⟩
abbrev cX1_sumOfTons : ByteArray := prog_3_method_6_code
def yX1_sumOfTons : MethodName := ⟨RX1, "sumOfTons", "()I"⟩
abbrev cX1_hasHolds : ByteArray := prog_3_method_7_code
def yX1_hasHolds : MethodName := ⟨RX1, "hasHolds", "([I)Z"⟩
def RX2 : String := "ShipJournal$State"
def TX2 : u_T := fun k => match k with
  | 0 => ("ShipJournal$State", "ring", "LShipJournal$Ring;", true)
  | 1 => ("ShipJournal$State", "first", "LShipJournal$Ship;", true)
  | 2 => ("ShipJournal$State", "second", "LShipJournal$Ship;", true)
  | _ => ("ShipJournal$State", "repaired", "I", false)
def tyX2 : Nat → FieldType := fun k => match k with
  | 0 => .object "ShipJournal$Ring"
  | 1 => .object "ShipJournal$Ship"
  | 2 => .object "ShipJournal$Ship"
  | _ => .int
abbrev wsX20 : List Cond := u_ws RX2 TX2 4
theorem nmX2 : ∀ a, a < 4 → ∀ b, b < 4 → a ≠ b → (TX2 a).2.1 ≠ (TX2 b).2.1 := by decide +kernel
theorem tyX2_ok : ∀ k, k < 4 → parseFieldDescriptor (TX2 k).2.2.1 = some (tyX2 k) := by decide +kernel
abbrev cX2_init : ByteArray := prog_4_method_1_code
def yX2_init : MethodName := ⟨RX2, "<init>", "()V"⟩
abbrev cX2_restart : ByteArray := prog_4_method_2_code
def yX2_restart : MethodName := ⟨RX2, "restart", "(I)V"⟩
abbrev cX2_copyFrom : ByteArray := prog_4_method_3_code
def yX2_copyFrom : MethodName := ⟨RX2, "copyFrom", "(LShipJournal$State;)V"⟩
abbrev cX2_shipOf : ByteArray := prog_4_method_4_code
def yX2_shipOf : MethodName := ⟨RX2, "shipOf", "(I)LShipJournal$Ship;"⟩
abbrev cX2_otherThan : ByteArray := prog_4_method_5_code
def yX2_otherThan : MethodName := ⟨RX2, "otherThan", "(LShipJournal$Ship;)LShipJournal$Ship;"⟩
abbrev cX2_shipBehind : ByteArray := prog_4_method_6_code
def yX2_shipBehind : MethodName := ⟨RX2, "shipBehind", "()LShipJournal$Ship;"⟩
abbrev cX2_slowerSnapshot : ByteArray := prog_4_method_7_code
def yX2_slowerSnapshot : MethodName := ⟨RX2, "slowerSnapshot", "()LShipJournal$Ship;"⟩
abbrev cX2_linksUp : ByteArray := prog_4_method_8_code
def yX2_linksUp : MethodName := ⟨RX2, "linksUp", "()I"⟩
abbrev cX2_replayedBy : ByteArray := prog_4_method_9_code
def yX2_replayedBy : MethodName := ⟨RX2, "replayedBy", "(I)I"⟩
abbrev cX2_replayOrders : ByteArray := prog_4_method_10_code
def yX2_replayOrders : MethodName := ⟨RX2, "replayOrders", "(LShipJournal$Ship;I)I"⟩
abbrev cX2_canReplay : ByteArray := prog_4_method_11_code
def yX2_canReplay : MethodName := ⟨RX2, "canReplay", "(LShipJournal$Ship;)Z"⟩
abbrev cX2_takeSnapshot : ByteArray := prog_4_method_12_code
def yX2_takeSnapshot : MethodName := ⟨RX2, "takeSnapshot", "(LShipJournal$Ship;)I"⟩
abbrev cX2_repairCopies : ByteArray := prog_4_method_13_code
def yX2_repairCopies : MethodName := ⟨RX2, "repairCopies", "()I"⟩
abbrev cX2_canRepair : ByteArray := prog_4_method_14_code
def yX2_canRepair : MethodName := ⟨RX2, "canRepair", "(I)Z"⟩
abbrev cX2_knowsOrder : ByteArray := prog_4_method_15_code
def yX2_knowsOrder : MethodName := ⟨RX2, "knowsOrder", "(LShipJournal$Ship;I)Z"⟩
def RX3 : String := "ShipJournal$Text"
def TX3 : u_T := fun k => match k with
  | 0 => ("ShipJournal$Text", "length", "I", false)
  | 1 => ("ShipJournal$Text", "bytes", "[B", true)
  | 2 => ("ShipJournal$Text", "at", "I", false)
  | 3 => ("ShipJournal$Text", "letter", "I", false)
  | 4 => ("ShipJournal$Text", "first", "I", false)
  | 5 => ("ShipJournal$Text", "second", "I", false)
  | _ => ("ShipJournal$Text", "number", "I", false)
def tyX3 : Nat → FieldType := fun k => match k with
  | 0 => .int
  | 1 => .array .byte
  | 2 => .int
  | 3 => .int
  | 4 => .int
  | 5 => .int
  | _ => .int
abbrev wsX30 : List Cond := u_ws RX3 TX3 7
theorem nmX3 : ∀ a, a < 7 → ∀ b, b < 7 → a ≠ b → (TX3 a).2.1 ≠ (TX3 b).2.1 := by decide +kernel
theorem tyX3_ok : ∀ k, k < 7 → parseFieldDescriptor (TX3 k).2.2.1 = some (tyX3 k) := by decide +kernel
abbrev cX3_init : ByteArray := prog_5_method_1_code
def yX3_init : MethodName := ⟨RX3, "<init>", "()V"⟩
abbrev cX3_isFull : ByteArray := prog_5_method_2_code
def yX3_isFull : MethodName := ⟨RX3, "isFull", "()Z"⟩
abbrev cX3_add : ByteArray := prog_5_method_3_code
def yX3_add : MethodName := ⟨RX3, "add", "(I)I"⟩
abbrev cX3_clear : ByteArray := prog_5_method_4_code
def yX3_clear : MethodName := ⟨RX3, "clear", "()I"⟩
abbrev cX3_byteAt : ByteArray := prog_5_method_5_code
def yX3_byteAt : MethodName := ⟨RX3, "byteAt", "(I)I"⟩
abbrev cX3_goToStart : ByteArray := prog_5_method_6_code
def yX3_goToStart : MethodName := ⟨RX3, "goToStart", "()V"⟩
abbrev cX3_isAtEnd : ByteArray := prog_5_method_7_code
def yX3_isAtEnd : MethodName := ⟨RX3, "isAtEnd", "()Z"⟩
abbrev cX3_findSyntaxError : ByteArray := prog_5_method_8_code
def yX3_findSyntaxError : MethodName := ⟨RX3, "findSyntaxError", "()I"⟩
abbrev cX3_readCommand : ByteArray := prog_5_method_9_code
def yX3_readCommand : MethodName := ⟨RX3, "readCommand", "()Z"⟩
abbrev cX3_readSign : ByteArray := prog_5_method_10_code
def yX3_readSign : MethodName := ⟨RX3, "readSign", "(I)Z"⟩
abbrev cX3_readFirst : ByteArray := prog_5_method_11_code
def yX3_readFirst : MethodName := ⟨RX3, "readFirst", "(I)Z"⟩
abbrev cX3_readSecond : ByteArray := prog_5_method_12_code
def yX3_readSecond : MethodName := ⟨RX3, "readSecond", "(I)Z"⟩
abbrev cX3_readDigit : ByteArray := prog_5_method_13_code
def yX3_readDigit : MethodName := ⟨RX3, "readDigit", "(I)I"⟩
abbrev cX3_readNumber : ByteArray := prog_5_method_14_code
def yX3_readNumber : MethodName := ⟨RX3, "readNumber", "()Z"⟩
abbrev cX3_isDigit : ByteArray := prog_5_method_15_code
def yX3_isDigit : MethodName := ⟨RX3, "isDigit", "(I)Z"⟩
def RX4 : String := "ShipJournal"
def TX4 : u_T := fun k => match k with
  | 0 => ("ShipJournal", "now", "LShipJournal$State;", true)
  | 1 => ("ShipJournal", "saved", "[LShipJournal$State;", true)
  | 2 => ("ShipJournal", "savedCount", "I", false)
  | 3 => ("ShipJournal", "text", "LShipJournal$Text;", true)
  | _ => ("ShipJournal", "forecast", "[I", true)
def tyX4 : Nat → FieldType := fun k => match k with
  | 0 => .object "ShipJournal$State"
  | 1 => .array (.object "ShipJournal$State")
  | 2 => .int
  | 3 => .object "ShipJournal$Text"
  | _ => .array .int
abbrev wsX40 : List Cond := u_ws RX4 TX4 5
theorem nmX4 : ∀ a, a < 5 → ∀ b, b < 5 → a ≠ b → (TX4 a).2.1 ≠ (TX4 b).2.1 := by decide +kernel
theorem tyX4_ok : ∀ k, k < 5 → parseFieldDescriptor (TX4 k).2.2.1 = some (tyX4 k) := by decide +kernel
abbrev cX4_init : ByteArray := prog_1_method_1_code
def yX4_init : MethodName := ⟨RX4, "<init>", "()V"⟩
abbrev cX4_begin : ByteArray := prog_1_method_2_code
def yX4_begin : MethodName := ⟨RX4, "begin", "(I)I"⟩
abbrev cX4_write : ByteArray := prog_1_method_3_code
def yX4_write : MethodName := ⟨RX4, "write", "(IIII)I"⟩
abbrev cX4_spoil : ByteArray := prog_1_method_4_code
def yX4_spoil : MethodName := ⟨RX4, "spoil", "(II)I"⟩
abbrev cX4_repair : ByteArray := prog_1_method_5_code
def yX4_repair : MethodName := ⟨RX4, "repair", "()I"⟩
abbrev cX4_replay : ByteArray := prog_1_method_6_code
def yX4_replay : MethodName := ⟨RX4, "replay", "(II)I"⟩
abbrev cX4_snapshot : ByteArray := prog_1_method_7_code
def yX4_snapshot : MethodName := ⟨RX4, "snapshot", "(I)I"⟩
abbrev cX4_crash : ByteArray := prog_1_method_8_code
def yX4_crash : MethodName := ⟨RX4, "crash", "(I)I"⟩
abbrev cX4_link : ByteArray := prog_1_method_9_code
def yX4_link : MethodName := ⟨RX4, "link", "(IZ)I"⟩
abbrev cX4_order : ByteArray := prog_1_method_10_code
def yX4_order : MethodName := ⟨RX4, "order", "(II)I"⟩
abbrev cX4_ship : ByteArray := prog_1_method_11_code
def yX4_ship : MethodName := ⟨RX4, "ship", "(II)I"⟩
abbrev cX4_hold : ByteArray := prog_1_method_12_code
def yX4_hold : MethodName := ⟨RX4, "hold", "(II)I"⟩
abbrev cX4_value : ByteArray := prog_1_method_13_code
def yX4_value : MethodName := ⟨RX4, "value", "(I)I"⟩
abbrev cX4_ahead : ByteArray := prog_1_method_14_code
def yX4_ahead : MethodName := ⟨RX4, "ahead", "(I)I"⟩
abbrev cX4_stop : ByteArray := prog_1_method_15_code
def yX4_stop : MethodName := ⟨RX4, "stop", "(I)I"⟩
abbrev cX4_tonsAt : ByteArray := prog_1_method_16_code
def yX4_tonsAt : MethodName := ⟨RX4, "tonsAt", "(II)I"⟩
abbrev cX4_agree : ByteArray := prog_1_method_17_code
def yX4_agree : MethodName := ⟨RX4, "agree", "()I"⟩
abbrev cX4_roomBy : ByteArray := prog_1_method_18_code
def yX4_roomBy : MethodName := ⟨RX4, "roomBy", "(I)I"⟩
abbrev cX4_slower : ByteArray := prog_1_method_19_code
def yX4_slower : MethodName := ⟨RX4, "slower", "()I"⟩
abbrev cX4_append : ByteArray := prog_1_method_21_code
def yX4_append : MethodName := ⟨RX4, "append", "(I)I"⟩
abbrev cX4_clearText : ByteArray := prog_1_method_22_code
def yX4_clearText : MethodName := ⟨RX4, "clearText", "()I"⟩
abbrev cX4_carryOut : ByteArray := prog_1_method_23_code
def yX4_carryOut : MethodName := ⟨RX4, "carryOut", "()I"⟩
abbrev cX4_undo : ByteArray := prog_1_method_24_code
def yX4_undo : MethodName := ⟨RX4, "undo", "()I"⟩
abbrev cX4_digest : ByteArray := prog_1_method_25_code
def yX4_digest : MethodName := ⟨RX4, "digest", "()J"⟩
abbrev cX4_mix : ByteArray := prog_1_method_26_code
def yX4_mix : MethodName := ⟨RX4, "mix", "(JJ)J"⟩
abbrev cX4_mixOrders : ByteArray := prog_1_method_27_code
def yX4_mixOrders : MethodName := ⟨RX4, "mixOrders", "(J)J"⟩
abbrev cX4_mixShips : ByteArray := prog_1_method_28_code
def yX4_mixShips : MethodName := ⟨RX4, "mixShips", "(J)J"⟩
abbrev cX4_mixForecasts : ByteArray := prog_1_method_29_code
def yX4_mixForecasts : MethodName := ⟨RX4, "mixForecasts", "(J)J"⟩
abbrev cX4_isOrder : ByteArray := prog_1_method_30_code
def yX4_isOrder : MethodName := ⟨RX4, "isOrder", "(IIII)Z"⟩
abbrev cX4_usesHoldB : ByteArray := prog_1_method_31_code
def yX4_usesHoldB : MethodName := ⟨RX4, "usesHoldB", "(I)Z"⟩
abbrev cX4_isHold : ByteArray := prog_1_method_32_code
def yX4_isHold : MethodName := ⟨RX4, "isHold", "(I)Z"⟩
abbrev cX4_requireHold : ByteArray := prog_1_method_33_code
def yX4_requireHold : MethodName := ⟨RX4, "requireHold", "(I)V"⟩
abbrev cX4_requireShip : ByteArray := prog_1_method_34_code
def yX4_requireShip : MethodName := ⟨RX4, "requireShip", "(I)V"⟩
abbrev cX4_requireKept : ByteArray := prog_1_method_35_code
def yX4_requireKept : MethodName := ⟨RX4, "requireKept", "(I)V"⟩
abbrev cX4_saveState : ByteArray := prog_1_method_36_code
def yX4_saveState : MethodName := ⟨RX4, "saveState", "()V"⟩
abbrev cX4_obeyCommand : ByteArray := prog_1_method_37_code
def yX4_obeyCommand : MethodName := ⟨RX4, "obeyCommand", "()Z"⟩
abbrev cX4_obeyWrite : ByteArray := prog_1_method_38_code
def yX4_obeyWrite : MethodName := ⟨RX4, "obeyWrite", "(I)Z"⟩
abbrev cX4_obeySnapshot : ByteArray := prog_1_method_39_code
def yX4_obeySnapshot : MethodName := ⟨RX4, "obeySnapshot", "()Z"⟩
def RX5 : String := "ShipJournalModel"
def TX5 : u_T := fun k => match k with
  | _ => ("", "", "", false)
def tyX5 : Nat → FieldType := fun k => match k with
  | _ => .int
abbrev wsX50 : List Cond := u_ws RX5 TX5 0
theorem nmX5 : ∀ a, a < 0 → ∀ b, b < 0 → a ≠ b → (TX5 a).2.1 ≠ (TX5 b).2.1 := by decide +kernel
theorem tyX5_ok : ∀ k, k < 0 → parseFieldDescriptor (TX5 k).2.2.1 = some (tyX5 k) := by decide +kernel
def RJ6 : String := "java/lang/Integer"
def TJ6 : u_T := fun k => match k with
  | _ => ("", "", "", false)
def tyJ6 : Nat → FieldType := fun k => match k with
  | _ => .int
abbrev wsJ60 : List Cond := u_ws RJ6 TJ6 0
theorem nmJ6 : ∀ a, a < 0 → ∀ b, b < 0 → a ≠ b → (TJ6 a).2.1 ≠ (TJ6 b).2.1 := by decide +kernel
theorem tyJ6_ok : ∀ k, k < 0 → parseFieldDescriptor (TJ6 k).2.2.1 = some (tyJ6 k) := by decide +kernel
abbrev cJ6_bitCount_0f7a4 : ByteArray := prog_12_method_49_code
def yJ6_bitCount_0f7a4 : MethodName := ⟨RJ6, "bitCount", "(I)I"⟩
def RJ9 : String := "java/lang/Math"
def TJ9 : u_T := fun k => match k with
  | _ => ("", "", "", false)
def tyJ9 : Nat → FieldType := fun k => match k with
  | _ => .int
abbrev wsJ90 : List Cond := u_ws RJ9 TJ9 0
theorem nmJ9 : ∀ a, a < 0 → ∀ b, b < 0 → a ≠ b → (TJ9 a).2.1 ≠ (TJ9 b).2.1 := by decide +kernel
theorem tyJ9_ok : ∀ k, k < 0 → parseFieldDescriptor (TJ9 k).2.2.1 = some (tyJ9 k) := by decide +kernel
abbrev cJ9_max_7cf53 : ByteArray := prog_13_method_65_code
def yJ9_max_7cf53 : MethodName := ⟨RJ9, "max", "(II)I"⟩
abbrev cJ9_min_7cf53 : ByteArray := prog_13_method_69_code
def yJ9_min_7cf53 : MethodName := ⟨RJ9, "min", "(II)I"⟩
def RJ0 : String := "java/lang/String"
def TJ0 : u_T := fun k => match k with
  | _ => ("", "", "", false)
def tyJ0 : Nat → FieldType := fun k => match k with
  | _ => .int
abbrev wsJ00 : List Cond := u_ws RJ0 TJ0 0
theorem nmJ0 : ∀ a, a < 0 → ∀ b, b < 0 → a ≠ b → (TJ0 a).2.1 ≠ (TJ0 b).2.1 := by decide +kernel
theorem tyJ0_ok : ∀ k, k < 0 → parseFieldDescriptor (TJ0 k).2.2.1 = some (tyJ0 k) := by decide +kernel
def RJ10 : String := "java/lang/System"
def TJ10 : u_T := fun k => match k with
  | _ => ("", "", "", false)
def tyJ10 : Nat → FieldType := fun k => match k with
  | _ => .int
abbrev wsJ100 : List Cond := u_ws RJ10 TJ10 0
theorem nmJ10 : ∀ a, a < 0 → ∀ b, b < 0 → a ≠ b → (TJ10 a).2.1 ≠ (TJ10 b).2.1 := by decide +kernel
theorem tyJ10_ok : ∀ k, k < 0 → parseFieldDescriptor (TJ10 k).2.2.1 = some (tyJ10 k) := by decide +kernel
def RL : String := "ShipJournalLaw"
abbrev cL_cell : ByteArray := method_2_code
def yL_cell : MethodName := ⟨RL, "cell", "([II)I"⟩
abbrev cL_begin : ByteArray := method_3_code
def yL_begin : MethodName := ⟨RL, "begin", "(LShipJournal;I)I"⟩
abbrev cL_write : ByteArray := method_4_code
def yL_write : MethodName := ⟨RL, "write", "(LShipJournal;IIII)I"⟩
abbrev cL_spoil : ByteArray := method_5_code
def yL_spoil : MethodName := ⟨RL, "spoil", "(LShipJournal;II)I"⟩
abbrev cL_replay : ByteArray := method_6_code
def yL_replay : MethodName := ⟨RL, "replay", "(LShipJournal;II)I"⟩
abbrev cL_snapshot : ByteArray := method_7_code
def yL_snapshot : MethodName := ⟨RL, "snapshot", "(LShipJournal;I)I"⟩
abbrev cL_crash : ByteArray := method_8_code
def yL_crash : MethodName := ⟨RL, "crash", "(LShipJournal;I)I"⟩
abbrev cL_link : ByteArray := method_9_code
def yL_link : MethodName := ⟨RL, "link", "(LShipJournal;IZ)I"⟩
abbrev cL_order : ByteArray := method_10_code
def yL_order : MethodName := ⟨RL, "order", "(LShipJournal;II)I"⟩
abbrev cL_ship : ByteArray := method_11_code
def yL_ship : MethodName := ⟨RL, "ship", "(LShipJournal;II)I"⟩
abbrev cL_hold : ByteArray := method_12_code
def yL_hold : MethodName := ⟨RL, "hold", "(LShipJournal;II)I"⟩
abbrev cL_value : ByteArray := method_13_code
def yL_value : MethodName := ⟨RL, "value", "(LShipJournal;I)I"⟩
abbrev cL_ahead : ByteArray := method_14_code
def yL_ahead : MethodName := ⟨RL, "ahead", "(LShipJournal;I)I"⟩
abbrev cL_stop : ByteArray := method_15_code
def yL_stop : MethodName := ⟨RL, "stop", "(LShipJournal;I)I"⟩
abbrev cL_tonsAt : ByteArray := method_16_code
def yL_tonsAt : MethodName := ⟨RL, "tonsAt", "(LShipJournal;II)I"⟩
abbrev cL_roomBy : ByteArray := method_17_code
def yL_roomBy : MethodName := ⟨RL, "roomBy", "(LShipJournal;I)I"⟩
abbrev cL_append : ByteArray := method_18_code
def yL_append : MethodName := ⟨RL, "append", "(LShipJournal;I)I"⟩
abbrev cL_undo : ByteArray := method_19_code
def yL_undo : MethodName := ⟨RL, "undo", "(LShipJournal;)I"⟩
abbrev cL_lesser : ByteArray := method_20_code
def yL_lesser : MethodName := ⟨RL, "lesser", "(II)I"⟩
abbrev cL_isSound : ByteArray := method_21_code
def yL_isSound : MethodName := ⟨RL, "isSound", "(LShipJournal;)Z"⟩
abbrev cL_replays : ByteArray := method_22_code
def yL_replays : MethodName := ⟨RL, "replays", "(LShipJournal;II)Z"⟩
abbrev cL_snaps : ByteArray := method_23_code
def yL_snaps : MethodName := ⟨RL, "snaps", "(LShipJournal;I)Z"⟩
abbrev cL_links : ByteArray := method_24_code
def yL_links : MethodName := ⟨RL, "links", "(LShipJournal;I)Z"⟩
abbrev cL_carries : ByteArray := method_25_code
def yL_carries : MethodName := ⟨RL, "carries", "(LShipJournal;IIII)Z"⟩
abbrev cL_refuses : ByteArray := method_26_code
def yL_refuses : MethodName := ⟨RL, "refuses", "(LShipJournal;)Z"⟩
abbrev cL_acts : ByteArray := method_27_code
def yL_acts : MethodName := ⟨RL, "acts", "(LShipJournal;I)Z"⟩
abbrev cL_law : ByteArray := code
def yL_law : MethodName := ⟨RL, "law", "([I)Z"⟩
abbrev vwCl : List vw_C := [(RX0, TX0, 8), (RX1, TX1, 7), (RX2, TX2, 4), (RX3, TX3, 7), (RX4, TX4, 5)]
end
section
/-! tables of the system, printed by wip/p27/gen02.py out of the claim's names; every row is held against the words of lw_tbl below -/
/-- the words that any method may hand on -/
def j_gws : List Cond := lw_tbl.filter goodWord
abbrev jMe : Type := Nat × MethodName × ByteArray × Nat × Option FieldType × Nat × List (Nat × Nat × Nat × Nat)
def j_cn : Nat → String := fun k => match k with
  | 0 => RX0
  | 1 => RX1
  | 2 => RX2
  | 3 => RX3
  | 4 => RX4
  | 5 => RX4
  | 6 => RJ6
  | 7 => RJ9
  | _ => RL
def j_mt0 : List jMe := [(0, yX0_init, cX0_init, 1, none, 1, []), (0, yX0_slot, cX0_slot, 1, (some .int), 1, []), (0, yX0_restart, cX0_restart, 2, none, 2, []), (0, yX0_copyFrom, cX0_copyFrom, 2, none, 2, []), (0, yX0_kept, cX0_kept, 1, (some .int), 1, []), (0, yX0_isFull, cX0_isFull, 1, (some .boolean), 1, []), (0, yX0_isKept, cX0_isKept, 2, (some .boolean), 2, []), (0, yX0_add, cX0_add, 7, (some .int), 5, []), (0, yX0_kindAt, cX0_kindAt, 2, (some .int), 2, []), (0, yX0_holdAAt, cX0_holdAAt, 2, (some .int), 2, []), (0, yX0_holdBAt, cX0_holdBAt, 2, (some .int), 2, []), (0, yX0_amountAt, cX0_amountAt, 2, (some .int), 2, []), (0, yX0_spoiledAt, cX0_spoiledAt, 2, (some .int), 2, []), (0, yX0_canBeRead, cX0_canBeRead, 2, (some .boolean), 2, []), (0, yX0_spoilCopy, cX0_spoilCopy, 4, (some .int), 3, []), (0, yX0_repairOrder, cX0_repairOrder, 4, (some .int), 2, [])]
def j_mt1 : List jMe := [(0, yX0_spoiledCopies, cX0_spoiledCopies, 3, (some .int), 1, []), (0, yX0_unreadableOrders, cX0_unreadableOrders, 3, (some .int), 1, []), (0, yX0_firstUnreadable, cX0_firstUnreadable, 3, (some .int), 2, []), (0, yX0_replayOn, cX0_replayOn, 5, (some .boolean), 4, []), (0, yX0_replayOne, cX0_replayOne, 7, none, 3, []), (0, yX0_moveTons, cX0_moveTons, 5, none, 4, []), (0, yX0_swapTons, cX0_swapTons, 4, none, 3, []), (0, yX0_levelTons, cX0_levelTons, 4, none, 3, []), (1, yX1_init, cX1_init, 1, none, 1, []), (1, yX1_restart, cX1_restart, 2, none, 1, []), (1, yX1_copyFrom, cX1_copyFrom, 2, none, 2, []), (1, yX1_keepSnapshot, cX1_keepSnapshot, 1, none, 1, []), (1, yX1_fallBack, cX1_fallBack, 2, (some .int), 1, []), (1, yX1_sumOfTons, cX1_sumOfTons, 3, (some .int), 1, []), (1, yX1_hasHolds, cX1_hasHolds, 3, (some .boolean), 2, []), (2, yX2_init, cX2_init, 1, none, 1, [])]
def j_mt2 : List jMe := [(2, yX2_restart, cX2_restart, 2, none, 2, []), (2, yX2_copyFrom, cX2_copyFrom, 2, none, 2, []), (2, yX2_shipOf, cX2_shipOf, 2, (some (.object "ShipJournal$Ship")), 2, []), (2, yX2_otherThan, cX2_otherThan, 2, (some (.object "ShipJournal$Ship")), 2, []), (2, yX2_shipBehind, cX2_shipBehind, 1, (some (.object "ShipJournal$Ship")), 1, []), (2, yX2_slowerSnapshot, cX2_slowerSnapshot, 1, (some (.object "ShipJournal$Ship")), 1, []), (2, yX2_linksUp, cX2_linksUp, 1, (some .int), 1, []), (2, yX2_replayedBy, cX2_replayedBy, 2, (some .int), 2, []), (2, yX2_replayOrders, cX2_replayOrders, 4, (some .int), 3, []), (2, yX2_canReplay, cX2_canReplay, 2, (some .boolean), 2, []), (2, yX2_takeSnapshot, cX2_takeSnapshot, 3, (some .int), 2, []), (2, yX2_repairCopies, cX2_repairCopies, 3, (some .int), 1, []), (2, yX2_canRepair, cX2_canRepair, 2, (some .boolean), 2, []), (2, yX2_knowsOrder, cX2_knowsOrder, 2, (some .boolean), 2, []), (3, yX3_init, cX3_init, 1, none, 1, []), (3, yX3_isFull, cX3_isFull, 1, (some .boolean), 1, [])]
def j_mt3 : List jMe := [(3, yX3_add, cX3_add, 2, (some .int), 2, []), (3, yX3_clear, cX3_clear, 2, (some .int), 1, []), (3, yX3_byteAt, cX3_byteAt, 2, (some .int), 2, []), (3, yX3_goToStart, cX3_goToStart, 1, none, 1, []), (3, yX3_isAtEnd, cX3_isAtEnd, 1, (some .boolean), 1, []), (3, yX3_findSyntaxError, cX3_findSyntaxError, 2, (some .int), 1, []), (3, yX3_readCommand, cX3_readCommand, 1, (some .boolean), 1, []), (3, yX3_readSign, cX3_readSign, 2, (some .boolean), 2, []), (3, yX3_readFirst, cX3_readFirst, 2, (some .boolean), 2, []), (3, yX3_readSecond, cX3_readSecond, 2, (some .boolean), 2, []), (3, yX3_readDigit, cX3_readDigit, 3, (some .int), 2, []), (3, yX3_readNumber, cX3_readNumber, 3, (some .boolean), 1, []), (3, yX3_isDigit, cX3_isDigit, 1, (some .boolean), 1, []), (4, yX4_init, cX4_init, 2, none, 1, []), (4, yX4_begin, cX4_begin, 3, (some .int), 2, []), (4, yX4_write, cX4_write, 5, (some .int), 5, [])]
def j_mt4 : List jMe := [(4, yX4_spoil, cX4_spoil, 3, (some .int), 3, []), (4, yX4_repair, cX4_repair, 1, (some .int), 1, []), (4, yX4_replay, cX4_replay, 3, (some .int), 3, []), (4, yX4_snapshot, cX4_snapshot, 2, (some .int), 2, []), (4, yX4_crash, cX4_crash, 2, (some .int), 2, []), (4, yX4_link, cX4_link, 3, (some .int), 3, []), (4, yX4_order, cX4_order, 3, (some .int), 3, []), (4, yX4_ship, cX4_ship, 4, (some .int), 3, []), (4, yX4_hold, cX4_hold, 3, (some .int), 3, []), (4, yX4_value, cX4_value, 2, (some .int), 2, []), (4, yX4_ahead, cX4_ahead, 3, (some .int), 2, []), (4, yX4_stop, cX4_stop, 2, (some .int), 2, []), (4, yX4_tonsAt, cX4_tonsAt, 5, (some .int), 3, []), (4, yX4_agree, cX4_agree, 3, (some .int), 1, []), (4, yX4_roomBy, cX4_roomBy, 4, (some .int), 2, []), (4, yX4_slower, cX4_slower, 1, (some .int), 1, [])]
def j_mt5 : List jMe := [(4, yX4_clearText, cX4_clearText, 1, (some .int), 1, []), (4, yX4_append, cX4_append, 2, (some .int), 2, []), (4, yX4_clearText, cX4_clearText, 1, (some .int), 1, []), (4, yX4_carryOut, cX4_carryOut, 3, (some .int), 1, []), (4, yX4_undo, cX4_undo, 1, (some .int), 1, []), (4, yX4_digest, cX4_digest, 4, (some .long), 1, []), (4, yX4_mix, cX4_mix, 4, (some .long), 2, []), (4, yX4_mixOrders, cX4_mixOrders, 7, (some .long), 2, []), (4, yX4_mixShips, cX4_mixShips, 7, (some .long), 2, []), (4, yX4_mixForecasts, cX4_mixForecasts, 6, (some .long), 2, []), (4, yX4_isOrder, cX4_isOrder, 4, (some .boolean), 4, []), (4, yX4_usesHoldB, cX4_usesHoldB, 1, (some .boolean), 1, []), (4, yX4_isHold, cX4_isHold, 1, (some .boolean), 1, []), (4, yX4_requireHold, cX4_requireHold, 1, none, 1, []), (4, yX4_requireShip, cX4_requireShip, 1, none, 1, []), (4, yX4_requireKept, cX4_requireKept, 2, none, 2, [])]
def j_mt6 : List jMe := [(4, yX4_saveState, cX4_saveState, 3, none, 1, []), (4, yX4_obeyCommand, cX4_obeyCommand, 1, (some .boolean), 1, []), (4, yX4_obeyWrite, cX4_obeyWrite, 2, (some .boolean), 2, []), (4, yX4_obeySnapshot, cX4_obeySnapshot, 2, (some .boolean), 1, []), (6, yJ6_bitCount_0f7a4, cJ6_bitCount_0f7a4, 1, (some .int), 1, []), (8, yL_cell, cL_cell, 2, (some .int), 2, []), (8, yL_begin, cL_begin, 3, (some .int), 2, [(0, 5, 6, 15)]), (8, yL_write, cL_write, 6, (some .int), 5, [(0, 9, 10, 15), (0, 9, 15, 21)]), (8, yL_spoil, cL_spoil, 4, (some .int), 3, [(0, 6, 7, 27), (0, 6, 11, 15)]), (8, yL_replay, cL_replay, 4, (some .int), 3, [(0, 6, 7, 27), (0, 6, 11, 15)]), (8, yL_snapshot, cL_snapshot, 3, (some .int), 2, [(0, 5, 6, 27), (0, 5, 10, 21)]), (8, yL_crash, cL_crash, 3, (some .int), 2, [(0, 5, 6, 27)]), (8, yL_link, cL_link, 4, (some .int), 3, [(0, 6, 7, 27), (0, 6, 11, 21)]), (8, yL_order, cL_order, 4, (some .int), 3, [(0, 6, 7, 27), (0, 6, 11, 15)]), (8, yL_ship, cL_ship, 4, (some .int), 3, [(0, 6, 7, 27), (0, 6, 11, 15)]), (8, yL_hold, cL_hold, 4, (some .int), 3, [(0, 6, 7, 27)])]
def j_mt7 : List jMe := [(8, yL_value, cL_value, 3, (some .int), 2, [(0, 5, 6, 15)]), (8, yL_ahead, cL_ahead, 3, (some .int), 2, [(0, 5, 6, 27)]), (8, yL_stop, cL_stop, 3, (some .int), 2, [(0, 5, 6, 27)]), (8, yL_tonsAt, cL_tonsAt, 4, (some .int), 3, [(0, 6, 7, 27)]), (8, yL_roomBy, cL_roomBy, 3, (some .int), 2, [(0, 5, 6, 27)]), (8, yL_append, cL_append, 3, (some .int), 2, [(0, 5, 6, 15), (0, 5, 10, 21)]), (8, yL_undo, cL_undo, 2, (some .int), 1, [(0, 4, 5, 21)]), (8, yL_lesser, cL_lesser, 2, (some .int), 2, []), (8, yL_isSound, cL_isSound, 12, (some .boolean), 1, []), (8, yL_replays, cL_replays, 10, (some .boolean), 3, []), (8, yL_snaps, cL_snaps, 5, (some .boolean), 2, []), (8, yL_links, cL_links, 3, (some .boolean), 2, []), (8, yL_carries, cL_carries, 11, (some .boolean), 5, []), (8, yL_refuses, cL_refuses, 5, (some .boolean), 1, []), (8, yL_acts, cL_acts, 6, (some .boolean), 2, []), (8, yL_law, cL_law, 4, (some .boolean), 1, [])]
def j_mt : List jMe := j_mt0 ++ (j_mt1 ++ (j_mt2 ++ (j_mt3 ++ (j_mt4 ++ (j_mt5 ++ (j_mt6 ++ (j_mt7)))))))
def j_flT : List (Nat × Nat × Nat × Nat) := [(0, 9, 0, 3), (0, 15, 0, 4), (0, 18, 0, 5), (0, 21, 0, 6), (0, 24, 0, 7), (0, 27, 0, 0), (0, 31, 0, 1), (0, 34, 0, 2), (1, 9, 1, 5), (1, 15, 1, 6), (1, 18, 1, 0), (1, 22, 1, 1), (1, 25, 1, 2), (1, 29, 1, 3), (1, 32, 1, 4), (2, 12, 2, 0), (2, 21, 2, 1), (2, 25, 2, 2), (2, 35, 2, 3), (2, 46, 1, 0), (2, 49, 1, 1), (2, 52, 1, 2), (2, 60, 1, 5), (2, 68, 1, 3), (2, 81, 0, 1), (2, 88, 0, 2), (3, 9, 3, 0), (3, 15, 3, 1), (3, 19, 3, 2), (3, 22, 3, 3), (3, 25, 3, 4), (3, 28, 3, 5), (3, 31, 3, 6), (4, 10, 4, 0), (4, 16, 4, 1), (4, 20, 4, 2), (4, 27, 4, 3), (4, 31, 4, 4), (4, 45, 2, 0), (4, 103, 1, 2), (4, 144, 1, 0), (4, 147, 1, 1), (4, 153, 1, 3), (4, 156, 1, 4), (4, 164, 1, 5), (4, 167, 0, 0), (4, 170, 0, 1), (4, 173, 0, 2), (4, 182, 2, 3), (4, 194, 1, 6), (4, 223, 2, 1), (4, 227, 2, 2), (4, 263, 3, 0), (4, 322, 3, 3), (4, 328, 3, 4), (4, 330, 3, 6), (4, 336, 3, 5)]
def j_clT0 : List (Nat × Nat × Nat × Nat) := [(0, 3, 6, 0), (0, 37, 7, 0), (0, 43, 0, 4), (0, 47, 1, 1), (0, 51, 5, 91), (0, 55, 0, 12), (0, 58, 1, 100), (0, 63, 0, 13), (0, 66, 0, 20), (0, 70, 9, 0), (0, 76, 8, 0), (0, 79, 1, 21), (0, 83, 1, 22), (0, 87, 1, 23), (1, 3, 6, 0), (1, 35, 7, 0), (2, 3, 6, 0), (2, 11, 4, 0), (2, 20, 4, 24), (2, 28, 0, 32), (2, 32, 0, 2), (2, 33, 0, 25), (2, 39, 0, 3), (2, 43, 0, 26), (2, 56, 0, 41), (2, 64, 0, 20), (2, 71, 0, 6), (2, 75, 0, 13), (2, 78, 0, 27), (2, 84, 0, 37), (2, 91, 0, 44), (2, 94, 0, 15), (2, 98, 1, 45), (3, 3, 6, 0), (3, 34, 0, 51), (3, 37, 0, 52), (3, 41, 0, 54), (3, 44, 0, 50), (3, 48, 0, 55), (3, 52, 0, 56)]
def j_clT1 : List (Nat × Nat × Nat × Nat) := [(3, 55, 0, 59), (3, 58, 0, 57), (3, 61, 0, 58), (3, 64, 1, 60), (4, 1, 6, 0), (4, 9, 3, 31), (4, 26, 4, 46), (4, 42, 0, 96), (4, 49, 0, 4), (4, 55, 0, 32), (4, 59, 1, 90), (4, 65, 0, 5), (4, 74, 0, 7), (4, 78, 0, 95), (4, 83, 0, 14), (4, 87, 0, 43), (4, 90, 1, 94), (4, 95, 0, 34), (4, 99, 0, 40), (4, 111, 0, 42), (4, 115, 0, 28), (4, 120, 0, 38), (4, 123, 0, 8), (4, 127, 0, 9), (4, 130, 0, 10), (4, 133, 0, 11), (4, 136, 0, 12), (4, 139, 0, 39), (4, 150, 0, 29), (4, 161, 1, 93), (4, 176, 0, 16), (4, 179, 0, 17), (4, 187, 0, 18), (4, 190, 0, 37), (4, 197, 7, 0), (4, 203, 0, 19), (4, 207, 0, 36), (4, 210, 0, 35), (4, 214, 0, 30), (4, 218, 9, 0)]
def j_clT2 : List (Nat × Nat × Nat × Nat) := [(4, 232, 0, 47), (4, 235, 0, 48), (4, 237, 0, 49), (4, 240, 0, 53), (4, 243, 0, 51), (4, 246, 0, 52), (4, 249, 0, 54), (4, 252, 0, 97), (4, 257, 0, 33), (4, 266, 1, 86), (4, 270, 0, 73), (4, 273, 0, 87), (4, 277, 0, 88), (4, 280, 0, 89), (4, 285, 0, 70), (4, 288, 0, 71), (4, 291, 0, 72), (4, 294, 0, 74), (4, 297, 0, 77), (4, 300, 0, 76), (4, 303, 1, 92), (4, 307, 1, 91), (4, 317, 0, 6), (4, 325, 0, 98), (4, 333, 0, 99), (8, 9, 0, 62), (8, 17, 0, 63), (8, 23, 0, 64), (8, 29, 0, 66), (8, 32, 0, 67), (8, 35, 0, 68), (8, 38, 0, 69), (8, 42, 0, 70), (8, 45, 0, 71), (8, 48, 0, 72), (8, 51, 0, 73), (8, 54, 0, 74), (8, 57, 0, 75), (8, 60, 0, 76), (8, 63, 0, 78)]
def j_clT3 : List (Nat × Nat × Nat × Nat) := [(8, 66, 0, 81), (8, 69, 0, 84), (8, 73, 2, 112), (8, 78, 2, 110), (8, 81, 1, 119), (8, 84, 2, 109), (8, 86, 2, 114), (8, 88, 2, 115), (8, 90, 2, 111), (8, 92, 2, 113), (8, 94, 2, 116), (8, 96, 0, 79), (8, 99, 0, 77), (8, 102, 2, 105), (8, 104, 2, 118), (8, 107, 2, 107), (8, 109, 2, 106), (8, 111, 2, 108), (8, 114, 0, 82), (8, 117, 0, 83), (8, 120, 2, 117), (8, 122, 2, 103), (8, 125, 0, 85), (8, 129, 2, 102), (8, 131, 2, 104), (8, 133, 1, 121), (8, 137, 1, 122), (8, 141, 0, 65), (8, 144, 1, 123), (8, 147, 1, 124), (8, 151, 3, 61), (8, 152, 1, 120), (8, 156, 1, 101), (8, 160, 1, 126), (8, 163, 1, 125)]
def j_clT : List (Nat × Nat × Nat × Nat) := j_clT0 ++ (j_clT1 ++ (j_clT2 ++ (j_clT3)))
def j_klT : List (Nat × Nat × String) := [(2, 9, RX0), (2, 18, RX1), (4, 7, RX2), (4, 24, RX3), (4, 35, "java/lang/IllegalArgumentException"), (4, 69, "java/lang/IllegalStateException"), (4, 310, "java/lang/IndexOutOfBoundsException"), (8, 10, RX4), (8, 15, "java/lang/IllegalArgumentException"), (8, 21, "java/lang/IllegalStateException"), (8, 27, "java/lang/IndexOutOfBoundsException")]
def j_olT : List (Nat × Nat × Nat) := [(2, 9, 0), (2, 18, 1), (4, 7, 2), (4, 24, 3), (8, 10, 4)]
def j_kiT : List (Nat × Nat × Int32) := [(6, 265, 1431655765), (6, 266, 858993459), (6, 267, 252645135), (8, 7, 15485803), (8, 8, 2147483647)]
def j_kjT : List (Nat × Nat × Int64) := [(4, 261, 3797), (4, 283, 31)]
def j_tlT : List (Nat × Nat × String × Nat) := [(4, 35, "java/lang/IllegalArgumentException", 39), (4, 69, "java/lang/IllegalStateException", 73), (4, 310, "java/lang/IndexOutOfBoundsException", 314)]
def j_srT : List (Nat × Nat × String) := [(5, 37, "places out of range"), (5, 63, "no such order"), (5, 71, "the ring is full"), (5, 81, "no such copy"), (5, 93, "orders out of range"), (5, 109, "the link is lost"), (5, 118, "the link is so already"), (5, 142, "no such value of an order"), (5, 159, "no such value of a ship"), (5, 185, "no such value"), (5, 230, "no byte of a text"), (5, 233, "the text is full"), (5, 255, "no saved state"), (5, 312, "no such hold"), (5, 315, "no such ship"), (5, 320, "no such order is kept")]
def j_nsT : List (Nat × Nat × MethodName) := [(2, 11, yX0_init), (2, 20, yX1_init), (4, 26, yX3_init), (0, 51, yX4_usesHoldB)]
/-- names of the methods by number, for reading: 0 yX0_init, 1 yX0_slot, 2 yX0_restart, 3 yX0_copyFrom, 4 yX0_kept, 5 yX0_isFull, 6 yX0_isKept, 7 yX0_add, 8 yX0_kindAt, 9 yX0_holdAAt, 10 yX0_holdBAt, 11 yX0_amountAt, 12 yX0_spoiledAt, 13 yX0_canBeRead, 14 yX0_spoilCopy, 15 yX0_repairOrder, 16 yX0_spoiledCopies, 17 yX0_unreadableOrders, 18 yX0_firstUnreadable, 19 yX0_replayOn, 20 yX0_replayOne, 21 yX0_moveTons, 22 yX0_swapTons, 23 yX0_levelTons, 24 yX1_init, 25 yX1_restart, 26 yX1_copyFrom, 27 yX1_keepSnapshot, 28 yX1_fallBack, 29 yX1_sumOfTons, 30 yX1_hasHolds, 31 yX2_init, 32 yX2_restart, 33 yX2_copyFrom, 34 yX2_shipOf, 35 yX2_otherThan, 36 yX2_shipBehind, 37 yX2_slowerSnapshot, 38 yX2_linksUp, 39 yX2_replayedBy, 40 yX2_replayOrders, 41 yX2_canReplay, 42 yX2_takeSnapshot, 43 yX2_repairCopies, 44 yX2_canRepair, 45 yX2_knowsOrder, 46 yX3_init, 47 yX3_isFull, 48 yX3_add, 49 yX3_clear, 50 yX3_byteAt, 51 yX3_goToStart, 52 yX3_isAtEnd, 53 yX3_findSyntaxError, 54 yX3_readCommand, 55 yX3_readSign, 56 yX3_readFirst, 57 yX3_readSecond, 58 yX3_readDigit, 59 yX3_readNumber, 60 yX3_isDigit, 61 yX4_init, 62 yX4_begin, 63 yX4_write, 64 yX4_spoil, 65 yX4_repair, 66 yX4_replay, 67 yX4_snapshot, 68 yX4_crash, 69 yX4_link, 70 yX4_order, 71 yX4_ship, 72 yX4_hold, 73 yX4_value, 74 yX4_ahead, 75 yX4_stop, 76 yX4_tonsAt, 77 yX4_agree, 78 yX4_roomBy, 79 yX4_slower, 82 yX4_clearText, 81 yX4_append, 83 yX4_carryOut, 84 yX4_undo, 85 yX4_digest, 86 yX4_mix, 87 yX4_mixOrders, 88 yX4_mixShips, 89 yX4_mixForecasts, 90 yX4_isOrder, 91 yX4_usesHoldB, 92 yX4_isHold, 93 yX4_requireHold, 94 yX4_requireShip, 95 yX4_requireKept, 96 yX4_saveState, 97 yX4_obeyCommand, 98 yX4_obeyWrite, 99 yX4_obeySnapshot, 100 yJ6_bitCount_0f7a4, 101 yL_cell, 102 yL_begin, 103 yL_write, 104 yL_spoil, 105 yL_replay, 106 yL_snapshot, 107 yL_crash, 108 yL_link, 109 yL_order, 110 yL_ship, 111 yL_hold, 112 yL_value, 113 yL_ahead, 114 yL_stop, 115 yL_tonsAt, 116 yL_roomBy, 117 yL_append, 118 yL_undo, 119 yL_lesser, 120 yL_isSound, 121 yL_replays, 122 yL_snaps, 123 yL_links, 124 yL_carries, 125 yL_refuses, 126 yL_acts, 127 yL_law -/
theorem j_fam {α : Type} {l : List α} {f : α → List Cond} {ps : List Nat} (hp : l.flatMap f = ps.filterMap (fun i => lw_tbl[i]?)) (hg : l.all (fun t => (f t).all goodWord) = true) : ∀ t ∈ l, ∀ w ∈ f t, w ∈ j_gws := by
  intro t ht w hw
  have h1 : w ∈ ps.filterMap (fun i => lw_tbl[i]?) := hp ▸ List.mem_flatMap.mpr ⟨t, ht, hw⟩
  obtain ⟨i, -, hi⟩ := List.mem_filterMap.mp h1
  exact List.mem_filter.mpr ⟨List.mem_of_getElem? hi, List.all_eq_true.mp (List.all_eq_true.mp hg t ht) w hw⟩
theorem j_famM {α : Type} {l : List α} {f : α → Cond} {ps : List Nat} (hp : l.map f = ps.filterMap (fun i => lw_tbl[i]?)) : ∀ t ∈ l, f t ∈ lw_tbl := by
  intro t ht
  have h1 : f t ∈ ps.filterMap (fun i => lw_tbl[i]?) := hp ▸ List.mem_map.mpr ⟨t, ht, rfl⟩
  obtain ⟨i, -, hi⟩ := List.mem_filterMap.mp h1
  exact List.mem_of_getElem? hi
def j_T : Nat → u_T := fun k => match k with
  | 0 => TX0
  | 1 => TX1
  | 2 => TX2
  | 3 => TX3
  | 4 => TX4
  | _ => TX5
def j_ty : Nat → Nat → FieldType := fun k => match k with
  | 0 => tyX0
  | 1 => tyX1
  | 2 => tyX2
  | 3 => tyX3
  | 4 => tyX4
  | _ => tyX5
def j_nf : Nat → Nat := fun k => match k with
  | 0 => 8
  | 1 => 7
  | 2 => 4
  | 3 => 7
  | 4 => 5
  | _ => 0
theorem j_cl_at : ∀ k, k < 5 → vwCl[k]? = some (j_cn k, j_T k, j_nf k) := by
  intro k hk
  rcases (show k = 0 ∨ k = 1 ∨ k = 2 ∨ k = 3 ∨ k = 4 by omega) with rfl | rfl | rfl | rfl | rfl <;> rfl
def j_wF (t : Nat × Nat × Nat × Nat) : List Cond := [.fieldLink (j_cn t.1) t.2.1 (j_T t.2.2.1 t.2.2.2).1 (j_T t.2.2.1 t.2.2.2).2.1 (j_T t.2.2.1 t.2.2.2).2.2.1]
def j_wM (me : jMe) : List Cond := match me.2.2.2.2.2.2 with
  | [] => [.code me.2.1 me.2.2.1 me.2.2.2.1 me.2.2.2.2.1]
  | hh => [.codeWith me.2.1 me.2.2.1 me.2.2.2.1 me.2.2.2.2.1 hh]
def j_wC (t : Nat × Nat × Nat × Nat) : List Cond := match t.2.2.1, j_mt[t.2.2.2]? with
  | 0, some me => [.methodLink (j_cn t.1) t.2.1 me.2.1, .instanceMethod me.2.1, .selects me.2.1.cls me.2.1 me.2.1]
  | 1, some me => [.methodLink (j_cn t.1) t.2.1 me.2.1, .static me.2.1]
  | 2, some me => [.methodLink (j_cn t.1) t.2.1 me.2.1, .static me.2.1]
  | 3, some me => [.methodLink (j_cn t.1) t.2.1 me.2.1, .instanceMethod me.2.1]
  | 4, some me => [.instanceMethod me.2.1]
  | 5, some me => [.static me.2.1]
  | 6, some _ => [.methodLink (j_cn t.1) t.2.1 objectInit, .instanceMethod objectInit, .code objectInit ⟨#[0xb1]⟩ 1 none]
  | 8, some _ => [.methodLink (j_cn t.1) t.2.1 Lib.Math.max.name, .static Lib.Math.max.name, .initialized "java/lang/Math", .code Lib.Math.max.name Lib.Math.max.code 2 (some .int)]
  | 9, some _ => [.methodLink (j_cn t.1) t.2.1 Lib.Math.min.name, .static Lib.Math.min.name, .initialized "java/lang/Math", .code Lib.Math.min.name Lib.Math.min.code 2 (some .int)]
  | _, _ => [.methodLink (j_cn t.1) t.2.1 arraycopyName, .native arraycopyName, .static arraycopyName, .initialized "java/lang/System"]
def j_wK (t : Nat × Nat × String) : List Cond := [.classLink (j_cn t.1) t.2.1 t.2.2]
def j_wO (t : Nat × Nat × Nat) : List Cond := [.classLink (j_cn t.1) t.2.1 (j_cn t.2.2), .instantiable (j_cn t.2.2) (j_nf t.2.2), .initialized (j_cn t.2.2)]
def j_wT (t : Nat × Nat × String × Nat) : List Cond := [.classLink (j_cn t.1) t.2.1 t.2.2.1, .initialized t.2.2.1]
theorem j_fF_p : (j_flT).flatMap j_wF = ([60, 61, 62, 63, 64, 52, 54, 57, 103, 106, 89, 92, 95, 98, 101, 135, 137, 139, 141, 90, 93, 97, 104, 99, 55, 58, 159, 161, 162, 163, 165, 167, 169, 187, 188, 189, 190, 191, 136, 96, 91, 94, 100, 102, 105, 53, 56, 59, 142, 107, 138, 140, 160, 164, 166, 170, 168] : List Nat).filterMap (fun i => lw_tbl[i]?) := by decide +kernel
theorem j_fF_g : (j_flT).all (fun t => (j_wF t).all goodWord) = true := by decide +kernel
theorem j_fF_i : ∀ t ∈ j_flT, ∀ w ∈ j_wF t, w ∈ j_gws := j_fam j_fF_p j_fF_g
theorem j_fM0_p : (j_mt0).flatMap j_wM = ([50, 232, 130, 389, 276, 588, 452, 594, 457, 461, 465, 469, 229, 225, 607, 711] : List Nat).filterMap (fun i => lw_tbl[i]?) := by decide +kernel
theorem j_fM0_g : (j_mt0).all (fun t => (j_wM t).all goodWord) = true := by decide +kernel
theorem j_fM0_i : ∀ t ∈ j_mt0, ∀ w ∈ j_wM t, w ∈ j_gws := j_fam j_fM0_p j_fM0_g
theorem j_fM1_p : (j_mt1).flatMap j_wM = ([280, 290, 486, 221, 236, 245, 248, 251, 87, 134, 394, 642, 654, 433, 255, 44] : List Nat).filterMap (fun i => lw_tbl[i]?) := by decide +kernel
theorem j_fM1_g : (j_mt1).all (fun t => (j_wM t).all goodWord) = true := by decide +kernel
theorem j_fM1_i : ∀ t ∈ j_mt1, ∀ w ∈ j_wM t, w ∈ j_gws := j_fam j_fM1_p j_fM1_g
theorem j_fM2_p : (j_mt2).flatMap j_wM = ([126, 385, 429, 214, 210, 504, 666, 474, 619, 623, 638, 700, 704, 707, 157, 678] : List Nat).filterMap (fun i => lw_tbl[i]?) := by decide +kernel
theorem j_fM2_g : (j_mt2).all (fun t => (j_wM t).all goodWord) = true := by decide +kernel
theorem j_fM2_i : ∀ t ∈ j_mt2, ∀ w ∈ j_wM t, w ∈ j_gws := j_fam j_fM2_p j_fM2_g
theorem j_fM3_p : (j_mt3).flatMap j_wM = ([683, 725, 749, 737, 741, 733, 745, 753, 757, 772, 761, 765, 768, 36, 564, 577] : List Nat).filterMap (fun i => lw_tbl[i]?) := by decide +kernel
theorem j_fM3_g : (j_mt3).all (fun t => (j_wM t).all goodWord) = true := by decide +kernel
theorem j_fM3_i : ∀ t ∈ j_mt3, ∀ w ∈ j_wM t, w ∈ j_gws := j_fam j_fM3_p j_fM3_g
theorem j_fM4_p : (j_mt4).flatMap j_wM = ([602, 696, 614, 633, 650, 661, 444, 406, 511, 272, 518, 482, 493, 206, 525, 259] : List Nat).filterMap (fun i => lw_tbl[i]?) := by decide +kernel
theorem j_fM4_g : (j_mt4).all (fun t => (j_wM t).all goodWord) = true := by decide +kernel
theorem j_fM4_i : ∀ t ∈ j_mt4, ∀ w ∈ j_wM t, w ∈ j_gws := j_fam j_fM4_p j_fM4_g
theorem j_fM5_p : (j_mt5).flatMap j_wM = ([721, 673, 721, 729, 365, 533, 537, 543, 548, 554, 580, 583, 499, 496, 409, 448] : List Nat).filterMap (fun i => lw_tbl[i]?) := by decide +kernel
theorem j_fM5_g : (j_mt5).all (fun t => (j_wM t).all goodWord) = true := by decide +kernel
theorem j_fM5_i : ∀ t ∈ j_mt5, ∀ w ∈ j_wM t, w ∈ j_gws := j_fam j_fM5_p j_fM5_g
theorem j_fM6_p : (j_mt6).flatMap j_wM = ([569, 779, 783, 787, 283, 262, 560, 573, 598, 610, 629, 646, 657, 440, 401, 507] : List Nat).filterMap (fun i => lw_tbl[i]?) := by decide +kernel
theorem j_fM6_g : (j_mt6).all (fun t => (j_wM t).all goodWord) = true := by decide +kernel
theorem j_fM6_i : ∀ t ∈ j_mt6, ∀ w ∈ j_wM t, w ∈ j_gws := j_fam j_fM6_p j_fM6_g
theorem j_fI_p : ((List.range 9)).flatMap (fun k => [Cond.initialized (j_cn k)]) = ([20, 21, 19, 22, 18, 18, 28, 30, 17] : List Nat).filterMap (fun i => lw_tbl[i]?) := by decide +kernel
theorem j_fI_g : ((List.range 9)).all (fun t => ((fun k => [Cond.initialized (j_cn k)]) t).all goodWord) = true := by decide +kernel
theorem j_fI_i : ∀ t ∈ (List.range 9), ∀ w ∈ (fun k => [Cond.initialized (j_cn k)]) t, w ∈ j_gws := j_fam j_fI_p j_fI_g
theorem j_fC0_p : (j_clT0).flatMap j_wC = ([51, 38, 39, 390, 217, 216, 27, 589, 274, 275, 230, 231, 582, 226, 227, 228, 281, 282, 222, 223, 224, 233, 234, 235, 237, 238, 30, 239, 240, 241, 30, 242, 243, 244, 246, 247, 249, 250, 88, 38, 39, 395, 217, 216, 27, 45, 38, 39, 49, 86, 123, 124, 125, 127, 128, 129, 131, 132, 133, 386, 387, 388, 391, 392, 393, 620, 622, 6, 626, 234, 235, 624, 450, 451, 625, 223, 224, 639, 640, 641, 643, 502, 503, 701, 703, 7, 708, 709, 710, 705, 706, 158, 38, 39, 734, 735, 736, 738, 739, 740, 742, 743, 744, 746, 748, 8, 750, 752, 9, 754, 756, 10] : List Nat).filterMap (fun i => lw_tbl[i]?) := by decide +kernel
theorem j_fC0_g : (j_clT0).all (fun t => (j_wC t).all goodWord) = true := by decide +kernel
theorem j_fC0_i : ∀ t ∈ j_clT0, ∀ w ∈ j_wC t, w ∈ j_gws := j_fam j_fC0_p j_fC0_g
theorem j_fC1_p : (j_clT1).flatMap j_wC = ([762, 764, 12, 769, 771, 13, 758, 760, 11, 766, 767, 37, 38, 39, 42, 43, 156, 566, 568, 5, 273, 274, 275, 570, 124, 125, 578, 579, 585, 586, 587, 591, 592, 593, 445, 447, 1, 604, 605, 606, 697, 698, 699, 407, 408, 426, 427, 428, 616, 617, 618, 635, 636, 637, 651, 652, 653, 663, 664, 665, 454, 455, 456, 458, 459, 460, 462, 463, 464, 466, 467, 468, 470, 227, 228, 471, 472, 473, 430, 431, 432, 494, 495, 277, 278, 279, 287, 288, 289, 483, 484, 485, 501, 502, 503, 215, 217, 216, 27, 218, 219, 220, 207, 208, 209, 211, 212, 213, 252, 253, 254, 526, 238, 30, 239] : List Nat).filterMap (fun i => lw_tbl[i]?) := by decide +kernel
theorem j_fC1_g : (j_clT1).all (fun t => (j_wC t).all goodWord) = true := by decide +kernel
theorem j_fC1_i : ∀ t ∈ j_clT1, ∀ w ∈ j_wC t, w ∈ j_gws := j_fam j_fC1_p j_fC1_g
theorem j_fC2_p : (j_clT2).flatMap j_wC = ([675, 676, 677, 680, 681, 682, 722, 723, 724, 730, 731, 732, 773, 735, 736, 774, 739, 740, 775, 743, 744, 776, 778, 14, 382, 383, 384, 535, 536, 539, 270, 271, 540, 542, 2, 545, 547, 3, 551, 553, 4, 544, 442, 443, 549, 404, 405, 550, 509, 510, 555, 516, 517, 556, 204, 205, 557, 491, 492, 497, 498, 581, 582, 449, 450, 451, 780, 782, 15, 784, 786, 16, 561, 562, 563, 574, 575, 576, 599, 600, 601, 611, 612, 613, 630, 631, 632, 647, 648, 649, 658, 659, 660, 441, 442, 443, 403, 404, 405, 508, 509, 510, 269, 270, 271, 515, 516, 517, 479, 480, 481, 490, 491, 492, 522, 523, 524] : List Nat).filterMap (fun i => lw_tbl[i]?) := by decide +kernel
theorem j_fC2_g : (j_clT2).all (fun t => (j_wC t).all goodWord) = true := by decide +kernel
theorem j_fC2_i : ∀ t ∈ j_clT2, ∀ w ∈ j_wC t, w ∈ j_gws := j_fam j_fC2_p j_fC2_g
theorem j_fC3_p : (j_clT3).flatMap j_wC = ([670, 671, 672, 362, 363, 364, 265, 266, 399, 400, 435, 436, 438, 439, 476, 477, 487, 488, 505, 506, 512, 513, 519, 520, 256, 257, 258, 203, 204, 205, 608, 609, 358, 359, 644, 645, 627, 628, 655, 656, 718, 719, 720, 726, 727, 728, 667, 668, 571, 572, 530, 531, 532, 558, 559, 596, 597, 687, 688, 690, 691, 693, 694, 695, 712, 713, 715, 716, 34, 35, 396, 397, 260, 261, 684, 685, 527, 528] : List Nat).filterMap (fun i => lw_tbl[i]?) := by decide +kernel
theorem j_fC3_g : (j_clT3).all (fun t => (j_wC t).all goodWord) = true := by decide +kernel
theorem j_fC3_i : ∀ t ∈ j_clT3, ∀ w ∈ j_wC t, w ∈ j_gws := j_fam j_fC3_p j_fC3_g
theorem j_fK_p : (j_klT).flatMap j_wK = ([46, 83, 40, 153, 291, 366, 410, 32, 268, 361, 402] : List Nat).filterMap (fun i => lw_tbl[i]?) := by decide +kernel
theorem j_fK_g : (j_klT).all (fun t => (j_wK t).all goodWord) = true := by decide +kernel
theorem j_fK_i : ∀ t ∈ j_klT, ∀ w ∈ j_wK t, w ∈ j_gws := j_fam j_fK_p j_fK_g
theorem j_fO_p : (j_olT).flatMap j_wO = ([46, 47, 20, 83, 84, 21, 40, 41, 19, 153, 154, 22, 32, 33, 18] : List Nat).filterMap (fun i => lw_tbl[i]?) := by decide +kernel
theorem j_fO_g : (j_olT).all (fun t => (j_wO t).all goodWord) = true := by decide +kernel
theorem j_fO_i : ∀ t ∈ j_olT, ∀ w ∈ j_wO t, w ∈ j_gws := j_fam j_fO_p j_fO_g
theorem j_fT_p : (j_tlT).flatMap j_wT = ([291, 29, 366, 26, 410, 31] : List Nat).filterMap (fun i => lw_tbl[i]?) := by decide +kernel
theorem j_fT_g : (j_tlT).all (fun t => (j_wT t).all goodWord) = true := by decide +kernel
theorem j_fT_i : ∀ t ∈ j_tlT, ∀ w ∈ j_wT t, w ∈ j_gws := j_fam j_fT_p j_fT_g
theorem j_fKI_p : (j_kiT).flatMap (fun t => [Cond.constant (j_cn t.1) t.2.1 t.2.2]) = ([284, 285, 286, 263, 264] : List Nat).filterMap (fun i => lw_tbl[i]?) := by decide +kernel
theorem j_fKI_g : (j_kiT).all (fun t => ((fun t => [Cond.constant (j_cn t.1) t.2.1 t.2.2]) t).all goodWord) = true := by decide +kernel
theorem j_fKI_i : ∀ t ∈ j_kiT, ∀ w ∈ (fun t => [Cond.constant (j_cn t.1) t.2.1 t.2.2]) t, w ∈ j_gws := j_fam j_fKI_p j_fKI_g
theorem j_fKJ_p : (j_kjT).flatMap (fun t => [Cond.constantLong (j_cn t.1) t.2.1 t.2.2]) = ([534, 538] : List Nat).filterMap (fun i => lw_tbl[i]?) := by decide +kernel
theorem j_fKJ_g : (j_kjT).all (fun t => ((fun t => [Cond.constantLong (j_cn t.1) t.2.1 t.2.2]) t).all goodWord) = true := by decide +kernel
theorem j_fKJ_i : ∀ t ∈ j_kjT, ∀ w ∈ (fun t => [Cond.constantLong (j_cn t.1) t.2.1 t.2.2]) t, w ∈ j_gws := j_fam j_fKJ_p j_fKJ_g
theorem j_fA_p : (([.int, .byte] : List FieldType)).flatMap (fun t => [Cond.arrayClass t]) = ([82, 186] : List Nat).filterMap (fun i => lw_tbl[i]?) := by decide +kernel
theorem j_fA_g : (([.int, .byte] : List FieldType)).all (fun t => ((fun t => [Cond.arrayClass t]) t).all goodWord) = true := by decide +kernel
theorem j_fA_i : ∀ t ∈ ([.int, .byte] : List FieldType), ∀ w ∈ (fun t => [Cond.arrayClass t]) t, w ∈ j_gws := j_fam j_fA_p j_fA_g
theorem j_fS_p : j_srT.map (fun t => Cond.stringRef (j_cn t.1) t.2.1 t.2.2) = ([565, 584, 590, 603, 615, 634, 662, 475, 434, 332, 674, 679, 375, 500, 419, 453] : List Nat).filterMap (fun i => lw_tbl[i]?) := by decide +kernel
theorem j_fN_p : j_nsT.map (fun t => Cond.methodLinkNest (j_cn t.1) t.2.1 t.2.2 "ShipJournal") = ([48, 85, 155, 595] : List Nat).filterMap (fun i => lw_tbl[i]?) := by decide +kernel
def j_pn (y : MethodName) : Bool := plainName y.cls && (y.cls != "java/lang/invoke/MethodHandle" && y.cls != "java/lang/invoke/VarHandle")
def j_np (y : MethodName) : Option Nat := (parseMethodDescriptor y.desc).map (fun d => d.parameters.length)
def j_okM (me : jMe) : Bool := decide (me.2.2.2.1 ≤ 12) && j_pn me.2.1 && decide (me.1 < 9) && decide (j_cn me.1 = me.2.1.cls)
def j_okC (t : Nat × Nat × Nat × Nat) : Bool := match t.2.2.1, j_mt[t.2.2.2]? with
  | 0, some me => decide (me.2.2.2.2.2.1 ≠ 0) && decide (j_np me.2.1 = some (me.2.2.2.2.2.1 - 1)) && me.2.2.2.2.2.2.isEmpty
  | 1, some me => decide (j_np me.2.1 = some me.2.2.2.2.2.1) && me.2.2.2.2.2.2.isEmpty
  | 2, some me => decide (j_np me.2.1 = some me.2.2.2.2.2.1) && !me.2.2.2.2.2.2.isEmpty
  | 3, some me => (me.2.1.name == "<init>") && decide (me.2.2.2.2.2.1 ≠ 0) && decide (j_np me.2.1 = some (me.2.2.2.2.2.1 - 1)) && me.2.2.2.2.2.2.isEmpty && (me.2.2.2.2.1 == none)
  | 4, some me => decide ((t.1, t.2.1, me.2.1) ∈ j_nsT) && (me.2.1.name == "<init>") && decide (me.2.2.2.2.2.1 ≠ 0) && decide (j_np me.2.1 = some (me.2.2.2.2.2.1 - 1)) && me.2.2.2.2.2.2.isEmpty && (me.2.2.2.2.1 == none)
  | 5, some me => decide ((t.1, t.2.1, me.2.1) ∈ j_nsT) && decide (j_np me.2.1 = some me.2.2.2.2.2.1) && me.2.2.2.2.2.2.isEmpty
  | 6, some _ => true
  | 7, some _ => true
  | 8, some _ => true
  | 9, some _ => true
  | _, _ => false
def j_exN : List String := ["java/lang/RuntimeException", "java/lang/Exception"]
theorem j_okF_all : j_flT.all (fun t => decide (t.2.2.1 < 5) && decide (t.2.2.2 < j_nf t.2.2.1)) = true := by decide +kernel
theorem j_okM_all : j_mt.all j_okM = true := by decide +kernel
theorem j_okC_all : j_clT.all j_okC = true := by decide +kernel
theorem j_okO_all : j_olT.all (fun t => decide (t.2.2 < 5)) = true := by decide +kernel
theorem j_okT_all : j_tlT.all (fun t => Bundle.fit t.2.2.1) = true := by decide +kernel
end
section
/-! the law's large methods among the words -/
def j_mtL7 : List jMe := j_mt7.dropLast
set_option maxRecDepth 1000000 in
theorem j_fM7_p : (j_mtL7).flatMap j_wM = ([267, 514, 478, 489, 521, 669, 360, 437, 398, 689, 692, 714, 717, 529, 686] : List Nat).filterMap (fun i => lw_tbl[i]?) := rfl
theorem j_fM7_g : (j_mtL7).all (fun t => (j_wM t).all goodWord) = true := by decide +kernel
theorem j_fM7_i : ∀ t ∈ j_mtL7, ∀ w ∈ j_wM t, w ∈ j_gws := j_fam j_fM7_p j_fM7_g
end
section
/-! THE LOGICAL MACHINE: the bytecode run over cells by their number of making, as a function -/
abbrev jM : Type := Nat → va_E
abbrev jL : Type := List (Option Value)
/-- cells made so far; nothing but them made so far; cells and slots made in this method -/
abbrev jH : Type := Nat × Bool × Nat × Nat
abbrev jR : Type := (Option Value ⊕ String) × jM × jH
abbrev jX : Type := Nat × (Nat → Int32)
/-- what stands where no cell is -/
def j_nil : va_E := .inr (1000, [])
-- shapes of the stack
def j_i {α : Type} (st : List Value) (K : Int32 → List Value → Option α) : Option α := match st with
  | .int x :: r => K x r
  | _ => none
def j_ii {α : Type} (st : List Value) (K : Int32 → Int32 → List Value → Option α) : Option α := match st with
  | .int y :: .int x :: r => K x y r
  | _ => none
def j_l {α : Type} (st : List Value) (K : Int64 → List Value → Option α) : Option α := match st with
  | .long x :: r => K x r
  | _ => none
def j_ll {α : Type} (st : List Value) (K : Int64 → Int64 → List Value → Option α) : Option α := match st with
  | .long y :: .long x :: r => K x y r
  | _ => none
def j_d {α : Type} (st : List Value) (K : UInt64 → List Value → Option α) : Option α := match st with
  | .double x :: r => K x r
  | _ => none
def j_dd {α : Type} (st : List Value) (K : UInt64 → UInt64 → List Value → Option α) : Option α := match st with
  | .double y :: .double x :: r => K x y r
  | _ => none
def j_r {α : Type} (st : List Value) (K : Nat → List Value → Option α) : Option α := match st with
  | .ref a :: r => K a r
  | _ => none
def j_rr {α : Type} (st : List Value) (K : Nat → Nat → List Value → Option α) : Option α := match st with
  | .ref b :: .ref a :: r => K a b r
  | _ => none
def j_v {α : Type} (st : List Value) (K : Value → List Value → Option α) : Option α := match st with
  | v :: r => K v r
  | _ => none
def j_vv {α : Type} (st : List Value) (K : Value → Value → List Value → Option α) : Option α := match st with
  | w :: v :: r => K v w r
  | _ => none
def j_vr {α : Type} (st : List Value) (K : Value → Nat → List Value → Option α) : Option α := match st with
  | v :: .ref a :: r => K v a r
  | _ => none
def j_ir {α : Type} (st : List Value) (K : Int32 → Nat → List Value → Option α) : Option α := match st with
  | .int i :: .ref a :: r => K i a r
  | _ => none
def j_iir {α : Type} (st : List Value) (K : Int32 → Int32 → Nat → List Value → Option α) : Option α := match st with
  | .int x :: .int i :: .ref a :: r => K x i a r
  | _ => none
def j_lir {α : Type} (st : List Value) (K : Int64 → Int32 → Nat → List Value → Option α) : Option α := match st with
  | .long x :: .int i :: .ref a :: r => K x i a r
  | _ => none
def j_rir {α : Type} (st : List Value) (K : Nat → Int32 → Nat → List Value → Option α) : Option α := match st with
  | .ref v :: .int i :: .ref a :: r => K v i a r
  | _ => none
def j_cp {α : Type} (st : List Value) (K : Int32 → Int32 → Nat → Int32 → Nat → List Value → Option α) : Option α := match st with
  | .int n :: .int dp :: .ref d :: .int sp :: .ref s :: r => K n dp d sp s r
  | _ => none
-- cells
def j_ob {α : Type} (e : va_E) (K : Nat → List Value → Option α) : Option α := match e with
  | .inr (c, fs) => K c fs
  | _ => none
def j_aI {α : Type} (e : va_E) (K : Nat → Nat → (Nat → Int32) → Option α) : Option α := match e with
  | .inl (t, z, .inl f) => K t z f
  | _ => none
def j_aE {α : Type} (e : va_E) (K : Nat → Nat → (Nat → Int32) → Option α) (z : Option α) : Option α := match e with
  | .inl (t, y, .inl f) => K t y f
  | _ => z
def j_aJ {α : Type} (e : va_E) (K : Nat → Nat → (Nat → Int64) → Option α) : Option α := match e with
  | .inl (t, z, .inr (.inl f)) => K t z f
  | _ => none
def j_aQ {α : Type} (e : va_E) (K : Nat → Nat → (Nat → Option Nat) → Option α) : Option α := match e with
  | .inl (t, z, .inr (.inr (.inr (.inr f)))) => K t z f
  | _ => none
-- locals
def j_gI {α : Type} (ls : jL) (k : Nat) (K : Int32 → Option α) : Option α := match ls[k]? with
  | some (some (.int x)) => K x
  | _ => none
def j_gJ {α : Type} (ls : jL) (k : Nat) (K : Int64 → Option α) : Option α := match ls[k]? with
  | some (some (.long x)) => K x
  | _ => none
def j_gD {α : Type} (ls : jL) (k : Nat) (K : UInt64 → Option α) : Option α := match ls[k]? with
  | some (some (.double x)) => K x
  | _ => none
def j_gR {α : Type} (ls : jL) (k : Nat) (K : Nat → Option α) : Option α := match ls[k]? with
  | some (some (.ref x)) => K x
  | _ => none
def j_one (o : Option Value) : Bool := match o with
  | some v => v.category == 1
  | none => true
def j_ok1 (ls : jL) (i : Nat) : Bool := match i with
  | 0 => true
  | j + 1 => match ls[j]? with
    | some o => j_one o
    | none => true
def j_s1 {α : Type} (ls : jL) (i : Nat) (v : Option Value) (K : jL → Option α) : Option α := if i < ls.length ∧ j_ok1 ls i = true then K (ls.set i v) else none
def j_s2 {α : Type} (ls : jL) (i : Nat) (v : Value) (K : jL → Option α) : Option α := if i + 1 < ls.length ∧ j_ok1 ls i = true then K ((ls.set i (some v)).set (i + 1) none) else none
abbrev j_in (i : Int32) (z : Nat) : Prop := ¬ i < 0 ∧ i.toNatClampNeg < z
def j_c {α : Type} (c : Prop) [Decidable c] (x : Option α) : Option α := if c then x else none
-- lookups
def j_fl (ci idx : Nat) : Option (Nat × Nat) := (j_flT.find? (fun t => t.1 == ci && t.2.1 == idx)).map (fun t => t.2.2)
def j_cl (ci idx : Nat) : Option (Nat × Nat) := (j_clT.find? (fun t => t.1 == ci && t.2.1 == idx)).map (fun t => t.2.2)
def j_kl (ci idx : Nat) : Option String := (j_klT.find? (fun t => t.1 == ci && t.2.1 == idx)).map (fun t => t.2.2)
def j_ol (ci idx : Nat) : Option Nat := (j_olT.find? (fun t => t.1 == ci && t.2.1 == idx)).map (fun t => t.2.2)
def j_ki (ci idx : Nat) : Option Int32 := (j_kiT.find? (fun t => t.1 == ci && t.2.1 == idx)).map (fun t => t.2.2)
def j_kj (ci idx : Nat) : Option Int64 := (j_kjT.find? (fun t => t.1 == ci && t.2.1 == idx)).map (fun t => t.2.2)
def j_tl (ci idx : Nat) : Option (String × Nat) := (j_tlT.find? (fun t => t.1 == ci && t.2.1 == idx)).map (fun t => t.2.2)
def j_sr (ci idx : Nat) : Option String := (j_srT.find? (fun t => t.1 == ci && t.2.1 == idx)).map (fun t => t.2.2)
/-- may this value be put into this field, here -/
abbrev j_pok (own ctor : Bool) (fci k : Nat) (v : Value) : Prop := (j_T fci k).2.2.2 = (own && ctor && (j_T fci k).2.2.2) ∧ narrow (j_ty fci k) v = v ∧ fits (j_ty fci k) v = true
abbrev jS : Type := Nat × jL × List Value × jM
def j_go (c : Prop) [Decidable c] (pc : Nat) (off : Int) (ls : jL) (r : List Value) (M : jM) : Option jS :=
  j_c (0 ≤ (pc : Int) + off) (if c then some (((pc : Int) + off).toNat, ls, r, M) else some (pc + 3, ls, r, M))
/-- one instruction that calls nothing and makes nothing -/
def j_stp (X : jX) (ci : Nat) (ctor : Bool) (I : Instr) (len pc : Nat) (ls : jL) (st : List Value) (M : jM) : Option jS :=
  match I with
  | .iconst i => j_c (len = 1) (some (pc + 1, ls, .int (Int32.ofInt i) :: st, M))
  | .bipush i => j_c (len = 2) (some (pc + 2, ls, .int (Int8.ofInt i).toInt32 :: st, M))
  | .sipush i => j_c (len = 3) (some (pc + 3, ls, .int (Int16.ofInt i).toInt32 :: st, M))
  | .ldc_w idx => j_c (len = 3) ((j_ki ci idx).bind fun x => some (pc + 3, ls, .int x :: st, M))
  | .ldc idx => j_c (len = 2) ((j_ki ci idx).bind fun x => some (pc + 2, ls, .int x :: st, M))
  | .ldc2_w idx => j_c (len = 3) ((j_kj ci idx).bind fun x => some (pc + 3, ls, .long x :: st, M))
  | .iload k => j_c (len = 2) (j_gI ls k fun x => some (pc + 2, ls, .int x :: st, M))
  | .iload_n k => j_c (len = 1) (j_gI ls k.val fun x => some (pc + 1, ls, .int x :: st, M))
  | .aload k => j_c (len = 2) (j_gR ls k fun x => some (pc + 2, ls, .ref x :: st, M))
  | .aload_n k => j_c (len = 1) (j_gR ls k.val fun x => some (pc + 1, ls, .ref x :: st, M))
  | .lload_n k => j_c (len = 1) (j_gJ ls k.val fun x => some (pc + 1, ls, .long x :: st, M))
  | .dload k => j_c (len = 2) (j_gD ls k fun x => some (pc + 2, ls, .double x :: st, M))
  | .istore k => j_c (len = 2) (j_i st fun x r => j_s1 ls k (some (.int x)) fun ls => some (pc + 2, ls, r, M))
  | .istore_n k => j_c (len = 1) (j_i st fun x r => j_s1 ls k.val (some (.int x)) fun ls => some (pc + 1, ls, r, M))
  | .astore k => j_c (len = 2) (j_r st fun x r => j_s1 ls k (some (.ref x)) fun ls => some (pc + 2, ls, r, M))
  | .astore_n k => j_c (len = 1) (j_r st fun x r => j_s1 ls k.val (some (.ref x)) fun ls => some (pc + 1, ls, r, M))
  | .lstore_n k => j_c (len = 1) (j_l st fun x r => j_s2 ls k.val (.long x) fun ls => some (pc + 1, ls, r, M))
  | .dstore k => j_c (len = 2) (j_d st fun x r => j_s2 ls k (.double x) fun ls => some (pc + 2, ls, r, M))
  | .iinc k i => j_c (len = 3) (j_gI ls k fun x => j_s1 ls k (some (.int (x + Int32.ofInt i))) fun ls => some (pc + 3, ls, st, M))
  | .dup => j_c (len = 1) (j_v st fun v r => j_c (v.category = 1) (some (pc + 1, ls, v :: v :: r, M)))
  | .dup2 => j_c (len = 1) (j_vv st fun v w r => j_c (v.category = 1 ∧ w.category = 1) (some (pc + 1, ls, w :: v :: w :: v :: r, M)))
  | .pop => j_c (len = 1) (j_v st fun v r => j_c (v.category = 1) (some (pc + 1, ls, r, M)))
  | .iadd => j_c (len = 1) (j_ii st fun x y r => some (pc + 1, ls, .int (x + y) :: r, M))
  | .isub => j_c (len = 1) (j_ii st fun x y r => some (pc + 1, ls, .int (x - y) :: r, M))
  | .imul => j_c (len = 1) (j_ii st fun x y r => some (pc + 1, ls, .int (x * y) :: r, M))
  | .idiv => j_c (len = 1) (j_ii st fun x y r => j_c (¬ y = 0) (some (pc + 1, ls, .int (x / y) :: r, M)))
  | .irem => j_c (len = 1) (j_ii st fun x y r => j_c (¬ y = 0) (some (pc + 1, ls, .int (x - x / y * y) :: r, M)))
  | .ishl => j_c (len = 1) (j_ii st fun x y r => some (pc + 1, ls, .int (x <<< (y &&& 31)) :: r, M))
  | .ishr => j_c (len = 1) (j_ii st fun x y r => some (pc + 1, ls, .int (x >>> (y &&& 31)) :: r, M))
  | .iushr => j_c (len = 1) (j_ii st fun x y r => some (pc + 1, ls, .int (x.toUInt32 >>> (y.toUInt32 &&& Int32.toUInt32 31)).toInt32 :: r, M))
  | .iand => j_c (len = 1) (j_ii st fun x y r => some (pc + 1, ls, .int (x &&& y) :: r, M))
  | .ior => j_c (len = 1) (j_ii st fun x y r => some (pc + 1, ls, .int (x ||| y) :: r, M))
  | .i2l => j_c (len = 1) (j_i st fun x r => some (pc + 1, ls, .long x.toInt64 :: r, M))
  | .i2b => j_c (len = 1) (j_i st fun x r => some (pc + 1, ls, .int x.toInt8.toInt32 :: r, M))
  | .i2d => j_c (len = 1) (j_i st fun x r => some (pc + 1, ls, .double (FP.i2d x) :: r, M))
  | .ladd => j_c (len = 1) (j_ll st fun x y r => some (pc + 1, ls, .long (x + y) :: r, M))
  | .lmul => j_c (len = 1) (j_ll st fun x y r => some (pc + 1, ls, .long (x * y) :: r, M))
  | .lcmp => j_c (len = 1) (j_ll st fun x y r => some (pc + 1, ls, .int (lg_cmp x y) :: r, M))
  | .ddiv => j_c (len = 1) (j_dd st fun x y r => j_c (FP.ddiv x y &&& 0x7fffffffffffffff ≤ 0x7ff0000000000000) (some (pc + 1, ls, .double (FP.ddiv x y) :: r, M)))
  | .dcmp op => j_c (len = 1) (j_dd st fun x y r => some (pc + 1, ls, .int (Op.cmpValue (FP.dcmp x y) op) :: r, M))
  | .goto off => j_c (len = 3) (j_go True pc off ls st M)
  | .ifCond .eq off => j_c (len = 3) (j_i st fun x r => j_go (x = 0) pc off ls r M)
  | .ifCond .ne off => j_c (len = 3) (j_i st fun x r => j_go (¬ x = 0) pc off ls r M)
  | .ifCond .lt off => j_c (len = 3) (j_i st fun x r => j_go (x < 0) pc off ls r M)
  | .ifCond .le off => j_c (len = 3) (j_i st fun x r => j_go (x ≤ 0) pc off ls r M)
  | .ifCond .gt off => j_c (len = 3) (j_i st fun x r => j_go (0 < x) pc off ls r M)
  | .if_icmp .eq off => j_c (len = 3) (j_ii st fun x y r => j_go (x = y) pc off ls r M)
  | .if_icmp .ne off => j_c (len = 3) (j_ii st fun x y r => j_go (¬ x = y) pc off ls r M)
  | .if_icmp .lt off => j_c (len = 3) (j_ii st fun x y r => j_go (x < y) pc off ls r M)
  | .if_icmp .ge off => j_c (len = 3) (j_ii st fun x y r => j_go (y ≤ x) pc off ls r M)
  | .if_icmp .gt off => j_c (len = 3) (j_ii st fun x y r => j_go (y < x) pc off ls r M)
  | .if_icmp .le off => j_c (len = 3) (j_ii st fun x y r => j_go (x ≤ y) pc off ls r M)
  | .if_acmp .ne off => j_c (len = 3) (j_rr st fun a b r => j_c (¬ a = 1000000 ∧ ¬ b = 1000000) (j_go (¬ a = b) pc off ls r M))
  | .tableswitch dflt lo hi offs => j_i st fun x r =>
      if x.toInt < lo ∨ hi < x.toInt then j_c (0 ≤ (pc : Int) + dflt) (some (((pc : Int) + dflt).toNat, ls, r, M))
      else (offs[(x.toInt - lo).toNat]?).bind fun off => j_c (0 ≤ (pc : Int) + off) (some (((pc : Int) + off).toNat, ls, r, M))
  | .getfield idx => j_c (len = 3) ((j_fl ci idx).bind fun f => j_r st fun a r => j_ob (M a) fun c fs => j_c (c = f.1) ((fs[f.2]?).bind fun v => some (pc + 3, ls, v :: r, M)))
  | .putfield idx => j_c (len = 3) ((j_fl ci idx).bind fun f => j_vr st fun v a r => j_ob (M a) fun c fs => j_c (c = f.1 ∧ f.2 < fs.length) (j_c (j_pok (f.1 == ci) ctor f.1 f.2 v) (some (pc + 3, ls, r, va_up M a (.inr (c, fs.set f.2 v))))))
  | .arraylength => j_c (len = 1) (j_r st fun a r => j_c (a = 1000000) (some (pc + 1, ls, .int (Int32.ofNat X.1) :: r, M)))
  | .iaload => j_c (len = 1) (j_ir st fun i a r => j_aE (M a) (fun t z f => j_c (t = 0 ∧ j_in i z) (some (pc + 1, ls, .int (f i.toNatClampNeg) :: r, M))) (j_c (a = 1000000 ∧ j_in i X.1) (some (pc + 1, ls, .int (X.2 i.toNatClampNeg) :: r, M))))
  | .baload => j_c (len = 1) (j_ir st fun i a r => j_aI (M a) fun t z f => j_c (t = 1 ∧ j_in i z) (some (pc + 1, ls, .int (f i.toNatClampNeg) :: r, M)))
  | .aaload => j_c (len = 1) (j_ir st fun i a r => j_aQ (M a) fun t z f => j_c (t = 2 ∧ j_in i z) ((f i.toNatClampNeg).bind fun q => some (pc + 1, ls, .ref q :: r, M)))
  | .iastore => j_c (len = 1) (j_iir st fun x i a r => j_aI (M a) fun t z f => j_c (t = 0 ∧ j_in i z) (some (pc + 1, ls, r, va_up M a (.inl (t, z, .inl (upd f i.toNatClampNeg x))))))
  | .bastore => j_c (len = 1) (j_iir st fun x i a r => j_aI (M a) fun t z f => j_c (t = 1 ∧ j_in i z) (some (pc + 1, ls, r, va_up M a (.inl (t, z, .inl (upd f i.toNatClampNeg (vp_nar .byte x)))))))
  | .aastore => j_c (len = 1) (j_rir st fun v i a r => j_aQ (M a) fun t z f => j_ob (M v) fun c _ => j_c (t = 2 ∧ c = 2 ∧ j_in i z) (some (pc + 1, ls, r, va_up M a (.inl (t, z, .inr (.inr (.inr (.inr (va_up f i.toNatClampNeg (some v))))))))))
  | _ => none
abbrev jQ : Type := Nat → Nat → Nat → jL → List Value → jM → jH → Option jR
def j_pad (n : Nat) (l : jL) : jL := l ++ List.replicate (n - l.length) none
def j_sl : List Value → jL
  | [] => []
  | v :: vs => if v.category = 2 then some v :: none :: j_sl vs else some v :: j_sl vs
/-- the locals at a method's entry -/
def j_ent (n : Nat) (as : List Value) : jL := j_pad n (j_sl as)
def j_cs (st : List Value) : Nat := (st.map fun v => v.category).sum
def j_exs : List String := ["java/lang/IllegalArgumentException", "java/lang/IllegalStateException", "java/lang/IndexOutOfBoundsException"]
def j_find (ci : Nat) (E : String) (pc : Nat) : List (Nat × Nat × Nat × Nat) → Option Nat
  | [] => none
  | x :: r => if x.1 ≤ pc ∧ pc < x.2.1 then (j_kl ci x.2.2.2).bind fun nm => if nm = E ∧ E ∈ j_exs then some x.2.2.1 else if E ∈ j_exs ∧ nm ∈ j_exs ∧ ¬ nm = E then j_find ci E pc r else none else j_find ci E pc r
def j_add (h h' : jH) : jH := (h'.1, h'.2.1, h.2.2.1 + h'.2.2.1, h.2.2.2 + h'.2.2.2)
/-- caught: the handler begins by putting the exception away; the local is lost -/
def j_cat (rec : jQ) (me : jMe) (d i pc : Nat) (ls : jL) (E : String) (M : jM) (h : jH) : Option jR :=
  (j_find me.1 E pc me.2.2.2.2.2.2).bind fun hp => match decode me.2.2.1 hp with
    | .ok (.astore k, len) => j_c (len = 2) (j_s1 ls k none fun ls => rec d i (hp + 2) ls [] M h)
    | .ok (.astore_n k, len) => j_c (len = 1) (j_s1 ls k.val none fun ls => rec d i (hp + 1) ls [] M h)
    | _ => none
/-- a call of one of the system's own methods -/
def j_own (rec : jQ) (me : jMe) (d i pc : Nat) (ls : jL) (st : List Value) (M : jM) (h : jH) (kd t : Nat) : Option jR :=
  (j_mt[t]?).bind fun mf => j_c (mf.2.2.2.2.2.1 ≤ st.length ∧ j_cs (st.drop mf.2.2.2.2.2.1) ≤ 8 ∧ (j_sl (st.take mf.2.2.2.2.2.1).reverse).length ≤ mf.2.2.2.1) (match d with
    | 0 => none
    | d' + 1 => (rec d' t 0 (j_ent mf.2.2.2.1 (st.take mf.2.2.2.2.2.1).reverse) [] M (h.1, h.2.1, 0, 0)).bind fun r => match r.1 with
      | .inl v => rec d i (pc + 3) ls (v.toList ++ st.drop mf.2.2.2.2.2.1) r.2.1 (j_add h r.2.2)
      | .inr E => match me.2.2.2.2.2.2 with
        | [] => some (.inr E, r.2.1, j_add h r.2.2)
        | _ => j_cat rec me d i pc ls E r.2.1 (j_add h r.2.2))
/-- the receiver is an object of the method's class -/
def j_rcv {α : Type} (st : List Value) (M : jM) (na ci : Nat) (x : Option α) : Option α := match (st.take na).reverse with
  | .ref a :: _ => j_ob (M a) fun c _ => j_c (c = ci) x
  | _ => none
def j_inv (rec : jQ) (me : jMe) (d i pc : Nat) (ls : jL) (st : List Value) (M : jM) (h : jH) (kd t : Nat) : Option jR :=
  match kd with
  | 0 => (j_mt[t]?).bind fun mf => j_rcv st M mf.2.2.2.2.2.1 mf.1 (j_own rec me d i pc ls st M h kd t)
  | 3 => (j_mt[t]?).bind fun mf => j_rcv st M mf.2.2.2.2.2.1 mf.1 (j_own rec me d i pc ls st M h kd t)
  | 4 => (j_mt[t]?).bind fun mf => j_rcv st M mf.2.2.2.2.2.1 mf.1 (j_own rec me d i pc ls st M h kd t)
  | 6 => j_r st fun _ r => j_c (j_cs r ≤ 8 ∧ 1 ≤ d) (rec d i (pc + 3) ls r M h)
  | 7 => j_cp st fun n dp e sp s r => j_aI (M s) fun t0 z0 f => j_aI (M e) fun t1 z1 g => j_c (t0 = 0 ∧ t1 = 0 ∧ ¬ sp < 0 ∧ ¬ dp < 0 ∧ ¬ n < 0 ∧ sp.toNatClampNeg + n.toNatClampNeg ≤ z0 ∧ dp.toNatClampNeg + n.toNatClampNeg ≤ z1 ∧ r = [] ∧ 1 ≤ d) (rec d i (pc + 3) ls r (va_up M e (.inl (t1, z1, .inl (va_cpy f g sp.toNatClampNeg dp.toNatClampNeg n.toNatClampNeg)))) h)
  | 8 => j_ii st fun x y r => j_c (j_cs r ≤ 8 ∧ 1 ≤ d) (rec d i (pc + 3) ls (.int (if x < y then y else x) :: r) M h)
  | 9 => j_ii st fun x y r => j_c (j_cs r ≤ 8 ∧ 1 ≤ d) (rec d i (pc + 3) ls (.int (if y < x then y else x) :: r) M h)
  | _ => j_own rec me d i pc ls st M h kd t
/-- a new object's fields -/
def j_df : Nat → List Value := fun k => match k with
  | 0 => [.int 0, .int 0, .int 0, .null, .null, .null, .null, .null]
  | 1 => [.int 0, .int 0, .int 0, .int 0, .int 0, .null, .null]
  | 2 => [.null, .null, .null, .int 0]
  | 3 => [.int 0, .null, .int 0, .int 0, .int 0, .int 0, .int 0]
  | 4 => [.null, .null, .int 0, .null, .null]
  | _ => []
/-- 'new': an object, or an exception that is thrown at once -/
def j_new (rec : jQ) (me : jMe) (d i idx pc : Nat) (ls : jL) (st : List Value) (M : jM) (h : jH) : Option jR :=
  match j_tl me.1 idx with
  | some (E, ic) => j_c (st = [] ∧ 6 ≤ d ∧ me.2.2.2.2.2.2 = [] ∧ decode me.2.2.1 (pc + 3) = .ok (.dup, 1)) (match decode me.2.2.1 (pc + 4) with
    | .ok (.ldc is, 2) => j_c ((j_sr me.1 is).isSome = true ∧ decode me.2.2.1 (pc + 6) = .ok (.invokespecial ic, 3) ∧ decode me.2.2.1 (pc + 9) = .ok (.athrow, 1)) (some (.inr E, M, (h.1, false, h.2.2.1 + 1, h.2.2.2 + 6)))
    | .ok (.ldc_w is, 3) => j_c ((j_sr me.1 is).isSome = true ∧ decode me.2.2.1 (pc + 7) = .ok (.invokespecial ic, 3) ∧ decode me.2.2.1 (pc + 10) = .ok (.athrow, 1)) (some (.inr E, M, (h.1, false, h.2.2.1 + 1, h.2.2.2 + 6)))
    | _ => none)
  | none => (j_ol me.1 idx).bind fun k => j_c (h.2.1 = true ∧ h.1 < 1000) (rec d i (pc + 3) ls (.ref h.1 :: st) (va_up M h.1 (.inr (k, j_df k))) (h.1 + 1, true, h.2.2.1 + 1, h.2.2.2 + j_nf k))
def j_nar (rec : jQ) (t : ArrayType) (d i pc : Nat) (ls : jL) (st : List Value) (M : jM) (h : jH) : Option jR :=
  j_i st fun x r => j_c (h.2.1 = true ∧ h.1 < 1000 ∧ ¬ x < 0 ∧ x.toNatClampNeg ≤ 1000) (match t with
    | .int => rec d i (pc + 2) ls (.ref h.1 :: r) (va_up M h.1 (.inl (0, x.toNatClampNeg, .inl (fun _ => 0)))) (h.1 + 1, true, h.2.2.1 + 1, h.2.2.2 + x.toNatClampNeg)
    | .byte => rec d i (pc + 2) ls (.ref h.1 :: r) (va_up M h.1 (.inl (1, x.toNatClampNeg, .inl (fun _ => 0)))) (h.1 + 1, true, h.2.2.1 + 1, h.2.2.2 + x.toNatClampNeg)
    | _ => none)
def j_anar (rec : jQ) (me : jMe) (d i idx pc : Nat) (ls : jL) (st : List Value) (M : jM) (h : jH) : Option jR :=
  j_i st fun x r => j_c (h.2.1 = true ∧ h.1 < 1000 ∧ ¬ x < 0 ∧ x.toNatClampNeg ≤ 1000 ∧ j_ol me.1 idx = some 2)
    (rec d i (pc + 3) ls (.ref h.1 :: r) (va_up M h.1 (.inl (2, x.toNatClampNeg, .inr (.inr (.inr (.inr (fun _ => none))))))) (h.1 + 1, true, h.2.2.1 + 1, h.2.2.2 + x.toNatClampNeg))
def j_one1 (X : jX) (rec : jQ) (me : jMe) (d i : Nat) (I : Instr) (len pc : Nat) (ls : jL) (st : List Value) (M : jM) (h : jH) : Option jR :=
  match I with
  | .ireturn => j_c (len = 1) (j_i st fun x r => j_c (r = [] ∧ ((me.2.2.2.2.1 = some .int) ∨ (me.2.2.2.2.1 = some .boolean ∧ x &&& 1 = x))) (some (.inl (some (.int x)), M, h)))
  | .lreturn => j_c (len = 1) (j_l st fun x r => j_c (r = [] ∧ me.2.2.2.2.1 = some .long) (some (.inl (some (.long x)), M, h)))
  | .dreturn => j_c (len = 1) (j_d st fun x r => j_c (r = [] ∧ me.2.2.2.2.1 = some .double) (some (.inl (some (.double x)), M, h)))
  | .areturn => j_c (len = 1) (j_r st fun x r => j_c (r = [] ∧ me.2.2.2.2.1 = some (.object "ShipJournal$Ship")) (some (.inl (some (.ref x)), M, h)))
  | .return_ => j_c (len = 1 ∧ st = [] ∧ me.2.2.2.2.1 = none) (some (.inl none, M, h))
  | .invokevirtual idx => j_c (len = 3) ((j_cl me.1 idx).bind fun t => j_c (t.1 = 0) (j_inv rec me d i pc ls st M h t.1 t.2))
  | .invokestatic idx => j_c (len = 3) ((j_cl me.1 idx).bind fun t => j_c (t.1 = 1 ∨ t.1 = 2 ∨ t.1 = 5 ∨ t.1 = 7 ∨ t.1 = 8 ∨ t.1 = 9) (j_inv rec me d i pc ls st M h t.1 t.2))
  | .invokespecial idx => j_c (len = 3) ((j_cl me.1 idx).bind fun t => j_c (t.1 = 3 ∨ t.1 = 4 ∨ t.1 = 6) (j_inv rec me d i pc ls st M h t.1 t.2))
  | .new idx => j_c (len = 3) (j_new rec me d i idx pc ls st M h)
  | .newarray t => j_c (len = 2) (j_nar rec t d i pc ls st M h)
  | .anewarray idx => j_c (len = 3) (j_anar rec me d i idx pc ls st M h)
  | _ => (j_stp X me.1 (me.2.1.name == "<init>") I len pc ls st M).bind fun s => rec d i s.1 s.2.1 s.2.2.1 s.2.2.2 h
def j_run (X : jX) : Nat → jQ
  | 0 => fun _ _ _ _ _ _ _ => none
  | N + 1 => fun d i pc ls st M h => (j_mt[i]?).bind fun me => match decode me.2.2.1 pc with
    | .ok (I, len) => j_one1 X (j_run X N) me d i I len pc ls st M h
    | .error _ => none
end
section
/-! from the logical cells to the machine's -/
def j_ad (base b : Nat) (k : Nat) : Nat := if k = 1000000 then b else base + k
def j_cv (ad : Nat → Nat) (v : Value) : Value := match v with
  | .ref k => .ref (ad k)
  | .int x => .int x
  | .long x => .long x
  | .float x => .float x
  | .double x => .double x
  | .null => .null
  | .retAddr x => .retAddr x
def j_ce (ad : Nat → Nat) (tc : Nat → ClassId) (e : va_E) : va_E := match e with
  | .inr (c, fs) => .inr (c, fs.map (j_cv ad))
  | .inl (t, z, .inl f) => .inl (tc t, z, .inl f)
  | .inl (t, z, .inr (.inl f)) => .inl (tc t, z, .inr (.inl f))
  | .inl (t, z, .inr (.inr (.inl f))) => .inl (tc t, z, .inr (.inr (.inl f)))
  | .inl (t, z, .inr (.inr (.inr (.inl f)))) => .inl (tc t, z, .inr (.inr (.inr (.inl f))))
  | .inl (t, z, .inr (.inr (.inr (.inr f)))) => .inl (tc t, z, .inr (.inr (.inr (.inr (fun j => (f j).map ad)))))
def j_wl (base b : Nat) (tc : Nat → ClassId) (n : Nat) (M : jM) : va_W := (List.range n).map fun k => (base + k, j_ce (j_ad base b) tc (M k))
def j_tys (tc : Nat → ClassId) : List (ClassId × FieldType) := [(tc 0, .int), (tc 1, .byte), (tc 2, .object "ShipJournal$State")]
abbrev j_A (base : Nat) : Nat → Prop := fun q => base ≤ q
/-- the heap H holds the n cells of M -/
def j_W (base b : Nat) (D : va_G) (tc : Nat → ClassId) (n : Nat) (M : jM) (H : Heap) : Prop :=
  va_P D vwCl (j_wl base b tc n M) H ∧ n ≤ 1000 ∧ ∀ k, n ≤ k → M k = j_nil
theorem j_wl_at {base b : Nat} {tc : Nat → ClassId} {n : Nat} {M : jM} {k : Nat} (h : k < n) : (j_wl base b tc n M)[k]? = some (base + k, j_ce (j_ad base b) tc (M k)) := by
  unfold j_wl
  rw [List.getElem?_map, List.getElem?_range h]
  rfl
theorem j_wl_at2 {base b : Nat} {tc : Nat → ClassId} {n : Nat} {M : jM} {k : Nat} {q : Nat × va_E} (h : (j_wl base b tc n M)[k]? = some q) : k < n ∧ q = (base + k, j_ce (j_ad base b) tc (M k)) := by
  have hk : k < n := by
    have := (List.getElem?_eq_some_iff.mp h).1
    simpa [j_wl] using this
  rw [j_wl_at hk] at h
  exact ⟨hk, (Option.some.inj h).symm⟩
theorem j_wl_set {base b : Nat} {tc : Nat → ClassId} {n : Nat} {M : jM} {k : Nat} {e : va_E} : (j_wl base b tc n M).set k (base + k, j_ce (j_ad base b) tc e) = j_wl base b tc n (va_up M k e) := by
  apply List.ext_getElem?
  intro j
  by_cases hj : j < n
  · rw [j_wl_at hj, List.getElem?_set]
    by_cases hk : k = j
    · subst hk
      rw [if_pos rfl, va_up_self]
      simp [j_wl, hj]
    · rw [if_neg hk, va_up_ne _ _ (Ne.symm hk), j_wl_at hj]
  · rw [List.getElem?_eq_none (by simp [j_wl]; omega), List.getElem?_eq_none (by simp [j_wl]; omega)]
theorem j_wl_D {base b : Nat} {tc : Nat → ClassId} {n : Nat} {M : jM} : va_D (j_A base) (j_wl base b tc n M) := by
  refine ⟨fun i j p q hi hj hpq => ?_, fun k q hk => ?_⟩
  · obtain ⟨-, rfl⟩ := j_wl_at2 hi
    obtain ⟨-, rfl⟩ := j_wl_at2 hj
    have : base + i = base + j := hpq
    omega
  · obtain ⟨-, rfl⟩ := j_wl_at2 hk
    exact Nat.le_add_right _ _
theorem j_W.lt {base b : Nat} {D : va_G} {tc : Nat → ClassId} {n : Nat} {M : jM} {H : Heap} (w : j_W base b D tc n M H) {a : Nat} (h : M a ≠ j_nil) : a < n := by
  rcases Nat.lt_or_ge a n with q | q
  · exact q
  · exact absurd (w.2.2 a q) h
theorem j_nil_ob {c : Nat} {fs : List Value} (h : c < 1000) : (.inr (c, fs) : va_E) ≠ j_nil := by
  intro q
  have q := congrArg (fun z => match z with | Sum.inr (y : Nat × List Value) => y.1 | _ => 0) q
  dsimp only [j_nil] at q
  omega
theorem j_nil_ar {x : ClassId × vp_A} : (.inl x : va_E) ≠ j_nil := fun q => by cases q
theorem j_W.ad {base b : Nat} {D : va_G} {tc : Nat → ClassId} {n : Nat} {M : jM} {H : Heap} (w : j_W base b D tc n M H) {a : Nat} (h : a < n) : j_ad base b a = base + a := by
  have := w.2.1
  unfold j_ad
  rw [if_neg (by omega)]
/-- a cell is changed -/
theorem j_W.up {base b : Nat} {D : va_G} {tc : Nat → ClassId} {n : Nat} {M : jM} {H H1 : Heap} (w : j_W base b D tc n M H) {a : Nat} (h : a < n) {e : va_E} (hP : va_P D vwCl ((j_wl base b tc n M).set a (base + a, j_ce (j_ad base b) tc e)) H1) : j_W base b D tc n (va_up M a e) H1 := by
  rw [j_wl_set] at hP
  exact ⟨hP, w.2.1, fun k hk => by rw [va_up_ne _ _ (by omega)]; exact w.2.2 k hk⟩
theorem j_W.sz {base b : Nat} {D : va_G} {tc : Nat → ClassId} {n : Nat} {M : jM} {H : Heap} (w : j_W base b D tc n M H) (h : base ≤ H.size) : base + n ≤ H.size := by
  rcases Nat.eq_zero_or_pos n with q | q
  · omega
  · have := (w.1 (n - 1) _ (j_wl_at (by omega))).lt
    dsimp only at this
    omega
-- shapes, backwards
theorem j_c_some {α : Type} {c : Prop} [Decidable c] {x : Option α} {z : α} (h : j_c c x = some z) : c ∧ x = some z := by
  unfold j_c at h
  split at h
  · exact ⟨by assumption, h⟩
  · cases h
theorem j_i_some {α : Type} {st : List Value} {K : Int32 → List Value → Option α} {z : α} (h : j_i st K = some z) : ∃ x r, st = .int x :: r ∧ K x r = some z := by
  unfold j_i at h
  split at h
  · exact ⟨_, _, rfl, h⟩
  · cases h
theorem j_ii_some {α : Type} {st : List Value} {K : Int32 → Int32 → List Value → Option α} {z : α} (h : j_ii st K = some z) : ∃ x y r, st = .int y :: .int x :: r ∧ K x y r = some z := by
  unfold j_ii at h
  split at h
  · exact ⟨_, _, _, rfl, h⟩
  · cases h
theorem j_l_some {α : Type} {st : List Value} {K : Int64 → List Value → Option α} {z : α} (h : j_l st K = some z) : ∃ x r, st = .long x :: r ∧ K x r = some z := by
  unfold j_l at h
  split at h
  · exact ⟨_, _, rfl, h⟩
  · cases h
theorem j_ll_some {α : Type} {st : List Value} {K : Int64 → Int64 → List Value → Option α} {z : α} (h : j_ll st K = some z) : ∃ x y r, st = .long y :: .long x :: r ∧ K x y r = some z := by
  unfold j_ll at h
  split at h
  · exact ⟨_, _, _, rfl, h⟩
  · cases h
theorem j_d_some {α : Type} {st : List Value} {K : UInt64 → List Value → Option α} {z : α} (h : j_d st K = some z) : ∃ x r, st = .double x :: r ∧ K x r = some z := by
  unfold j_d at h
  split at h
  · exact ⟨_, _, rfl, h⟩
  · cases h
theorem j_dd_some {α : Type} {st : List Value} {K : UInt64 → UInt64 → List Value → Option α} {z : α} (h : j_dd st K = some z) : ∃ x y r, st = .double y :: .double x :: r ∧ K x y r = some z := by
  unfold j_dd at h
  split at h
  · exact ⟨_, _, _, rfl, h⟩
  · cases h
theorem j_r_some {α : Type} {st : List Value} {K : Nat → List Value → Option α} {z : α} (h : j_r st K = some z) : ∃ a r, st = .ref a :: r ∧ K a r = some z := by
  unfold j_r at h
  split at h
  · exact ⟨_, _, rfl, h⟩
  · cases h
theorem j_rr_some {α : Type} {st : List Value} {K : Nat → Nat → List Value → Option α} {z : α} (h : j_rr st K = some z) : ∃ a b r, st = .ref b :: .ref a :: r ∧ K a b r = some z := by
  unfold j_rr at h
  split at h
  · exact ⟨_, _, _, rfl, h⟩
  · cases h
theorem j_v_some {α : Type} {st : List Value} {K : Value → List Value → Option α} {z : α} (h : j_v st K = some z) : ∃ v r, st = v :: r ∧ K v r = some z := by
  unfold j_v at h
  split at h
  · exact ⟨_, _, rfl, h⟩
  · cases h
theorem j_vv_some {α : Type} {st : List Value} {K : Value → Value → List Value → Option α} {z : α} (h : j_vv st K = some z) : ∃ v w r, st = w :: v :: r ∧ K v w r = some z := by
  unfold j_vv at h
  split at h
  · exact ⟨_, _, _, rfl, h⟩
  · cases h
theorem j_vr_some {α : Type} {st : List Value} {K : Value → Nat → List Value → Option α} {z : α} (h : j_vr st K = some z) : ∃ v a r, st = v :: .ref a :: r ∧ K v a r = some z := by
  unfold j_vr at h
  split at h
  · exact ⟨_, _, _, rfl, h⟩
  · cases h
theorem j_ir_some {α : Type} {st : List Value} {K : Int32 → Nat → List Value → Option α} {z : α} (h : j_ir st K = some z) : ∃ i a r, st = .int i :: .ref a :: r ∧ K i a r = some z := by
  unfold j_ir at h
  split at h
  · exact ⟨_, _, _, rfl, h⟩
  · cases h
theorem j_iir_some {α : Type} {st : List Value} {K : Int32 → Int32 → Nat → List Value → Option α} {z : α} (h : j_iir st K = some z) : ∃ x i a r, st = .int x :: .int i :: .ref a :: r ∧ K x i a r = some z := by
  unfold j_iir at h
  split at h
  · exact ⟨_, _, _, _, rfl, h⟩
  · cases h
theorem j_lir_some {α : Type} {st : List Value} {K : Int64 → Int32 → Nat → List Value → Option α} {z : α} (h : j_lir st K = some z) : ∃ x i a r, st = .long x :: .int i :: .ref a :: r ∧ K x i a r = some z := by
  unfold j_lir at h
  split at h
  · exact ⟨_, _, _, _, rfl, h⟩
  · cases h
theorem j_rir_some {α : Type} {st : List Value} {K : Nat → Int32 → Nat → List Value → Option α} {z : α} (h : j_rir st K = some z) : ∃ v i a r, st = .ref v :: .int i :: .ref a :: r ∧ K v i a r = some z := by
  unfold j_rir at h
  split at h
  · exact ⟨_, _, _, _, rfl, h⟩
  · cases h
theorem j_cp_some {α : Type} {st : List Value} {K : Int32 → Int32 → Nat → Int32 → Nat → List Value → Option α} {z : α} (h : j_cp st K = some z) : ∃ n dp d sp s r, st = .int n :: .int dp :: .ref d :: .int sp :: .ref s :: r ∧ K n dp d sp s r = some z := by
  unfold j_cp at h
  split at h
  · exact ⟨_, _, _, _, _, _, rfl, h⟩
  · cases h
theorem j_ob_some {α : Type} {e : va_E} {K : Nat → List Value → Option α} {z : α} (h : j_ob e K = some z) : ∃ c fs, e = .inr (c, fs) ∧ K c fs = some z := by
  unfold j_ob at h
  split at h
  · exact ⟨_, _, rfl, h⟩
  · cases h
theorem j_aI_some {α : Type} {e : va_E} {K : Nat → Nat → (Nat → Int32) → Option α} {z : α} (h : j_aI e K = some z) : ∃ t y f, e = .inl (t, y, .inl f) ∧ K t y f = some z := by
  unfold j_aI at h
  split at h
  · exact ⟨_, _, _, rfl, h⟩
  · cases h
theorem j_aE_some {α : Type} {e : va_E} {K : Nat → Nat → (Nat → Int32) → Option α} {y : Option α} {w : α} (h : j_aE e K y = some w) : (∃ t n f, e = .inl (t, n, .inl f) ∧ K t n f = some w) ∨ y = some w := by
  unfold j_aE at h
  split at h
  · exact Or.inl ⟨_, _, _, rfl, h⟩
  · exact Or.inr h
theorem j_aJ_some {α : Type} {e : va_E} {K : Nat → Nat → (Nat → Int64) → Option α} {z : α} (h : j_aJ e K = some z) : ∃ t y f, e = .inl (t, y, .inr (.inl f)) ∧ K t y f = some z := by
  unfold j_aJ at h
  split at h
  · exact ⟨_, _, _, rfl, h⟩
  · cases h
theorem j_aQ_some {α : Type} {e : va_E} {K : Nat → Nat → (Nat → Option Nat) → Option α} {z : α} (h : j_aQ e K = some z) : ∃ t y f, e = .inl (t, y, .inr (.inr (.inr (.inr f)))) ∧ K t y f = some z := by
  unfold j_aQ at h
  split at h
  · exact ⟨_, _, _, rfl, h⟩
  · cases h
theorem j_gI_some {α : Type} {ls : jL} {k : Nat} {K : Int32 → Option α} {z : α} (h : j_gI ls k K = some z) : ∃ x, ls[k]? = some (some (.int x)) ∧ K x = some z := by
  unfold j_gI at h
  split at h
  · exact ⟨_, by assumption, h⟩
  · cases h
theorem j_gJ_some {α : Type} {ls : jL} {k : Nat} {K : Int64 → Option α} {z : α} (h : j_gJ ls k K = some z) : ∃ x, ls[k]? = some (some (.long x)) ∧ K x = some z := by
  unfold j_gJ at h
  split at h
  · exact ⟨_, by assumption, h⟩
  · cases h
theorem j_gD_some {α : Type} {ls : jL} {k : Nat} {K : UInt64 → Option α} {z : α} (h : j_gD ls k K = some z) : ∃ x, ls[k]? = some (some (.double x)) ∧ K x = some z := by
  unfold j_gD at h
  split at h
  · exact ⟨_, by assumption, h⟩
  · cases h
theorem j_gR_some {α : Type} {ls : jL} {k : Nat} {K : Nat → Option α} {z : α} (h : j_gR ls k K = some z) : ∃ x, ls[k]? = some (some (.ref x)) ∧ K x = some z := by
  unfold j_gR at h
  split at h
  · exact ⟨_, by assumption, h⟩
  · cases h
theorem j_s1_some {α : Type} {ls : jL} {k : Nat} {v : Option Value} {K : jL → Option α} {z : α} (h : j_s1 ls k v K = some z) : k < ls.length ∧ j_ok1 ls k = true ∧ K (ls.set k v) = some z := by
  unfold j_s1 at h
  split at h
  · rename_i q; exact ⟨q.1, q.2, h⟩
  · cases h
theorem j_s2_some {α : Type} {ls : jL} {k : Nat} {v : Value} {K : jL → Option α} {z : α} (h : j_s2 ls k v K = some z) : k + 1 < ls.length ∧ j_ok1 ls k = true ∧ K ((ls.set k (some v)).set (k + 1) none) = some z := by
  unfold j_s2 at h
  split at h
  · rename_i q; exact ⟨q.1, q.2, h⟩
  · cases h
-- locals
def j_lv (ad : Nat → Nat) (L : jL) : List (Nat × Value) := (List.range L.length).filterMap fun i => match L[i]? with
  | some (some v) => some (i, j_cv ad v)
  | _ => none
theorem j_lv_mem {ad : Nat → Nat} {L : jL} {q : Nat × Value} : q ∈ j_lv ad L ↔ ∃ v, L[q.1]? = some (some v) ∧ q.2 = j_cv ad v := by
  unfold j_lv
  rw [List.mem_filterMap]
  constructor
  · rintro ⟨i, hi, h⟩
    split at h
    · rename_i v hv
      cases h
      exact ⟨v, hv, rfl⟩
    · cases h
  · rintro ⟨v, hv, h2⟩
    refine ⟨q.1, List.mem_range.mpr (List.getElem?_eq_some_iff.mp hv).1, ?_⟩
    rw [hv]
    obtain ⟨a, c⟩ := q
    cases h2
    rfl
def j_LH (ad : Nat → Nat) (ls : Array Slot) (L : jL) : Prop := lv_has ls L.length (j_lv ad L)
theorem j_LH.at {ad : Nat → Nat} {ls : Array Slot} {L : jL} (h : j_LH ad ls L) {k : Nat} {v : Value} (hk : L[k]? = some (some v)) : ls[k]? = some (.val (j_cv ad v)) := h.2.2 (k, j_cv ad v) (j_lv_mem.mpr ⟨v, hk, rfl⟩)
theorem j_cv_cat (ad : Nat → Nat) (v : Value) : (j_cv ad v).category = v.category := by cases v <;> rfl
/-- behind a store of one slot -/
theorem j_LH.set1 {ad : Nat → Nat} {ls : Array Slot} {L : jL} {k : Nat} {w : Value} {o : Option Value} (ho : ∀ v, o = some v → w = j_cv ad v) (hk : k < L.length) (ho1 : j_ok1 L k = true)
    (h : lv_has ls L.length ((k, w) :: (j_lv ad L).filter (fun q => !(q.1 == k) && !(q.1 + 1 == k && q.2.category == 2)))) : j_LH ad ls (L.set k o) := by
  refine ⟨by rw [List.length_set]; exact h.1, h.2.1, fun q hq => h.2.2 q ?_⟩
  obtain ⟨v, hv, h2⟩ := j_lv_mem.mp hq
  obtain ⟨i, c⟩ := q
  dsimp only at hv h2
  by_cases hi : i = k
  · subst hi
    rw [List.getElem?_set_self hk] at hv
    have hv := Option.some.inj hv
    rw [h2, ← ho v hv]
    exact List.mem_cons_self
  · rw [List.getElem?_set_ne (Ne.symm hi)] at hv
    refine List.mem_cons_of_mem _ (List.mem_filter.mpr ⟨j_lv_mem.mpr ⟨v, hv, h2⟩, ?_⟩)
    have n1 : (i == k) = false := by simpa using hi
    have n2 : (i + 1 == k && c.category == 2) = false := by
      by_cases hik : i + 1 = k
      · subst hik
        have : v.category = 1 := by
          unfold j_ok1 at ho1; dsimp only at ho1
          rw [hv] at ho1
          simpa [j_one] using ho1
        rw [h2, j_cv_cat, this]
        simp
      · have : (i + 1 == k) = false := by simpa using hik
        rw [this]; rfl
    simp [n1, n2]
theorem j_LH.set2 {ad : Nat → Nat} {ls : Array Slot} {L : jL} {k : Nat} {v : Value} (hk : k + 1 < L.length) (ho1 : j_ok1 L k = true)
    (h : lv_has ls L.length ((k, j_cv ad v) :: (j_lv ad L).filter (fun q => !(q.1 == k) && (!(q.1 == k + 1) && !(q.1 + 1 == k && q.2.category == 2))))) : j_LH ad ls ((L.set k (some v)).set (k + 1) none) := by
  refine ⟨by rw [List.length_set, List.length_set]; exact h.1, h.2.1, fun q hq => h.2.2 q ?_⟩
  obtain ⟨u, hv, h2⟩ := j_lv_mem.mp hq
  obtain ⟨i, c⟩ := q
  dsimp only at hv h2
  by_cases hi1 : i = k + 1
  · subst hi1
    rw [List.getElem?_set_self (by rw [List.length_set]; exact hk)] at hv
    cases hv
  · rw [List.getElem?_set_ne (Ne.symm hi1)] at hv
    by_cases hi : i = k
    · subst hi
      rw [List.getElem?_set_self (by omega)] at hv
      cases hv
      rw [h2]
      exact List.mem_cons_self
    · rw [List.getElem?_set_ne (Ne.symm hi)] at hv
      refine List.mem_cons_of_mem _ (List.mem_filter.mpr ⟨j_lv_mem.mpr ⟨u, hv, h2⟩, ?_⟩)
      have n1 : (i == k) = false := by simpa using hi
      have n3 : (i == k + 1) = false := by simpa using hi1
      have n2 : (i + 1 == k && c.category == 2) = false := by
        by_cases hik : i + 1 = k
        · subst hik
          have : u.category = 1 := by
            unfold j_ok1 at ho1; dsimp only at ho1
            rw [hv] at ho1
            simpa [j_one] using ho1
          rw [h2, j_cv_cat, this]
          simp
        · have : (i + 1 == k) = false := by simpa using hik
          rw [this]; rfl
      simp [n1, n2, n3]
-- lookups
theorem j_fl_ok {ci idx : Nat} {f : Nat × Nat} (h : j_fl ci idx = some f) : f.1 < 5 ∧ f.2 < j_nf f.1 ∧ Cond.fieldLink (j_cn ci) idx (j_T f.1 f.2).1 (j_T f.1 f.2).2.1 (j_T f.1 f.2).2.2.1 ∈ j_gws := by
  unfold j_fl at h
  obtain ⟨t, ht, rfl⟩ := Option.map_eq_some_iff.mp h
  have hm := List.mem_of_find?_eq_some ht
  have hp := List.find?_some ht
  simp only [Bool.and_eq_true, beq_iff_eq] at hp
  obtain ⟨rfl, rfl⟩ := hp
  have h1 := List.all_eq_true.mp j_okF_all t hm
  simp only [Bool.and_eq_true, decide_eq_true_eq] at h1
  exact ⟨h1.1, h1.2, j_fF_i t hm _ List.mem_cons_self⟩
theorem j_ki_ok {ci idx : Nat} {x : Int32} (h : j_ki ci idx = some x) : Cond.constant (j_cn ci) idx x ∈ j_gws := by
  unfold j_ki at h
  obtain ⟨t, ht, rfl⟩ := Option.map_eq_some_iff.mp h
  have hm := List.mem_of_find?_eq_some ht
  have hp := List.find?_some ht
  simp only [Bool.and_eq_true, beq_iff_eq] at hp
  obtain ⟨rfl, rfl⟩ := hp
  exact j_fKI_i t hm _ List.mem_cons_self
theorem j_kj_ok {ci idx : Nat} {x : Int64} (h : j_kj ci idx = some x) : Cond.constantLong (j_cn ci) idx x ∈ j_gws := by
  unfold j_kj at h
  obtain ⟨t, ht, rfl⟩ := Option.map_eq_some_iff.mp h
  have hm := List.mem_of_find?_eq_some ht
  have hp := List.find?_some ht
  simp only [Bool.and_eq_true, beq_iff_eq] at hp
  obtain ⟨rfl, rfl⟩ := hp
  exact j_fKJ_i t hm _ List.mem_cons_self
theorem j_ol_ok {ci idx k : Nat} (h : j_ol ci idx = some k) : k < 5 ∧ ∀ w ∈ ([.classLink (j_cn ci) idx (j_cn k), .instantiable (j_cn k) (j_nf k), .initialized (j_cn k)] : List Cond), w ∈ j_gws := by
  unfold j_ol at h
  obtain ⟨t, ht, rfl⟩ := Option.map_eq_some_iff.mp h
  have hm := List.mem_of_find?_eq_some ht
  have hp := List.find?_some ht
  simp only [Bool.and_eq_true, beq_iff_eq] at hp
  obtain ⟨rfl, rfl⟩ := hp
  have h1 := List.all_eq_true.mp j_okO_all t hm
  simp only [decide_eq_true_eq] at h1
  exact ⟨h1, j_fO_i t hm⟩
theorem j_kl_ok {ci idx : Nat} {nm : String} (h : j_kl ci idx = some nm) : Cond.classLink (j_cn ci) idx nm ∈ j_gws := by
  unfold j_kl at h
  obtain ⟨t, ht, rfl⟩ := Option.map_eq_some_iff.mp h
  have hm := List.mem_of_find?_eq_some ht
  have hp := List.find?_some ht
  simp only [Bool.and_eq_true, beq_iff_eq] at hp
  obtain ⟨rfl, rfl⟩ := hp
  exact j_fK_i t hm _ List.mem_cons_self
theorem j_tl_ok {ci idx : Nat} {E : String} {ic : Nat} (h : j_tl ci idx = some (E, ic)) : (ci, idx, E, ic) ∈ j_tlT ∧ Bundle.fit E = true ∧ Cond.classLink (j_cn ci) idx E ∈ j_gws ∧ Cond.initialized E ∈ j_gws := by
  unfold j_tl at h
  obtain ⟨t, ht, h2⟩ := Option.map_eq_some_iff.mp h
  have hm := List.mem_of_find?_eq_some ht
  have hp := List.find?_some ht
  simp only [Bool.and_eq_true, beq_iff_eq] at hp
  obtain ⟨a, b, E', ic'⟩ := t
  obtain ⟨rfl, rfl⟩ := hp
  cases h2
  have h1 := List.all_eq_true.mp j_okT_all _ hm
  exact ⟨hm, h1, j_fT_i _ hm _ List.mem_cons_self, j_fT_i _ hm _ (List.mem_cons_of_mem _ List.mem_cons_self)⟩
theorem j_sr_ok {ci idx : Nat} {tx : String} (h : j_sr ci idx = some tx) : (ci, idx, tx) ∈ j_srT := by
  unfold j_sr at h
  obtain ⟨t, ht, rfl⟩ := Option.map_eq_some_iff.mp h
  have hm := List.mem_of_find?_eq_some ht
  have hp := List.find?_some ht
  simp only [Bool.and_eq_true, beq_iff_eq] at hp
  obtain ⟨rfl, rfl⟩ := hp
  exact hm
theorem j_cl_ok {ci idx kd t : Nat} (h : j_cl ci idx = some (kd, t)) : (ci, idx, kd, t) ∈ j_clT := by
  unfold j_cl at h
  obtain ⟨q, ht, h2⟩ := Option.map_eq_some_iff.mp h
  have hm := List.mem_of_find?_eq_some ht
  have hp := List.find?_some ht
  simp only [Bool.and_eq_true, beq_iff_eq] at hp
  obtain ⟨a, b, c, d⟩ := q
  obtain ⟨rfl, rfl⟩ := hp
  cases h2
  exact hm
theorem j_inG : ∀ k, k < 5 → ∀ w ∈ u_ws (j_cn k) (j_T k) (j_nf k), w ∈ j_gws := by
  have h : ∀ k, k < 5 → (u_ws (j_cn k) (j_T k) (j_nf k)).all (fun w => decide (w ∈ tables_1) && goodWord w) = true := by decide +kernel
  intro k hk w hw
  have h1 := List.all_eq_true.mp (h k hk) w hw
  simp only [Bool.and_eq_true, decide_eq_true_eq] at h1
  exact List.mem_filter.mpr ⟨List.mem_append_right _ h1.1, h1.2⟩
theorem j_tyG : ∀ k, k < 5 → ∀ j, j < j_nf k → parseFieldDescriptor (j_T k j).2.2.1 = some (j_ty k j) := by
  intro k hk
  rcases (show k = 0 ∨ k = 1 ∨ k = 2 ∨ k = 3 ∨ k = 4 by omega) with rfl | rfl | rfl | rfl | rfl
  · exact tyX0_ok
  · exact tyX1_ok
  · exact tyX2_ok
  · exact tyX3_ok
  · exact tyX4_ok
theorem j_nmG : ∀ k, k < 5 → ∀ a, a < j_nf k → ∀ b, b < j_nf k → a ≠ b → (j_T k a).2.1 ≠ (j_T k b).2.1 := by
  intro k hk
  rcases (show k = 0 ∨ k = 1 ∨ k = 2 ∨ k = 3 ∨ k = 4 by omega) with rfl | rfl | rfl | rfl | rfl
  · exact nmX0
  · exact nmX1
  · exact nmX2
  · exact nmX3
  · exact nmX4
theorem j_dcl : ∀ k, k < 5 → ∀ j, j < j_nf k → (j_T k j).1 = j_cn k := by decide +kernel
end
section
/-! one instruction of the logical machine is one of the machine's -/
def j_dcN : List MethodName := [⟨"java/lang/RuntimeException", "<init>", "(Ljava/lang/String;)V"⟩, ⟨"java/lang/Exception", "<init>", "(Ljava/lang/String;)V"⟩, ⟨"java/lang/Throwable", "<init>", "(Ljava/lang/String;)V"⟩]
/-- what a method knows of the tables, of what lies under base, of the script -/
def j_K (base b L : Nat) (xs : Nat → Int32) (D : va_G) (tc : Nat → ClassId) (s : State) (H : Heap) : Prop :=
  va_K D vwCl (j_tys tc) s ∧ ((∀ E ∈ j_exs, va_Nw (.castable E E) s) ∧ ∀ y ∈ j_dcN, va_Nw (.declares y) s) ∧ (∀ E ∈ j_exs, ∀ F ∈ j_exs, E ≠ F → va_Nc E F s) ∧ (∀ t ∈ j_nsT, va_Nw (.methodLinkNest (j_cn t.1) t.2.1 t.2.2 "ShipJournal") s) ∧ va_AO "ShipJournal$State" s ∧ (∀ t ∈ j_srT, ∃ a, vk_R (j_cn t.1) t.2.1 t.2.2 a s) ∧
  vx_Zq Bundle.tN "UNASSIGNED_STACK" Bundle.steD (j_A base) s H ∧ vx_Zq Bundle.tN "SUPPRESSED_SENTINEL" Bundle.listD (j_A base) s H ∧ va_X b L xs s H ∧ b < base ∧ base ≤ H.size
/-- a method's frame: its code, its class, the words -/
def j_C (p : Program) (l : Launch) (R : Room) (s : State) (m : MethodId) (args : Array Value) (meth : Method) (c : Code) (me : jMe) (d : Nat) : Prop :=
  p.tables.exec = Jvm.exec ∧ c.code = me.2.2.1 ∧ c.maxLocals = me.2.2.2.1 ∧ s.vm.findClass (j_cn me.1) = some m.cls ∧ (∀ w ∈ j_gws, w.before args s = true) ∧ meth.locks = false ∧ (me.2.1.name = "<init>" → meth.name = "<init>") ∧ c.exceptionTable.toList = tableOf me.2.2.2.2.2.2 ∧ meth.sig.returnType = me.2.2.2.2.1 ∧ d ≤ R.frames ∧ 31 * d + 89 ≤ R.locals ∧ l.stackTraces = false
theorem j_fitcv (ad : Nat → Nat) (ty : FieldType) (v : Value) : (narrow ty v = v → narrow ty (j_cv ad v) = j_cv ad v) ∧ (fits ty v = true → fits ty (j_cv ad v) = true) := by
  cases v <;> cases ty <;> simp [j_cv, narrow, fits]
theorem j_in_vp {i : Int32} {z : Nat} (h : j_in i z) : vp_in i z := fun q => q.elim h.1 (fun q => Nat.not_le.mpr h.2 q)
section
variable {p : Program} {l : Launch} {e : Env} {R : Room} {s : State} {m : MethodId} {args : Array Value} {below : List Frame} {meth : Method} {c : Code} {H : Heap} {locs : List Loc} {cells slots : Nat} {Q : State → Prop}
variable {base b L : Nat} {xs : Nat → Int32} {D : va_G} {tc : Nat → ClassId} {n : Nat} {M M' : jM} {LS LS' : jL} {ST ST' : List Value} {ls : Array Slot} {pc pc' len d : Nat} {me : jMe} {I : Instr}
theorem j_go_ok {cnd : Prop} [Decidable cnd] {off : Int} {r : List Value} (h : j_go cnd pc off LS r M = some (pc', LS', ST', M')) : (LS' = LS ∧ ST' = r ∧ M' = M) ∧ ((pc : Int) + off = ((((pc : Int) + off).toNat : Nat) : Int)) ∧ ((cnd ∧ pc' = ((pc : Int) + off).toNat) ∨ (¬ cnd ∧ pc' = pc + 3)) := by
  unfold j_go at h
  obtain ⟨h0, h⟩ := j_c_some h
  split at h
  · rename_i h1
    cases h
    exact ⟨⟨rfl, rfl, rfl⟩, (Int.toNat_of_nonneg h0).symm, Or.inl ⟨h1, rfl⟩⟩
  · rename_i h1
    cases h
    exact ⟨⟨rfl, rfl, rfl⟩, (Int.toNat_of_nonneg h0).symm, Or.inr ⟨h1, rfl⟩⟩
set_option maxHeartbeats 8000000 in
set_option maxRecDepth 100000 in
theorem j_stp_ok (C : j_C p l R s m args meth c me d) (K : j_K base b L xs D tc s s.heap) (hst : j_stp (L, xs) me.1 (me.2.1.name == "<init>") I len pc LS ST M = some (pc', LS', ST', M')) (hd : decode me.2.2.1 pc = .ok (I, len))
    (w : j_W base b D tc n M H) (hS : va_S (j_A base) s.heap H locs) (hl : j_LH (j_ad base b) ls LS)
    (k : ∀ (H' : Heap) (locs' : List Loc) (ls' : Array Slot), j_W base b D tc n M' H' → va_S (j_A base) s.heap H' locs' → j_LH (j_ad base b) ls' LS' → LS'.length = LS.length → W p l e R s m args below meth c H' locs' cells slots Q (F0 m pc' ls' (ST'.map (j_cv (j_ad base b))))) :
    W p l e R s m args below meth c H locs cells slots Q (F0 m pc ls (ST.map (j_cv (j_ad base b)))) := by
  obtain ⟨hx, hb, hml, hown, hts, hlocks, hini, -, -, -, -, -⟩ := C
  obtain ⟨hK, -, -, -, -, -, -, -, hX, hbb, hbs⟩ := K
  have hbA : ¬ j_A base b := Nat.not_le.mpr hbb
  cases I with
  | iconst i =>
    obtain ⟨rfl, g0⟩ := j_c_some hst
    cases g0
    exact lv_iconst hx hb hd rfl (k _ _ _ w hS hl rfl)
  | bipush i =>
    obtain ⟨rfl, g0⟩ := j_c_some hst
    cases g0
    exact lv_bipush hx hb hd rfl (k _ _ _ w hS hl rfl)
  | sipush i =>
    obtain ⟨rfl, g0⟩ := j_c_some hst
    cases g0
    exact lv_sipush hx hb hd rfl (k _ _ _ w hS hl rfl)
  | ldc_w idx =>
    obtain ⟨rfl, g0⟩ := j_c_some hst
    obtain ⟨x, hk, g1⟩ := Option.bind_eq_some_iff.mp g0
    cases g1
    exact lv_ldcw hx hb hown (hts _ (j_ki_ok hk)) hd (k _ _ _ w hS hl rfl)
  | ldc idx =>
    obtain ⟨rfl, g0⟩ := j_c_some hst
    obtain ⟨x, hk, g1⟩ := Option.bind_eq_some_iff.mp g0
    cases g1
    exact lv_ldc hx hb hown (hts _ (j_ki_ok hk)) hd (k _ _ _ w hS hl rfl)
  | ldc2_w idx =>
    obtain ⟨rfl, g0⟩ := j_c_some hst
    obtain ⟨x, hk, g1⟩ := Option.bind_eq_some_iff.mp g0
    cases g1
    exact lv_ldc2 hx hb hown (hts _ (j_kj_ok hk)) hd (k _ _ _ w hS hl rfl)
  | iload i =>
    obtain ⟨rfl, g0⟩ := j_c_some hst
    obtain ⟨x, hk, g1⟩ := j_gI_some g0
    cases g1
    exact lv_iload hx hb hd (hl.at hk) (k _ _ _ w hS hl rfl)
  | iload_n i =>
    obtain ⟨rfl, g0⟩ := j_c_some hst
    obtain ⟨x, hk, g1⟩ := j_gI_some g0
    cases g1
    exact lv_iload_n hx hb hd rfl (hl.at hk) (k _ _ _ w hS hl rfl)
  | aload i =>
    obtain ⟨rfl, g0⟩ := j_c_some hst
    obtain ⟨x, hk, g1⟩ := j_gR_some g0
    cases g1
    exact lv_aload hx hb hd (hl.at hk) (k _ _ _ w hS hl rfl)
  | aload_n i =>
    obtain ⟨rfl, g0⟩ := j_c_some hst
    obtain ⟨x, hk, g1⟩ := j_gR_some g0
    cases g1
    exact lv_aload_n hx hb hd rfl (hl.at hk) (k _ _ _ w hS hl rfl)
  | lload_n i =>
    obtain ⟨rfl, g0⟩ := j_c_some hst
    obtain ⟨x, hk, g1⟩ := j_gJ_some g0
    cases g1
    exact lv_lload_n hx hb hd rfl (hl.at hk) (k _ _ _ w hS hl rfl)
  | dload i =>
    obtain ⟨rfl, g0⟩ := j_c_some hst
    obtain ⟨x, hk, g1⟩ := j_gD_some g0
    cases g1
    exact lv_dload hx hb hd (hl.at hk) (k _ _ _ w hS hl rfl)
  | istore i =>
    obtain ⟨rfl, g0⟩ := j_c_some hst
    obtain ⟨x, r, rfl, g1⟩ := j_i_some g0
    obtain ⟨h1, h2, g2⟩ := j_s1_some g1
    cases g2
    exact lv_istore hx hb hd hl h1 rfl (fun ls' hl' => k _ _ _ w hS (j_LH.set1 (fun v q => by cases q; rfl) h1 h2 hl') (List.length_set ..))
  | istore_n i =>
    obtain ⟨rfl, g0⟩ := j_c_some hst
    obtain ⟨x, r, rfl, g1⟩ := j_i_some g0
    obtain ⟨h1, h2, g2⟩ := j_s1_some g1
    cases g2
    exact lv_istore_n hx hb hd rfl hl h1 rfl (fun ls' hl' => k _ _ _ w hS (j_LH.set1 (fun v q => by cases q; rfl) h1 h2 hl') (List.length_set ..))
  | astore i =>
    obtain ⟨rfl, g0⟩ := j_c_some hst
    obtain ⟨x, r, rfl, g1⟩ := j_r_some g0
    obtain ⟨h1, h2, g2⟩ := j_s1_some g1
    cases g2
    exact lv_astore hx hb hd hl h1 rfl (fun ls' hl' => k _ _ _ w hS (j_LH.set1 (fun v q => by cases q; rfl) h1 h2 hl') (List.length_set ..))
  | astore_n i =>
    obtain ⟨rfl, g0⟩ := j_c_some hst
    obtain ⟨x, r, rfl, g1⟩ := j_r_some g0
    obtain ⟨h1, h2, g2⟩ := j_s1_some g1
    cases g2
    exact lv_astore_n hx hb hd rfl hl h1 rfl (fun ls' hl' => k _ _ _ w hS (j_LH.set1 (fun v q => by cases q; rfl) h1 h2 hl') (List.length_set ..))
  | lstore_n i =>
    obtain ⟨rfl, g0⟩ := j_c_some hst
    obtain ⟨x, r, rfl, g1⟩ := j_l_some g0
    obtain ⟨h1, h2, g2⟩ := j_s2_some g1
    cases g2
    exact lv_lstore_n hx hb hd rfl hl h1 rfl (fun ls' hl' => k _ _ _ w hS (j_LH.set2 (v := .long x) h1 h2 hl') (by rw [List.length_set, List.length_set]))
  | dstore i =>
    obtain ⟨rfl, g0⟩ := j_c_some hst
    obtain ⟨x, r, rfl, g1⟩ := j_d_some g0
    obtain ⟨h1, h2, g2⟩ := j_s2_some g1
    cases g2
    exact lv_dstore hx hb hd hl h1 rfl (fun ls' hl' => k _ _ _ w hS (j_LH.set2 (v := .double x) h1 h2 hl') (by rw [List.length_set, List.length_set]))
  | iinc i q =>
    obtain ⟨rfl, g0⟩ := j_c_some hst
    obtain ⟨x, hk, g1⟩ := j_gI_some g0
    obtain ⟨h1, h2, g2⟩ := j_s1_some g1
    cases g2
    obtain ⟨q0, hq0⟩ := List.getElem?_of_mem (j_lv_mem (ad := j_ad base b) (L := LS) (q := (i, .int x)) |>.mpr ⟨_, hk, rfl⟩)
    exact lv_iinc hx hb hd hl hq0 rfl h1 rfl (fun ls' hl' => k _ _ _ w hS (j_LH.set1 (fun v q => by cases q; rfl) h1 h2 hl') (List.length_set ..))
  | dup =>
    obtain ⟨rfl, g0⟩ := j_c_some hst
    obtain ⟨v, r, rfl, g1⟩ := j_v_some g0
    obtain ⟨h1, g2⟩ := j_c_some g1
    cases g2
    exact lv_dup hx hb hd (by rw [j_cv_cat]; exact h1) (k _ _ _ w hS hl rfl)
  | dup2 =>
    obtain ⟨rfl, g0⟩ := j_c_some hst
    obtain ⟨v, v2, r, rfl, g1⟩ := j_vv_some g0
    obtain ⟨h1, g2⟩ := j_c_some g1
    cases g2
    exact lv_dup2_11 hx hb hd (by rw [j_cv_cat]; first | exact h1.1 | exact h1.2) (by rw [j_cv_cat]; first | exact h1.2 | exact h1.1) (k _ _ _ w hS hl rfl)
  | pop =>
    obtain ⟨rfl, g0⟩ := j_c_some hst
    obtain ⟨v, r, rfl, g1⟩ := j_v_some g0
    obtain ⟨h1, g2⟩ := j_c_some g1
    cases g2
    exact lv_pop hx hb hd (by rw [j_cv_cat]; exact h1) (k _ _ _ w hS hl rfl)
  | iadd =>
    obtain ⟨rfl, g0⟩ := j_c_some hst
    obtain ⟨x, y, r, rfl, g1⟩ := j_ii_some g0
    cases g1
    exact lv_iadd hx hb hd (k _ _ _ w hS hl rfl)
  | isub =>
    obtain ⟨rfl, g0⟩ := j_c_some hst
    obtain ⟨x, y, r, rfl, g1⟩ := j_ii_some g0
    cases g1
    exact lv_isub hx hb hd (k _ _ _ w hS hl rfl)
  | imul =>
    obtain ⟨rfl, g0⟩ := j_c_some hst
    obtain ⟨x, y, r, rfl, g1⟩ := j_ii_some g0
    cases g1
    exact lv_imul hx hb hd (k _ _ _ w hS hl rfl)
  | idiv =>
    obtain ⟨rfl, g0⟩ := j_c_some hst
    obtain ⟨x, y, r, rfl, g1⟩ := j_ii_some g0
    obtain ⟨h1, g2⟩ := j_c_some g1
    cases g2
    exact lv_idiv hx hb hd h1 (k _ _ _ w hS hl rfl)
  | irem =>
    obtain ⟨rfl, g0⟩ := j_c_some hst
    obtain ⟨x, y, r, rfl, g1⟩ := j_ii_some g0
    obtain ⟨h1, g2⟩ := j_c_some g1
    cases g2
    exact lv_irem hx hb hd h1 (k _ _ _ w hS hl rfl)
  | ishl =>
    obtain ⟨rfl, g0⟩ := j_c_some hst
    obtain ⟨x, y, r, rfl, g1⟩ := j_ii_some g0
    cases g1
    exact lv_ishl hx hb hd (k _ _ _ w hS hl rfl)
  | ishr =>
    obtain ⟨rfl, g0⟩ := j_c_some hst
    obtain ⟨x, y, r, rfl, g1⟩ := j_ii_some g0
    cases g1
    exact lv_ishr hx hb hd (k _ _ _ w hS hl rfl)
  | iushr =>
    obtain ⟨rfl, g0⟩ := j_c_some hst
    obtain ⟨x, y, r, rfl, g1⟩ := j_ii_some g0
    cases g1
    exact lv_iushr hx hb hd rfl (k _ _ _ w hS hl rfl)
  | iand =>
    obtain ⟨rfl, g0⟩ := j_c_some hst
    obtain ⟨x, y, r, rfl, g1⟩ := j_ii_some g0
    cases g1
    exact lv_iand hx hb hd (k _ _ _ w hS hl rfl)
  | ior =>
    obtain ⟨rfl, g0⟩ := j_c_some hst
    obtain ⟨x, y, r, rfl, g1⟩ := j_ii_some g0
    cases g1
    exact lv_ior hx hb hd (k _ _ _ w hS hl rfl)
  | i2l =>
    obtain ⟨rfl, g0⟩ := j_c_some hst
    obtain ⟨x, r, rfl, g1⟩ := j_i_some g0
    cases g1
    exact lv_i2l hx hb hd rfl (k _ _ _ w hS hl rfl)
  | i2b =>
    obtain ⟨rfl, g0⟩ := j_c_some hst
    obtain ⟨x, r, rfl, g1⟩ := j_i_some g0
    cases g1
    exact lv_i2b hx hb hd rfl (k _ _ _ w hS hl rfl)
  | i2d =>
    obtain ⟨rfl, g0⟩ := j_c_some hst
    obtain ⟨x, r, rfl, g1⟩ := j_i_some g0
    cases g1
    exact lv_i2d hx hb hd (k _ _ _ w hS hl rfl)
  | ladd =>
    obtain ⟨rfl, g0⟩ := j_c_some hst
    obtain ⟨x, y, r, rfl, g1⟩ := j_ll_some g0
    cases g1
    exact lv_ladd hx hb hd (k _ _ _ w hS hl rfl)
  | lmul =>
    obtain ⟨rfl, g0⟩ := j_c_some hst
    obtain ⟨x, y, r, rfl, g1⟩ := j_ll_some g0
    cases g1
    exact lv_lmul hx hb hd (k _ _ _ w hS hl rfl)
  | lcmp =>
    obtain ⟨rfl, g0⟩ := j_c_some hst
    obtain ⟨x, y, r, rfl, g1⟩ := j_ll_some g0
    cases g1
    exact W.lcmp hx hb hd (k _ _ _ w hS hl rfl)
  | ddiv =>
    obtain ⟨rfl, g0⟩ := j_c_some hst
    obtain ⟨x, y, r, rfl, g1⟩ := j_dd_some g0
    obtain ⟨h1, g2⟩ := j_c_some g1
    cases g2
    exact lv_ddiv hx hb hd h1 (k _ _ _ w hS hl rfl)
  | dcmp op =>
    obtain ⟨rfl, g0⟩ := j_c_some hst
    obtain ⟨x, y, r, rfl, g1⟩ := j_dd_some g0
    cases g1
    exact lv_dcmp hx hb hd (k _ _ _ w hS hl rfl)
  | goto off =>
    obtain ⟨rfl, g0⟩ := j_c_some hst
    obtain ⟨⟨e2, e3, e4⟩, ht, ⟨h1, e5⟩ | ⟨h1, e5⟩⟩ := j_go_ok g0
    · subst e2; subst e3; subst e4; subst e5
      exact lv_goto hx hb hd ht (k _ _ _ w hS hl rfl)
    · exact absurd trivial h1
  | ifCond cnd off =>
    cases cnd with
    | eq =>
      obtain ⟨rfl, g⟩ := j_c_some hst
      obtain ⟨x, r, e1, g1⟩ := j_i_some g
      subst e1
      obtain ⟨⟨e2, e3, e4⟩, ht, ⟨h1, e5⟩ | ⟨h1, e5⟩⟩ := j_go_ok g1 <;> subst e2 <;> subst e3 <;> subst e4 <;> subst e5
      · exact lv_if_eq hx hb hd ht (fun _ => k _ _ _ w hS hl rfl) (fun q => absurd h1 q)
      · exact lv_if_eq hx hb hd ht (fun q => absurd q h1) (fun _ => k _ _ _ w hS hl rfl)
    | ne =>
      obtain ⟨rfl, g⟩ := j_c_some hst
      obtain ⟨x, r, e1, g1⟩ := j_i_some g
      subst e1
      obtain ⟨⟨e2, e3, e4⟩, ht, ⟨h1, e5⟩ | ⟨h1, e5⟩⟩ := j_go_ok g1 <;> subst e2 <;> subst e3 <;> subst e4 <;> subst e5
      · exact lv_if_ne hx hb hd ht (fun _ => k _ _ _ w hS hl rfl) (fun q => absurd q h1)
      · exact lv_if_ne hx hb hd ht (fun q => absurd q h1) (fun _ => k _ _ _ w hS hl rfl)
    | lt =>
      obtain ⟨rfl, g⟩ := j_c_some hst
      obtain ⟨x, r, e1, g1⟩ := j_i_some g
      subst e1
      obtain ⟨⟨e2, e3, e4⟩, ht, ⟨h1, e5⟩ | ⟨h1, e5⟩⟩ := j_go_ok g1 <;> subst e2 <;> subst e3 <;> subst e4 <;> subst e5
      · exact lv_if_lt hx hb hd ht (fun _ => k _ _ _ w hS hl rfl) (fun q => absurd h1 q)
      · exact lv_if_lt hx hb hd ht (fun q => absurd q h1) (fun _ => k _ _ _ w hS hl rfl)
    | le =>
      obtain ⟨rfl, g⟩ := j_c_some hst
      obtain ⟨x, r, e1, g1⟩ := j_i_some g
      subst e1
      obtain ⟨⟨e2, e3, e4⟩, ht, ⟨h1, e5⟩ | ⟨h1, e5⟩⟩ := j_go_ok g1 <;> subst e2 <;> subst e3 <;> subst e4 <;> subst e5
      · exact lv_if_le hx hb hd ht (fun _ => k _ _ _ w hS hl rfl) (fun q => absurd h1 q)
      · exact lv_if_le hx hb hd ht (fun q => absurd q h1) (fun _ => k _ _ _ w hS hl rfl)
    | gt =>
      obtain ⟨rfl, g⟩ := j_c_some hst
      obtain ⟨x, r, e1, g1⟩ := j_i_some g
      subst e1
      obtain ⟨⟨e2, e3, e4⟩, ht, ⟨h1, e5⟩ | ⟨h1, e5⟩⟩ := j_go_ok g1 <;> subst e2 <;> subst e3 <;> subst e4 <;> subst e5
      · exact lv_if_gt hx hb hd ht (fun _ => k _ _ _ w hS hl rfl) (fun q => absurd h1 q)
      · exact lv_if_gt hx hb hd ht (fun q => absurd q h1) (fun _ => k _ _ _ w hS hl rfl)
    | _ => exact absurd (show none = some _ from hst) (fun q => by cases q)
  | if_icmp cnd off =>
    cases cnd with
    | eq =>
      obtain ⟨rfl, g⟩ := j_c_some hst
      obtain ⟨x, y, r, e1, g1⟩ := j_ii_some g
      subst e1
      obtain ⟨⟨e2, e3, e4⟩, ht, ⟨h1, e5⟩ | ⟨h1, e5⟩⟩ := j_go_ok g1 <;> subst e2 <;> subst e3 <;> subst e4 <;> subst e5
      · exact lv_icmp_eq hx hb hd ht (fun _ => k _ _ _ w hS hl rfl) (fun q => absurd h1 q)
      · exact lv_icmp_eq hx hb hd ht (fun q => absurd q h1) (fun _ => k _ _ _ w hS hl rfl)
    | ne =>
      obtain ⟨rfl, g⟩ := j_c_some hst
      obtain ⟨x, y, r, e1, g1⟩ := j_ii_some g
      subst e1
      obtain ⟨⟨e2, e3, e4⟩, ht, ⟨h1, e5⟩ | ⟨h1, e5⟩⟩ := j_go_ok g1 <;> subst e2 <;> subst e3 <;> subst e4 <;> subst e5
      · exact lv_icmp_ne hx hb hd ht (fun _ => k _ _ _ w hS hl rfl) (fun q => absurd q h1)
      · exact lv_icmp_ne hx hb hd ht (fun q => absurd q h1) (fun _ => k _ _ _ w hS hl rfl)
    | lt =>
      obtain ⟨rfl, g⟩ := j_c_some hst
      obtain ⟨x, y, r, e1, g1⟩ := j_ii_some g
      subst e1
      obtain ⟨⟨e2, e3, e4⟩, ht, ⟨h1, e5⟩ | ⟨h1, e5⟩⟩ := j_go_ok g1 <;> subst e2 <;> subst e3 <;> subst e4 <;> subst e5
      · exact lv_icmp_lt hx hb hd ht (fun _ => k _ _ _ w hS hl rfl) (fun q => absurd h1 q)
      · exact lv_icmp_lt hx hb hd ht (fun q => absurd q h1) (fun _ => k _ _ _ w hS hl rfl)
    | ge =>
      obtain ⟨rfl, g⟩ := j_c_some hst
      obtain ⟨x, y, r, e1, g1⟩ := j_ii_some g
      subst e1
      obtain ⟨⟨e2, e3, e4⟩, ht, ⟨h1, e5⟩ | ⟨h1, e5⟩⟩ := j_go_ok g1 <;> subst e2 <;> subst e3 <;> subst e4 <;> subst e5
      · exact lv_icmp_ge hx hb hd ht (fun _ => k _ _ _ w hS hl rfl) (fun q => absurd h1 q)
      · exact lv_icmp_ge hx hb hd ht (fun q => absurd q h1) (fun _ => k _ _ _ w hS hl rfl)
    | gt =>
      obtain ⟨rfl, g⟩ := j_c_some hst
      obtain ⟨x, y, r, e1, g1⟩ := j_ii_some g
      subst e1
      obtain ⟨⟨e2, e3, e4⟩, ht, ⟨h1, e5⟩ | ⟨h1, e5⟩⟩ := j_go_ok g1 <;> subst e2 <;> subst e3 <;> subst e4 <;> subst e5
      · exact lv_icmp_gt hx hb hd ht (fun _ => k _ _ _ w hS hl rfl) (fun q => absurd h1 q)
      · exact lv_icmp_gt hx hb hd ht (fun q => absurd q h1) (fun _ => k _ _ _ w hS hl rfl)
    | le =>
      obtain ⟨rfl, g⟩ := j_c_some hst
      obtain ⟨x, y, r, e1, g1⟩ := j_ii_some g
      subst e1
      obtain ⟨⟨e2, e3, e4⟩, ht, ⟨h1, e5⟩ | ⟨h1, e5⟩⟩ := j_go_ok g1 <;> subst e2 <;> subst e3 <;> subst e4 <;> subst e5
      · exact lv_icmp_le hx hb hd ht (fun _ => k _ _ _ w hS hl rfl) (fun q => absurd h1 q)
      · exact lv_icmp_le hx hb hd ht (fun q => absurd q h1) (fun _ => k _ _ _ w hS hl rfl)
  | if_acmp cnd off =>
    cases cnd with
    | ne =>
      obtain ⟨rfl, g⟩ := j_c_some hst
      obtain ⟨x, y, r, e1, g1⟩ := j_rr_some g
      subst e1
      obtain ⟨⟨hx1, hx2⟩, g2⟩ := j_c_some g1
      have hinj : some (j_ad base b x) = some (j_ad base b y) → x = y := fun q => by
        have q := Option.some.inj q
        unfold j_ad at q
        rw [if_neg hx1, if_neg hx2] at q
        exact Nat.add_left_cancel q
      obtain ⟨⟨e2, e3, e4⟩, ht, ⟨h1, e5⟩ | ⟨h1, e5⟩⟩ := j_go_ok g2 <;> subst e2 <;> subst e3 <;> subst e4 <;> subst e5
      · exact lv_acmp_ne (rx := some (j_ad base b x)) (ry := some (j_ad base b y)) hx hb hd ht (fun _ => k _ _ _ w hS hl rfl) (fun q => absurd (hinj q) h1)
      · exact lv_acmp_ne (rx := some (j_ad base b x)) (ry := some (j_ad base b y)) hx hb hd ht (fun q => absurd (by rw [Decidable.not_not.mp h1]) q) (fun _ => k _ _ _ w hS hl rfl)
    | _ => exact absurd (show none = some _ from hst) (fun q => by cases q)
  | tableswitch dflt lo hi offs =>
    obtain ⟨x, r, e1, g1⟩ := j_i_some (show j_i ST _ = some _ from hst)
    subst e1
    split at g1
    · rename_i h1
      obtain ⟨h2, g2⟩ := j_c_some g1
      cases g2
      exact lv_tableOut hx hb hd h1 (Int.toNat_of_nonneg h2).symm (k _ _ _ w hS hl rfl)
    · rename_i h1
      obtain ⟨off, ho, g2⟩ := Option.bind_eq_some_iff.mp g1
      obtain ⟨h2, g3⟩ := j_c_some g2
      cases g3
      exact lv_tableIn hx hb hd (fun q => h1 (Or.inl q)) (fun q => h1 (Or.inr q)) ho (Int.toNat_of_nonneg h2).symm (k _ _ _ w hS hl rfl)
  | getfield idx =>
    obtain ⟨rfl, g⟩ := j_c_some hst
    obtain ⟨f, hf, g1⟩ := Option.bind_eq_some_iff.mp g
    obtain ⟨a, r, e1, g2⟩ := j_r_some g1
    subst e1
    obtain ⟨cc, fs, hM, g3⟩ := j_ob_some g2
    obtain ⟨h1, g4⟩ := j_c_some g3
    subst h1
    obtain ⟨v, hv, g5⟩ := Option.bind_eq_some_iff.mp g4
    cases g5
    obtain ⟨f1, f2, f3⟩ := j_fl_ok hf
    have ha : a < n := w.lt (by rw [hM]; exact j_nil_ob (by omega))
    show W p l e R s m args below meth c H locs cells slots Q (F0 m pc ls (.ref (j_ad base b a) :: r.map (j_cv (j_ad base b))))
    rw [w.ad ha]
    have he := j_wl_at (base := base) (b := b) (tc := tc) (M := M) ha
    rw [hM] at he
    exact va_get hx hb hts (j_inG f.1 f1) hown hK w.1 a he (j_cl_at f.1 f1) f.2 f2 (hts _ f3) (fun _ q => q) (v := j_cv (j_ad base b) v) (by rw [List.getElem?_map, hv]; rfl) hd (k _ _ _ w hS hl rfl)
  | putfield idx =>
    obtain ⟨rfl, g⟩ := j_c_some hst
    obtain ⟨f, hf, g1⟩ := Option.bind_eq_some_iff.mp g
    obtain ⟨v, a, r, e1, g2⟩ := j_vr_some g1
    subst e1
    obtain ⟨cc, fs, hM, g3⟩ := j_ob_some g2
    obtain ⟨⟨h1, hlen⟩, g4⟩ := j_c_some g3
    subst h1
    obtain ⟨⟨h2, h3, h4⟩, g5⟩ := j_c_some g4
    cases g5
    obtain ⟨f1, f2, f3⟩ := j_fl_ok hf
    have ha : a < n := w.lt (by rw [hM]; exact j_nil_ob (by omega))
    show W p l e R s m args below meth c H locs cells slots Q (F0 m pc ls (j_cv (j_ad base b) v :: .ref (j_ad base b a) :: ST'.map (j_cv (j_ad base b))))
    rw [w.ad ha]
    have he := j_wl_at (base := base) (b := b) (tc := tc) (M := M) ha
    rw [hM] at he
    have hcv := j_fitcv (j_ad base b) (j_ty f.1 f.2) v
    by_cases hfin : (j_T f.1 f.2).2.2.2 = true
    · rw [hfin] at h2
      simp only [Bool.and_true] at h2
      have h2 := h2.symm
      simp only [Bool.and_eq_true, beq_iff_eq] at h2
      obtain ⟨h5, h6⟩ := h2
      exact va_putF hx hb hts (j_inG f.1 f1) (j_ty f.1) (j_tyG f.1 f1) (j_nmG f.1 f1) hown hK w.1 j_wl_D hS a he (j_cl_at f.1 f1) f.2 f2 (hts _ f3) (fun _ q => q) hfin (hini h6) (by rw [j_dcl f.1 f1 f.2 f2, h5]) (j_tyG f.1 f1 f.2 f2) (hcv.1 h3) (hcv.2 h4) (by rw [List.length_map]; exact hlen) hd
        (fun H1 locs1 hP hD hS1 => by
          exact k _ _ _ (w.up ha (e := .inr (f.1, fs.set f.2 v)) (by rw [show j_ce (j_ad base b) tc (.inr (f.1, fs.set f.2 v)) = .inr (f.1, (fs.map (j_cv (j_ad base b))).set f.2 (j_cv (j_ad base b) v)) by simp [j_ce, List.map_set]]; exact hP)) hS1 hl rfl)
    · have hfin := Bool.eq_false_iff.mpr hfin
      exact va_put hx hb hts (j_inG f.1 f1) (j_ty f.1) (j_tyG f.1 f1) (j_nmG f.1 f1) hown hK w.1 j_wl_D hS a he (j_cl_at f.1 f1) f.2 f2 (hts _ f3) (fun _ q => q) hfin (j_tyG f.1 f1 f.2 f2) (hcv.1 h3) (hcv.2 h4) (by rw [List.length_map]; exact hlen) hd
        (fun H1 locs1 hP hD hS1 => by
          exact k _ _ _ (w.up ha (e := .inr (f.1, fs.set f.2 v)) (by rw [show j_ce (j_ad base b) tc (.inr (f.1, fs.set f.2 v)) = .inr (f.1, (fs.map (j_cv (j_ad base b))).set f.2 (j_cv (j_ad base b) v)) by simp [j_ce, List.map_set]]; exact hP)) hS1 hl rfl)
  | arraylength =>
    obtain ⟨rfl, g⟩ := j_c_some hst
    obtain ⟨a, r, e1, g1⟩ := j_r_some g
    subst e1
    obtain ⟨h1, g2⟩ := j_c_some g1
    subst h1
    cases g2
    exact va_slen hx hb hX (Nat.lt_of_lt_of_le hbb hbs) hbA hS hd (k _ _ _ w hS hl rfl)
  | iaload =>
    obtain ⟨rfl, g⟩ := j_c_some hst
    obtain ⟨i, a, r, e1, g1⟩ := j_ir_some g
    subst e1
    rcases j_aE_some g1 with ⟨t, z, f, hM, g2⟩ | g2
    · obtain ⟨⟨h1, h2⟩, g3⟩ := j_c_some g2
      subst h1
      cases g3
      have ha : a < n := w.lt (by rw [hM]; exact j_nil_ar)
      have he := j_wl_at (base := base) (b := b) (tc := tc) (M := M) ha
      rw [hM] at he
      show W p l e R s m args below meth c H locs cells slots Q (F0 m pc ls (.int i :: .ref (j_ad base b a) :: r.map (j_cv (j_ad base b))))
      rw [w.ad ha]
      exact va_iald hx hb hK w.1 a 0 he rfl (j_in_vp h2) hd (k _ _ _ w hS hl rfl)
    · obtain ⟨⟨h1, h2⟩, g3⟩ := j_c_some g2
      subst h1
      cases g3
      exact va_sld hx hb hX (Nat.lt_of_lt_of_le hbb hbs) hbA hS (j_in_vp h2) hd (k _ _ _ w hS hl rfl)
  | baload =>
    obtain ⟨rfl, g⟩ := j_c_some hst
    obtain ⟨i, a, r, e1, g1⟩ := j_ir_some g
    subst e1
    obtain ⟨t, z, f, hM, g2⟩ := j_aI_some g1
    obtain ⟨⟨h1, h2⟩, g3⟩ := j_c_some g2
    subst h1
    cases g3
    have ha : a < n := w.lt (by rw [hM]; exact j_nil_ar)
    have he := j_wl_at (base := base) (b := b) (tc := tc) (M := M) ha
    rw [hM] at he
    show W p l e R s m args below meth c H locs cells slots Q (F0 m pc ls (.int i :: .ref (j_ad base b a) :: r.map (j_cv (j_ad base b))))
    rw [w.ad ha]
    exact va_bald hx hb hK w.1 a 1 he rfl (j_in_vp h2) hd (k _ _ _ w hS hl rfl)
  | aaload =>
    obtain ⟨rfl, g⟩ := j_c_some hst
    obtain ⟨i, a, r, e1, g1⟩ := j_ir_some g
    subst e1
    obtain ⟨t, z, f, hM, g2⟩ := j_aQ_some g1
    obtain ⟨⟨h1, h2⟩, g3⟩ := j_c_some g2
    subst h1
    obtain ⟨q, hq, g4⟩ := Option.bind_eq_some_iff.mp g3
    cases g4
    have ha : a < n := w.lt (by rw [hM]; exact j_nil_ar)
    have he := j_wl_at (base := base) (b := b) (tc := tc) (M := M) ha
    rw [hM] at he
    show W p l e R s m args below meth c H locs cells slots Q (F0 m pc ls (.int i :: .ref (j_ad base b a) :: r.map (j_cv (j_ad base b))))
    rw [w.ad ha]
    refine va_aldq hx hb hK w.1 a 2 he rfl (j_in_vp h2) hd ?_
    rw [show va_rf ((fun j => (f j).map (j_ad base b)) i.toNatClampNeg) = .ref (j_ad base b q) by simp [hq, va_rf]]
    exact k _ _ _ w hS hl rfl
  | iastore =>
    obtain ⟨rfl, g⟩ := j_c_some hst
    obtain ⟨x, i, a, r, e1, g1⟩ := j_iir_some g
    subst e1
    obtain ⟨t, z, f, hM, g2⟩ := j_aI_some g1
    obtain ⟨⟨h1, h2⟩, g3⟩ := j_c_some g2
    subst h1
    cases g3
    have ha : a < n := w.lt (by rw [hM]; exact j_nil_ar)
    have he := j_wl_at (base := base) (b := b) (tc := tc) (M := M) ha
    rw [hM] at he
    show W p l e R s m args below meth c H locs cells slots Q (F0 m pc ls (.int x :: .int i :: .ref (j_ad base b a) :: ST'.map (j_cv (j_ad base b))))
    rw [w.ad ha]
    exact va_iast hx hb hK w.1 j_wl_D hS a 0 he rfl (j_in_vp h2) hd (fun H1 locs1 hP hD hS1 => k _ _ _ (w.up ha (e := .inl (0, z, .inl (upd f i.toNatClampNeg x))) hP) hS1 hl rfl)
  | bastore =>
    obtain ⟨rfl, g⟩ := j_c_some hst
    obtain ⟨x, i, a, r, e1, g1⟩ := j_iir_some g
    subst e1
    obtain ⟨t, z, f, hM, g2⟩ := j_aI_some g1
    obtain ⟨⟨h1, h2⟩, g3⟩ := j_c_some g2
    subst h1
    cases g3
    have ha : a < n := w.lt (by rw [hM]; exact j_nil_ar)
    have he := j_wl_at (base := base) (b := b) (tc := tc) (M := M) ha
    rw [hM] at he
    show W p l e R s m args below meth c H locs cells slots Q (F0 m pc ls (.int x :: .int i :: .ref (j_ad base b a) :: ST'.map (j_cv (j_ad base b))))
    rw [w.ad ha]
    exact va_bast hx hb hK w.1 j_wl_D hS a 1 he rfl (j_in_vp h2) hd (fun H1 locs1 hP hD hS1 => k _ _ _ (w.up ha (e := .inl (1, z, .inl (upd f i.toNatClampNeg (vp_nar .byte x)))) hP) hS1 hl rfl)
  | aastore =>
    obtain ⟨rfl, g⟩ := j_c_some hst
    obtain ⟨v, i, a, r, e1, g1⟩ := j_rir_some g
    subst e1
    obtain ⟨t, z, f, hM, g2⟩ := j_aQ_some g1
    obtain ⟨cv, fs, hV, g3⟩ := j_ob_some g2
    obtain ⟨⟨h1, h3, h2⟩, g4⟩ := j_c_some g3
    subst h1; subst h3
    cases g4
    have ha : a < n := w.lt (by rw [hM]; exact j_nil_ar)
    have hv : v < n := w.lt (by rw [hV]; exact j_nil_ob (by omega))
    have he := j_wl_at (base := base) (b := b) (tc := tc) (M := M) ha
    rw [hM] at he
    have he2 := j_wl_at (base := base) (b := b) (tc := tc) (M := M) hv
    rw [hV] at he2
    show W p l e R s m args below meth c H locs cells slots Q (F0 m pc ls (.ref (j_ad base b v) :: .int i :: .ref (j_ad base b a) :: ST'.map (j_cv (j_ad base b))))
    rw [w.ad ha, w.ad hv]
    refine va_astq hx hb hK w.1 j_wl_D hS a 2 v 2 (r := (RX2, TX2, 4)) he rfl he2 rfl (j_in_vp h2) hd (fun H1 locs1 hP hD hS1 => ?_)
    refine k _ _ _ (w.up ha (e := .inl (2, z, .inr (.inr (.inr (.inr (va_up f i.toNatClampNeg (some v))))))) ?_) hS1 hl rfl
    rw [show j_ce (j_ad base b) tc (.inl (2, z, .inr (.inr (.inr (.inr (va_up f i.toNatClampNeg (some v))))))) = .inl (tc 2, z, .inr (.inr (.inr (.inr (va_up (fun j => (f j).map (j_ad base b)) i.toNatClampNeg (some (base + v))))))) from ?_]
    · exact hP
    · have hf : (fun j => (va_up f i.toNatClampNeg (some v) j).map (j_ad base b)) = va_up (fun j => (f j).map (j_ad base b)) i.toNatClampNeg (some (base + v)) := by
        funext j
        by_cases hj : j = i.toNatClampNeg
        · subst hj
          rw [va_up_self, va_up_self, ← w.ad hv]
          rfl
        · rw [va_up_ne _ _ hj, va_up_ne _ _ hj]
      show (Sum.inl (tc 2, z, .inr (.inr (.inr (.inr (fun j => (va_up f i.toNatClampNeg (some v) j).map (j_ad base b)))))) : va_E) = _
      rw [hf]
  | _ => exact absurd (show none = some _ from hst) (fun q => by cases q)
end
end
section
/-! contracts out of runs -/
section
variable {base b L : Nat} {xs : Nat → Int32} {D : va_G} {tc : Nat → ClassId}
theorem j_K.warm {s U : State} {H H1 : Heap} (h : j_K base b L xs D tc s H) (hW : s.WarmedH U.vm) (hq : ∀ q : Nat, q < base → H1[q]? = H[q]?) (hz : base ≤ H1.size) : j_K base b L xs D tc U H1 := by
  obtain ⟨h1, h2, h3, h4, h5, h6, h7, h8, h9, h10, h11⟩ := h
  have hk : ∀ a : Nat, a < H.size → ¬ j_A base a → H1[a]? = H[a]? := fun a _ ha => hq a (Nat.not_le.mp ha)
  refine ⟨va_K.moved hW.alike h1, ⟨fun E hE => va_Nw.warmC hW (h2.1 E hE), fun y hy => va_Nw.warmD hW (h2.2 y hy)⟩, fun E hE F hF n => (h3 E hE F hF n).moved hW.alike, fun t ht => va_Nw.warmM hW (h4 t ht), va_AO.moved hW.alike h5, fun t ht => ?_, (h7.moved hW.alike).kept hk, (h8.moved hW.alike).kept hk, (h9.moved hW.alike).kept (hq b h10), h10, hz⟩
  obtain ⟨a, ha⟩ := h6 t ht
  exact ⟨a, vk_R.warm hW ha⟩
def j_Pre (base b L : Nat) (xs : Nat → Int32) (D : va_G) (tc : Nat → ClassId) (n : Nat) (fr : Bool) (M : jM) (U : State) : Prop :=
  j_K base b L xs D tc U U.heap ∧ j_W base b D tc n M U.heap ∧ (fr = true → U.heap.size = base + n)
def j_Qc (base b : Nat) (D : va_G) (tc : Nat → ClassId) (r : jR) : Array Value → State → Outcome → State → Prop := fun _ st o t =>
  (∃ v, r.1 = .inl v ∧ o = .returned (v.map (j_cv (j_ad base b)))) ∧ j_W base b D tc r.2.2.1 r.2.1 t.heap ∧ va_F (j_A base) st t
def j_XC (base b : Nat) (D : va_G) (tc : Nat → ClassId) (r : jR) : String → State → State → Prop := fun E st t =>
  r.1 = .inr E ∧ j_W base b D tc r.2.2.1 r.2.1 t.heap ∧ va_F (j_A base) st t
def j_ws (me : jMe) : List Cond := match me.2.2.2.2.2.2 with
  | [] => .code me.2.1 me.2.2.1 me.2.2.2.1 me.2.2.2.2.1 :: j_gws
  | x :: r => .codeWith me.2.1 me.2.2.1 me.2.2.2.1 me.2.2.2.2.1 (x :: r) :: j_gws
def j_rm (d : Nat) (r : jR) : Room := { frames := d, cells := r.2.2.2.2.1, slots := r.2.2.2.2.2, locals := 31 * d + 89 }
def j_isR (I : Instr) (ret : Option FieldType) (v : Option Value) : Prop :=
  (I = .ireturn ∧ ∃ x, v = some (.int x) ∧ (ret = some .int ∨ (ret = some .boolean ∧ x &&& 1 = x))) ∨ (I = .lreturn ∧ ret = some .long ∧ ∃ x, v = some (.long x)) ∨ (I = .dreturn ∧ ret = some .double ∧ ∃ x, v = some (.double x)) ∨
  (I = .areturn ∧ ret = some (.object "ShipJournal$Ship") ∧ ∃ x, v = some (.ref x)) ∨ (I = .return_ ∧ ret = none ∧ v = none)
/-- the ends of a run: what is owed there -/
def j_E (base b : Nat) (D : va_G) (tc : Nat → ClassId) (p : Program) (l : Launch) (e : Env) (R : Room) (s : State) (m : MethodId) (args : Array Value) (below : List Frame) (meth : Method) (c : Code) (me : jMe) (Q : State → Prop) (r : jR) : Prop :=
  (∀ (v : Option Value), r.1 = .inl v → ∀ (pc : Nat) (ls : Array Slot) (H : Heap) (locs : List Loc) (I : Instr), decode me.2.2.1 pc = .ok (I, 1) → j_isR I me.2.2.2.2.1 v → j_W base b D tc r.2.2.1 r.2.1 H → va_S (j_A base) s.heap H locs → W p l e R s m args below meth c H locs r.2.2.2.2.1 r.2.2.2.2.2 Q (F0 m pc ls (v.toList.map (j_cv (j_ad base b))))) ∧
  (∀ E : String, r.1 = .inr E → ∃ (Qc : Array Value → State → Outcome → State → Prop) (XC : String → State → State → Prop) (mc ms : Nat), Q = vx_MQ below Qc XC args s mc ms (j_A base) ∧ r.2.2.2.2.1 ≤ mc ∧ r.2.2.2.2.2 ≤ ms ∧ ∀ t : State, s.vm.Alike t.vm → j_W base b D tc r.2.2.1 r.2.1 t.heap → va_F (j_A base) s t → XC E s t)
/-- what a run from here says -/
def j_Cn (l : Launch) (base b L : Nat) (xs : Nat → Int32) (D : va_G) (tc : Nat → ClassId) (d i pc : Nat) (LS : jL) (ST : List Value) (M : jM) (h : jH) (r : jR) : Prop :=
  (h.2.2.1 ≤ r.2.2.2.2.1 ∧ h.2.2.2 ≤ r.2.2.2.2.2) ∧ (r.2.2.2.1 = true → h.2.1 = true ∧ r.2.2.1 + h.2.2.1 = h.1 + r.2.2.2.2.1) ∧
  ∀ (p : Program) (e : Env) (R : Room) (s : State) (m : MethodId) (args : Array Value) (below : List Frame) (meth : Method) (c : Code) (H : Heap) (locs : List Loc) (Q : State → Prop) (me : jMe) (ls : Array Slot),
    j_mt[i]? = some me → j_C p l R s m args meth c me d → j_K base b L xs D tc s s.heap → r.2.2.2.2.1 ≤ R.cells → r.2.2.2.2.2 ≤ R.slots → (h.2.1 = true → s.heap.size + h.2.2.1 = base + h.1) → LS.length = me.2.2.2.1 → j_W base b D tc h.1 M H → va_S (j_A base) s.heap H locs → j_LH (j_ad base b) ls LS → j_E base b D tc p l e R s m args below meth c me Q r →
    W p l e R s m args below meth c H locs h.2.2.1 h.2.2.2 Q (F0 m pc ls (ST.map (j_cv (j_ad base b))))
def j_Good (l : Launch) (base b L : Nat) (xs : Nat → Int32) (D : va_G) (tc : Nat → ClassId) (rec : jQ) : Prop :=
  ∀ (d i pc : Nat) (LS : jL) (ST : List Value) (M : jM) (h : jH) (r : jR), rec d i pc LS ST M h = some r → j_Cn l base b L xs D tc d i pc LS ST M h r
theorem j_sl_args (ad : Nat → Nat) (vs : List Value) : ∀ (k : Nat) (j : Nat) (v : Value), (j_sl vs)[j]? = some (some v) → (k + j, j_cv ad v) ∈ lv_args k (vs.map (j_cv ad)) := by
  induction vs with
  | nil => intro k j v h; simp [j_sl] at h
  | cons x vs ih =>
    intro k j v h
    unfold j_sl at h
    show _ ∈ (k, j_cv ad x) :: lv_args _ _
    split at h
    · rename_i hc
      rw [j_cv_cat, if_pos hc]
      match j, h with
      | 0, h => cases h; exact List.mem_cons_self
      | 1, h => cases h
      | j + 2, h =>
        have h2 := ih (k + 2) j v h
        rw [show k + (j + 2) = k + 2 + j by omega]
        exact List.mem_cons_of_mem _ h2
    · rename_i hc
      rw [j_cv_cat, if_neg hc]
      match j, h with
      | 0, h => cases h; exact List.mem_cons_self
      | j + 1, h =>
        have h2 := ih (k + 1) j v h
        rw [show k + (j + 1) = k + 1 + j by omega]
        exact List.mem_cons_of_mem _ h2
theorem j_sl_len (ad : Nat → Nat) (vs : List Value) : (lg_sl (vs.map (j_cv ad))).length = (j_sl vs).length := by
  induction vs with
  | nil => rfl
  | cons x vs ih =>
    unfold j_sl
    have h1 : lg_sl ((x :: vs).map (j_cv ad)) = (if (j_cv ad x).category = 2 then [.val (j_cv ad x), .second] else [.val (j_cv ad x)]) ++ lg_sl (vs.map (j_cv ad)) := rfl
    rw [h1, j_cv_cat]
    split
    · simp [ih]
    · simp [ih]
theorem j_ent_len {n : Nat} {vs : List Value} (h : (j_sl vs).length ≤ n) : (j_ent n vs).length = n := by
  unfold j_ent j_pad
  simp
  omega
theorem j_ent_LH (ad : Nat → Nat) {n : Nat} {vs : List Value} (h : (j_sl vs).length ≤ n) : j_LH ad ((lg_sl (vs.map (j_cv ad)) ++ List.replicate (n - (lg_sl (vs.map (j_cv ad))).length) Slot.unset).toArray) (j_ent n vs) := by
  have h0 := lv_entry (vs.map (j_cv ad)) (n := n) (by rw [j_sl_len]; exact h)
  refine ⟨by rw [j_ent_len h]; exact h0.1, h0.2.1, fun q hq => h0.2.2 q ?_⟩
  obtain ⟨v, hv, h2⟩ := j_lv_mem.mp hq
  obtain ⟨j, c⟩ := q
  dsimp only at hv h2
  subst h2
  have h3 : (j_sl vs)[j]? = some (some v) := by
    unfold j_ent j_pad at hv
    by_cases hj : j < (j_sl vs).length
    · rw [List.getElem?_append_left hj] at hv
      exact hv
    · rw [List.getElem?_append_right (by omega)] at hv
      have := List.eq_of_mem_replicate (List.mem_of_getElem? hv)
      cases this
  have h4 := j_sl_args ad vs 0 j v h3
  rwa [Nat.zero_add] at h4
theorem j_bool {x : Int32} (h : x &&& 1 = x) : narrow .boolean (.int x) = .int x := by
  show Value.int (x &&& 1) = _
  rw [h]
set_option maxHeartbeats 4000000 in
set_option maxRecDepth 100000 in
theorem j_met {l : Launch} (hlt : l.stackTraces = false) {rec : jQ} (G : j_Good l base b L xs D tc rec) {d t n : Nat} {fr : Bool} {mf : jMe} {vs : List Value} {M : jM} {r : jR} (hmf : j_mt[t]? = some mf) (hlen : (j_sl vs).length ≤ mf.2.2.2.1) (hr : rec d t 0 (j_ent mf.2.2.2.1 vs) [] M (n, fr, 0, 0) = some r) :
    vx_Met l mf.2.1 (j_ws mf) (j_rm d r) (va_Pc (vs.map (j_cv (j_ad base b))) (j_Pre base b L xs D tc n fr M)) (j_Qc base b D tc r) (j_XC base b D tc r) r.2.2.2.2.1 r.2.2.2.2.2 (j_A base) := by
  have hmem := List.mem_of_getElem? hmf
  have hok := List.all_eq_true.mp j_okM_all mf hmem
  simp only [j_okM, j_pn, Bool.and_eq_true, decide_eq_true_eq] at hok
  obtain ⟨⟨⟨hml9, hpn, -⟩, hci9⟩, hcn⟩ := hok
  have key : ∀ (p : Program) (e : Env) (s : State) (m : MethodId) (args : Array Value) (below : List Frame) (meth : Method) (c : Code), j_C p l (headSpec (j_ws mf) (j_rm d r)).room s m args meth c mf d → va_Pc (vs.map (j_cv (j_ad base b))) (j_Pre base b L xs D tc n fr M) args s →
      W p l e (headSpec (j_ws mf) (j_rm d r)).room s m args below meth c s.heap [] 0 0 (vx_MQ below (j_Qc base b D tc r) (j_XC base b D tc r) args s r.2.2.2.2.1 r.2.2.2.2.2 (j_A base)) (entryFrame m args mf.2.2.2.1) := by
    intro p e s m args below meth c C hv
    obtain ⟨rfl, hK, hW, hfr⟩ := hv
    obtain ⟨h1, h2, h3⟩ := G d t 0 (j_ent mf.2.2.2.1 vs) [] M (n, fr, 0, 0) r hr
    rw [lg_entry_eq]
    refine h3 p e _ s m _ below meth c s.heap [] _ mf _ hmf C hK (Nat.le_refl _) (Nat.le_refl _) (fun q => hfr q) (j_ent_len hlen) hW va_S.rf (j_ent_LH _ hlen) ⟨?_, ?_⟩
    · obtain ⟨hx, hb, hml, hown, hts, hlocks, hini, htab, hret, -, -, -⟩ := C
      intro v hv pc ls H locs I hd hI hW1 hS1
      refine vx_ret ?_
      rcases hI with ⟨rfl, x, rfl, hx1 | ⟨hx1, hx2⟩⟩ | ⟨rfl, hx1, x, rfl⟩ | ⟨rfl, hx1, x, rfl⟩ | ⟨rfl, hx1, x, rfl⟩ | ⟨rfl, hx1, rfl⟩
      · exact W.iret (v := x) hx hb (hret.trans hx1) (fun t ht _ => ⟨⟨_, hv, rfl⟩, by rw [ht]; exact hW1, hS1.F ht⟩) hS1.2.2 hd
      · exact W.zret (v := x) hx hb (hret.trans hx1) (j_bool hx2) (fun t ht _ => ⟨⟨_, hv, rfl⟩, by rw [ht]; exact hW1, hS1.F ht⟩) hS1.2.2 hd
      · exact W.lret (v := x) hx hb (hret.trans hx1) (fun t ht _ => ⟨⟨_, hv, rfl⟩, by rw [ht]; exact hW1, hS1.F ht⟩) hS1.2.2 hd
      · exact W.dret (v := x) hx hb (hret.trans hx1) (fun t ht _ => ⟨⟨_, hv, rfl⟩, by rw [ht]; exact hW1, hS1.F ht⟩) hS1.2.2 hd
      · exact W.aret (v := .ref (j_ad base b x)) hx hb (hret.trans hx1) (Or.inl ⟨_, rfl⟩) (Or.inr ⟨_, rfl⟩) (fun t ht _ => ⟨⟨_, hv, rfl⟩, by rw [ht]; exact hW1, hS1.F ht⟩) hS1.2.2 hd
      · exact W.vret hx hb (hret.trans hx1) (fun t ht _ => ⟨⟨_, hv, rfl⟩, by rw [ht]; exact hW1, hS1.F ht⟩) hS1.2.2 hd
    · intro E hE
      exact ⟨_, _, _, _, rfl, Nat.le_refl _, Nat.le_refl _, fun t _ hW1 hF => ⟨hE, hW1, hF⟩⟩
  have hC0 : ∀ {p : Program} {e : Env} {s s₁ : State} {m : MethodId} {args : Array Value} {below : List Frame} {meth : Method} {c : Code}, BodyLoose p l mf.2.1 (headSpec (j_ws mf) (j_rm d r)) mf.2.2.1 mf.2.2.2.1 mf.2.2.2.2.1 e s m args below meth c s₁ → c.maxLocals = mf.2.2.2.1 → c.exceptionTable.toList = tableOf mf.2.2.2.2.2.2 → j_C p l (headSpec (j_ws mf) (j_rm d r)).room s m args meth c mf d := by
    intro p e s s₁ m args below meth c B hml htab
    have hts := atoms_spec (ws := j_ws mf) B.pre
    refine ⟨B.exec, B.bytes, hml, ?_, fun w hw => hts w ?_, B.notSynchronized, fun q => (name_of_methodNamed B.named B.method).1.trans q, htab, B.returns, Nat.le_refl _, Nat.le_refl _, hlt⟩
    · rw [hcn]; exact findClass_of_methodNamed B.named
    · unfold j_ws
      split
      · exact List.mem_cons_of_mem _ hw
      · exact List.mem_cons_of_mem _ hw
  cases hhh : mf.2.2.2.2.2.2 with
  | nil =>
    refine vx_ofW (cc := mf.2.2.1) (maxL := mf.2.2.2.1) (ret := mf.2.2.2.2.1) (ws' := j_gws) hpn (by unfold j_ws; rw [hhh]) ?_
    intro p e s m args below meth c s₁ B hml hno hv
    exact key p e s m args below meth c (hC0 B hml (by rw [hhh]; exact List.eq_nil_iff_forall_not_mem.mpr hno)) hv
  | cons x y =>
    refine vx_ofWH (cc := mf.2.2.1) (maxL := mf.2.2.2.1) (ret := mf.2.2.2.2.1) (hh := x :: y) (ws' := j_gws) hpn (by unfold j_ws; rw [hhh]) ?_
    intro p e s m args below meth c s₁ B hml hv
    exact key p e s m args below meth c (hC0 B hml (by
      have hts := atoms_spec (ws := j_ws mf) B.pre
      have := vx_table (x := mf.2.1) B (hts (.codeWith mf.2.1 mf.2.2.1 mf.2.2.2.1 mf.2.2.2.2.1 (x :: y)) (by unfold j_ws; rw [hhh]; exact List.mem_cons_self))
      rw [this, hhh])) hv
end
end
section
/-! ===== BEGIN a constructor that throws (launches without stack traces) ===== -/
section VXIA
variable {p : Program} {l : Launch} {e : Env} {R : Room} {s : State} {m : MethodId} {args : Array Value} {below : List Frame} {meth : Method} {c : Code} {T : State} {locs : List Loc} {cells slots : Nat}
theorem vx_callI (X : Stand p l e R s m args below meth c T locs cells slots) (hexec : p.tables.exec = Jvm.exec) {own : String} {index : Nat} {y : MethodName} {bytes : ByteArray} {maxL : Nat}
    (hown : s.vm.findClass own = some m.cls) (hy1 : y.name = "<init>") (hlink : (Cond.methodLink own index y).before args s = true) (hinst : (Cond.instanceMethod y).before args s = true)
    (hcode : (Cond.code y bytes maxL none).before args s = true) (hy : y.cls ≠ "java/lang/invoke/MethodHandle" ∧ y.cls ≠ "java/lang/invoke/VarHandle")
    {W9 : Nat} {Pre : Pt → Array Value → Prop} {Post : Pt → Array Value → Option Value → Pt → Prop} {PostX : Pt → Array Value → Addr → Pt → Prop} (hK : vx_Back l R p e below s args y 3 W9 Pre Post PostX)
    {g : JFrame} (hg : g.method = m) (hsize : g.locals.size = c.maxLocals) {a : Addr} {argsL rest : List Value} (hlen : ∀ sig, parseMethodDescriptor y.desc = some sig → argsL.length = sig.parameters.length)
    (hstack : g.stack = argsL.reverse ++ .ref a :: rest) (hW : 2 * g.monitorRoom + (rest.map fun v => v.category).sum ≤ W9) (hdg : decode c.code g.pc = .ok (.invokespecial index, 3))
    (hpre : ∀ vm₁, s.WarmedH vm₁ → Pre ⟨T.setVm vm₁, locs, cells, slots⟩ (Value.ref a :: argsL).toArray) :
    (∃ (v : Option Value) (vm₁ : Vm) (B : Pt), s.WarmedH vm₁ ∧ Stand p l e R s m args below meth c B.U B.locs B.cells B.slots ∧ Post ⟨T.setVm vm₁, locs, cells, slots⟩ (Value.ref a :: argsL).toArray v B ∧
      ∀ target, Steps p.tables e below (B.U.setTop { g with pc := g.pc + 3, stack := v.toList ++ rest }) target → Steps p.tables e below (T.setTop g) target) ∨
    (∃ (q : Addr) (vm₁ : Vm) (B : Pt), s.WarmedH vm₁ ∧ Stand p l e R s m args below meth c B.U B.locs B.cells B.slots ∧ PostX ⟨T.setVm vm₁, locs, cells, slots⟩ (Value.ref a :: argsL).toArray q B ∧
      Steps p.tables e below (T.setTop g) ((B.U.setTop { g with stack := rest }).pushFrame (.throwing q))) := by
  subst hg
  have hpl : e.platform.magicAccessors = ({} : Platform).magicAccessors := by rw [X.admits.platform]
  obtain ⟨mk, methM, cM, kP, vm₁, hnamed, hmethM, hcodeM, -, hlocalsM, -, hkP, -, hW₁, hstep₁⟩ := Steps.initColdArgs (e := e) X.here hexec X.warmed hpl hown hy1 hy hlink hinst hcode (f := g) rfl hlen hstack hdg
  have X₁ := X.noted hW₁
  rcases hK g.method meth c ⟨T.setVm vm₁, locs, cells, slots⟩ { g with stack := rest } (.invokespecial index) mk (Value.ref a :: argsL).toArray X₁ rfl hsize hdg hW (X₁.named hnamed) (hpre vm₁ X₁.warmed) with ⟨v, B, X', hpost, hsteps⟩ | ⟨q, B, X', hpost, hsteps⟩
  · exact Or.inl ⟨v, vm₁, B, X₁.warmed, X', hpost, fun target h => hstep₁ _ fun acts => by rw [doInvoke_state]; exact hsteps.trans h⟩
  · exact Or.inr ⟨q, vm₁, B, X₁.warmed, X', hpost, hstep₁ _ fun acts => by rw [doInvoke_state]; exact hsteps⟩
end VXIA
section VXIB
variable {p : Program} {l : Launch} {e : Env} {R : Room} {s : State} {m : MethodId} {args : Array Value} {below : List Frame} {meth : Method} {c : Code} {H : Heap} {locs : List Loc} {cells slots : Nat}
variable {y : MethodName} {bytes cc : ByteArray} {maxL nL mc ms n index : Nat} {ret : Option FieldType} {ws : List Cond} {rm : Room} {Pc : Array Value → State → Prop} {Qc : Array Value → State → Outcome → State → Prop} {XC : String → State → State → Prop} {free : Addr → Prop} {Ts : List Cond} {own C : String} {b : Addr} {As rest : List Value} {g : JFrame}
theorem vx_runI (S : CallFix p m c cc nL s args Ts own) (hM : vx_Met l y ws rm Pc Qc XC mc ms free) (cw : CallB R s args own index y bytes maxL none ws rm mc ms n ∧ y.name = "<init>" ∧ (Cond.instanceMethod y).before args s = true) (hp : PreS s H Pc (.ref b :: As))
    (hg : g.method = m) (hn : As.length = n) (hsize : g.locals.size = nL) (hstack : g.stack = As.reverse ++ .ref b :: rest) (hW : 2 * g.monitorRoom + (rest.map fun v => v.category).sum ≤ 8) (hdg : decode cc g.pc = .ok (.invokespecial index, 3)) (hf : cells + mc ≤ R.cells ∧ slots + ms ≤ R.slots) :
    vx_Run p l e R s m args below meth c H locs cells slots mc ms g rest (Qc (Value.ref b :: As).toArray) XC free := by
  have hK : vx_Back l R p e below s args y 3 8 (PreOf R mc ms Pc) (PostOf Qc mc ms free) (vx_Post XC mc ms free) := vx_callBack cw.1 hM hp.1
  obtain ⟨⟨-, -, -, -, -, -, hcode, -, hy, hlen, hl⟩, hy1, hin⟩ := cw
  obtain ⟨hx, hb, hml, ho, -⟩ := S
  have hPc := hp.2
  intro T hT X
  rcases vx_callI X hx (bytes := bytes) (maxL := maxL) ho hy1 hl hin hcode hy hK hg (hsize.trans hml.symm) (a := b) (argsL := As) (rest := rest) (fun sig h => hn.trans (hlen sig h)) hstack hW (by rw [hb]; exact hdg)
    (fun vm₁ hW₁ => ⟨hf.1, hf.2, hPc (T.setVm vm₁) hT hW₁⟩) with ⟨v, vm₁, ⟨U', l2, c2, s2⟩, hW₁, X', ⟨g', mk, t, L, e1, e2, hq, h1, hL, h2, h3⟩, st⟩ | ⟨q, vm₁, ⟨U', l2, c2, s2⟩, hW₁, X', ⟨g', mk, t, L, E, ce, e1, e2, hq, hce, hcv, hcl, h1, hL, h2, h3⟩, st⟩
  · dsimp only [Pt.U, Pt.locs, Pt.cells, Pt.slots] at X' e1 e2 h1 h2 h3 st
    subst h1; subst h2; subst h3
    exact Or.inl ⟨v, (T.setVm vm₁).calling g' mk (Value.ref b :: As).toArray, t, U', L, hT, X', hL, e1, e2, hq, st⟩
  · dsimp only [Pt.U, Pt.locs, Pt.cells, Pt.slots] at X' e1 e2 h1 h2 h3 st hcl
    subst h1; subst h2; subst h3
    exact Or.inr ⟨q, (T.setVm vm₁).calling g' mk (Value.ref b :: As).toArray, t, U', L, E, ce, hT, X', hL, e1, e2, hq, hce, hcv, vx_cls hW₁ hcl, st⟩
end VXIB
/-! ===== END ===== -/
/-! ===== BEGIN a private constructor of a nest mate that throws ===== -/
section VXIC
variable {p : Program} {l : Launch} {e : Env} {R : Room} {s : State} {m : MethodId} {args : Array Value} {below : List Frame} {meth : Method} {c : Code} {T : State} {locs : List Loc} {cells slots : Nat}
theorem vx_callIN (X : Stand p l e R s m args below meth c T locs cells slots) (hexec : p.tables.exec = Jvm.exec) {own : String} {index : Nat} {host : String} {y : MethodName} {bytes : ByteArray} {maxL : Nat}
    (hown : s.vm.findClass own = some m.cls) (hy1 : y.name = "<init>") (hlink : (Cond.methodLinkNest own index y host).before args s = true) (hinst : (Cond.instanceMethod y).before args s = true)
    (hcode : (Cond.code y bytes maxL none).before args s = true) (hy : y.cls ≠ "java/lang/invoke/MethodHandle" ∧ y.cls ≠ "java/lang/invoke/VarHandle")
    {W9 : Nat} {Pre : Pt → Array Value → Prop} {Post : Pt → Array Value → Option Value → Pt → Prop} {PostX : Pt → Array Value → Addr → Pt → Prop} (hK : vx_Back l R p e below s args y 3 W9 Pre Post PostX)
    {g : JFrame} (hg : g.method = m) (hsize : g.locals.size = c.maxLocals) {a : Addr} {argsL rest : List Value} (hlen : ∀ sig, parseMethodDescriptor y.desc = some sig → argsL.length = sig.parameters.length)
    (hstack : g.stack = argsL.reverse ++ .ref a :: rest) (hW : 2 * g.monitorRoom + (rest.map fun v => v.category).sum ≤ W9) (hdg : decode c.code g.pc = .ok (.invokespecial index, 3))
    (hpre : ∀ vm₁, s.WarmedH vm₁ → Pre ⟨T.setVm vm₁, locs, cells, slots⟩ (Value.ref a :: argsL).toArray) :
    (∃ (v : Option Value) (vm₁ : Vm) (B : Pt), s.WarmedH vm₁ ∧ Stand p l e R s m args below meth c B.U B.locs B.cells B.slots ∧ Post ⟨T.setVm vm₁, locs, cells, slots⟩ (Value.ref a :: argsL).toArray v B ∧
      ∀ target, Steps p.tables e below (B.U.setTop { g with pc := g.pc + 3, stack := v.toList ++ rest }) target → Steps p.tables e below (T.setTop g) target) ∨
    (∃ (q : Addr) (vm₁ : Vm) (B : Pt), s.WarmedH vm₁ ∧ Stand p l e R s m args below meth c B.U B.locs B.cells B.slots ∧ PostX ⟨T.setVm vm₁, locs, cells, slots⟩ (Value.ref a :: argsL).toArray q B ∧
      Steps p.tables e below (T.setTop g) ((B.U.setTop { g with stack := rest }).pushFrame (.throwing q))) := by
  subst hg
  have hpl : e.platform.magicAccessors = ({} : Platform).magicAccessors := by rw [X.admits.platform]
  obtain ⟨mk, methM, cM, kP, vm₁, hnamed, hmethM, hcodeM, -, hlocalsM, -, hkP, -, hW₁, hstep₁⟩ := Steps.initColdArgsNest (e := e) X.here hexec X.warmed hpl hown hy1 hy hlink hinst hcode (f := g) rfl hlen hstack hdg
  have X₁ := X.noted hW₁
  rcases hK g.method meth c ⟨T.setVm vm₁, locs, cells, slots⟩ { g with stack := rest } (.invokespecial index) mk (Value.ref a :: argsL).toArray X₁ rfl hsize hdg hW (X₁.named hnamed) (hpre vm₁ X₁.warmed) with ⟨v, B, X', hpost, hsteps⟩ | ⟨q, B, X', hpost, hsteps⟩
  · exact Or.inl ⟨v, vm₁, B, X₁.warmed, X', hpost, fun target h => hstep₁ _ fun acts => by rw [doInvoke_state]; exact hsteps.trans h⟩
  · exact Or.inr ⟨q, vm₁, B, X₁.warmed, X', hpost, hstep₁ _ fun acts => by rw [doInvoke_state]; exact hsteps⟩
end VXIC
section VXID
variable {p : Program} {l : Launch} {e : Env} {R : Room} {s : State} {m : MethodId} {args : Array Value} {below : List Frame} {meth : Method} {c : Code} {H : Heap} {locs : List Loc} {cells slots : Nat}
theorem vx_runIN {y : MethodName} {bytes cc : ByteArray} {maxL nL mc ms n index : Nat} {ws : List Cond} {rm : Room} {Pc : Array Value → State → Prop} {Qc : Array Value → State → Outcome → State → Prop} {XC : String → State → State → Prop} {free : Addr → Prop} {Ts : List Cond} {own host : String} {b : Addr} {As rest : List Value} {g : JFrame}
    (S : CallFix p m c cc nL s args Ts own) (hM : vx_Met l y ws rm Pc Qc XC mc ms free) (cw : va_CN R s args own index y host bytes maxL none ws rm mc ms n ∧ y.name = "<init>" ∧ (Cond.instanceMethod y).before args s = true) (hp : PreS s H Pc (.ref b :: As))
    (hg : g.method = m) (hn : As.length = n) (hsize : g.locals.size = nL) (hstack : g.stack = As.reverse ++ .ref b :: rest) (hW : 2 * g.monitorRoom + (rest.map fun v => v.category).sum ≤ 8) (hdg : decode cc g.pc = .ok (.invokespecial index, 3)) (hf : cells + mc ≤ R.cells ∧ slots + ms ≤ R.slots) :
    vx_Run p l e R s m args below meth c H locs cells slots mc ms g rest (Qc (Value.ref b :: As).toArray) XC free := by
  obtain ⟨⟨⟨hrc, hrs, hfr, hlo, hws, hcw⟩, hcode, hini, hy, hlen, hl⟩, hx1, hx2⟩ := cw
  have hK : vx_Back l R p e below s args y 3 8 (PreOf R mc ms Pc) (PostOf Qc mc ms free) (vx_Post XC mc ms free) := vx_back (bytes := bytes) (maxL := maxL) (ret := none) hM hp.1 hrc hrs hfr hlo hws hcw (fun a' U hW => word_at hW (Or.inl (by first | rfl | simp [Cond.onTables, Cond.keeps, Cond.steady])) hini)
  obtain ⟨hx, hb, hml, ho, -⟩ := S
  have hPc := hp.2
  intro T hT X
  rcases vx_callIN X hx (bytes := bytes) (maxL := maxL) ho hx1 hl hx2 hcode hy hK hg (hsize.trans hml.symm) (a := b) (argsL := As) (rest := rest) (fun sig h => hn.trans (hlen sig h)) hstack hW (by rw [hb]; exact hdg)
    (fun vm₁ hW₁ => ⟨hf.1, hf.2, hPc (T.setVm vm₁) hT hW₁⟩) with ⟨v, vm₁, ⟨U', l2, c2, s2⟩, hW₁, X', ⟨g', mk, t, L, e1, e2, hq, h1, hL, h2, h3⟩, st⟩ | ⟨q, vm₁, ⟨U', l2, c2, s2⟩, hW₁, X', ⟨g', mk, t, L, E, ce, e1, e2, hq, hce, hcv, hcl, h1, hL, h2, h3⟩, st⟩
  · dsimp only [Pt.U, Pt.locs, Pt.cells, Pt.slots] at X' e1 e2 h1 h2 h3 st
    subst h1; subst h2; subst h3
    exact Or.inl ⟨v, (T.setVm vm₁).calling g' mk (Value.ref b :: As).toArray, t, U', L, hT, X', hL, e1, e2, hq, st⟩
  · dsimp only [Pt.U, Pt.locs, Pt.cells, Pt.slots] at X' e1 e2 h1 h2 h3 st hcl
    subst h1; subst h2; subst h3
    exact Or.inr ⟨q, (T.setVm vm₁).calling g' mk (Value.ref b :: As).toArray, t, U', L, E, ce, hT, X', hL, e1, e2, hq, hce, hcv, vx_cls hW₁ hcl, st⟩
end VXID
/-! ===== END ===== -/
/-! ===== BEGIN a private method of a nest mate that may throw (follows va_callVN, va_callSN, va_runVN, va_runSN) ===== -/
section
variable {p : Program} {l : Launch} {e : Env} {R : Room} {s : State} {m : MethodId} {args : Array Value} {below : List Frame} {meth : Method} {c : Code} {H : Heap} {locs : List Loc} {cells slots : Nat}
variable {T : State}
theorem vx_callVN (X : Stand p l e R s m args below meth c T locs cells slots) (hexec : p.tables.exec = Jvm.exec) {own C : String} {index : Nat} {host : String} {y : MethodName} {bytes : ByteArray} {maxL : Nat} {ret : Option FieldType}
    (hown : s.vm.findClass own = some m.cls) (hlink : (Cond.methodLinkNest own index y host).before args s = true) (hinst : (Cond.instanceMethod y).before args s = true) (hsel : (Cond.selects C y y).before args s = true)
    (hcode : (Cond.code y bytes maxL ret).before args s = true) (hy : y.cls ≠ "java/lang/invoke/MethodHandle" ∧ y.cls ≠ "java/lang/invoke/VarHandle")
    {W : Nat} {Pre : Pt → Array Value → Prop} {Post : Pt → Array Value → Option Value → Pt → Prop} {PostX : Pt → Array Value → Addr → Pt → Prop} (hK : vx_Back l R p e below s args y 3 W Pre Post PostX)
    {b : Addr} {cellB : Cell} (hcell : T.heap[b]? = some cellB) (hobj : cellB.vm.isStatics = false) (hcls : s.vm.findClass C = some cellB.cls)
    {g : JFrame} (hg : g.method = m) (hsize : g.locals.size = c.maxLocals) {argsL rest : List Value} (hlen : ∀ sig, parseMethodDescriptor y.desc = some sig → argsL.length = sig.parameters.length)
    (hstack : g.stack = argsL.reverse ++ .ref b :: rest) (hW : 2 * g.monitorRoom + (rest.map fun v => v.category).sum ≤ W) (hdg : decode c.code g.pc = .ok (.invokevirtual index, 3))
    (hpre : ∀ vm₁, s.WarmedH vm₁ → Pre ⟨T.setVm vm₁, locs, cells, slots⟩ (Value.ref b :: argsL).toArray) :
    (∃ (v : Option Value) (vm₁ : Vm) (B : Pt), s.WarmedH vm₁ ∧ Stand p l e R s m args below meth c B.U B.locs B.cells B.slots ∧ Post ⟨T.setVm vm₁, locs, cells, slots⟩ (Value.ref b :: argsL).toArray v B ∧
      ∀ target, Steps p.tables e below (B.U.setTop { g with pc := g.pc + 3, stack := v.toList ++ rest }) target → Steps p.tables e below (T.setTop g) target) ∨
    (∃ (q : Addr) (vm₁ : Vm) (B : Pt), s.WarmedH vm₁ ∧ Stand p l e R s m args below meth c B.U B.locs B.cells B.slots ∧ PostX ⟨T.setVm vm₁, locs, cells, slots⟩ (Value.ref b :: argsL).toArray q B ∧
      Steps p.tables e below (T.setTop g) ((B.U.setTop { g with stack := rest }).pushFrame (.throwing q))) := by
  obtain ⟨mk, methM, hnamed, hmethM, hstM, habM⟩ := Cond.instanceMethod_spec hinst
  obtain ⟨methM', cM, hmethM', -, -, -, -, -, -, hsigM⟩ := Cond.code_spec hnamed hcode
  cases hmethM.symm.trans hmethM'
  obtain ⟨c2, r2, m2, q1, q2, q3, q4, kP, hkP, hkPi⟩ := Cond.selects_spec hsel
  cases hcls.symm.trans q1
  cases (State.methodFound?_of_named hnamed hy).symm.trans q2
  cases hnamed.symm.trans q3
  have hselP : selectMethod e.platform s.vm cellB.cls mk = .method mk := by rw [Launch.admits_selectMethod X.admits]; exact q4
  obtain ⟨vm₁, X₁, hstep₁⟩ := X.invokevirtualNest hexec hown hlink hnamed hmethM hstM hkP hkPi hy (a := b) (cell := cellB) hcell
    (fun z h => by rw [h] at hobj; cases hobj) hselP hmethM habM hkP hkPi (g := g) hg (argsL := argsL) (rest := rest) (hlen _ hsigM) hstack hdg
  rcases hK m meth c ⟨T.setVm vm₁, locs, cells, slots⟩ { g with stack := rest } (.invokevirtual index) mk (Value.ref b :: argsL).toArray X₁ hg hsize hdg hW (X₁.named hnamed) (hpre vm₁ X₁.warmed) with ⟨v, B, X', hpost, hsteps⟩ | ⟨q, B, X', hpost, hsteps⟩
  · exact Or.inl ⟨v, vm₁, B, X₁.warmed, X', hpost, fun target h => hstep₁ _ fun acts => by rw [doInvoke_state]; exact hsteps.trans h⟩
  · exact Or.inr ⟨q, vm₁, B, X₁.warmed, X', hpost, hstep₁ _ fun acts => by rw [doInvoke_state]; exact hsteps⟩
theorem vx_callSN (X : Stand p l e R s m args below meth c T locs cells slots) (hexec : p.tables.exec = Jvm.exec) {own : String} {index : Nat} {host : String} {y : MethodName} {bytes : ByteArray} {maxL : Nat} {ret : Option FieldType}
    (hown : s.vm.findClass own = some m.cls) (hlink : (Cond.methodLinkNest own index y host).before args s = true) (hstat : (Cond.static y).before args s = true) (hinit : (Cond.initialized y.cls).before args s = true)
    (hcode : (Cond.code y bytes maxL ret).before args s = true) (hy : y.cls ≠ "java/lang/invoke/MethodHandle" ∧ y.cls ≠ "java/lang/invoke/VarHandle")
    {W : Nat} {Pre : Pt → Array Value → Prop} {Post : Pt → Array Value → Option Value → Pt → Prop} {PostX : Pt → Array Value → Addr → Pt → Prop} (hK : vx_Back l R p e below s args y 3 W Pre Post PostX)
    {g : JFrame} (hg : g.method = m) (hsize : g.locals.size = c.maxLocals) {argsL rest : List Value} (hlen : ∀ sig, parseMethodDescriptor y.desc = some sig → argsL.length = sig.parameters.length)
    (hstack : g.stack = argsL.reverse ++ rest) (hW : 2 * g.monitorRoom + (rest.map fun v => v.category).sum ≤ W) (hdg : decode c.code g.pc = .ok (.invokestatic index, 3))
    (hpre : ∀ vm₁, s.WarmedH vm₁ → Pre ⟨T.setVm vm₁, locs, cells, slots⟩ argsL.toArray) :
    (∃ (v : Option Value) (vm₁ : Vm) (B : Pt), s.WarmedH vm₁ ∧ Stand p l e R s m args below meth c B.U B.locs B.cells B.slots ∧ Post ⟨T.setVm vm₁, locs, cells, slots⟩ argsL.toArray v B ∧
      ∀ target, Steps p.tables e below (B.U.setTop { g with pc := g.pc + 3, stack := v.toList ++ rest }) target → Steps p.tables e below (T.setTop g) target) ∨
    (∃ (q : Addr) (vm₁ : Vm) (B : Pt), s.WarmedH vm₁ ∧ Stand p l e R s m args below meth c B.U B.locs B.cells B.slots ∧ PostX ⟨T.setVm vm₁, locs, cells, slots⟩ argsL.toArray q B ∧
      Steps p.tables e below (T.setTop g) ((B.U.setTop { g with stack := rest }).pushFrame (.throwing q))) := by
  obtain ⟨mk, hnamed⟩ := Cond.code_named hcode
  obtain ⟨methM, cM, hmethM, -, -, -, -, -, -, hsigM⟩ := Cond.code_spec hnamed hcode
  have hstatic : methM.isStatic = true := Cond.static_spec hnamed hmethM hstat
  obtain ⟨kP, hkP, -⟩ := className_of_methodNamed hnamed
  have hinitP : kP.init = .initialized := Cond.initialized_spec (findClass_of_methodNamed hnamed) hkP hinit
  obtain ⟨vm₁, X₁, hstep₁⟩ := X.invokestaticNest hexec hown hlink hnamed hmethM hstatic hkP hinitP hy (g := g) hg (argsL := argsL) (rest := rest) (hlen _ hsigM) hstack hdg
  rcases hK m meth c ⟨T.setVm vm₁, locs, cells, slots⟩ { g with stack := rest } (.invokestatic index) mk argsL.toArray X₁ hg hsize hdg hW (X₁.named hnamed) (hpre vm₁ X₁.warmed) with ⟨v, B, X', hpost, hsteps⟩ | ⟨q, B, X', hpost, hsteps⟩
  · exact Or.inl ⟨v, vm₁, B, X₁.warmed, X', hpost, fun target h => hstep₁ _ fun acts => by rw [doInvoke_state]; exact hsteps.trans h⟩
  · exact Or.inr ⟨q, vm₁, B, X₁.warmed, X', hpost, hstep₁ _ fun acts => by rw [doInvoke_state]; exact hsteps⟩
theorem vx_runVN {y : MethodName} {bytes cc : ByteArray} {maxL nL mc ms n index : Nat} {ret : Option FieldType} {ws : List Cond} {rm : Room} {Pc : Array Value → State → Prop} {Qc : Array Value → State → Outcome → State → Prop} {XC : String → State → State → Prop} {free : Addr → Prop} {Ts : List Cond} {own C host : String} {b : Addr} {As rest : List Value} {g : JFrame}
    (S : CallFix p m c cc nL s args Ts own) (hM : vx_Met l y ws rm Pc Qc XC mc ms free) (cw : va_CN R s args own index y host bytes maxL ret ws rm mc ms n ∧ (Cond.instanceMethod y).before args s = true ∧ (Cond.selects C y y).before args s = true) (hp : PreV s H C b Pc As)
    (hg : g.method = m) (hn : As.length = n) (hsize : g.locals.size = nL) (hstack : g.stack = As.reverse ++ .ref b :: rest) (hW : 2 * g.monitorRoom + (rest.map fun v => v.category).sum ≤ 8) (hdg : decode cc g.pc = .ok (.invokevirtual index, 3)) (hf : cells + mc ≤ R.cells ∧ slots + ms ≤ R.slots) :
    vx_Run p l e R s m args below meth c H locs cells slots mc ms g rest (Qc (Value.ref b :: As).toArray) XC free := by
  obtain ⟨⟨⟨hrc, hrs, hfr, hlo, hws, hcw⟩, hcode, hini, hy, hlen, hl⟩, hx1, hx2⟩ := cw
  have hK : vx_Back l R p e below s args y 3 8 (PreOf R mc ms Pc) (PostOf Qc mc ms free) (vx_Post XC mc ms free) := vx_back (bytes := bytes) (maxL := maxL) (ret := ret) hM hp.1 hrc hrs hfr hlo hws hcw (fun a' U hW => word_at hW (Or.inl (by first | rfl | simp [Cond.onTables, Cond.keeps, Cond.steady])) hini)
  obtain ⟨hx, hb, hml, ho, -⟩ := S
  obtain ⟨-, ⟨cellB, hcB, hoB, hclB⟩, hPc⟩ := hp
  intro T hT X
  rcases vx_callVN X hx (C := C) (bytes := bytes) (maxL := maxL) (ret := ret) ho hl hx1 hx2 hcode hy hK (by rw [hT]; exact hcB) hoB hclB hg (hsize.trans hml.symm) (argsL := As) (rest := rest) (fun sig h => hn.trans (hlen sig h)) hstack hW (by rw [hb]; exact hdg)
    (fun vm₁ hW₁ => ⟨hf.1, hf.2, hPc (T.setVm vm₁) hT hW₁⟩) with ⟨v, vm₁, ⟨U', l2, c2, s2⟩, hW₁, X', ⟨g', mk, t, L, e1, e2, hq, h1, hL, h2, h3⟩, st⟩ | ⟨q, vm₁, ⟨U', l2, c2, s2⟩, hW₁, X', ⟨g', mk, t, L, E, ce, e1, e2, hq, hce, hcv, hcl, h1, hL, h2, h3⟩, st⟩
  · dsimp only [Pt.U, Pt.locs, Pt.cells, Pt.slots] at X' e1 e2 h1 h2 h3 st
    subst h1; subst h2; subst h3
    exact Or.inl ⟨v, (T.setVm vm₁).calling g' mk (Value.ref b :: As).toArray, t, U', L, hT, X', hL, e1, e2, hq, st⟩
  · dsimp only [Pt.U, Pt.locs, Pt.cells, Pt.slots] at X' e1 e2 h1 h2 h3 st hcl
    subst h1; subst h2; subst h3
    exact Or.inr ⟨q, (T.setVm vm₁).calling g' mk (Value.ref b :: As).toArray, t, U', L, E, ce, hT, X', hL, e1, e2, hq, hce, hcv, vx_cls hW₁ hcl, st⟩
theorem vx_runSN {y : MethodName} {bytes cc : ByteArray} {maxL nL mc ms n index : Nat} {ret : Option FieldType} {ws : List Cond} {rm : Room} {Pc : Array Value → State → Prop} {Qc : Array Value → State → Outcome → State → Prop} {XC : String → State → State → Prop} {free : Addr → Prop} {Ts : List Cond} {own host : String} {As rest : List Value} {g : JFrame}
    (S : CallFix p m c cc nL s args Ts own) (hM : vx_Met l y ws rm Pc Qc XC mc ms free) (cw : va_CN R s args own index y host bytes maxL ret ws rm mc ms n ∧ (Cond.static y).before args s = true ∧ True) (hp : PreS s H Pc As)
    (hg : g.method = m) (hn : As.length = n) (hsize : g.locals.size = nL) (hstack : g.stack = As.reverse ++ rest) (hW : 2 * g.monitorRoom + (rest.map fun v => v.category).sum ≤ 8) (hdg : decode cc g.pc = .ok (.invokestatic index, 3)) (hf : cells + mc ≤ R.cells ∧ slots + ms ≤ R.slots) :
    vx_Run p l e R s m args below meth c H locs cells slots mc ms g rest (Qc As.toArray) XC free := by
  obtain ⟨⟨⟨hrc, hrs, hfr, hlo, hws, hcw⟩, hcode, hini, hy, hlen, hl⟩, hx1, hx2⟩ := cw
  have hK : vx_Back l R p e below s args y 3 8 (PreOf R mc ms Pc) (PostOf Qc mc ms free) (vx_Post XC mc ms free) := vx_back (bytes := bytes) (maxL := maxL) (ret := ret) hM hp.1 hrc hrs hfr hlo hws hcw (fun a' U hW => word_at hW (Or.inl (by first | rfl | simp [Cond.onTables, Cond.keeps, Cond.steady])) hini)
  obtain ⟨hx, hb, hml, ho, -⟩ := S
  have hPc := hp.2
  intro T hT X
  rcases vx_callSN X hx (bytes := bytes) (maxL := maxL) (ret := ret) ho hl hx1 hini hcode hy hK hg (hsize.trans hml.symm) (argsL := As) (rest := rest) (fun sig h => hn.trans (hlen sig h)) hstack hW (by rw [hb]; exact hdg)
    (fun vm₁ hW₁ => ⟨hf.1, hf.2, hPc (T.setVm vm₁) hT hW₁⟩) with ⟨v, vm₁, ⟨U', l2, c2, s2⟩, hW₁, X', ⟨g', mk, t, L, e1, e2, hq, h1, hL, h2, h3⟩, st⟩ | ⟨q, vm₁, ⟨U', l2, c2, s2⟩, hW₁, X', ⟨g', mk, t, L, E, ce, e1, e2, hq, hce, hcv, hcl, h1, hL, h2, h3⟩, st⟩
  · dsimp only [Pt.U, Pt.locs, Pt.cells, Pt.slots] at X' e1 e2 h1 h2 h3 st
    subst h1; subst h2; subst h3
    exact Or.inl ⟨v, (T.setVm vm₁).calling g' mk As.toArray, t, U', L, hT, X', hL, e1, e2, hq, st⟩
  · dsimp only [Pt.U, Pt.locs, Pt.cells, Pt.slots] at X' e1 e2 h1 h2 h3 st hcl
    subst h1; subst h2; subst h3
    exact Or.inr ⟨q, (T.setVm vm₁).calling g' mk As.toArray, t, U', L, E, ce, hT, X', hL, e1, e2, hq, hce, hcv, vx_cls hW₁ hcl, st⟩
end
/-! ===== END ===== -/
end
section
/-! a run is a run of the machine: calls, throws, what is made -/
theorem j_gw {w : Cond} (h : w ∈ j_gws) : (w.onTables && w.keeps) = true ∨ ∃ ty, w = .arrayClass ty := good_of_word (List.mem_filter.mp h).2
set_option maxRecDepth 100000 in
theorem j_mtW : ∀ (t : Nat) (mf : jMe), t < 127 → j_mt[t]? = some mf → ∀ w ∈ j_wM mf, w ∈ j_gws := by
  intro t mf ht hmf
  have h1 : mf ∈ j_mt0 ++ (j_mt1 ++ (j_mt2 ++ (j_mt3 ++ (j_mt4 ++ (j_mt5 ++ (j_mt6 ++ j_mtL7)))))) := by
    have h2 : (j_mt.take 127)[t]? = some mf := by rw [List.getElem?_take_of_lt ht]; exact hmf
    have h3 : j_mt.take 127 = j_mt0 ++ (j_mt1 ++ (j_mt2 ++ (j_mt3 ++ (j_mt4 ++ (j_mt5 ++ (j_mt6 ++ j_mtL7)))))) := rfl
    rw [h3] at h2
    exact List.mem_of_getElem? h2
  simp only [List.mem_append] at h1
  rcases h1 with h | h | h | h | h | h | h | h
  · exact j_fM0_i mf h
  · exact j_fM1_i mf h
  · exact j_fM2_i mf h
  · exact j_fM3_i mf h
  · exact j_fM4_i mf h
  · exact j_fM5_i mf h
  · exact j_fM6_i mf h
  · exact j_fM7_i mf h
theorem j_ws_in {t : Nat} {mf : jMe} (ht : t < 127) (hmf : j_mt[t]? = some mf) : GoodIn j_gws (j_ws mf) := by
  have h := j_mtW t mf ht hmf
  unfold j_wM at h
  unfold j_ws
  intro w hw
  split at hw
  · rename_i q
    rw [q] at h
    rcases List.mem_cons.mp hw with rfl | hw
    · have := h _ List.mem_cons_self
      exact ⟨this, j_gw this⟩
    · exact ⟨hw, j_gw hw⟩
  · rename_i x y q
    rw [q] at h
    rcases List.mem_cons.mp hw with rfl | hw
    · have := h _ List.mem_cons_self
      exact ⟨this, j_gw this⟩
    · exact ⟨hw, j_gw hw⟩
theorem j_me_ok {t : Nat} {mf : jMe} (hmf : j_mt[t]? = some mf) : mf.2.2.2.1 ≤ 12 ∧ Jvm.plainName mf.2.1.cls = true ∧ (mf.2.1.cls ≠ "java/lang/invoke/MethodHandle" ∧ mf.2.1.cls ≠ "java/lang/invoke/VarHandle") ∧ j_cn mf.1 = mf.2.1.cls ∧ Cond.initialized mf.2.1.cls ∈ j_gws := by
  have hok := List.all_eq_true.mp j_okM_all mf (List.mem_of_getElem? hmf)
  simp only [j_okM, j_pn, Bool.and_eq_true, decide_eq_true_eq, bne_iff_ne] at hok
  obtain ⟨⟨⟨hml9, hpn, hne⟩, hci9⟩, hcn⟩ := hok
  refine ⟨hml9, hpn, hne, hcn, ?_⟩
  rw [← hcn]
  exact j_fI_i mf.1 (List.mem_range.mpr hci9) _ List.mem_cons_self
theorem j_clW {q : Nat × Nat × Nat × Nat} (h : q ∈ j_clT) : ∀ w ∈ j_wC q, w ∈ j_gws := by
  have h1 : q ∈ j_clT0 ++ (j_clT1 ++ (j_clT2 ++ j_clT3)) := h
  simp only [List.mem_append] at h1
  rcases h1 with h | h | h | h
  · exact j_fC0_i q h
  · exact j_fC1_i q h
  · exact j_fC2_i q h
  · exact j_fC3_i q h
theorem j_clI : ∀ q ∈ j_clT, q.2.2.1 < 6 → q.2.2.2 < 127 := by
  have h : j_clT.all (fun q => decide (q.2.2.1 < 6 → q.2.2.2 < 127)) = true := by decide +kernel
  intro q hq
  exact of_decide_eq_true (List.all_eq_true.mp h q hq)
theorem j_kl0 {ci idx : Nat} {nm : String} (h : j_kl ci idx = some nm) : idx ≠ 0 := by
  unfold j_kl at h
  obtain ⟨t, ht, rfl⟩ := Option.map_eq_some_iff.mp h
  have hm := List.mem_of_find?_eq_some ht
  have hp := List.find?_some ht
  simp only [Bool.and_eq_true, beq_iff_eq] at hp
  have h2 : j_klT.all (fun t => decide (t.2.1 ≠ 0)) = true := by decide +kernel
  have h3 := List.all_eq_true.mp h2 t hm
  rw [← hp.2]
  simpa using h3
theorem j_find_ok {ci : Nat} {E : String} {pc hp : Nat} : ∀ {hh : List (Nat × Nat × Nat × Nat)}, j_find ci E pc hh = some hp → ∃ pre x suf, hh = pre ++ x :: suf ∧ (x.1 ≤ pc ∧ pc < x.2.1) ∧ x.2.2.1 = hp ∧ j_kl ci x.2.2.2 = some E ∧ E ∈ j_exs ∧ ∀ z ∈ pre, ¬ (z.1 ≤ pc ∧ pc < z.2.1) ∨ ∃ nm, j_kl ci z.2.2.2 = some nm ∧ nm ≠ E ∧ nm ∈ j_exs := by
  intro hh
  induction hh with
  | nil => intro h; cases h
  | cons x r ih =>
    intro h
    unfold j_find at h
    split at h
    · rename_i hc
      obtain ⟨nm, hn, h⟩ := Option.bind_eq_some_iff.mp h
      split at h
      · rename_i he
        obtain ⟨e1, he⟩ := he
        exact ⟨[], x, r, rfl, hc, Option.some.inj h, e1 ▸ hn, he, fun z hz => absurd hz List.not_mem_nil⟩
      · split at h
        · rename_i he
          obtain ⟨pre, y, suf, h1, h2, h3, h4, h5, h6⟩ := ih h
          exact ⟨x :: pre, y, suf, by rw [h1]; rfl, h2, h3, h4, h5, fun z hz => (List.mem_cons.mp hz).elim (fun q => Or.inr ⟨nm, by rw [q]; exact hn, he.2.2, he.2.1⟩) (h6 z)⟩
        · cases h
    · rename_i hc
      obtain ⟨pre, y, suf, h1, h2, h3, h4, h5, h6⟩ := ih h
      exact ⟨x :: pre, y, suf, by rw [h1]; rfl, h2, h3, h4, h5, fun z hz => (List.mem_cons.mp hz).elim (fun q => Or.inl (by rw [q]; exact hc)) (h6 z)⟩
theorem j_stk {f : Value → Value} {st vs : List Value} {k : Nat} (h : (st.take k).reverse = vs) : st.map f = (vs.map f).reverse ++ (st.drop k).map f := by
  subst h
  rw [List.map_reverse, List.reverse_reverse, ← List.map_append, List.take_append_drop]
theorem j_W.of {base b : Nat} {D : va_G} {tc : Nat → ClassId} {n : Nat} {M : jM} {H H1 : Heap} (w : j_W base b D tc n M H) (hq : ∀ q : Nat, q < H.size → H1[q]? = H[q]?) : j_W base b D tc n M H1 :=
  ⟨w.1.kept (fun k q hk => hq _ (w.1 k q hk).lt), w.2⟩
section
variable {p : Program} {l : Launch} {e : Env} {R : Room} {s : State} {m : MethodId} {args : Array Value} {below : List Frame} {meth : Method} {c : Code} {H : Heap} {locs : List Loc} {cells slots : Nat} {Q : State → Prop}
variable {base b L : Nat} {xs : Nat → Int32} {D : va_G} {tc : Nat → ClassId} {n : Nat} {M : jM} {ls : Array Slot} {pc mc ms : Nat} {st0 rest : List Value} {r : jR} {a : Array Value}
theorem j_callX (hr : vx_Run p l e R s m args below meth c H locs cells slots mc ms (F0 m pc ls st0) rest (j_Qc base b D tc r a) (j_XC base b D tc r) (j_A base)) (hS : va_S (j_A base) s.heap H locs)
    (kx : ∀ (E : String) (ce : Cell) (q9 : Addr) (H1 : Heap) (locs1 : List Loc), r.1 = .inr E → j_W base b D tc r.2.2.1 r.2.1 H1 → va_S (j_A base) s.heap H1 locs1 → H1[q9]? = some ce → ce.vm = .none → s.vm.findClass E = some ce.cls → vx_W p l e R s m args below meth c H1 locs1 (cells + mc) (slots + ms) Q (F0 m pc ls rest) q9)
    (kk : ∀ (v : Option Value) (H1 : Heap) (locs1 : List Loc), r.1 = .inl v → j_W base b D tc r.2.2.1 r.2.1 H1 → va_S (j_A base) s.heap H1 locs1 → W p l e R s m args below meth c H1 locs1 (cells + mc) (slots + ms) Q (F0 m (pc + 3) ls ((v.map (j_cv (j_ad base b))).toList ++ rest))) :
    W p l e R s m args below meth c H locs cells slots Q (F0 m pc ls st0) := by
  intro T hT X
  rcases hr T hT X with ⟨v, st₀, t, T', L', h0, X', hL, e1, e2, ⟨⟨v', hv', hv⟩, hW, hF⟩, st⟩ | ⟨q, st₀, t, T', L', E, ce, h0, X', hL, e1, e2, ⟨hE, hW, hF⟩, hce, hcv, hcl, st⟩
  · cases hv
    obtain ⟨k1, k2, k3⟩ := vx_keep (A1 := j_A base) h0 e1 hS (fun q _ h => h) (fun q h => h) hL hF
    obtain ⟨t2, a1, b1⟩ := kk v' T'.heap (locs ++ L') hv' (by rw [e1]; exact hW) k3 T' rfl X'
    exact ⟨t2, st t2 a1, b1⟩
  · obtain ⟨k1, k2, k3⟩ := vx_keep (A1 := j_A base) h0 e1 hS (fun q _ h => h) (fun q h => h) hL hF
    obtain ⟨t2, a1, b1⟩ := kx E ce q T'.heap (locs ++ L') hE (by rw [e1]; exact hW) k3 (by rw [e1]; exact hce) hcv hcl T' rfl X'
    exact ⟨t2, st.trans a1, b1⟩
/-- the cells made in this method bound the heap -/
theorem j_bound {g : JFrame} (k : H.size ≤ s.heap.size + cells → W p l e R s m args below meth c H locs cells slots Q g) : W p l e R s m args below meth c H locs cells slots Q g := by
  intro T hT X
  refine k ?_ T hT X
  have h := X.same.2.2.1
  rw [← hT]
  exact h
theorem j_blind {n : Nat} {fr : Bool} {vs : List Value} : FrameBlind (va_Pc vs (j_Pre base b L xs D tc n fr M)) := by
  intro a U g mk h
  obtain ⟨h1, h2, h3, h4⟩ := h
  exact ⟨h1, h2.warm (U := U.calling g mk a) (State.WarmedH.refl U) (fun _ _ => rfl) h2.2.2.2.2.2.2.2.2.2.2, h3, h4⟩
end
end
section
section
variable {l : Launch} {base b L : Nat} {xs : Nat → Int32} {D : va_G} {tc : Nat → ClassId} {rec : jQ} {d i pc : Nat} {LS : jL} {ST : List Value} {M : jM} {h : jH} {r : jR} {me : jMe}
set_option maxHeartbeats 8000000 in
/-- the call's own part: the frame of the callee, by its kind -/
theorem j_vrun {p : Program} {e : Env} {R : Room} {s : State} {m : MethodId} {args : Array Value} {below : List Frame} {meth : Method} {c : Code} {H : Heap} {locs : List Loc} {cells slots : Nat} {ls : Array Slot} {idx kd t n : Nat} {fr : Bool} {mf : jMe} {st vs : List Value} {r1 : jR} {I : Instr}
    (hlt : l.stackTraces = false) (G : j_Good l base b L xs D tc rec) (C : j_C p l R s m args meth c me (d + 1)) (K : j_K base b L xs D tc s s.heap) (hmf : j_mt[t]? = some mf) (hcl : (me.1, idx, kd, t) ∈ j_clT) (hk6 : kd < 6)
    (hI : (kd = 0 ∧ I = .invokevirtual idx) ∨ ((kd = 1 ∨ kd = 2 ∨ kd = 5) ∧ I = .invokestatic idx) ∨ ((kd = 3 ∨ kd = 4) ∧ I = .invokespecial idx)) (hd : decode me.2.2.1 pc = .ok (I, 3))
    (hna : mf.2.2.2.2.2.1 ≤ st.length) (hcs : j_cs (st.drop mf.2.2.2.2.2.1) ≤ 8) (hvs : (st.take mf.2.2.2.2.2.1).reverse = vs) (hlen : (j_sl vs).length ≤ mf.2.2.2.1)
    (hrc : (kd = 0 ∨ kd = 3 ∨ kd = 4) → ∃ a as fs, vs = .ref a :: as ∧ M a = .inr (mf.1, fs)) (hr1 : rec d t 0 (j_ent mf.2.2.2.1 vs) [] M (n, fr, 0, 0) = some r1) (hsz : ls.size = me.2.2.2.1)
    (w : j_W base b D tc n M H) (hS : va_S (j_A base) s.heap H locs) (hfr : fr = true → H.size = base + n) (hfc : cells + r1.2.2.2.2.1 ≤ R.cells) (hfs : slots + r1.2.2.2.2.2 ≤ R.slots) :
    vx_Run p l e R s m args below meth c H locs cells slots r1.2.2.2.2.1 r1.2.2.2.2.2 (F0 m pc ls (st.map (j_cv (j_ad base b)))) ((st.drop mf.2.2.2.2.2.1).map (j_cv (j_ad base b))) (j_Qc base b D tc r1 (vs.map (j_cv (j_ad base b))).toArray) (j_XC base b D tc r1) (j_A base) := by
  obtain ⟨hx, hb, hml, hown, hts, hlocks, hini, htab, hret, hRf, hRl, -⟩ := C
  have hM := j_met hlt G hmf hlen hr1
  have ht127 := j_clI _ hcl hk6
  dsimp only at ht127
  obtain ⟨hml9, hpn, hne, hcn, hinit⟩ := j_me_ok hmf
  have hWd := j_clW hcl
  have hOk := List.all_eq_true.mp j_okC_all _ hcl
  have hG := j_ws_in ht127 hmf
  have hpre : ∀ U : State, U.heap = H → s.WarmedH U.vm → va_Pc (vs.map (j_cv (j_ad base b))) (j_Pre base b L xs D tc n fr M) (vs.map (j_cv (j_ad base b))).toArray U := fun U hU hW =>
    ⟨rfl, K.warm hW (fun q hq => by rw [hU]; exact hS.2.1 q (Nat.lt_of_lt_of_le hq K.2.2.2.2.2.2.2.2.2.2) (Nat.not_le.mpr hq)) (by rw [hU]; exact Nat.le_trans K.2.2.2.2.2.2.2.2.2.2 hS.1), by rw [hU]; exact w, fun q => by rw [hU]; exact hfr q⟩
  have hstk := j_stk (f := j_cv (j_ad base b)) hvs
  have hroom : 2 * (F0 m pc ls (st.map (j_cv (j_ad base b)))).monitorRoom + (((st.drop mf.2.2.2.2.2.1).map (j_cv (j_ad base b))).map fun v => v.category).sum ≤ 8 := by
    refine lv_room ?_
    rw [List.map_map, show ((fun v : Value => v.category) ∘ j_cv (j_ad base b)) = (fun v : Value => v.category) from funext fun v => j_cv_cat _ v]
    exact hcs
  have hvl : vs.length = mf.2.2.2.2.2.1 := by rw [← hvs, List.length_reverse, List.length_take]; omega
  have hR1 : (j_rm d r1).frames + 1 ≤ R.frames ∧ 8 + (mf.2.2.2.1 + 11) + (j_rm d r1).locals ≤ R.locals := by
    refine ⟨hRf, ?_⟩
    show 8 + (mf.2.2.2.1 + 11) + (31 * d + 89) ≤ R.locals
    omega
  have hS0 : CallFix p m c me.2.2.1 me.2.2.2.1 s args j_gws (j_cn me.1) := ⟨hx, hb, hml, hown, hts⟩
  have hnp : ∀ k, j_np mf.2.1 = some k → (parseMethodDescriptor mf.2.1.desc).map (fun d => d.parameters.length) = some k := fun k q => q
  match kd, hk6 with
  | 0, _ =>
    obtain ⟨a, as, fs, rfl, hMa⟩ := hrc (Or.inl rfl)
    obtain ⟨-, rfl⟩ : (0 : Nat) = 0 ∧ I = .invokevirtual idx := by rcases hI with q | ⟨q, -⟩ | ⟨q, -⟩; exact q; all_goals omega
    simp only [j_okC, hmf, Bool.and_eq_true, decide_eq_true_eq, List.isEmpty_iff] at hOk
    obtain ⟨⟨hk0, hnn⟩, hhh⟩ := hOk
    simp only [j_wC, hmf, List.mem_cons, List.not_mem_nil, or_false, forall_eq_or_imp, forall_eq] at hWd
    obtain ⟨w1, w2, w3⟩ := hWd
    have ha : a < n := w.lt (by rw [hMa]; exact j_nil_ob (by have := (List.all_eq_true.mp j_okM_all mf (List.mem_of_getElem? hmf)); simp only [j_okM, Bool.and_eq_true, decide_eq_true_eq] at this; omega))
    have hrecv : ∃ cellB : Cell, H[j_ad base b a]? = some cellB ∧ cellB.vm.isStatics = false ∧ s.vm.findClass mf.2.1.cls = some cellB.cls := by
      have he := j_wl_at (base := base) (b := b) (tc := tc) (M := M) ha
      rw [hMa] at he
      obtain ⟨q, hq, -⟩ := w.1 a _ he
      have h6 : mf.1 < 5 := (List.getElem?_eq_some_iff.mp hq).1
      rw [w.ad ha, ← hcn]
      exact va_recv K.1 w.1 (ci := mf.1) (q0 := a) (j_cl_at mf.1 h6) he
    have cw : CallW R s args (j_cn me.1) mf.2.1.cls idx mf.2.1 mf.2.2.1 mf.2.2.2.1 mf.2.2.2.2.1 (j_ws mf) (j_rm d r1) r1.2.2.2.2.1 r1.2.2.2.2.2 as.length :=
      ⟨callB_of (ws' := j_gws) as.length hts hG (by unfold j_ws; rw [hhh]) rfl rfl (hts _ hinit) (hts _ w1) ⟨hne.1, hne.2, by rw [hnp _ hnn, ← hvl]; rfl⟩ hR1, hts _ w2, hts _ w3⟩
    have hR := vx_runV (e := e) (below := below) (meth := meth) (H := H) (locs := locs) (cells := cells) (slots := slots) (As := as.map (j_cv (j_ad base b))) (rest := (st.drop mf.2.2.2.2.2.1).map (j_cv (j_ad base b))) (g := F0 m pc ls (st.map (j_cv (j_ad base b)))) (b := j_ad base b a) hS0 hM cw ⟨j_blind, hrecv, hpre⟩ rfl (List.length_map ..) hsz (by
      show st.map (j_cv (j_ad base b)) = _
      rw [hstk]
      simp [j_cv]) hroom hd ⟨hfc, hfs⟩
    exact hR
  | 1, _ =>
    obtain rfl : I = .invokestatic idx := by rcases hI with ⟨q, -⟩ | ⟨-, q⟩ | ⟨q, -⟩; omega; exact q; omega
    simp only [j_okC, hmf, Bool.and_eq_true, decide_eq_true_eq, List.isEmpty_iff] at hOk
    obtain ⟨hnn, hhh⟩ := hOk
    simp only [j_wC, hmf, List.mem_cons, List.not_mem_nil, or_false, forall_eq_or_imp, forall_eq] at hWd
    obtain ⟨w1, w2⟩ := hWd
    have cw : CallB R s args (j_cn me.1) idx mf.2.1 mf.2.2.1 mf.2.2.2.1 mf.2.2.2.2.1 (j_ws mf) (j_rm d r1) r1.2.2.2.2.1 r1.2.2.2.2.2 vs.length :=
      callB_of (ws' := j_gws) vs.length hts hG (by unfold j_ws; rw [hhh]) rfl rfl (hts _ hinit) (hts _ w1) ⟨hne.1, hne.2, by rw [hnp _ hnn, hvl]⟩ hR1
    exact vx_runS (e := e) (below := below) (meth := meth) (H := H) (locs := locs) (cells := cells) (slots := slots) (As := vs.map (j_cv (j_ad base b))) (rest := (st.drop mf.2.2.2.2.2.1).map (j_cv (j_ad base b))) (g := F0 m pc ls (st.map (j_cv (j_ad base b)))) hS0 hM ⟨cw, hts _ w2⟩ ⟨j_blind, hpre⟩ rfl (List.length_map ..) hsz hstk hroom hd ⟨hfc, hfs⟩
  | 2, _ =>
    obtain rfl : I = .invokestatic idx := by rcases hI with ⟨q, -⟩ | ⟨-, q⟩ | ⟨q, -⟩; omega; exact q; omega
    simp only [j_okC, hmf, Bool.and_eq_true, decide_eq_true_eq, Bool.not_eq_true'] at hOk
    obtain ⟨hnn, hhh⟩ := hOk
    simp only [j_wC, hmf, List.mem_cons, List.not_mem_nil, or_false, forall_eq_or_imp, forall_eq] at hWd
    obtain ⟨w1, w2⟩ := hWd
    cases hh0 : mf.2.2.2.2.2.2 with
    | nil => rw [hh0] at hhh; cases hhh
    | cons x y =>
      have hws : j_ws mf = .codeWith mf.2.1 mf.2.2.1 mf.2.2.2.1 mf.2.2.2.2.1 (x :: y) :: j_gws := by unfold j_ws; rw [hh0]
      have cw : vx_CSW R s args (j_cn me.1) idx mf.2.1 mf.2.2.1 mf.2.2.2.1 mf.2.2.2.2.1 (x :: y) (j_ws mf) (j_rm d r1) r1.2.2.2.2.1 r1.2.2.2.2.2 vs.length := by
        refine ⟨⟨rfl, rfl, hR1.1, hR1.2, pay_in hts hG, by rw [hws]; exact List.mem_cons_self⟩, hts _ (hG _ (by rw [hws]; exact List.mem_cons_self)).1, hts _ hinit, hne, fun sig q => ?_, hts _ w1, hts _ w2⟩
        have q2 := hnp _ hnn
        rw [q] at q2
        rw [hvl]
        exact (Option.some.inj q2).symm
      exact vx_runSX (e := e) (below := below) (meth := meth) (H := H) (locs := locs) (cells := cells) (slots := slots) (As := vs.map (j_cv (j_ad base b))) (rest := (st.drop mf.2.2.2.2.2.1).map (j_cv (j_ad base b))) (g := F0 m pc ls (st.map (j_cv (j_ad base b)))) hS0 hM cw ⟨j_blind, hpre⟩ rfl (List.length_map ..) hsz hstk hroom hd ⟨hfc, hfs⟩
  | 3, _ =>
    obtain ⟨a, as, fs, rfl, hMa⟩ := hrc (Or.inr (Or.inl rfl))
    obtain rfl : I = .invokespecial idx := by rcases hI with ⟨q, -⟩ | ⟨q, -⟩ | ⟨-, q⟩; omega; omega; exact q
    simp only [j_okC, hmf, Bool.and_eq_true, decide_eq_true_eq, List.isEmpty_iff, beq_iff_eq] at hOk
    obtain ⟨⟨⟨⟨hy1, hk0⟩, hnn⟩, hhh⟩, hrn⟩ := hOk
    simp only [j_wC, hmf, List.mem_cons, List.not_mem_nil, or_false, forall_eq_or_imp, forall_eq] at hWd
    obtain ⟨w1, w2⟩ := hWd
    have cw : CallB R s args (j_cn me.1) idx mf.2.1 mf.2.2.1 mf.2.2.2.1 none (j_ws mf) (j_rm d r1) r1.2.2.2.2.1 r1.2.2.2.2.2 as.length :=
      callB_of (ws' := j_gws) as.length hts hG (by unfold j_ws; rw [hhh, hrn]) rfl rfl (hts _ hinit) (hts _ w1) ⟨hne.1, hne.2, by rw [hnp _ hnn, ← hvl]; rfl⟩ hR1
    exact vx_runI (e := e) (below := below) (meth := meth) (H := H) (locs := locs) (cells := cells) (slots := slots) (As := as.map (j_cv (j_ad base b))) (rest := (st.drop mf.2.2.2.2.2.1).map (j_cv (j_ad base b))) (g := F0 m pc ls (st.map (j_cv (j_ad base b)))) (b := j_ad base b a) hS0 hM ⟨cw, hy1, hts _ w2⟩ ⟨j_blind, hpre⟩ rfl (List.length_map ..) hsz (by
      show st.map (j_cv (j_ad base b)) = _
      rw [hstk]
      simp [j_cv]) hroom hd ⟨hfc, hfs⟩
  | 4, _ =>
    obtain ⟨a, as, fs, rfl, hMa⟩ := hrc (Or.inr (Or.inr rfl))
    obtain rfl : I = .invokespecial idx := by rcases hI with ⟨q, -⟩ | ⟨q, -⟩ | ⟨-, q⟩; omega; omega; exact q
    simp only [j_okC, hmf, Bool.and_eq_true, decide_eq_true_eq, List.isEmpty_iff, beq_iff_eq] at hOk
    obtain ⟨⟨⟨⟨⟨hns, hy1⟩, hk0⟩, hnn⟩, hhh⟩, hrn⟩ := hOk
    simp only [j_wC, hmf, List.mem_cons, List.not_mem_nil, or_false, forall_eq_or_imp, forall_eq] at hWd
    have w2 := hWd
    have hws : j_ws mf = .code mf.2.1 mf.2.2.1 mf.2.2.2.1 none :: j_gws := by unfold j_ws; rw [hhh, hrn]
    have hN : va_Nw (.methodLinkNest (j_cn me.1) idx mf.2.1 "ShipJournal") s := K.2.2.2.1 (me.1, idx, mf.2.1) hns
    have cw : va_CN R s args (j_cn me.1) idx mf.2.1 "ShipJournal" mf.2.2.1 mf.2.2.2.1 none (j_ws mf) (j_rm d r1) r1.2.2.2.2.1 r1.2.2.2.2.2 as.length :=
      va_cnB (ws' := j_gws) as.length hts hG hws rfl rfl hN (hts _ hinit) ⟨hne.1, hne.2, by rw [hnp _ hnn, ← hvl]; rfl⟩ hR1
    exact vx_runIN (e := e) (below := below) (meth := meth) (H := H) (locs := locs) (cells := cells) (slots := slots) (As := as.map (j_cv (j_ad base b))) (rest := (st.drop mf.2.2.2.2.2.1).map (j_cv (j_ad base b))) (g := F0 m pc ls (st.map (j_cv (j_ad base b)))) (b := j_ad base b a) hS0 hM ⟨cw, hy1, hts _ w2⟩ ⟨j_blind, hpre⟩ rfl (List.length_map ..) hsz (by
      show st.map (j_cv (j_ad base b)) = _
      rw [hstk]
      simp [j_cv]) hroom hd ⟨hfc, hfs⟩
  | 5, _ =>
    obtain rfl : I = .invokestatic idx := by rcases hI with ⟨q, -⟩ | ⟨-, q⟩ | ⟨q, -⟩; omega; exact q; omega
    simp only [j_okC, hmf, Bool.and_eq_true, decide_eq_true_eq, List.isEmpty_iff] at hOk
    obtain ⟨⟨hns, hnn⟩, hhh⟩ := hOk
    simp only [j_wC, hmf, List.mem_cons, List.not_mem_nil, or_false, forall_eq_or_imp, forall_eq] at hWd
    have hN : va_Nw (.methodLinkNest (j_cn me.1) idx mf.2.1 "ShipJournal") s := K.2.2.2.1 (me.1, idx, mf.2.1) hns
    have cw : va_CN R s args (j_cn me.1) idx mf.2.1 "ShipJournal" mf.2.2.1 mf.2.2.2.1 mf.2.2.2.2.1 (j_ws mf) (j_rm d r1) r1.2.2.2.2.1 r1.2.2.2.2.2 vs.length :=
      va_cnB (ws' := j_gws) vs.length hts hG (by unfold j_ws; rw [hhh]) rfl rfl hN (hts _ hinit) ⟨hne.1, hne.2, by rw [hnp _ hnn, hvl]⟩ hR1
    exact vx_runSN (e := e) (below := below) (meth := meth) (H := H) (locs := locs) (cells := cells) (slots := slots) (As := vs.map (j_cv (j_ad base b))) (rest := (st.drop mf.2.2.2.2.2.1).map (j_cv (j_ad base b))) (g := F0 m pc ls (st.map (j_cv (j_ad base b)))) hS0 hM ⟨cw, hts _ hWd, trivial⟩ ⟨j_blind, hpre⟩ rfl (List.length_map ..) hsz hstk hroom hd ⟨hfc, hfs⟩
  | k + 6, q => omega
end
end
section
section
variable {l : Launch} {base b L : Nat} {xs : Nat → Int32} {D : va_G} {tc : Nat → ClassId} {rec : jQ} {d i pc : Nat} {LS : jL} {ST : List Value} {M : jM} {h : jH} {r : jR} {me : jMe}
theorem j_mapv (f : Value → Value) (v : Option Value) (st : List Value) : (v.map f).toList ++ st.map f = (v.toList ++ st).map f := by
  cases v <;> simp
set_option maxHeartbeats 4000000 in
theorem j_own_ok {idx kd t : Nat} {I : Instr} (hlt : l.stackTraces = false) (G : j_Good l base b L xs D tc rec) (hme : j_mt[i]? = some me) (hcl : (me.1, idx, kd, t) ∈ j_clT) (hk6 : kd < 6)
    (hI : (kd = 0 ∧ I = .invokevirtual idx) ∨ ((kd = 1 ∨ kd = 2 ∨ kd = 5) ∧ I = .invokestatic idx) ∨ ((kd = 3 ∨ kd = 4) ∧ I = .invokespecial idx)) (hd : decode me.2.2.1 pc = .ok (I, 3))
    (hrc : (kd = 0 ∨ kd = 3 ∨ kd = 4) → ∀ mf, j_mt[t]? = some mf → ∃ a as fs, (ST.take mf.2.2.2.2.2.1).reverse = .ref a :: as ∧ M a = .inr (mf.1, fs))
    (hr : j_own rec me d i pc LS ST M h kd t = some r) : j_Cn l base b L xs D tc d i pc LS ST M h r := by
  unfold j_own at hr
  obtain ⟨mf, hmf, g1⟩ := Option.bind_eq_some_iff.mp hr
  obtain ⟨⟨c1, c2, c3⟩, g2⟩ := j_c_some g1
  cases d with
  | zero => cases g2
  | succ d' =>
    obtain ⟨r1, hr1, g3⟩ := Option.bind_eq_some_iff.mp g2
    obtain ⟨k1, k2, -⟩ := G _ _ _ _ _ _ _ _ hr1
    dsimp only at k1 k2
    have base_le : ∀ {s : State} {H : Heap} {locs : List Loc}, j_K base b L xs D tc s s.heap → va_S (j_A base) s.heap H locs → base ≤ H.size := fun K hS => Nat.le_trans K.2.2.2.2.2.2.2.2.2.2 hS.1
    have run : ∀ {p : Program} {e : Env} {R : Room} {s : State} {m : MethodId} {args : Array Value} {below : List Frame} {meth : Method} {c : Code} {H : Heap} {locs : List Loc} {Q : State → Prop} {ls : Array Slot},
        j_C p l R s m args meth c me (d' + 1) → j_K base b L xs D tc s s.heap → (h.2.1 = true → s.heap.size + h.2.2.1 = base + h.1) → LS.length = me.2.2.2.1 → j_W base b D tc h.1 M H → va_S (j_A base) s.heap H locs → j_LH (j_ad base b) ls LS → h.2.2.1 + r1.2.2.2.2.1 ≤ R.cells → h.2.2.2 + r1.2.2.2.2.2 ≤ R.slots →
        (vx_Run p l e R s m args below meth c H locs h.2.2.1 h.2.2.2 r1.2.2.2.2.1 r1.2.2.2.2.2 (F0 m pc ls (ST.map (j_cv (j_ad base b)))) ((ST.drop mf.2.2.2.2.2.1).map (j_cv (j_ad base b))) (j_Qc base b D tc r1 (((ST.take mf.2.2.2.2.2.1).reverse).map (j_cv (j_ad base b))).toArray) (j_XC base b D tc r1) (j_A base) → W p l e R s m args below meth c H locs h.2.2.1 h.2.2.2 Q (F0 m pc ls (ST.map (j_cv (j_ad base b))))) →
        W p l e R s m args below meth c H locs h.2.2.1 h.2.2.2 Q (F0 m pc ls (ST.map (j_cv (j_ad base b)))) := by
      intro p e R s m args below meth c H locs Q ls C K hfr hlen w hS hl hfc hfs kk
      refine j_bound (fun hbd => ?_)
      have hsz := w.sz (base_le K hS)
      refine kk (j_vrun hlt G C K hmf hcl hk6 hI hd c1 c2 rfl c3 (fun q => hrc q mf hmf) hr1 (by rw [hl.1, hlen]) w hS (fun q => by have := hfr q; omega) hfc hfs)
    cases hr1o : r1.1 with
    | inl v =>
      rw [hr1o] at g3
      dsimp only at g3
      obtain ⟨n1, n2, n3⟩ := G _ _ _ _ _ _ _ _ g3
      dsimp only [j_add] at n1 n2
      refine ⟨by omega, fun q => ?_, ?_⟩
      · obtain ⟨q1, q2⟩ := n2 q
        obtain ⟨q3, q4⟩ := k2 q1
        exact ⟨q3, by omega⟩
      · intro p e R s m args below meth c H locs Q me' ls hme' C K hc hs hfr hlen w hS hl hE
        obtain rfl : me' = me := Option.some.inj (hme'.symm.trans hme)
        refine run C K hfr hlen w hS hl (by omega) (by omega) (fun hR => j_callX hR hS ?_ ?_)
        · intro E ce q9 H1 locs1 hE1
          rw [hr1o] at hE1
          cases hE1
        · intro v' H1 locs1 hv' w1 hS1
          rw [hr1o] at hv'
          cases hv'
          rw [j_mapv]
          exact n3 p e R s m args below meth c H1 locs1 Q _ ls hme' C K hc hs (fun q => by
            obtain ⟨q3, q4⟩ := k2 q
            have := hfr q3
            dsimp only [j_add]
            omega) hlen w1 hS1 hl hE
    | inr E =>
      rw [hr1o] at g3
      dsimp only at g3
      cases hhh : me.2.2.2.2.2.2 with
      | nil =>
        rw [hhh] at g3
        cases g3
        refine ⟨⟨Nat.le_add_right _ _, Nat.le_add_right _ _⟩, fun q => ?_, ?_⟩
        · obtain ⟨q3, q4⟩ := k2 q
          exact ⟨q3, by dsimp only [j_add]; omega⟩
        · intro p e R s m args below meth c H locs Q me' ls hme' C K hc hs hfr hlen w hS hl hE
          obtain rfl : me' = me := Option.some.inj (hme'.symm.trans hme)
          refine run C K hfr hlen w hS hl hc hs (fun hR => j_callX hR hS ?_ ?_)
          · intro E' ce q9 H1 locs1 hE1 w1 hS1 hce hcv hcl1
            rw [hr1o] at hE1
            cases hE1
            obtain ⟨Qc, XC, mc, ms, rfl, hmc, hms, hXC⟩ := hE.2 E rfl
            obtain ⟨-, -, -, -, -, hlocks, -, htab, -⟩ := C
            refine vx_out (fun x hx => ?_) hlocks hce hcv hcl1 (fun t ht hal => hXC t hal (by rw [ht]; exact w1) (hS1.F ht)) hS1.2.2 hmc hms
            rw [htab, hhh] at hx
            cases hx
          · intro v' H1 locs1 hv'
            rw [hr1o] at hv'
            cases hv'
      | cons x0 y0 =>
        rw [hhh] at g3
        dsimp only at g3
        unfold j_cat at g3
        obtain ⟨hp, hfind, g4⟩ := Option.bind_eq_some_iff.mp g3
        obtain ⟨pre, x, suf, e1, hcov, e2, hkE, hEx, hpass⟩ := j_find_ok hfind
        have fin : ∀ (k : Nat) (g : Nat), (∀ {p : Program} {e : Env} {R : Room} {s : State} {m : MethodId} {args : Array Value} {below : List Frame} {meth : Method} {c : Code} {H : Heap} {locs : List Loc} {cells slots : Nat} {Q : State → Prop} {ls : Array Slot} {q : Nat}, p.tables.exec = Jvm.exec → c.code = me.2.2.1 → j_LH (j_ad base b) ls LS → (∀ ls', j_LH (j_ad base b) ls' (LS.set k none) → W p l e R s m args below meth c H locs cells slots Q (F0 m g ls' [])) → W p l e R s m args below meth c H locs cells slots Q (F0 m hp ls [.ref q])) →
            rec (d' + 1) i g (LS.set k none) [] r1.2.1 (j_add h r1.2.2) = some r → j_Cn l base b L xs D tc (d' + 1) i pc LS ST M h r := by
          intro k g hput g5
          obtain ⟨n1, n2, n3⟩ := G _ _ _ _ _ _ _ _ g5
          dsimp only [j_add] at n1 n2
          refine ⟨by omega, fun q => ?_, ?_⟩
          · obtain ⟨q1, q2⟩ := n2 q
            obtain ⟨q3, q4⟩ := k2 q1
            exact ⟨q3, by omega⟩
          · intro p e R s m args below meth c H locs Q me' ls hme' C K hc hs hfr hlen w hS hl hE
            obtain rfl : me' = me := Option.some.inj (hme'.symm.trans hme)
            refine run C K hfr hlen w hS hl (by omega) (by omega) (fun hR => j_callX hR hS ?_ ?_)
            · intro E' ce q9 H1 locs1 hE1 w1 hS1 hce hcv hcl1
              rw [hr1o] at hE1
              cases hE1
              have C' := C
              obtain ⟨hx, hb, hml, hown, hts, hlocks, -, htab, -⟩ := C
              refine vx_catch (own := j_cn me'.1) (name := E) hown (pre.map fun q => ⟨q.1, q.2.1, q.2.2.1, q.2.2.2⟩) ⟨x.1, x.2.1, x.2.2.1, x.2.2.2⟩ (suf.map fun q => ⟨q.1, q.2.1, q.2.2.1, q.2.2.2⟩) (by rw [htab, e1]; simp [tableOf]) ?_ ?_ (j_kl0 hkE) (hts _ (j_kl_ok hkE)) (va_Nw.use rfl (K.2.1.1 E hEx)) hce hcv hcl1 ?_
              · intro z hz
                obtain ⟨z0, hz0, rfl⟩ := List.mem_map.mp hz
                rcases hpass z0 hz0 with q | ⟨nm, q1, q2, q3⟩
                · refine Or.inl ?_
                  simp only [covers]
                  by_cases c1 : z0.1 ≤ pc
                  · have c2 : ¬ pc < z0.2.1 := fun c2 => q ⟨c1, c2⟩
                    simp [c1, c2]
                  · simp [c1]
                · exact Or.inr ⟨j_kl0 q1, nm, hts _ (j_kl_ok q1), K.2.2.1 E hEx nm q3 (Ne.symm q2)⟩
              · simp [covers, hcov.1, hcov.2]
              · dsimp only
                rw [e2]
                refine hput hx hb hl (fun ls' hl' => ?_)
                exact n3 p e R s m args below meth c H1 locs1 Q _ ls' hme' C' K hc hs (fun q => by
                  obtain ⟨q3, q4⟩ := k2 q
                  have := hfr q3
                  dsimp only [j_add]
                  omega) (by rw [List.length_set]; exact hlen) w1 hS1 hl' hE
            · intro v' H1 locs1 hv'
              rw [hr1o] at hv'
              cases hv'
        split at g4
        · rename_i k len hdec
          obtain ⟨rfl, g5⟩ := j_c_some g4
          obtain ⟨s1, s2, g6⟩ := j_s1_some g5
          refine fin k (hp + 2) ?_ g6
          intro p e R s m args below meth c H locs cells slots Q ls q hx hb hl kk
          exact lv_astore hx hb hdec hl s1 rfl (fun ls' hl' => kk ls' (j_LH.set1 (fun v q => by cases q) s1 s2 hl'))
        · rename_i k len hdec
          obtain ⟨rfl, g5⟩ := j_c_some g4
          obtain ⟨s1, s2, g6⟩ := j_s1_some g5
          refine fin k.val (hp + 1) ?_ g6
          intro p e R s m args below meth c H locs cells slots Q ls q hx hb hl kk
          exact lv_astore_n hx hb hdec rfl hl s1 rfl (fun ls' hl' => kk ls' (j_LH.set1 (fun v q => by cases q) s1 s2 hl'))
        · cases g4
end
end
section
section
variable {l : Launch} {base b L : Nat} {xs : Nat → Int32} {D : va_G} {tc : Nat → ClassId} {rec : jQ} {d i pc : Nat} {LS : jL} {ST : List Value} {M : jM} {h : jH} {r : jR} {me : jMe}
/-- one row of the machine, then on, with nothing made -/
theorem j_on {pc' : Nat} {LS' : jL} {ST' : List Value} {M' : jM} (G : j_Good l base b L xs D tc rec) (hme : j_mt[i]? = some me) (hr : rec d i pc' LS' ST' M' h = some r)
    (k : ∀ (p : Program) (e : Env) (R : Room) (s : State) (m : MethodId) (args : Array Value) (below : List Frame) (meth : Method) (c : Code) (H : Heap) (locs : List Loc) (Q : State → Prop) (ls : Array Slot), j_C p l R s m args meth c me d → j_K base b L xs D tc s s.heap → h.2.2.1 ≤ R.cells → h.2.2.2 ≤ R.slots → LS.length = me.2.2.2.1 → j_W base b D tc h.1 M H → va_S (j_A base) s.heap H locs → j_LH (j_ad base b) ls LS →
      (∀ (H' : Heap) (locs' : List Loc) (ls' : Array Slot), j_W base b D tc h.1 M' H' → va_S (j_A base) s.heap H' locs' → j_LH (j_ad base b) ls' LS' → LS'.length = LS.length → W p l e R s m args below meth c H' locs' h.2.2.1 h.2.2.2 Q (F0 m pc' ls' (ST'.map (j_cv (j_ad base b))))) →
      W p l e R s m args below meth c H locs h.2.2.1 h.2.2.2 Q (F0 m pc ls (ST.map (j_cv (j_ad base b))))) : j_Cn l base b L xs D tc d i pc LS ST M h r := by
  obtain ⟨n1, n2, n3⟩ := G _ _ _ _ _ _ _ _ hr
  refine ⟨n1, n2, ?_⟩
  intro p e R s m args below meth c H locs Q me' ls hme' C K hc hs hfr hlen w hS hl hE
  obtain rfl : me' = me := Option.some.inj (hme'.symm.trans hme)
  refine k p e R s m args below meth c H locs Q ls C K (by omega) (by omega) hlen w hS hl (fun H' locs' ls' w' hS' hl' hlen' => ?_)
  exact n3 p e R s m args below meth c H' locs' Q _ ls' hme' C K hc hs hfr (by rw [hlen', hlen]) w' hS' hl' hE
theorem j_cs_map (ad : Nat → Nat) (st : List Value) : ((st.map (j_cv ad)).map fun v => v.category).sum = j_cs st := by
  unfold j_cs
  rw [List.map_map]
  congr 2
  exact funext fun v => j_cv_cat ad v
set_option maxHeartbeats 4000000 in
theorem j_inv_ok {idx kd t : Nat} {I : Instr} (hlt : l.stackTraces = false) (G : j_Good l base b L xs D tc rec) (hme : j_mt[i]? = some me) (hcl : (me.1, idx, kd, t) ∈ j_clT)
    (hI : (kd = 0 ∧ I = .invokevirtual idx) ∨ ((kd = 1 ∨ kd = 2 ∨ kd = 5 ∨ kd = 7 ∨ kd = 8 ∨ kd = 9) ∧ I = .invokestatic idx) ∨ ((kd = 3 ∨ kd = 4 ∨ kd = 6) ∧ I = .invokespecial idx)) (hd : decode me.2.2.1 pc = .ok (I, 3))
    (hr : j_inv rec me d i pc LS ST M h kd t = some r) : j_Cn l base b L xs D tc d i pc LS ST M h r := by
  have hWd := j_clW hcl
  have own : ∀ (hk6 : kd < 6), j_own rec me d i pc LS ST M h kd t = some r → ((kd = 0 ∨ kd = 3 ∨ kd = 4) → ∀ mf, j_mt[t]? = some mf → ∃ a as fs, (ST.take mf.2.2.2.2.2.1).reverse = .ref a :: as ∧ M a = .inr (mf.1, fs)) → j_Cn l base b L xs D tc d i pc LS ST M h r := fun hk6 hr hrc =>
    j_own_ok hlt G hme hcl hk6 (by rcases hI with q | ⟨q, q2⟩ | ⟨q, q2⟩; exact Or.inl q; exact Or.inr (Or.inl ⟨by omega, q2⟩); exact Or.inr (Or.inr ⟨by omega, q2⟩)) hd hrc hr
  have rcv : ∀ (hk6 : kd < 6), ((j_mt[t]?).bind fun mf => j_rcv ST M mf.2.2.2.2.2.1 mf.1 (j_own rec me d i pc LS ST M h kd t)) = some r → j_Cn l base b L xs D tc d i pc LS ST M h r := by
    intro hk6 hr
    obtain ⟨mf, hmf, g1⟩ := Option.bind_eq_some_iff.mp hr
    unfold j_rcv at g1
    split at g1
    · rename_i a as hta
      obtain ⟨cc, fs, hM, g2⟩ := j_ob_some g1
      obtain ⟨rfl, g3⟩ := j_c_some g2
      exact own hk6 g3 (fun _ mf' hmf' => by
        obtain rfl : mf' = mf := Option.some.inj (hmf'.symm.trans hmf)
        exact ⟨a, as, fs, hta, hM⟩)
    · cases g1
  match kd with
  | 0 => exact rcv (by omega) hr
  | 1 => exact own (by omega) hr (fun q => by omega)
  | 2 => exact own (by omega) hr (fun q => by omega)
  | 3 => exact rcv (by omega) hr
  | 4 => exact rcv (by omega) hr
  | 5 => exact own (by omega) hr (fun q => by omega)
  | 6 =>
    obtain rfl : I = .invokespecial idx := by rcases hI with ⟨q, -⟩ | ⟨q, -⟩ | ⟨-, q⟩; omega; omega; exact q
    obtain ⟨a, rr, rfl, g1⟩ := j_r_some (show j_r ST _ = some _ from hr)
    have hWd' : ∀ w ∈ ([.methodLink (j_cn me.1) idx objectInit, .instanceMethod objectInit, .code objectInit ⟨#[0xb1]⟩ 1 none] : List Cond), w ∈ j_gws := by
      have h8 := List.all_eq_true.mp j_okC_all _ hcl
      unfold j_okC at h8
      unfold j_wC at hWd
      dsimp only at h8 hWd
      cases hq : j_mt[t]? with
      | none => rw [hq] at h8; cases h8
      | some x => rw [hq] at hWd; exact hWd
    obtain ⟨⟨hcs8, hd1⟩, g2⟩ := j_c_some g1
    refine j_on G hme g2 ?_
    intro p e R s m args below meth c H locs Q ls C K hc hs hlen w hS hl kk
    obtain ⟨hx, hb, hml, hown, hts, hlocks, hini, htab, hret, hRf, hRl, -⟩ := C
    refine W.objInit hx hb hown (hts _ (hWd' _ List.mem_cons_self)) (hts _ (hWd' _ (List.mem_cons_of_mem _ List.mem_cons_self))) (hts _ (hWd' _ (List.mem_cons_of_mem _ (List.mem_cons_of_mem _ List.mem_cons_self)))) rfl (by rw [hml, ← hlen]; exact hl.1) rfl hd (Nat.le_trans hd1 hRf) ?_ (kk _ _ _ w hS hl rfl)
    show 2 * 0 + ((rr.map (j_cv (j_ad base b))).map fun v => v.category).sum + 12 ≤ R.locals
    rw [j_cs_map]
    omega
  | 7 =>
    obtain rfl : I = .invokestatic idx := by rcases hI with ⟨q, -⟩ | ⟨-, q⟩ | ⟨q, -⟩; omega; exact q; omega
    obtain ⟨nn, dp, e, sp, sa, rr, rfl, g1⟩ := j_cp_some (show j_cp ST _ = some _ from hr)
    obtain ⟨t0, z0, f, hM0, g2⟩ := j_aI_some g1
    obtain ⟨t1, z1, g, hM1, g3⟩ := j_aI_some g2
    obtain ⟨⟨h0, h1, h2, h3, h4, h5, h6, h7, hd1⟩, g4⟩ := j_c_some g3
    subst h0; subst h1; subst h7
    have hWd' : ∀ w ∈ ([.methodLink (j_cn me.1) idx arraycopyName, .native arraycopyName, .static arraycopyName, .initialized "java/lang/System"] : List Cond), w ∈ j_gws := by
      have h8 := List.all_eq_true.mp j_okC_all _ hcl
      unfold j_okC at h8
      unfold j_wC at hWd
      dsimp only at h8 hWd
      cases hq : j_mt[t]? with
      | none => rw [hq] at h8; cases h8
      | some x => rw [hq] at hWd; exact hWd
    refine j_on G hme g4 ?_
    intro p e' R s m args below meth c H locs Q ls C K hc hs hlen w hS hl kk
    obtain ⟨hx, hb, hml, hown, hts, hlocks, hini, htab, hret, hRf, hRl, -⟩ := C
    have hsa : sa < h.1 := w.lt (by rw [hM0]; exact j_nil_ar)
    have hea : e < h.1 := w.lt (by rw [hM1]; exact j_nil_ar)
    have he0 := j_wl_at (base := base) (b := b) (tc := tc) (M := M) hsa
    rw [hM0] at he0
    have he1 := j_wl_at (base := base) (b := b) (tc := tc) (M := M) hea
    rw [hM1] at he1
    show W p l e' R s m args below meth c H locs h.2.2.1 h.2.2.2 Q (F0 m pc ls (.int nn :: .int dp :: .ref (j_ad base b e) :: .int sp :: .ref (j_ad base b sa) :: []))
    rw [w.ad hsa, w.ad hea]
    exact va_copyi hx hb (by rw [hml, ← hlen]; exact hl.1.symm) hown (hts _ (hWd' _ List.mem_cons_self)) (hts _ (hWd' _ (List.mem_cons_of_mem _ List.mem_cons_self))) (hts _ (hWd' _ (List.mem_cons_of_mem _ (List.mem_cons_of_mem _ List.mem_cons_self)))) (hts _ (hWd' _ (List.mem_cons_of_mem _ (List.mem_cons_of_mem _ (List.mem_cons_of_mem _ List.mem_cons_self))))) K.1 w.1 j_wl_D hS sa e 0 0 he0 he1 rfl rfl rfl h2 h3 h4 h5 h6 (fun _ _ => rfl) (Nat.le_trans hd1 hRf) (Nat.le_trans (by decide) (Nat.le_trans (show 98 ≤ 31 * d + 89 by omega) hRl)) hd
      (fun H1 locs1 hP hD hS1 => kk _ _ _ (w.up hea (e := .inl (0, z1, .inl (va_cpy f g sp.toNatClampNeg dp.toNatClampNeg nn.toNatClampNeg))) hP) hS1 hl rfl)
  | 8 =>
    obtain rfl : I = .invokestatic idx := by rcases hI with ⟨q, -⟩ | ⟨-, q⟩ | ⟨q, -⟩; omega; exact q; omega
    obtain ⟨x, y, rr, rfl, g1⟩ := j_ii_some (show j_ii ST _ = some _ from hr)
    obtain ⟨⟨hcs8, hd1⟩, g2⟩ := j_c_some g1
    have hWd' : ∀ w ∈ ([.methodLink (j_cn me.1) idx Lib.Math.max.name, .static Lib.Math.max.name, .initialized "java/lang/Math", .code Lib.Math.max.name Lib.Math.max.code 2 (some .int)] : List Cond), w ∈ j_gws := by
      have h8 := List.all_eq_true.mp j_okC_all _ hcl
      unfold j_okC at h8
      unfold j_wC at hWd
      dsimp only at h8 hWd
      cases hq : j_mt[t]? with
      | none => rw [hq] at h8; cases h8
      | some x => rw [hq] at hWd; exact hWd
    refine j_on G hme g2 ?_
    intro p e' R s m args below meth c H locs Q ls C K hc hs hlen w hS hl kk
    obtain ⟨hx, hb, hml, hown, hts, hlocks, hini, htab, hret, hRf, hRl, -⟩ := C
    refine va_mmax hx hb (by rw [hml, ← hlen]; exact hl.1.symm) hown (hts _ (hWd' _ List.mem_cons_self)) (hts _ (hWd' _ (List.mem_cons_of_mem _ List.mem_cons_self))) (hts _ (hWd' _ (List.mem_cons_of_mem _ (List.mem_cons_of_mem _ List.mem_cons_self)))) (hts _ (hWd' _ (List.mem_cons_of_mem _ (List.mem_cons_of_mem _ (List.mem_cons_of_mem _ List.mem_cons_self))))) (Nat.le_trans hd1 hRf) ?_ hc hs hd (kk _ _ _ w hS hl rfl)
    rw [j_cs_map]
    omega
  | 9 =>
    obtain rfl : I = .invokestatic idx := by rcases hI with ⟨q, -⟩ | ⟨-, q⟩ | ⟨q, -⟩; omega; exact q; omega
    obtain ⟨x, y, rr, rfl, g1⟩ := j_ii_some (show j_ii ST _ = some _ from hr)
    obtain ⟨⟨hcs8, hd1⟩, g2⟩ := j_c_some g1
    have hWd' : ∀ w ∈ ([.methodLink (j_cn me.1) idx Lib.Math.min.name, .static Lib.Math.min.name, .initialized "java/lang/Math", .code Lib.Math.min.name Lib.Math.min.code 2 (some .int)] : List Cond), w ∈ j_gws := by
      have h8 := List.all_eq_true.mp j_okC_all _ hcl
      unfold j_okC at h8
      unfold j_wC at hWd
      dsimp only at h8 hWd
      cases hq : j_mt[t]? with
      | none => rw [hq] at h8; cases h8
      | some x => rw [hq] at hWd; exact hWd
    refine j_on G hme g2 ?_
    intro p e' R s m args below meth c H locs Q ls C K hc hs hlen w hS hl kk
    obtain ⟨hx, hb, hml, hown, hts, hlocks, hini, htab, hret, hRf, hRl, -⟩ := C
    refine va_mmin hx hb (by rw [hml, ← hlen]; exact hl.1.symm) hown (hts _ (hWd' _ List.mem_cons_self)) (hts _ (hWd' _ (List.mem_cons_of_mem _ List.mem_cons_self))) (hts _ (hWd' _ (List.mem_cons_of_mem _ (List.mem_cons_of_mem _ List.mem_cons_self)))) (hts _ (hWd' _ (List.mem_cons_of_mem _ (List.mem_cons_of_mem _ (List.mem_cons_of_mem _ List.mem_cons_self))))) (Nat.le_trans hd1 hRf) ?_ hc hs hd (kk _ _ _ w hS hl rfl)
    rw [j_cs_map]
    omega
  | k + 10 => omega
end
end
section
theorem j_df_ok : ∀ k, k < 5 → ∀ j, j < j_nf k → defaultValue (j_ty k j) = vp_V (j_df k) j := by decide +kernel
theorem j_df_cv (ad : Nat → Nat) : ∀ k, k < 5 → (j_df k).map (j_cv ad) = j_df k := by
  intro k hk
  rcases (show k = 0 ∨ k = 1 ∨ k = 2 ∨ k = 3 ∨ k = 4 by omega) with rfl | rfl | rfl | rfl | rfl <;> rfl
theorem j_W.push {base b : Nat} {D : va_G} {tc : Nat → ClassId} {n : Nat} {M : jM} {H H1 : Heap} {e : va_E} (w : j_W base b D tc n M H) (hn : n < 1000) (o1 : ∀ q : Nat, q < H.size → H1[q]? = H[q]?) (he : va_at D vwCl (base + n, j_ce (j_ad base b) tc e) H1) : j_W base b D tc (n + 1) (va_up M n e) H1 := by
  refine ⟨fun k q hk => ?_, by omega, fun k hk => by rw [va_up_ne _ _ (by omega)]; exact w.2.2 k (by omega)⟩
  obtain ⟨h1, rfl⟩ := j_wl_at2 hk
  by_cases hkn : k = n
  · subst hkn
    rw [va_up_self]
    exact he
  · rw [va_up_ne _ _ hkn]
    have h2 := w.1 k _ (j_wl_at (by omega))
    exact h2.kept (o1 _ h2.lt)
theorem j_atS : ∀ t ∈ j_tlT, ∀ w ∈ (vx_atS (j_cn t.1) t.2.2.2 t.2.2.1 j_exN), (w ∈ j_gws ∨ (w = .castable t.2.2.1 t.2.2.1 ∧ t.2.2.1 ∈ j_exs) ∨ (∃ y ∈ j_dcN, w = .declares y)) ∧ vx_ot w = true := by
  have h : j_tlT.all (fun t => (vx_atS (j_cn t.1) t.2.2.2 t.2.2.1 j_exN).all (fun w => ((decide (w ∈ lw_tbl) && goodWord w) || (decide (w = .castable t.2.2.1 t.2.2.1) && decide (t.2.2.1 ∈ j_exs)) || j_dcN.any (fun y => decide (w = .declares y))) && vx_ot w)) = true := by decide +kernel
  intro t ht w hw
  have h1 := List.all_eq_true.mp (List.all_eq_true.mp h t ht) w hw
  simp only [Bool.and_eq_true, Bool.or_eq_true, decide_eq_true_eq, List.any_eq_true] at h1
  refine ⟨?_, h1.2⟩
  rcases h1.1 with (⟨q1, q2⟩ | q) | q
  · exact Or.inl (List.mem_filter.mpr ⟨q1, q2⟩)
  · exact Or.inr (Or.inl q)
  · exact Or.inr (Or.inr q)
theorem j_exNok : ∀ n ∈ j_exN, Bundle.fit n = true := by decide +kernel
section
variable {l : Launch} {base b L : Nat} {xs : Nat → Int32} {D : va_G} {tc : Nat → ClassId} {rec : jQ} {d i pc : Nat} {LS : jL} {ST : List Value} {M : jM} {h : jH} {r : jR} {me : jMe}
/-- a cell is made, then on -/
theorem j_mk {pc' : Nat} {ST' : List Value} {e : va_E} {z : Nat} (G : j_Good l base b L xs D tc rec) (hme : j_mt[i]? = some me) (hfr1 : h.2.1 = true) (hn : h.1 < 1000)
    (hr : rec d i pc' LS (.ref h.1 :: ST') (va_up M h.1 e) (h.1 + 1, true, h.2.2.1 + 1, h.2.2.2 + z) = some r)
    (k : ∀ (p : Program) (e' : Env) (R : Room) (s : State) (m : MethodId) (args : Array Value) (below : List Frame) (meth : Method) (c : Code) (H : Heap) (locs : List Loc) (Q : State → Prop) (ls : Array Slot), j_C p l R s m args meth c me d → j_K base b L xs D tc s s.heap → h.2.2.1 + 1 ≤ R.cells → h.2.2.2 + z ≤ R.slots → H.size = base + h.1 →
      (∀ (H1 : Heap), H1.size = H.size + 1 → (∀ q : Nat, q < H.size → H1[q]? = H[q]?) → va_at D vwCl (base + h.1, j_ce (j_ad base b) tc e) H1 → W p l e' R s m args below meth c H1 locs (h.2.2.1 + 1) (h.2.2.2 + z) Q (F0 m pc' ls (.ref (base + h.1) :: ST'.map (j_cv (j_ad base b))))) →
      W p l e' R s m args below meth c H locs h.2.2.1 h.2.2.2 Q (F0 m pc ls (ST.map (j_cv (j_ad base b))))) : j_Cn l base b L xs D tc d i pc LS ST M h r := by
  obtain ⟨n1, n2, n3⟩ := G _ _ _ _ _ _ _ _ hr
  dsimp only at n1 n2
  refine ⟨by omega, fun q => ⟨hfr1, by have := n2 q; omega⟩, ?_⟩
  intro p e' R s m args below meth c H locs Q me' ls hme' C K hc hs hfr hlen w hS hl hE
  obtain rfl : me' = me := Option.some.inj (hme'.symm.trans hme)
  refine j_bound (fun hbd => ?_)
  have hsz := w.sz (Nat.le_trans K.2.2.2.2.2.2.2.2.2.2 hS.1)
  have hf := hfr hfr1
  refine k p e' R s m args below meth c H locs Q ls C K (by omega) (by omega) (by omega) (fun H1 z1 o1 he => ?_)
  have hk := n3 p e' R s m args below meth c H1 locs Q me' ls hme' C K hc hs (fun _ => by dsimp only; omega) hlen (w.push hn o1 he) ⟨Nat.le_trans hS.1 (by omega), fun q h1 h2 => (o1 q (Nat.lt_of_lt_of_le h1 hS.1)).trans (hS.2.1 q h1 h2), hS.2.2⟩ hl hE
  have hcv : j_cv (j_ad base b) (.ref h.1) = .ref (base + h.1) := by
    show Value.ref (j_ad base b h.1) = _
    unfold j_ad
    rw [if_neg (by omega)]
  rw [List.map_cons, hcv] at hk
  exact hk
set_option maxHeartbeats 4000000 in
theorem j_new_ok {idx : Nat} (G : j_Good l base b L xs D tc rec) (hme : j_mt[i]? = some me) (hd : decode me.2.2.1 pc = .ok (.new idx, 3)) (hr : j_new rec me d i idx pc LS ST M h = some r) : j_Cn l base b L xs D tc d i pc LS ST M h r := by
  unfold j_new at hr
  split at hr
  · rename_i E ic htl
    obtain ⟨ht, hfit, hck, hini⟩ := j_tl_ok htl
    obtain ⟨⟨hst, hd6, hhh, hdup⟩, g1⟩ := j_c_some hr
    subst hst
    have fin : r = (.inr E, M, (h.1, false, h.2.2.1 + 1, h.2.2.2 + 6)) → (∀ (p : Program) (e : Env) (R : Room) (s : State) (m : MethodId) (args : Array Value) (below : List Frame) (meth : Method) (c : Code) (H : Heap) (locs : List Loc) (ls : Array Slot) (Qc : Array Value → State → Outcome → State → Prop) (XC : String → State → State → Prop) (mc ms : Nat), j_C p l R s m args meth c me d → j_K base b L xs D tc s s.heap → va_S (j_A base) s.heap H locs → ls.size = c.maxLocals → h.2.2.1 + 1 ≤ R.cells → h.2.2.2 + 6 ≤ R.slots → h.2.2.1 + 1 ≤ mc → h.2.2.2 + 6 ≤ ms →
        (∀ t : State, s.vm.Alike t.vm → H.size ≤ t.heap.size → (∀ q : Nat, q < H.size → t.heap[q]? = H[q]?) → XC E s t) → W p l e R s m args below meth c H locs h.2.2.1 h.2.2.2 (vx_MQ below Qc XC args s mc ms (j_A base)) (F0 m pc ls [])) → j_Cn l base b L xs D tc d i pc LS [] M h r := by
      intro hre k
      subst hre
      refine ⟨⟨Nat.le_add_right _ _, Nat.le_add_right _ _⟩, fun q => absurd (show false = true from q) Bool.false_ne_true, ?_⟩
      intro p e R s m args below meth c H locs Q me' ls hme' C K hc hs hfr hlen w hS hl hE
      obtain rfl : me' = me := Option.some.inj (hme'.symm.trans hme)
      obtain ⟨Qc, XC, mc, ms, rfl, hmc, hms, hXC⟩ := hE.2 E rfl
      exact k p e R s m args below meth c H locs ls Qc XC mc ms C K hS (by rw [C.2.2.1, ← hlen]; exact hl.1) hc hs hmc hms (fun t hal hz ho => hXC t hal (w.of ho) ⟨Nat.le_trans hS.1 hz, fun q h1 h2 => (ho q (Nat.lt_of_lt_of_le h1 hS.1)).trans (hS.2.1 q h1 h2)⟩)
    have hat : ∀ {s : State} {args : Array Value}, (∀ w ∈ j_gws, w.before args s = true) → j_K base b L xs D tc s s.heap → ∀ w ∈ vx_atS (j_cn me.1) ic E j_exN, w.before args s = true := by
      intro s args hts K w hw
      rcases (j_atS _ ht w hw).1 with q | ⟨rfl, q⟩ | ⟨y, hy, rfl⟩
      · exact hts w q
      · exact va_Nw.use rfl (K.2.1.1 E q)
      · exact va_Nw.use rfl (K.2.1.2 y hy)
    have hgood : ∀ w ∈ Cond.classLink (j_cn me.1) idx E :: Cond.initialized E :: vx_atS (j_cn me.1) ic E j_exN, vx_ot w = true := by
      intro w hw
      rcases List.mem_cons.mp hw with rfl | hw
      · rfl
      · rcases List.mem_cons.mp hw with rfl | hw
        · rfl
        · exact (j_atS _ ht w hw).2
    split at g1
    · rename_i is hldc
      obtain ⟨⟨hsr, h6, h9⟩, g2⟩ := j_c_some g1
      obtain ⟨tx, htx⟩ := Option.isSome_iff_exists.mp hsr
      refine fin (Option.some.inj g2).symm ?_
      intro p e R s m args below meth c H locs ls Qc XC mc ms C K hS hsz hc hs hmc hms hX
      obtain ⟨sa, hsa⟩ := K.2.2.2.2.2.1 _ (j_sr_ok htx)
      obtain ⟨hx, hb, hml, hown, hts, hlocks, hinit, htab, hret, hRf, hRl, hlt⟩ := C
      exact vx_throwS hx hb hlt hown hfit j_exNok (hts _ hck) (hts _ hini) hsa (hat hts K) hgood K.2.2.2.2.2.2.1 K.2.2.2.2.2.2.2.1 hS hsz hd hdup hldc h6 h9 (fun x hx => by rw [htab, hhh] at hx; cases hx) (show 2 + 3 < R.frames by omega) (show 0 + 82 ≤ R.locals by omega) hc hs hlocks hX hS.2.2 hmc hms
    · rename_i is hldc
      obtain ⟨⟨hsr, h7, h10⟩, g2⟩ := j_c_some g1
      obtain ⟨tx, htx⟩ := Option.isSome_iff_exists.mp hsr
      refine fin (Option.some.inj g2).symm ?_
      intro p e R s m args below meth c H locs ls Qc XC mc ms C K hS hsz hc hs hmc hms hX
      obtain ⟨sa, hsa⟩ := K.2.2.2.2.2.1 _ (j_sr_ok htx)
      obtain ⟨hx, hb, hml, hown, hts, hlocks, hinit, htab, hret, hRf, hRl, hlt⟩ := C
      exact vx_throwSW hx hb hlt hown hfit j_exNok (hts _ hck) (hts _ hini) hsa (hat hts K) hgood K.2.2.2.2.2.2.1 K.2.2.2.2.2.2.2.1 hS hsz hd hdup hldc h7 h10 (fun x hx => by rw [htab, hhh] at hx; cases hx) (show 2 + 3 < R.frames by omega) (show 0 + 82 ≤ R.locals by omega) hc hs hlocks hX hS.2.2 hmc hms
    · cases g1
  · obtain ⟨k, hk, g1⟩ := Option.bind_eq_some_iff.mp hr
    obtain ⟨⟨hfr1, hn⟩, g2⟩ := j_c_some g1
    obtain ⟨hk6, hw⟩ := j_ol_ok hk
    simp only [List.mem_cons, List.not_mem_nil, or_false, forall_eq_or_imp, forall_eq] at hw
    obtain ⟨w1, w2, w3⟩ := hw
    refine j_mk G hme hfr1 hn g2 ?_
    intro p e R s m args below meth c H locs Q ls C K hc hs hsz kk
    obtain ⟨hx, hb, hml, hown, hts, hlocks, hinit, htab, hret, hRf, hRl, -⟩ := C
    have hKn := K.1.1 k _ (j_cl_at k hk6)
    refine W.newcK hx hb hown (hts _ w1) (hts _ w2) (hts _ w3) rfl hd hc hs hKn.2.1 rfl (fun H1 kC hkC e1 z1 o1 => ?_)
    have e2 : H1[base + h.1]? = some (blank (D.1 k) kC) := by rw [← hsz]; exact e1
    have hkk := kk H1 z1 o1 (show va_at D vwCl (base + h.1, .inr (k, (j_df k).map (j_cv (j_ad base b)))) H1 from by
      rw [j_df_cv _ k hk6]
      exact ⟨_, j_cl_at k hk6, (u_born (j_ty k) hts (j_inG k hk6) hKn hkC e2 (j_tyG k hk6)).to (j_df_ok k hk6)⟩)
    rw [hsz]
    exact hkk
set_option maxHeartbeats 4000000 in
theorem j_nar_ok {t : ArrayType} (G : j_Good l base b L xs D tc rec) (hme : j_mt[i]? = some me) (hd : decode me.2.2.1 pc = .ok (.newarray t, 2)) (hr : j_nar rec t d i pc LS ST M h = some r) : j_Cn l base b L xs D tc d i pc LS ST M h r := by
  unfold j_nar at hr
  obtain ⟨x, rr, rfl, g1⟩ := j_i_some hr
  obtain ⟨⟨hfr1, hn, hx0, hx1⟩, g2⟩ := j_c_some g1
  have hA := j_fA_i
  have go : ∀ (ty : FieldType) (q : Nat) (f : Nat → Value) (e0 : va_E), newarray.typeOf t = ty → ty ∈ ([.int, .byte] : List FieldType) → (j_tys tc)[q]? = some (tc q, ty) → componentBytes ty ≤ 8 → (∀ U, va_RA U (tc q) ty → U.vm.findClass ("[" ++ ty.toString) = some (tc q)) →
      (∀ H1 : Heap, H1[base + h.1]? = some (arrV (tc q) x.toNatClampNeg (fun _ => defaultValue ty)) → va_at D vwCl (base + h.1, j_ce (j_ad base b) tc e0) H1) → rec d i (pc + 2) LS (.ref h.1 :: rr) (va_up M h.1 e0) (h.1 + 1, true, h.2.2.1 + 1, h.2.2.2 + x.toNatClampNeg) = some r → j_Cn l base b L xs D tc d i pc LS (.int x :: rr) M h r := by
    intro ty q f e0 hty hm htq hcb hRA he g3
    refine j_mk G hme hfr1 hn g3 ?_
    intro p e R s m args below meth c H locs Q ls C K hc hs hsz kk
    obtain ⟨hx, hb, hml, hown, hts, hlocks, hinit, htab, hret, hRf, hRl, -⟩ := C
    subst hty
    refine va_newaK hx hb (hts _ (hA _ hm _ List.mem_cons_self)) rfl hd rfl hx0 rfl (Nat.le_trans (Nat.mul_le_mul hx1 hcb) (by decide)) hc hs rfl (fun H1 cA e1 z1 o1 hAr hNm => ?_)
    have hcA : cA = tc q := Option.some.inj (hNm.symm.trans (hRA s (K.1.2 q _ htq).2))
    subst hcA
    have hkk := kk H1 z1 o1 (he H1 (by rw [← hsz]; exact e1))
    rw [hsz]
    exact hkk
  split at g2
  · exact go .int 0 (fun _ => .null) (.inl (0, x.toNatClampNeg, .inl (fun _ => 0))) rfl (by decide) rfl (by decide) (fun U q => q) (fun H1 q => q) g2
  · exact go .byte 1 (fun _ => .null) (.inl (1, x.toNatClampNeg, .inl (fun _ => 0))) rfl (by decide) rfl (by decide) (fun U q => q) (fun H1 q => q) g2
  · cases g2
set_option maxHeartbeats 4000000 in
theorem j_anar_ok {idx : Nat} (G : j_Good l base b L xs D tc rec) (hme : j_mt[i]? = some me) (hd : decode me.2.2.1 pc = .ok (.anewarray idx, 3)) (hr : j_anar rec me d i idx pc LS ST M h = some r) : j_Cn l base b L xs D tc d i pc LS ST M h r := by
  unfold j_anar at hr
  obtain ⟨x, rr, rfl, g1⟩ := j_i_some hr
  obtain ⟨⟨hfr1, hn, hx0, hx1, hol⟩, g2⟩ := j_c_some g1
  obtain ⟨hk6, hw⟩ := j_ol_ok hol
  refine j_mk G hme hfr1 hn g2 ?_
  intro p e R s m args below meth c H locs Q ls C K hc hs hsz kk
  obtain ⟨hx, hb, hml, hown, hts, hlocks, hinit, htab, hret, hRf, hRl, -⟩ := C
  refine W.anew (C := "ShipJournal$State") hx hb hown (hts _ (hw _ List.mem_cons_self)) (va_AO.use K.2.2.2.2.1) rfl hd rfl hx0 (by omega) hc hs (fun cA kA comp f1 f2 f3 f4 => ?_)
  have hRA := (K.1.2 2 _ rfl).2
  obtain ⟨kA', comp', k1, k2, k3, k4⟩ := hRA
  have hcA : cA = tc 2 := Option.some.inj (f1.symm.trans k4)
  subst hcA
  have hkk := kk (H.push ({ cls := tc 2, slots := Array.replicate x.toNatClampNeg .null, vm := .none } : Cell)) (by rw [Array.size_push]) (fun q hq => by rw [Array.getElem?_push, if_neg (Nat.ne_of_lt hq)])
    (show (H.push ({ cls := tc 2, slots := Array.replicate x.toNatClampNeg .null, vm := .none } : Cell))[base + h.1]? = some (arrV (tc 2) x.toNatClampNeg (fun _ => .null)) from by rw [← hsz, Array.getElem?_push_size, ← arrV_new])
  rw [hsz]
  exact hkk
end
end
section
section
variable {l : Launch} {base b L : Nat} {xs : Nat → Int32} {D : va_G} {tc : Nat → ClassId} {rec : jQ} {d i pc : Nat} {LS : jL} {ST : List Value} {M : jM} {h : jH} {r : jR} {me : jMe}
/-- a return -/
theorem j_rt {I : Instr} {v : Option Value} (hme : j_mt[i]? = some me) (hd : decode me.2.2.1 pc = .ok (I, 1)) (hI : j_isR I me.2.2.2.2.1 v) (hST : ST = v.toList) (hr : r = (.inl v, M, h)) : j_Cn l base b L xs D tc d i pc LS ST M h r := by
  subst hr; subst hST
  refine ⟨⟨Nat.le_refl _, Nat.le_refl _⟩, fun q => ⟨q, rfl⟩, ?_⟩
  intro p e R s m args below meth c H locs Q me' ls hme' C K hc hs hfr hlen w hS hl hE
  obtain rfl : me' = me := Option.some.inj (hme'.symm.trans hme)
  exact hE.1 v rfl pc ls H locs I hd hI w hS
set_option maxHeartbeats 8000000 in
theorem j_one1_ok {I : Instr} {len : Nat} (hlt : l.stackTraces = false) (G : j_Good l base b L xs D tc rec) (hme : j_mt[i]? = some me) (hd : decode me.2.2.1 pc = .ok (I, len)) (hr : j_one1 (L, xs) rec me d i I len pc LS ST M h = some r) : j_Cn l base b L xs D tc d i pc LS ST M h r := by
  have stp : ((j_stp (L, xs) me.1 (me.2.1.name == "<init>") I len pc LS ST M).bind fun s => rec d i s.1 s.2.1 s.2.2.1 s.2.2.2 h) = some r → j_Cn l base b L xs D tc d i pc LS ST M h r := by
    intro g
    obtain ⟨⟨pc', LS', ST', M'⟩, hst, g2⟩ := Option.bind_eq_some_iff.mp g
    exact j_on G hme g2 (fun p e R s m args below meth c H locs Q ls C K hc hs hlen w hS hl kk => j_stp_ok C K hst hd w hS hl kk)
  cases I with
  | ireturn =>
    obtain ⟨rfl, g⟩ := j_c_some hr
    obtain ⟨x, rr, e1, g1⟩ := j_i_some g
    subst e1
    obtain ⟨⟨h1, h2⟩, g2⟩ := j_c_some g1
    subst h1
    exact j_rt hme hd (Or.inl ⟨rfl, x, rfl, h2⟩) rfl (Option.some.inj g2).symm
  | lreturn =>
    obtain ⟨rfl, g⟩ := j_c_some hr
    obtain ⟨x, rr, e1, g1⟩ := j_l_some g
    subst e1
    obtain ⟨⟨h1, h2⟩, g2⟩ := j_c_some g1
    subst h1
    exact j_rt hme hd (Or.inr (Or.inl ⟨rfl, h2, x, rfl⟩)) rfl (Option.some.inj g2).symm
  | dreturn =>
    obtain ⟨rfl, g⟩ := j_c_some hr
    obtain ⟨x, rr, e1, g1⟩ := j_d_some g
    subst e1
    obtain ⟨⟨h1, h2⟩, g2⟩ := j_c_some g1
    subst h1
    exact j_rt hme hd (Or.inr (Or.inr (Or.inl ⟨rfl, h2, x, rfl⟩))) rfl (Option.some.inj g2).symm
  | areturn =>
    obtain ⟨rfl, g⟩ := j_c_some hr
    obtain ⟨x, rr, e1, g1⟩ := j_r_some g
    subst e1
    obtain ⟨⟨h1, h2⟩, g2⟩ := j_c_some g1
    subst h1
    exact j_rt hme hd (Or.inr (Or.inr (Or.inr (Or.inl ⟨rfl, h2, x, rfl⟩)))) rfl (Option.some.inj g2).symm
  | return_ =>
    obtain ⟨⟨rfl, h1, h2⟩, g2⟩ := j_c_some hr
    subst h1
    exact j_rt hme hd (Or.inr (Or.inr (Or.inr (Or.inr ⟨rfl, h2, rfl⟩)))) rfl (Option.some.inj g2).symm
  | invokevirtual idx =>
    obtain ⟨rfl, g⟩ := j_c_some hr
    obtain ⟨⟨kd, t⟩, hcl, g1⟩ := Option.bind_eq_some_iff.mp g
    obtain ⟨h1, g2⟩ := j_c_some g1
    exact j_inv_ok hlt G hme (j_cl_ok hcl) (Or.inl ⟨h1, rfl⟩) hd g2
  | invokestatic idx =>
    obtain ⟨rfl, g⟩ := j_c_some hr
    obtain ⟨⟨kd, t⟩, hcl, g1⟩ := Option.bind_eq_some_iff.mp g
    obtain ⟨h1, g2⟩ := j_c_some g1
    exact j_inv_ok hlt G hme (j_cl_ok hcl) (Or.inr (Or.inl ⟨h1, rfl⟩)) hd g2
  | invokespecial idx =>
    obtain ⟨rfl, g⟩ := j_c_some hr
    obtain ⟨⟨kd, t⟩, hcl, g1⟩ := Option.bind_eq_some_iff.mp g
    obtain ⟨h1, g2⟩ := j_c_some g1
    exact j_inv_ok hlt G hme (j_cl_ok hcl) (Or.inr (Or.inr ⟨h1, rfl⟩)) hd g2
  | new idx =>
    obtain ⟨rfl, g⟩ := j_c_some hr
    exact j_new_ok G hme hd g
  | newarray t =>
    obtain ⟨rfl, g⟩ := j_c_some hr
    exact j_nar_ok G hme hd g
  | anewarray idx =>
    obtain ⟨rfl, g⟩ := j_c_some hr
    exact j_anar_ok G hme hd g
  | _ => exact stp hr
/-- a run is a run of the machine -/
theorem j_run_good (hlt : l.stackTraces = false) : ∀ N, j_Good l base b L xs D tc (j_run (L, xs) N) := by
  intro N
  induction N with
  | zero => intro d i pc LS ST M h r hr; cases hr
  | succ N ih =>
    intro d i pc LS ST M h r hr
    unfold j_run at hr
    obtain ⟨me, hme, g⟩ := Option.bind_eq_some_iff.mp hr
    split at g
    · rename_i I len hd
      exact j_one1_ok hlt ih hme hd g
    · cases g
end
end
section
/-! the limit of the runs, as a function, and its equation -/
def j_le (g g' : jQ) : Prop := ∀ d i pc LS ST M h r, g d i pc LS ST M h = some r → g' d i pc LS ST M h = some r
noncomputable def Rn (X : jX) : jQ := fun d i pc LS ST M h => @dite (Option jR) (∃ (r : jR) (N : Nat), j_run X N d i pc LS ST M h = some r) (Classical.propDecidable _) (fun q => some (Classical.choose q)) (fun _ => none)
/-- monotone, and continuous along the runs -/
def j_MC (X : jX) {α : Type} (F : jQ → Option α) : Prop := (∀ g g', j_le g g' → ∀ r, F g = some r → F g' = some r) ∧ ((∀ N, j_le (j_run X N) (j_run X (N + 1))) → ∀ r, F (Rn X) = some r → ∃ N, F (j_run X N) = some r)
theorem j_le_add {X : jX} (h : ∀ N, j_le (j_run X N) (j_run X (N + 1))) (N k : Nat) : j_le (j_run X N) (j_run X (N + k)) := by
  induction k with
  | zero => exact fun _ _ _ _ _ _ _ _ q => q
  | succ k ih => exact fun d i pc LS ST M h' r q => h (N + k) d i pc LS ST M h' r (ih d i pc LS ST M h' r q)
section
variable {X : jX} {α β : Type}
theorem j_MC.const (z : Option α) : j_MC X (fun _ => z) := ⟨fun _ _ _ _ h => h, fun _ _ h => ⟨0, h⟩⟩
theorem j_MC.bind {F : jQ → Option α} {G : α → jQ → Option β} (hF : j_MC X F) (hG : ∀ x, j_MC X (G x)) : j_MC X (fun g => (F g).bind fun x => G x g) := by
  refine ⟨fun g g' hle r h => ?_, fun hm r h => ?_⟩
  · obtain ⟨x, h1, h2⟩ := Option.bind_eq_some_iff.mp h
    exact Option.bind_eq_some_iff.mpr ⟨x, hF.1 g g' hle x h1, (hG x).1 g g' hle r h2⟩
  · obtain ⟨x, h1, h2⟩ := Option.bind_eq_some_iff.mp h
    obtain ⟨N1, q1⟩ := hF.2 hm x h1
    obtain ⟨N2, q2⟩ := (hG x).2 hm r h2
    refine ⟨N1 + N2, Option.bind_eq_some_iff.mpr ⟨x, hF.1 _ _ (j_le_add hm N1 N2) x q1, (hG x).1 _ _ ?_ r q2⟩⟩
    rw [Nat.add_comm]
    exact j_le_add hm N2 N1
theorem j_MC.cb {z : Option α} {G : α → jQ → Option β} (hG : ∀ x, j_MC X (G x)) : j_MC X (fun g => z.bind fun x => G x g) := j_MC.bind (F := fun _ => z) (j_MC.const z) hG
theorem j_MC.c {c : Prop} [Decidable c] {F : jQ → Option α} (hF : j_MC X F) : j_MC X (fun g => j_c c (F g)) := by
  by_cases h : c
  · have : (fun g => j_c c (F g)) = F := by funext g; unfold j_c; rw [if_pos h]
    rw [this]; exact hF
  · have : (fun g => j_c c (F g)) = fun _ => none := by funext g; unfold j_c; rw [if_neg h]
    rw [this]; exact j_MC.const none
theorem j_MC.sh {st : List Value} {S : List Value → (jQ → Option α) → Prop} {F : jQ → Option α} (h : j_MC X F) : j_MC X F := h
theorem j_MC.i {st : List Value} {F : Int32 → List Value → jQ → Option α} (hF : ∀ x r, j_MC X (F x r)) : j_MC X (fun g => j_i st fun x r => F x r g) := by
  unfold j_i
  split
  · exact hF _ _
  · exact j_MC.const none
theorem j_MC.ii {st : List Value} {F : Int32 → Int32 → List Value → jQ → Option α} (hF : ∀ x y r, j_MC X (F x y r)) : j_MC X (fun g => j_ii st fun x y r => F x y r g) := by
  unfold j_ii
  split
  · exact hF _ _ _
  · exact j_MC.const none
theorem j_MC.r {st : List Value} {F : Nat → List Value → jQ → Option α} (hF : ∀ x r, j_MC X (F x r)) : j_MC X (fun g => j_r st fun x r => F x r g) := by
  unfold j_r
  split
  · exact hF _ _
  · exact j_MC.const none
theorem j_MC.cp {st : List Value} {F : Int32 → Int32 → Nat → Int32 → Nat → List Value → jQ → Option α} (hF : ∀ a b c d e r, j_MC X (F a b c d e r)) : j_MC X (fun g => j_cp st fun a b c d e r => F a b c d e r g) := by
  unfold j_cp
  split
  · exact hF _ _ _ _ _ _
  · exact j_MC.const none
theorem j_MC.ob {e : va_E} {F : Nat → List Value → jQ → Option α} (hF : ∀ x r, j_MC X (F x r)) : j_MC X (fun g => j_ob e fun x r => F x r g) := by
  unfold j_ob
  split
  · exact hF _ _
  · exact j_MC.const none
theorem j_MC.aI {e : va_E} {F : Nat → Nat → (Nat → Int32) → jQ → Option α} (hF : ∀ x y f, j_MC X (F x y f)) : j_MC X (fun g => j_aI e fun x y f => F x y f g) := by
  unfold j_aI
  split
  · exact hF _ _ _
  · exact j_MC.const none
theorem j_MC.s1 {ls : jL} {k : Nat} {v : Option Value} {F : jL → jQ → Option α} (hF : ∀ x, j_MC X (F x)) : j_MC X (fun g => j_s1 ls k v fun x => F x g) := by
  unfold j_s1
  split
  · exact hF _
  · exact j_MC.const none
theorem Rn_iff {d i pc : Nat} {LS : jL} {ST : List Value} {M : jM} {h : jH} {r : jR} (hm : ∀ N, j_le (j_run X N) (j_run X (N + 1))) : Rn X d i pc LS ST M h = some r ↔ ∃ N, j_run X N d i pc LS ST M h = some r := by
  unfold Rn
  constructor
  · intro q
    split at q
    · rename_i q0
      have := Classical.choose_spec q0
      rw [Option.some.inj q] at this
      exact this
    · cases q
  · rintro ⟨N, q⟩
    have q0 : ∃ (r : jR) (N : Nat), j_run X N d i pc LS ST M h = some r := ⟨r, N, q⟩
    rw [dif_pos q0]
    obtain ⟨N2, q2⟩ := Classical.choose_spec q0
    have a1 := j_le_add hm N N2 _ _ _ _ _ _ _ _ q
    have a2 := j_le_add hm N2 N _ _ _ _ _ _ _ _ q2
    rw [Nat.add_comm] at a2
    rw [a2] at a1
    exact a1
theorem j_MC.app {d i pc : Nat} {LS : jL} {ST : List Value} {M : jM} {h : jH} : j_MC X (fun g => g d i pc LS ST M h) := ⟨fun g g' hle r q => hle _ _ _ _ _ _ _ _ q, fun hm r q => (Rn_iff hm).mp q⟩
theorem j_MC.cat {me : jMe} {d i pc : Nat} {ls : jL} {E : String} {M : jM} {h : jH} : j_MC X (fun g => j_cat g me d i pc ls E M h) := by
  unfold j_cat
  refine j_MC.cb (fun hp => ?_)
  split
  · exact j_MC.c (j_MC.s1 fun _ => j_MC.app)
  · exact j_MC.c (j_MC.s1 fun _ => j_MC.app)
  · exact j_MC.const none
theorem j_MC.own {me : jMe} {d i pc : Nat} {ls : jL} {st : List Value} {M : jM} {h : jH} {kd t : Nat} : j_MC X (fun g => j_own g me d i pc ls st M h kd t) := by
  unfold j_own
  refine j_MC.cb (fun mf => j_MC.c ?_)
  cases d with
  | zero => exact j_MC.const none
  | succ d =>
    refine j_MC.bind j_MC.app (fun r => ?_)
    split
    · exact j_MC.app
    · split
      · exact j_MC.const _
      · exact j_MC.cat
theorem j_MC.rcv {st : List Value} {M : jM} {na ci : Nat} {F : jQ → Option α} (hF : j_MC X F) : j_MC X (fun g => j_rcv st M na ci (F g)) := by
  unfold j_rcv
  split
  · exact j_MC.ob fun _ _ => j_MC.c hF
  · exact j_MC.const none
theorem j_MC.inv {me : jMe} {d i pc : Nat} {ls : jL} {st : List Value} {M : jM} {h : jH} {kd t : Nat} : j_MC X (fun g => j_inv g me d i pc ls st M h kd t) := by
  unfold j_inv
  split
  · exact j_MC.cb fun _ => j_MC.rcv j_MC.own
  · exact j_MC.cb fun _ => j_MC.rcv j_MC.own
  · exact j_MC.cb fun _ => j_MC.rcv j_MC.own
  · exact j_MC.r fun _ _ => j_MC.c j_MC.app
  · exact j_MC.cp fun _ _ _ _ _ _ => j_MC.aI fun _ _ _ => j_MC.aI fun _ _ _ => j_MC.c j_MC.app
  · exact j_MC.ii fun _ _ _ => j_MC.c j_MC.app
  · exact j_MC.ii fun _ _ _ => j_MC.c j_MC.app
  · exact j_MC.own
theorem j_MC.new {me : jMe} {d i idx pc : Nat} {ls : jL} {st : List Value} {M : jM} {h : jH} : j_MC X (fun g => j_new g me d i idx pc ls st M h) := by
  unfold j_new
  split
  · exact j_MC.const _
  · exact j_MC.cb fun _ => j_MC.c j_MC.app
theorem j_MC.nar {t : ArrayType} {d i pc : Nat} {ls : jL} {st : List Value} {M : jM} {h : jH} : j_MC X (fun g => j_nar g t d i pc ls st M h) := by
  unfold j_nar
  refine j_MC.i fun _ _ => j_MC.c ?_
  split
  · exact j_MC.app
  · exact j_MC.app
  · exact j_MC.app
  · exact j_MC.const none
theorem j_MC.anar {me : jMe} {d i idx pc : Nat} {ls : jL} {st : List Value} {M : jM} {h : jH} : j_MC X (fun g => j_anar g me d i idx pc ls st M h) := by
  unfold j_anar
  exact j_MC.i fun _ _ => j_MC.c j_MC.app
theorem j_MC.one {me : jMe} {d i len pc : Nat} {I : Instr} {ls : jL} {st : List Value} {M : jM} {h : jH} : j_MC X (fun g => j_one1 X g me d i I len pc ls st M h) := by
  unfold j_one1
  split
  · exact j_MC.const _
  · exact j_MC.const _
  · exact j_MC.const _
  · exact j_MC.const _
  · exact j_MC.const _
  · exact j_MC.c (j_MC.cb fun _ => j_MC.c j_MC.inv)
  · exact j_MC.c (j_MC.cb fun _ => j_MC.c j_MC.inv)
  · exact j_MC.c (j_MC.cb fun _ => j_MC.c j_MC.inv)
  · exact j_MC.c j_MC.new
  · exact j_MC.c j_MC.nar
  · exact j_MC.c j_MC.anar
  · exact j_MC.cb fun _ => j_MC.app
theorem j_run_mono : ∀ N, j_le (j_run X N) (j_run X (N + 1)) := by
  intro N
  induction N with
  | zero => intro d i pc LS ST M h r q; cases q
  | succ N ih =>
    intro d i pc LS ST M h r q
    unfold j_run at q ⊢
    obtain ⟨me, hme, g⟩ := Option.bind_eq_some_iff.mp q
    refine Option.bind_eq_some_iff.mpr ⟨me, hme, ?_⟩
    split at g
    · rename_i I len hd
      exact j_MC.one.1 _ _ ih r g
    · cases g
/-- the equation -/
theorem Rn_eq {d i pc len : Nat} {LS : jL} {ST : List Value} {M : jM} {h : jH} {me : jMe} {I : Instr} (hme : j_mt[i]? = some me) (hd : decode me.2.2.1 pc = .ok (I, len)) : Rn X d i pc LS ST M h = j_one1 X (Rn X) me d i I len pc LS ST M h := by
  have e : ∀ N, j_run X (N + 1) d i pc LS ST M h = j_one1 X (j_run X N) me d i I len pc LS ST M h := by
    intro N
    show (j_mt[i]?).bind _ = _
    rw [hme]
    show (match decode me.2.2.1 pc with | .ok (I, len) => j_one1 X (j_run X N) me d i I len pc LS ST M h | .error _ => none) = _
    rw [hd]
  apply Option.ext
  intro r
  rw [Rn_iff j_run_mono]
  constructor
  · rintro ⟨N, q⟩
    cases N with
    | zero => cases q
    | succ N =>
      rw [e] at q
      exact j_MC.one.1 _ _ (fun d i pc LS ST M h r q => (Rn_iff j_run_mono).mpr ⟨N, q⟩) r q
  · intro q
    obtain ⟨N, q⟩ := j_MC.one.2 j_run_mono r q
    exact ⟨N + 1, by rw [e]; exact q⟩
end
end
section
/-! rules, one a kind of instruction, with the locals and the stack written out by who uses them -/
-- the forms in which a rule leaves what it reads
def j_g {α : Type} (e : va_E) (c k : Nat) (K : Value → Option α) : Option α := j_ob e fun c' fs => j_c (c' = c) ((fs[k]?).bind K)
def j_p {α : Type} (e : va_E) (c k : Nat) (v : Value) (K : va_E → Option α) : Option α := j_ob e fun c' fs => j_c (c' = c ∧ k < fs.length) (K (.inr (c', fs.set k v)))
def j_ld {α : Type} (X : jX) (e : va_E) (a : Nat) (i : Int32) (K : Int32 → Option α) : Option α := j_aE e (fun t z f => j_c (t = 0 ∧ j_in i z) (K (f i.toNatClampNeg))) (j_c (a = 1000000 ∧ j_in i X.1) (K (X.2 i.toNatClampNeg)))
def j_ldB {α : Type} (e : va_E) (i : Int32) (K : Int32 → Option α) : Option α := j_aI e fun t z f => j_c (t = 1 ∧ j_in i z) (K (f i.toNatClampNeg))
def j_ldJ {α : Type} (e : va_E) (i : Int32) (K : Int64 → Option α) : Option α := j_aJ e fun t z f => j_c (t = 3 ∧ j_in i z) (K (f i.toNatClampNeg))
def j_ldQ {α : Type} (e : va_E) (i : Int32) (K : Nat → Option α) : Option α := j_aQ e fun t z f => j_c (t = 2 ∧ j_in i z) ((f i.toNatClampNeg).bind K)
def j_st {α : Type} (e : va_E) (i x : Int32) (K : va_E → Option α) : Option α := j_aI e fun t z f => j_c (t = 0 ∧ j_in i z) (K (.inl (t, z, .inl (upd f i.toNatClampNeg x))))
def j_stB {α : Type} (e : va_E) (i x : Int32) (K : va_E → Option α) : Option α := j_aI e fun t z f => j_c (t = 1 ∧ j_in i z) (K (.inl (t, z, .inl (upd f i.toNatClampNeg (vp_nar .byte x)))))
def j_stJ {α : Type} (e : va_E) (i : Int32) (x : Int64) (K : va_E → Option α) : Option α := j_aJ e fun t z f => j_c (t = 3 ∧ j_in i z) (K (.inl (t, z, .inr (.inl (vp_updL f i.toNatClampNeg x)))))
def j_stQ {α : Type} (e ev : va_E) (i : Int32) (v : Nat) (K : va_E → Option α) : Option α := j_aQ e fun t z f => j_ob ev fun c _ => j_c (t = 2 ∧ c = 2 ∧ j_in i z) (K (.inl (t, z, .inr (.inr (.inr (.inr (va_up f i.toNatClampNeg (some v))))))))
def j_bd (R : Option jR) (h : jH) (K : Option Value → jM → jH → Option jR) (Kx : String → jM → jH → Option jR) : Option jR := R.bind fun r => match r.1 with
  | .inl v => K v r.2.1 (j_add h r.2.2)
  | .inr E => Kx E r.2.1 (j_add h r.2.2)
abbrev j_up (E : String) (M : jM) (h : jH) : Option jR := some (.inr E, M, h)
def j_rc {α : Type} (e : va_E) (ci : Nat) (x : Option α) : Option α := j_ob e fun c _ => j_c (c = ci) x
def j_h0 (h : jH) : jH := (h.1, h.2.1, 0, 0)
def j_thr (h : jH) : jH := (h.1, false, h.2.2.1 + 1, h.2.2.2 + 6)
theorem j_add0 (h : jH) : j_add h (j_h0 h) = h := rfl
theorem j_addt (h : jH) : j_add h (j_thr (j_h0 h)) = j_thr h := by
  simp [j_add, j_thr, j_h0]
theorem j_ct {α : Type} {c : Prop} [Decidable c] (h : c) (x : Option α) : j_c c x = x := if_pos h
theorem j_one_i (x : Int32) : j_one (some (.int x)) = true := rfl
theorem j_one_r (x : Nat) : j_one (some (.ref x)) = true := rfl
theorem j_one_n : j_one none = true := rfl
section
variable {X : jX} {d i pc pc' : Nat} {LS LS' : jL} {ST : List Value} {M : jM} {h : jH} {me : jMe}
theorem r_stp {I : Instr} {len : Nat} {ST' : List Value} {M' : jM} (hme : j_mt[i]? = some me) (hd : decode me.2.2.1 pc = .ok (I, len)) (h1 : ∀ g, j_one1 X g me d i I len pc LS ST M h = (j_stp X me.1 (me.2.1.name == "<init>") I len pc LS ST M).bind fun s => g d i s.1 s.2.1 s.2.2.1 s.2.2.2 h) (h2 : j_stp X me.1 (me.2.1.name == "<init>") I len pc LS ST M = some (pc', LS', ST', M')) : Rn X d i pc LS ST M h = Rn X d i pc' LS' ST' M' h := by
  rw [Rn_eq hme hd, h1, h2]
  rfl
theorem r_iconst {n : Int} {v : Int32} (hme : j_mt[i]? = some me) (hd : decode me.2.2.1 pc = .ok (.iconst n, 1)) (hv : Int32.ofInt n = v) : Rn X d i pc LS ST M h = Rn X d i (pc + 1) LS (.int v :: ST) M h := by
  subst hv
  exact r_stp hme hd (fun _ => rfl) rfl
theorem r_bipush {n : Int} {v : Int32} (hme : j_mt[i]? = some me) (hd : decode me.2.2.1 pc = .ok (.bipush n, 2)) (hv : (Int8.ofInt n).toInt32 = v) : Rn X d i pc LS ST M h = Rn X d i (pc + 2) LS (.int v :: ST) M h := by
  subst hv
  exact r_stp hme hd (fun _ => rfl) rfl
theorem r_sipush {n : Int} {v : Int32} (hme : j_mt[i]? = some me) (hd : decode me.2.2.1 pc = .ok (.sipush n, 3)) (hv : (Int16.ofInt n).toInt32 = v) : Rn X d i pc LS ST M h = Rn X d i (pc + 3) LS (.int v :: ST) M h := by
  subst hv
  exact r_stp hme hd (fun _ => rfl) rfl
theorem r_ldc_w {idx : Nat} {v : Int32} (hme : j_mt[i]? = some me) (hd : decode me.2.2.1 pc = .ok (.ldc_w idx, 3)) (hv : j_ki me.1 idx = some v) : Rn X d i pc LS ST M h = Rn X d i (pc + 3) LS (.int v :: ST) M h :=
  r_stp hme hd (fun _ => rfl) (by show j_c (3 = 3) ((j_ki me.1 idx).bind _) = _; rw [hv]; rfl)
theorem r_ldc {idx : Nat} {v : Int32} (hme : j_mt[i]? = some me) (hd : decode me.2.2.1 pc = .ok (.ldc idx, 2)) (hv : j_ki me.1 idx = some v) : Rn X d i pc LS ST M h = Rn X d i (pc + 2) LS (.int v :: ST) M h :=
  r_stp hme hd (fun _ => rfl) (by show j_c (2 = 2) ((j_ki me.1 idx).bind _) = _; rw [hv]; rfl)
theorem r_ldc2_w {idx : Nat} {v : Int64} (hme : j_mt[i]? = some me) (hd : decode me.2.2.1 pc = .ok (.ldc2_w idx, 3)) (hv : j_kj me.1 idx = some v) : Rn X d i pc LS ST M h = Rn X d i (pc + 3) LS (.long v :: ST) M h :=
  r_stp hme hd (fun _ => rfl) (by show j_c (3 = 3) ((j_kj me.1 idx).bind _) = _; rw [hv]; rfl)
theorem r_iload {k : Nat} {x : Int32} (hme : j_mt[i]? = some me) (hd : decode me.2.2.1 pc = .ok (.iload k, 2)) (hk : LS[k]? = some (some (.int x))) : Rn X d i pc LS ST M h = Rn X d i (pc + 2) LS (.int x :: ST) M h :=
  r_stp hme hd (fun _ => rfl) (by show j_c (2 = 2) (j_gI LS k _) = _; unfold j_gI; rw [hk]; rfl)
theorem r_iload_n {k : Fin 4} {x : Int32} (hme : j_mt[i]? = some me) (hd : decode me.2.2.1 pc = .ok (.iload_n k, 1)) (hk : LS[k.val]? = some (some (.int x))) : Rn X d i pc LS ST M h = Rn X d i (pc + 1) LS (.int x :: ST) M h :=
  r_stp hme hd (fun _ => rfl) (by show j_c (1 = 1) (j_gI LS k.val _) = _; unfold j_gI; rw [hk]; rfl)
theorem r_aload {k : Nat} {x : Nat} (hme : j_mt[i]? = some me) (hd : decode me.2.2.1 pc = .ok (.aload k, 2)) (hk : LS[k]? = some (some (.ref x))) : Rn X d i pc LS ST M h = Rn X d i (pc + 2) LS (.ref x :: ST) M h :=
  r_stp hme hd (fun _ => rfl) (by show j_c (2 = 2) (j_gR LS k _) = _; unfold j_gR; rw [hk]; rfl)
theorem r_aload_n {k : Fin 4} {x : Nat} (hme : j_mt[i]? = some me) (hd : decode me.2.2.1 pc = .ok (.aload_n k, 1)) (hk : LS[k.val]? = some (some (.ref x))) : Rn X d i pc LS ST M h = Rn X d i (pc + 1) LS (.ref x :: ST) M h :=
  r_stp hme hd (fun _ => rfl) (by show j_c (1 = 1) (j_gR LS k.val _) = _; unfold j_gR; rw [hk]; rfl)
theorem r_lload_n {k : Fin 4} {x : Int64} (hme : j_mt[i]? = some me) (hd : decode me.2.2.1 pc = .ok (.lload_n k, 1)) (hk : LS[k.val]? = some (some (.long x))) : Rn X d i pc LS ST M h = Rn X d i (pc + 1) LS (.long x :: ST) M h :=
  r_stp hme hd (fun _ => rfl) (by show j_c (1 = 1) (j_gJ LS k.val _) = _; unfold j_gJ; rw [hk]; rfl)
theorem r_dload {k : Nat} {x : UInt64} (hme : j_mt[i]? = some me) (hd : decode me.2.2.1 pc = .ok (.dload k, 2)) (hk : LS[k]? = some (some (.double x))) : Rn X d i pc LS ST M h = Rn X d i (pc + 2) LS (.double x :: ST) M h :=
  r_stp hme hd (fun _ => rfl) (by show j_c (2 = 2) (j_gD LS k _) = _; unfold j_gD; rw [hk]; rfl)
theorem j_s1t {α : Type} {ls : jL} {k : Nat} {v : Option Value} {K : jL → Option α} (h : k < ls.length) (h2 : j_ok1 ls k = true) : j_s1 ls k v K = K (ls.set k v) := if_pos ⟨h, h2⟩
theorem j_s2t {α : Type} {ls : jL} {k : Nat} {v : Value} {K : jL → Option α} (h : k + 1 < ls.length) (h2 : j_ok1 ls k = true) : j_s2 ls k v K = K ((ls.set k (some v)).set (k + 1) none) := if_pos ⟨h, h2⟩
theorem r_istore {k : Nat} {x : Int32} (hme : j_mt[i]? = some me) (hd : decode me.2.2.1 pc = .ok (.istore k, 2)) (hk : k < LS.length) (ho : j_ok1 LS k = true) (hl : LS.set k (some (.int x)) = LS') : Rn X d i pc LS (.int x :: ST) M h = Rn X d i (pc + 2) LS' ST M h := by
  subst hl
  exact r_stp hme hd (fun _ => rfl) (by show j_c (2 = 2) (j_s1 LS k (some (.int x)) fun ls => some (pc + 2, ls, ST, M)) = _; rw [j_ct rfl, j_s1t hk ho])
theorem r_istore_n {k : Fin 4} {x : Int32} (hme : j_mt[i]? = some me) (hd : decode me.2.2.1 pc = .ok (.istore_n k, 1)) (hk : k.val < LS.length) (ho : j_ok1 LS k.val = true) (hl : LS.set k.val (some (.int x)) = LS') : Rn X d i pc LS (.int x :: ST) M h = Rn X d i (pc + 1) LS' ST M h := by
  subst hl
  exact r_stp hme hd (fun _ => rfl) (by show j_c (1 = 1) (j_s1 LS k.val (some (.int x)) fun ls => some (pc + 1, ls, ST, M)) = _; rw [j_ct rfl, j_s1t hk ho])
theorem r_astore {k : Nat} {x : Nat} (hme : j_mt[i]? = some me) (hd : decode me.2.2.1 pc = .ok (.astore k, 2)) (hk : k < LS.length) (ho : j_ok1 LS k = true) (hl : LS.set k (some (.ref x)) = LS') : Rn X d i pc LS (.ref x :: ST) M h = Rn X d i (pc + 2) LS' ST M h := by
  subst hl
  exact r_stp hme hd (fun _ => rfl) (by show j_c (2 = 2) (j_s1 LS k (some (.ref x)) fun ls => some (pc + 2, ls, ST, M)) = _; rw [j_ct rfl, j_s1t hk ho])
theorem r_astore_n {k : Fin 4} {x : Nat} (hme : j_mt[i]? = some me) (hd : decode me.2.2.1 pc = .ok (.astore_n k, 1)) (hk : k.val < LS.length) (ho : j_ok1 LS k.val = true) (hl : LS.set k.val (some (.ref x)) = LS') : Rn X d i pc LS (.ref x :: ST) M h = Rn X d i (pc + 1) LS' ST M h := by
  subst hl
  exact r_stp hme hd (fun _ => rfl) (by show j_c (1 = 1) (j_s1 LS k.val (some (.ref x)) fun ls => some (pc + 1, ls, ST, M)) = _; rw [j_ct rfl, j_s1t hk ho])
theorem r_lstore_n {k : Fin 4} {x : Int64} (hme : j_mt[i]? = some me) (hd : decode me.2.2.1 pc = .ok (.lstore_n k, 1)) (hk : k.val + 1 < LS.length) (ho : j_ok1 LS k.val = true) (hl : (LS.set k.val (some (.long x))).set (k.val + 1) none = LS') : Rn X d i pc LS (.long x :: ST) M h = Rn X d i (pc + 1) LS' ST M h := by
  subst hl
  exact r_stp hme hd (fun _ => rfl) (by show j_c (1 = 1) (j_s2 LS k.val (.long x) fun ls => some (pc + 1, ls, ST, M)) = _; rw [j_ct rfl, j_s2t hk ho])
theorem r_dstore {k : Nat} {x : UInt64} (hme : j_mt[i]? = some me) (hd : decode me.2.2.1 pc = .ok (.dstore k, 2)) (hk : k + 1 < LS.length) (ho : j_ok1 LS k = true) (hl : (LS.set k (some (.double x))).set (k + 1) none = LS') : Rn X d i pc LS (.double x :: ST) M h = Rn X d i (pc + 2) LS' ST M h := by
  subst hl
  exact r_stp hme hd (fun _ => rfl) (by show j_c (2 = 2) (j_s2 LS k (.double x) fun ls => some (pc + 2, ls, ST, M)) = _; rw [j_ct rfl, j_s2t hk ho])
theorem r_iinc {k : Nat} {q : Int} {x v : Int32} (hme : j_mt[i]? = some me) (hd : decode me.2.2.1 pc = .ok (.iinc k q, 3)) (hx : LS[k]? = some (some (.int x))) (hk : k < LS.length) (ho : j_ok1 LS k = true) (hv : Int32.ofInt q = v) (hl : LS.set k (some (.int (x + v))) = LS') : Rn X d i pc LS ST M h = Rn X d i (pc + 3) LS' ST M h := by
  subst hl; subst hv
  exact r_stp hme hd (fun _ => rfl) (by show j_c (3 = 3) (j_gI LS k _) = _; unfold j_gI; rw [j_ct rfl, hx]; exact j_s1t hk ho)
theorem r_dup {v : Value} (hme : j_mt[i]? = some me) (hd : decode me.2.2.1 pc = .ok (.dup, 1)) (hv : v.category = 1) : Rn X d i pc LS (v :: ST) M h = Rn X d i (pc + 1) LS (v :: v :: ST) M h :=
  r_stp hme hd (fun _ => rfl) (by show j_c (1 = 1) (j_c (v.category = 1) _) = _; rw [j_ct hv]; rfl)
theorem r_dup2 {v w : Value} (hme : j_mt[i]? = some me) (hd : decode me.2.2.1 pc = .ok (.dup2, 1)) (hv : v.category = 1) (hw : w.category = 1) : Rn X d i pc LS (w :: v :: ST) M h = Rn X d i (pc + 1) LS (w :: v :: w :: v :: ST) M h :=
  r_stp hme hd (fun _ => rfl) (by show j_c (1 = 1) (j_c (v.category = 1 ∧ w.category = 1) _) = _; rw [j_ct rfl]; exact j_ct ⟨hv, hw⟩ _)
theorem r_pop {v : Value} (hme : j_mt[i]? = some me) (hd : decode me.2.2.1 pc = .ok (.pop, 1)) (hv : v.category = 1) : Rn X d i pc LS (v :: ST) M h = Rn X d i (pc + 1) LS ST M h :=
  r_stp hme hd (fun _ => rfl) (by show j_c (1 = 1) (j_c (v.category = 1) _) = _; rw [j_ct hv]; rfl)
theorem r_iadd {x y : Int32} (hme : j_mt[i]? = some me) (hd : decode me.2.2.1 pc = .ok (.iadd, 1)) : Rn X d i pc LS (.int y :: .int x :: ST) M h = Rn X d i (pc + 1) LS (.int (x + y) :: ST) M h := r_stp hme hd (fun _ => rfl) rfl
theorem r_isub {x y : Int32} (hme : j_mt[i]? = some me) (hd : decode me.2.2.1 pc = .ok (.isub, 1)) : Rn X d i pc LS (.int y :: .int x :: ST) M h = Rn X d i (pc + 1) LS (.int (x - y) :: ST) M h := r_stp hme hd (fun _ => rfl) rfl
theorem r_imul {x y : Int32} (hme : j_mt[i]? = some me) (hd : decode me.2.2.1 pc = .ok (.imul, 1)) : Rn X d i pc LS (.int y :: .int x :: ST) M h = Rn X d i (pc + 1) LS (.int (x * y) :: ST) M h := r_stp hme hd (fun _ => rfl) rfl
theorem r_idiv {x y : Int32} (hme : j_mt[i]? = some me) (hd : decode me.2.2.1 pc = .ok (.idiv, 1)) : Rn X d i pc LS (.int y :: .int x :: ST) M h = j_c (¬ y = 0) (Rn X d i (pc + 1) LS (.int (x / y) :: ST) M h) := by
  by_cases q : y = 0
  · rw [Rn_eq hme hd]
    show (j_c (1 = 1) (j_c (¬ y = 0) _)).bind _ = _
    unfold j_c
    rw [if_pos rfl, if_neg (fun q' => q' q), if_neg (fun q' => q' q)]
    rfl
  · rw [j_ct q]
    exact r_stp hme hd (fun _ => rfl) (by show j_c (1 = 1) (j_c (¬ y = 0) _) = _; rw [j_ct q]; rfl)
theorem r_irem {x y : Int32} (hme : j_mt[i]? = some me) (hd : decode me.2.2.1 pc = .ok (.irem, 1)) : Rn X d i pc LS (.int y :: .int x :: ST) M h = j_c (¬ y = 0) (Rn X d i (pc + 1) LS (.int (x - x / y * y) :: ST) M h) := by
  by_cases q : y = 0
  · rw [Rn_eq hme hd]
    show (j_c (1 = 1) (j_c (¬ y = 0) _)).bind _ = _
    unfold j_c
    rw [if_pos rfl, if_neg (fun q' => q' q), if_neg (fun q' => q' q)]
    rfl
  · rw [j_ct q]
    exact r_stp hme hd (fun _ => rfl) (by show j_c (1 = 1) (j_c (¬ y = 0) _) = _; rw [j_ct q]; rfl)
theorem r_ishl {x y : Int32} (hme : j_mt[i]? = some me) (hd : decode me.2.2.1 pc = .ok (.ishl, 1)) : Rn X d i pc LS (.int y :: .int x :: ST) M h = Rn X d i (pc + 1) LS (.int (x <<< (y &&& 31)) :: ST) M h := r_stp hme hd (fun _ => rfl) rfl
theorem r_ishr {x y : Int32} (hme : j_mt[i]? = some me) (hd : decode me.2.2.1 pc = .ok (.ishr, 1)) : Rn X d i pc LS (.int y :: .int x :: ST) M h = Rn X d i (pc + 1) LS (.int (x >>> (y &&& 31)) :: ST) M h := r_stp hme hd (fun _ => rfl) rfl
theorem r_iushr {x y : Int32} (hme : j_mt[i]? = some me) (hd : decode me.2.2.1 pc = .ok (.iushr, 1)) : Rn X d i pc LS (.int y :: .int x :: ST) M h = Rn X d i (pc + 1) LS (.int (x.toUInt32 >>> (y.toUInt32 &&& Int32.toUInt32 31)).toInt32 :: ST) M h := r_stp hme hd (fun _ => rfl) rfl
theorem r_iand {x y : Int32} (hme : j_mt[i]? = some me) (hd : decode me.2.2.1 pc = .ok (.iand, 1)) : Rn X d i pc LS (.int y :: .int x :: ST) M h = Rn X d i (pc + 1) LS (.int (x &&& y) :: ST) M h := r_stp hme hd (fun _ => rfl) rfl
theorem r_ior {x y : Int32} (hme : j_mt[i]? = some me) (hd : decode me.2.2.1 pc = .ok (.ior, 1)) : Rn X d i pc LS (.int y :: .int x :: ST) M h = Rn X d i (pc + 1) LS (.int (x ||| y) :: ST) M h := r_stp hme hd (fun _ => rfl) rfl
theorem r_i2l {x : Int32} (hme : j_mt[i]? = some me) (hd : decode me.2.2.1 pc = .ok (.i2l, 1)) : Rn X d i pc LS (.int x :: ST) M h = Rn X d i (pc + 1) LS (.long x.toInt64 :: ST) M h := r_stp hme hd (fun _ => rfl) rfl
theorem r_i2b {x : Int32} (hme : j_mt[i]? = some me) (hd : decode me.2.2.1 pc = .ok (.i2b, 1)) : Rn X d i pc LS (.int x :: ST) M h = Rn X d i (pc + 1) LS (.int x.toInt8.toInt32 :: ST) M h := r_stp hme hd (fun _ => rfl) rfl
theorem r_i2d {x : Int32} (hme : j_mt[i]? = some me) (hd : decode me.2.2.1 pc = .ok (.i2d, 1)) : Rn X d i pc LS (.int x :: ST) M h = Rn X d i (pc + 1) LS (.double (FP.i2d x) :: ST) M h := r_stp hme hd (fun _ => rfl) rfl
theorem r_ladd {x y : Int64} (hme : j_mt[i]? = some me) (hd : decode me.2.2.1 pc = .ok (.ladd, 1)) : Rn X d i pc LS (.long y :: .long x :: ST) M h = Rn X d i (pc + 1) LS (.long (x + y) :: ST) M h := r_stp hme hd (fun _ => rfl) rfl
theorem r_lmul {x y : Int64} (hme : j_mt[i]? = some me) (hd : decode me.2.2.1 pc = .ok (.lmul, 1)) : Rn X d i pc LS (.long y :: .long x :: ST) M h = Rn X d i (pc + 1) LS (.long (x * y) :: ST) M h := r_stp hme hd (fun _ => rfl) rfl
theorem r_lcmp {x y : Int64} (hme : j_mt[i]? = some me) (hd : decode me.2.2.1 pc = .ok (.lcmp, 1)) : Rn X d i pc LS (.long y :: .long x :: ST) M h = Rn X d i (pc + 1) LS (.int (lg_cmp x y) :: ST) M h := r_stp hme hd (fun _ => rfl) rfl
theorem r_dcmp {x y : UInt64} {op : CmpOp} (hme : j_mt[i]? = some me) (hd : decode me.2.2.1 pc = .ok (.dcmp op, 1)) : Rn X d i pc LS (.double y :: .double x :: ST) M h = Rn X d i (pc + 1) LS (.int (Op.cmpValue (FP.dcmp x y) op) :: ST) M h := r_stp hme hd (fun _ => rfl) rfl
theorem r_ddiv {x y : UInt64} (hme : j_mt[i]? = some me) (hd : decode me.2.2.1 pc = .ok (.ddiv, 1)) (hn : FP.ddiv x y &&& 0x7fffffffffffffff ≤ 0x7ff0000000000000) : Rn X d i pc LS (.double y :: .double x :: ST) M h = Rn X d i (pc + 1) LS (.double (FP.ddiv x y) :: ST) M h :=
  r_stp hme hd (fun _ => rfl) (by show j_c (1 = 1) (j_c _ _) = _; rw [j_ct hn]; rfl)
theorem j_go_if {c : Prop} [Decidable c] {off : Int} {tgt : Nat} (ht : (pc : Int) + off = (tgt : Int)) : j_go c pc off LS ST M = if c then some (tgt, LS, ST, M) else some (pc + 3, LS, ST, M) := by
  unfold j_go
  rw [j_ct (by omega), ht, Int.toNat_natCast]
theorem r_br {I : Instr} {c : Prop} [Decidable c] {off : Int} {tgt : Nat} {ST' : List Value} (hme : j_mt[i]? = some me) (hd : decode me.2.2.1 pc = .ok (I, 3)) (ht : (pc : Int) + off = (tgt : Int)) (h1 : ∀ g, j_one1 X g me d i I 3 pc LS ST M h = (j_go c pc off LS ST' M).bind fun s => g d i s.1 s.2.1 s.2.2.1 s.2.2.2 h) : Rn X d i pc LS ST M h = if c then Rn X d i tgt LS ST' M h else Rn X d i (pc + 3) LS ST' M h := by
  rw [Rn_eq hme hd, h1, j_go_if ht]
  split <;> rfl
theorem r_goto {off : Int} {tgt : Nat} (hme : j_mt[i]? = some me) (hd : decode me.2.2.1 pc = .ok (.goto off, 3)) (ht : (pc : Int) + off = (tgt : Int)) : Rn X d i pc LS ST M h = Rn X d i tgt LS ST M h := by
  rw [r_br (c := True) hme hd ht (fun _ => rfl), if_pos trivial]
theorem r_ifeq {x : Int32} {off : Int} {tgt : Nat} (hme : j_mt[i]? = some me) (hd : decode me.2.2.1 pc = .ok (.ifCond .eq off, 3)) (ht : (pc : Int) + off = (tgt : Int)) : Rn X d i pc LS (.int x :: ST) M h = if x = 0 then Rn X d i tgt LS ST M h else Rn X d i (pc + 3) LS ST M h := r_br hme hd ht (fun _ => rfl)
theorem r_ifne {x : Int32} {off : Int} {tgt : Nat} (hme : j_mt[i]? = some me) (hd : decode me.2.2.1 pc = .ok (.ifCond .ne off, 3)) (ht : (pc : Int) + off = (tgt : Int)) : Rn X d i pc LS (.int x :: ST) M h = if x = 0 then Rn X d i (pc + 3) LS ST M h else Rn X d i tgt LS ST M h := by
  rw [r_br (c := ¬ x = 0) hme hd ht (fun _ => rfl)]
  by_cases q : x = 0
  · rw [if_neg (fun q' => q' q), if_pos q]
  · rw [if_pos q, if_neg q]
theorem r_iflt {x : Int32} {off : Int} {tgt : Nat} (hme : j_mt[i]? = some me) (hd : decode me.2.2.1 pc = .ok (.ifCond .lt off, 3)) (ht : (pc : Int) + off = (tgt : Int)) : Rn X d i pc LS (.int x :: ST) M h = if x < 0 then Rn X d i tgt LS ST M h else Rn X d i (pc + 3) LS ST M h := r_br hme hd ht (fun _ => rfl)
theorem r_ifle {x : Int32} {off : Int} {tgt : Nat} (hme : j_mt[i]? = some me) (hd : decode me.2.2.1 pc = .ok (.ifCond .le off, 3)) (ht : (pc : Int) + off = (tgt : Int)) : Rn X d i pc LS (.int x :: ST) M h = if x ≤ 0 then Rn X d i tgt LS ST M h else Rn X d i (pc + 3) LS ST M h := r_br hme hd ht (fun _ => rfl)
theorem r_ifgt {x : Int32} {off : Int} {tgt : Nat} (hme : j_mt[i]? = some me) (hd : decode me.2.2.1 pc = .ok (.ifCond .gt off, 3)) (ht : (pc : Int) + off = (tgt : Int)) : Rn X d i pc LS (.int x :: ST) M h = if 0 < x then Rn X d i tgt LS ST M h else Rn X d i (pc + 3) LS ST M h := r_br hme hd ht (fun _ => rfl)
theorem r_iceq {x y : Int32} {off : Int} {tgt : Nat} (hme : j_mt[i]? = some me) (hd : decode me.2.2.1 pc = .ok (.if_icmp .eq off, 3)) (ht : (pc : Int) + off = (tgt : Int)) : Rn X d i pc LS (.int y :: .int x :: ST) M h = if x = y then Rn X d i tgt LS ST M h else Rn X d i (pc + 3) LS ST M h := r_br hme hd ht (fun _ => rfl)
theorem r_icne {x y : Int32} {off : Int} {tgt : Nat} (hme : j_mt[i]? = some me) (hd : decode me.2.2.1 pc = .ok (.if_icmp .ne off, 3)) (ht : (pc : Int) + off = (tgt : Int)) : Rn X d i pc LS (.int y :: .int x :: ST) M h = if x = y then Rn X d i (pc + 3) LS ST M h else Rn X d i tgt LS ST M h := by
  rw [r_br (c := ¬ x = y) hme hd ht (fun _ => rfl)]
  by_cases q : x = y
  · rw [if_neg (fun q' => q' q), if_pos q]
  · rw [if_pos q, if_neg q]
theorem r_iclt {x y : Int32} {off : Int} {tgt : Nat} (hme : j_mt[i]? = some me) (hd : decode me.2.2.1 pc = .ok (.if_icmp .lt off, 3)) (ht : (pc : Int) + off = (tgt : Int)) : Rn X d i pc LS (.int y :: .int x :: ST) M h = if x < y then Rn X d i tgt LS ST M h else Rn X d i (pc + 3) LS ST M h := r_br hme hd ht (fun _ => rfl)
theorem r_icge {x y : Int32} {off : Int} {tgt : Nat} (hme : j_mt[i]? = some me) (hd : decode me.2.2.1 pc = .ok (.if_icmp .ge off, 3)) (ht : (pc : Int) + off = (tgt : Int)) : Rn X d i pc LS (.int y :: .int x :: ST) M h = if y ≤ x then Rn X d i tgt LS ST M h else Rn X d i (pc + 3) LS ST M h := r_br hme hd ht (fun _ => rfl)
theorem r_icgt {x y : Int32} {off : Int} {tgt : Nat} (hme : j_mt[i]? = some me) (hd : decode me.2.2.1 pc = .ok (.if_icmp .gt off, 3)) (ht : (pc : Int) + off = (tgt : Int)) : Rn X d i pc LS (.int y :: .int x :: ST) M h = if y < x then Rn X d i tgt LS ST M h else Rn X d i (pc + 3) LS ST M h := r_br hme hd ht (fun _ => rfl)
theorem r_icle {x y : Int32} {off : Int} {tgt : Nat} (hme : j_mt[i]? = some me) (hd : decode me.2.2.1 pc = .ok (.if_icmp .le off, 3)) (ht : (pc : Int) + off = (tgt : Int)) : Rn X d i pc LS (.int y :: .int x :: ST) M h = if x ≤ y then Rn X d i tgt LS ST M h else Rn X d i (pc + 3) LS ST M h := r_br hme hd ht (fun _ => rfl)
theorem r_acne {a b : Nat} {off : Int} {tgt : Nat} (hme : j_mt[i]? = some me) (hd : decode me.2.2.1 pc = .ok (.if_acmp .ne off, 3)) (ht : (pc : Int) + off = (tgt : Int)) : Rn X d i pc LS (.ref b :: .ref a :: ST) M h = j_c (¬ a = 1000000 ∧ ¬ b = 1000000) (if a = b then Rn X d i (pc + 3) LS ST M h else Rn X d i tgt LS ST M h) := by
  rw [Rn_eq hme hd]
  show (j_c (3 = 3) (j_c (¬ a = 1000000 ∧ ¬ b = 1000000) (j_go (¬ a = b) pc off LS ST M))).bind _ = _
  rw [j_ct rfl, j_go_if ht]
  unfold j_c
  split
  · by_cases q : a = b
    · rw [if_neg (fun q' => q' q), if_pos q]; rfl
    · rw [if_pos q, if_neg q]; rfl
  · rfl
theorem r_tab {dflt lo hi : Int} {offs : Array Int} {len : Nat} {x : Int32} {off : Int} {tgt : Nat} (hme : j_mt[i]? = some me) (hd : decode me.2.2.1 pc = .ok (.tableswitch dflt lo hi offs, len)) (h1 : ¬ (x.toInt < lo ∨ hi < x.toInt)) (ho : offs[(x.toInt - lo).toNat]? = some off) (ht : (pc : Int) + off = (tgt : Int)) : Rn X d i pc LS (.int x :: ST) M h = Rn X d i tgt LS ST M h :=
  r_stp hme hd (fun _ => rfl) (by
    show (if x.toInt < lo ∨ hi < x.toInt then _ else (offs[(x.toInt - lo).toNat]?).bind _) = _
    rw [if_neg h1, ho]
    show j_c _ _ = _
    rw [j_ct (by omega), ht, Int.toNat_natCast])
theorem r_tabD {dflt lo hi : Int} {offs : Array Int} {len : Nat} {x : Int32} {tgt : Nat} (hme : j_mt[i]? = some me) (hd : decode me.2.2.1 pc = .ok (.tableswitch dflt lo hi offs, len)) (h1 : x.toInt < lo ∨ hi < x.toInt) (ht : (pc : Int) + dflt = (tgt : Int)) : Rn X d i pc LS (.int x :: ST) M h = Rn X d i tgt LS ST M h :=
  r_stp hme hd (fun _ => rfl) (by
    show (if x.toInt < lo ∨ hi < x.toInt then j_c _ _ else _) = _
    rw [if_pos h1, j_ct (by omega), ht, Int.toNat_natCast])
end
end
section
section
variable {X : jX} {d i pc pc' : Nat} {LS LS' : jL} {ST : List Value} {M : jM} {h : jH} {me : jMe}
theorem j_ob_c {α β : Type} {e : va_E} {K : Nat → List Value → Option α} {f : α → Option β} : (j_ob e K).bind f = j_ob e fun c fs => (K c fs).bind f := by
  unfold j_ob
  split <;> rfl
theorem j_c_b {α β : Type} {c : Prop} [Decidable c] {x : Option α} {f : α → Option β} : (j_c c x).bind f = j_c c (x.bind f) := by
  unfold j_c
  split <;> rfl
theorem r_get {idx c k a : Nat} (hme : j_mt[i]? = some me) (hd : decode me.2.2.1 pc = .ok (.getfield idx, 3)) (hf : j_fl me.1 idx = some (c, k)) : Rn X d i pc LS (.ref a :: ST) M h = j_g (M a) c k fun v => Rn X d i (pc + 3) LS (v :: ST) M h := by
  rw [Rn_eq hme hd]
  show (j_c (3 = 3) ((j_fl me.1 idx).bind fun f => j_ob (M a) fun c fs => j_c (c = f.1) ((fs[f.2]?).bind fun v => some (pc + 3, LS, v :: ST, M)))).bind _ = _
  rw [j_ct rfl, hf]
  unfold j_g
  show (j_ob (M a) _).bind _ = _
  rw [j_ob_c]
  congr 1
  funext c' fs
  rw [j_c_b]
  show j_c (c' = c) _ = _
  congr 1
  cases fs[k]? <;> rfl
theorem r_put {idx c k a : Nat} {v : Value} (hme : j_mt[i]? = some me) (hd : decode me.2.2.1 pc = .ok (.putfield idx, 3)) (hf : j_fl me.1 idx = some (c, k)) (hp : j_pok (c == me.1) (me.2.1.name == "<init>") c k v) : Rn X d i pc LS (v :: .ref a :: ST) M h = j_p (M a) c k v fun e => Rn X d i (pc + 3) LS ST (va_up M a e) h := by
  rw [Rn_eq hme hd]
  show (j_c (3 = 3) ((j_fl me.1 idx).bind fun f => j_vr (v :: .ref a :: ST) fun v a r => j_ob (M a) fun c fs => j_c (c = f.1 ∧ f.2 < fs.length) (j_c (j_pok (f.1 == me.1) (me.2.1.name == "<init>") f.1 f.2 v) (some (pc + 3, LS, r, va_up M a (.inr (c, fs.set f.2 v))))))).bind _ = _
  rw [j_ct rfl, hf]
  unfold j_p
  show (j_ob (M a) _).bind _ = _
  rw [j_ob_c]
  congr 1
  funext c' fs
  rw [j_c_b]
  show j_c (c' = c ∧ k < fs.length) ((j_c (j_pok (c == me.1) (me.2.1.name == "<init>") c k v) _).bind _) = _
  rw [j_ct hp]
  rfl
theorem r_iald {a : Nat} {x : Int32} (hme : j_mt[i]? = some me) (hd : decode me.2.2.1 pc = .ok (.iaload, 1)) : Rn X d i pc LS (.int x :: .ref a :: ST) M h = j_ld X (M a) a x fun v => Rn X d i (pc + 1) LS (.int v :: ST) M h := by
  rw [Rn_eq hme hd]
  show (j_c (1 = 1) (j_aE (M a) _ _)).bind _ = _
  rw [j_ct rfl]
  unfold j_ld j_aE
  split
  · rw [j_c_b]; rfl
  · rw [j_c_b]; rfl
theorem r_bald {a : Nat} {x : Int32} (hme : j_mt[i]? = some me) (hd : decode me.2.2.1 pc = .ok (.baload, 1)) : Rn X d i pc LS (.int x :: .ref a :: ST) M h = j_ldB (M a) x fun v => Rn X d i (pc + 1) LS (.int v :: ST) M h := by
  rw [Rn_eq hme hd]
  show (j_c (1 = 1) (j_aI (M a) _)).bind _ = _
  rw [j_ct rfl]
  unfold j_ldB j_aI
  split
  · rw [j_c_b]; rfl
  · rfl
theorem r_aald {a : Nat} {x : Int32} (hme : j_mt[i]? = some me) (hd : decode me.2.2.1 pc = .ok (.aaload, 1)) : Rn X d i pc LS (.int x :: .ref a :: ST) M h = j_ldQ (M a) x fun v => Rn X d i (pc + 1) LS (.ref v :: ST) M h := by
  rw [Rn_eq hme hd]
  show (j_c (1 = 1) (j_aQ (M a) _)).bind _ = _
  rw [j_ct rfl]
  unfold j_ldQ j_aQ
  split
  · rw [j_c_b]
    congr 1
    rename_i f he
    cases f x.toNatClampNeg <;> rfl
  · rfl
theorem r_iast {a : Nat} {x y : Int32} (hme : j_mt[i]? = some me) (hd : decode me.2.2.1 pc = .ok (.iastore, 1)) : Rn X d i pc LS (.int y :: .int x :: .ref a :: ST) M h = j_st (M a) x y fun e => Rn X d i (pc + 1) LS ST (va_up M a e) h := by
  rw [Rn_eq hme hd]
  show (j_c (1 = 1) (j_aI (M a) _)).bind _ = _
  rw [j_ct rfl]
  unfold j_st j_aI
  split
  · rw [j_c_b]; rfl
  · rfl
theorem r_bast {a : Nat} {x y : Int32} (hme : j_mt[i]? = some me) (hd : decode me.2.2.1 pc = .ok (.bastore, 1)) : Rn X d i pc LS (.int y :: .int x :: .ref a :: ST) M h = j_stB (M a) x y fun e => Rn X d i (pc + 1) LS ST (va_up M a e) h := by
  rw [Rn_eq hme hd]
  show (j_c (1 = 1) (j_aI (M a) _)).bind _ = _
  rw [j_ct rfl]
  unfold j_stB j_aI
  split
  · rw [j_c_b]; rfl
  · rfl
theorem r_aast {a v : Nat} {x : Int32} (hme : j_mt[i]? = some me) (hd : decode me.2.2.1 pc = .ok (.aastore, 1)) : Rn X d i pc LS (.ref v :: .int x :: .ref a :: ST) M h = j_stQ (M a) (M v) x v fun e => Rn X d i (pc + 1) LS ST (va_up M a e) h := by
  rw [Rn_eq hme hd]
  show (j_c (1 = 1) (j_aQ (M a) _)).bind _ = _
  rw [j_ct rfl]
  unfold j_stQ j_aQ
  split
  · rw [j_ob_c]
    congr 1
    funext c fs
    rw [j_c_b]; rfl
  · rfl
theorem r_alen (hme : j_mt[i]? = some me) (hd : decode me.2.2.1 pc = .ok (.arraylength, 1)) : Rn X d i pc LS (.ref 1000000 :: ST) M h = Rn X d i (pc + 1) LS (.int (Int32.ofNat X.1) :: ST) M h := r_stp hme hd (fun _ => rfl) rfl
-- returns
theorem r_iret {x : Int32} (hme : j_mt[i]? = some me) (hd : decode me.2.2.1 pc = .ok (.ireturn, 1)) (hr : me.2.2.2.2.1 = some .int) : Rn X d i pc LS [.int x] M h = some (.inl (some (.int x)), M, h) := by
  rw [Rn_eq hme hd]
  show j_c (1 = 1) (j_c ([] = [] ∧ _) _) = _
  rw [j_ct rfl]
  exact j_ct ⟨rfl, Or.inl hr⟩ _
theorem r_zret {x : Int32} (hme : j_mt[i]? = some me) (hd : decode me.2.2.1 pc = .ok (.ireturn, 1)) (hr : me.2.2.2.2.1 = some .boolean) (hx : x &&& 1 = x) : Rn X d i pc LS [.int x] M h = some (.inl (some (.int x)), M, h) := by
  rw [Rn_eq hme hd]
  show j_c (1 = 1) (j_c ([] = [] ∧ _) _) = _
  rw [j_ct rfl]
  exact j_ct ⟨rfl, Or.inr ⟨hr, hx⟩⟩ _
theorem r_lret {x : Int64} (hme : j_mt[i]? = some me) (hd : decode me.2.2.1 pc = .ok (.lreturn, 1)) (hr : me.2.2.2.2.1 = some .long) : Rn X d i pc LS [.long x] M h = some (.inl (some (.long x)), M, h) := by
  rw [Rn_eq hme hd]
  show j_c (1 = 1) (j_c ([] = [] ∧ _) _) = _
  rw [j_ct rfl]
  exact j_ct ⟨rfl, hr⟩ _
theorem r_dret {x : UInt64} (hme : j_mt[i]? = some me) (hd : decode me.2.2.1 pc = .ok (.dreturn, 1)) (hr : me.2.2.2.2.1 = some .double) : Rn X d i pc LS [.double x] M h = some (.inl (some (.double x)), M, h) := by
  rw [Rn_eq hme hd]
  show j_c (1 = 1) (j_c ([] = [] ∧ _) _) = _
  rw [j_ct rfl]
  exact j_ct ⟨rfl, hr⟩ _
theorem r_aret {x : Nat} (hme : j_mt[i]? = some me) (hd : decode me.2.2.1 pc = .ok (.areturn, 1)) (hr : me.2.2.2.2.1 = some (.object "ShipJournal$Ship")) : Rn X d i pc LS [.ref x] M h = some (.inl (some (.ref x)), M, h) := by
  rw [Rn_eq hme hd]
  show j_c (1 = 1) (j_c ([] = [] ∧ _) _) = _
  rw [j_ct rfl]
  exact j_ct ⟨rfl, hr⟩ _
theorem r_vret (hme : j_mt[i]? = some me) (hd : decode me.2.2.1 pc = .ok (.return_, 1)) (hr : me.2.2.2.2.1 = none) : Rn X d i pc LS [] M h = some (.inl none, M, h) := by
  rw [Rn_eq hme hd]
  exact j_ct ⟨rfl, rfl, hr⟩ _
-- calls
theorem r_own {t : Nat} {mf : jMe} {kd : Nat} {as : List Value} {R : Option jR} (hmf : j_mt[t]? = some mf) (hn : mf.2.2.2.2.2.1 ≤ ST.length) (hcs : j_cs (ST.drop mf.2.2.2.2.2.1) ≤ 8) (ha : (ST.take mf.2.2.2.2.2.1).reverse = as) (hl : (j_sl as).length ≤ mf.2.2.2.1) (hR : Rn X d t 0 (j_ent mf.2.2.2.1 as) [] M (j_h0 h) = R) :
    j_own (Rn X) me (d + 1) i pc LS ST M h kd t = j_bd R h (fun v M h => Rn X (d + 1) i (pc + 3) LS (v.toList ++ ST.drop mf.2.2.2.2.2.1) M h) (fun E M h => match me.2.2.2.2.2.2 with | [] => j_up E M h | _ => j_cat (Rn X) me (d + 1) i pc LS E M h) := by
  subst ha; subst hR
  unfold j_own
  rw [hmf]
  show j_c _ _ = _
  rw [j_ct ⟨hn, hcs, hl⟩]
  unfold j_bd
  show Option.bind (Rn X d t 0 _ [] M (j_h0 h)) _ = _
  congr 1
theorem r_rcv {α : Type} {na ci a : Nat} {as : List Value} {x : Option α} (ha : (ST.take na).reverse = .ref a :: as) : j_rcv ST M na ci x = j_rc (M a) ci x := by
  unfold j_rcv
  rw [ha]
  rfl
theorem r_callV {idx t a : Nat} {mf : jMe} {as : List Value} (hme : j_mt[i]? = some me) (hd : decode me.2.2.1 pc = .ok (.invokevirtual idx, 3)) (hcl : j_cl me.1 idx = some (0, t)) (hmf : j_mt[t]? = some mf) (hn : mf.2.2.2.2.2.1 ≤ ST.length) (hcs : j_cs (ST.drop mf.2.2.2.2.2.1) ≤ 8) (ha : (ST.take mf.2.2.2.2.2.1).reverse = .ref a :: as) (hl : (j_sl (.ref a :: as)).length ≤ mf.2.2.2.1) :
    Rn X (d + 1) i pc LS ST M h = j_rc (M a) mf.1 (j_bd (Rn X d t 0 (j_ent mf.2.2.2.1 (.ref a :: as)) [] M (j_h0 h)) h (fun v M h => Rn X (d + 1) i (pc + 3) LS (v.toList ++ ST.drop mf.2.2.2.2.2.1) M h) (fun E M h => match me.2.2.2.2.2.2 with | [] => j_up E M h | _ => j_cat (Rn X) me (d + 1) i pc LS E M h)) := by
  rw [Rn_eq hme hd]
  show j_c (3 = 3) ((j_cl me.1 idx).bind _) = _
  rw [j_ct rfl, hcl]
  show j_c (0 = 0) ((j_mt[t]?).bind _) = _
  rw [j_ct rfl, hmf]
  show j_rcv _ _ _ _ _ = _
  rw [r_rcv ha, r_own hmf hn hcs ha hl rfl]
theorem r_callI {idx t a kd : Nat} {mf : jMe} {as : List Value} (hkd : kd = 3 ∨ kd = 4) (hme : j_mt[i]? = some me) (hd : decode me.2.2.1 pc = .ok (.invokespecial idx, 3)) (hcl : j_cl me.1 idx = some (kd, t)) (hmf : j_mt[t]? = some mf) (hn : mf.2.2.2.2.2.1 ≤ ST.length) (hcs : j_cs (ST.drop mf.2.2.2.2.2.1) ≤ 8) (ha : (ST.take mf.2.2.2.2.2.1).reverse = .ref a :: as) (hl : (j_sl (.ref a :: as)).length ≤ mf.2.2.2.1) :
    Rn X (d + 1) i pc LS ST M h = j_rc (M a) mf.1 (j_bd (Rn X d t 0 (j_ent mf.2.2.2.1 (.ref a :: as)) [] M (j_h0 h)) h (fun v M h => Rn X (d + 1) i (pc + 3) LS (v.toList ++ ST.drop mf.2.2.2.2.2.1) M h) (fun E M h => match me.2.2.2.2.2.2 with | [] => j_up E M h | _ => j_cat (Rn X) me (d + 1) i pc LS E M h)) := by
  rw [Rn_eq hme hd]
  show j_c (3 = 3) ((j_cl me.1 idx).bind _) = _
  rw [j_ct rfl, hcl]
  rcases hkd with rfl | rfl
  · show j_c (3 = 3 ∨ 3 = 4 ∨ 3 = 6) ((j_mt[t]?).bind _) = _
    rw [j_ct (Or.inl rfl), hmf]
    show j_rcv _ _ _ _ _ = _
    rw [r_rcv ha, r_own hmf hn hcs ha hl rfl]
  · show j_c (4 = 3 ∨ 4 = 4 ∨ 4 = 6) ((j_mt[t]?).bind _) = _
    rw [j_ct (Or.inr (Or.inl rfl)), hmf]
    show j_rcv _ _ _ _ _ = _
    rw [r_rcv ha, r_own hmf hn hcs ha hl rfl]
theorem r_callS {idx t kd : Nat} {mf : jMe} {as : List Value} (hkd : kd = 1 ∨ kd = 2 ∨ kd = 5) (hme : j_mt[i]? = some me) (hd : decode me.2.2.1 pc = .ok (.invokestatic idx, 3)) (hcl : j_cl me.1 idx = some (kd, t)) (hmf : j_mt[t]? = some mf) (hn : mf.2.2.2.2.2.1 ≤ ST.length) (hcs : j_cs (ST.drop mf.2.2.2.2.2.1) ≤ 8) (ha : (ST.take mf.2.2.2.2.2.1).reverse = as) (hl : (j_sl as).length ≤ mf.2.2.2.1) :
    Rn X (d + 1) i pc LS ST M h = j_bd (Rn X d t 0 (j_ent mf.2.2.2.1 as) [] M (j_h0 h)) h (fun v M h => Rn X (d + 1) i (pc + 3) LS (v.toList ++ ST.drop mf.2.2.2.2.2.1) M h) (fun E M h => match me.2.2.2.2.2.2 with | [] => j_up E M h | _ => j_cat (Rn X) me (d + 1) i pc LS E M h) := by
  rw [Rn_eq hme hd]
  show j_c (3 = 3) ((j_cl me.1 idx).bind _) = _
  rw [j_ct rfl, hcl]
  rcases hkd with rfl | rfl | rfl
  · show j_c _ (j_own (Rn X) me (d + 1) i pc LS ST M h 1 t) = _
    rw [j_ct (Or.inl rfl), r_own hmf hn hcs ha hl rfl]
  · show j_c _ (j_own (Rn X) me (d + 1) i pc LS ST M h 2 t) = _
    rw [j_ct (Or.inr (Or.inl rfl)), r_own hmf hn hcs ha hl rfl]
  · show j_c _ (j_own (Rn X) me (d + 1) i pc LS ST M h 5 t) = _
    rw [j_ct (Or.inr (Or.inr (Or.inl rfl))), r_own hmf hn hcs ha hl rfl]
theorem r_obj {idx t a : Nat} (hme : j_mt[i]? = some me) (hd : decode me.2.2.1 pc = .ok (.invokespecial idx, 3)) (hcl : j_cl me.1 idx = some (6, t)) (hcs : j_cs ST ≤ 8) : Rn X (d + 1) i pc LS (.ref a :: ST) M h = Rn X (d + 1) i (pc + 3) LS ST M h := by
  rw [Rn_eq hme hd]
  show j_c (3 = 3) ((j_cl me.1 idx).bind _) = _
  rw [j_ct rfl, hcl]
  show j_c _ (j_c _ _) = _
  rw [j_ct (Or.inr (Or.inr rfl))]
  exact j_ct ⟨hcs, Nat.le_add_left 1 d⟩ _
theorem r_max {idx t : Nat} {x y : Int32} (hme : j_mt[i]? = some me) (hd : decode me.2.2.1 pc = .ok (.invokestatic idx, 3)) (hcl : j_cl me.1 idx = some (8, t)) (hcs : j_cs ST ≤ 8) : Rn X (d + 1) i pc LS (.int y :: .int x :: ST) M h = Rn X (d + 1) i (pc + 3) LS (.int (if x < y then y else x) :: ST) M h := by
  rw [Rn_eq hme hd]
  show j_c (3 = 3) ((j_cl me.1 idx).bind _) = _
  rw [j_ct rfl, hcl]
  show j_c _ (j_c _ _) = _
  rw [j_ct (by simp)]
  exact j_ct ⟨hcs, Nat.le_add_left 1 d⟩ _
theorem r_min {idx t : Nat} {x y : Int32} (hme : j_mt[i]? = some me) (hd : decode me.2.2.1 pc = .ok (.invokestatic idx, 3)) (hcl : j_cl me.1 idx = some (9, t)) (hcs : j_cs ST ≤ 8) : Rn X (d + 1) i pc LS (.int y :: .int x :: ST) M h = Rn X (d + 1) i (pc + 3) LS (.int (if y < x then y else x) :: ST) M h := by
  rw [Rn_eq hme hd]
  show j_c (3 = 3) ((j_cl me.1 idx).bind _) = _
  rw [j_ct rfl, hcl]
  show j_c _ (j_c _ _) = _
  rw [j_ct (by simp)]
  exact j_ct ⟨hcs, Nat.le_add_left 1 d⟩ _
def j_cpy (es ee : va_E) (sp dp n : Int32) (K : va_E → Option jR) : Option jR := j_aI es fun t0 z0 f => j_aI ee fun t1 z1 g => j_c (t0 = 0 ∧ t1 = 0 ∧ ¬ sp < 0 ∧ ¬ dp < 0 ∧ ¬ n < 0 ∧ sp.toNatClampNeg + n.toNatClampNeg ≤ z0 ∧ dp.toNatClampNeg + n.toNatClampNeg ≤ z1) (K (.inl (t1, z1, .inl (va_cpy f g sp.toNatClampNeg dp.toNatClampNeg n.toNatClampNeg))))
theorem r_cpy {idx t s e : Nat} {n dp sp : Int32} (hme : j_mt[i]? = some me) (hd : decode me.2.2.1 pc = .ok (.invokestatic idx, 3)) (hcl : j_cl me.1 idx = some (7, t)) : Rn X (d + 1) i pc LS [.int n, .int dp, .ref e, .int sp, .ref s] M h = j_cpy (M s) (M e) sp dp n fun x => Rn X (d + 1) i (pc + 3) LS [] (va_up M e x) h := by
  rw [Rn_eq hme hd]
  show j_c (3 = 3) ((j_cl me.1 idx).bind _) = _
  rw [j_ct rfl, hcl]
  show j_c _ (j_aI (M s) _) = _
  rw [j_ct (by simp)]
  unfold j_cpy j_aI
  split
  · split
    · unfold j_c
      simp
    · rfl
  · rfl
-- what is made, what is thrown
theorem r_newo {idx k n c z : Nat} (hme : j_mt[i]? = some me) (hd : decode me.2.2.1 pc = .ok (.new idx, 3)) (htl : j_tl me.1 idx = none) (hol : j_ol me.1 idx = some k) (hn : n < 1000) : Rn X d i pc LS ST M (n, true, c, z) = Rn X d i (pc + 3) LS (.ref n :: ST) (va_up M n (.inr (k, j_df k))) (n + 1, true, c + 1, z + j_nf k) := by
  rw [Rn_eq hme hd]
  show j_c (3 = 3) (j_new _ _ _ _ _ _ _ _ _ _) = _
  rw [j_ct rfl]
  unfold j_new
  rw [htl, hol]
  exact j_ct ⟨rfl, hn⟩ _
theorem r_newI {n c z : Nat} {x : Int32} (hme : j_mt[i]? = some me) (hd : decode me.2.2.1 pc = .ok (.newarray .int, 2)) (hn : n < 1000) (hx : ¬ x < 0 ∧ x.toNatClampNeg ≤ 1000) : Rn X d i pc LS (.int x :: ST) M (n, true, c, z) = Rn X d i (pc + 2) LS (.ref n :: ST) (va_up M n (.inl (0, x.toNatClampNeg, .inl (fun _ => 0)))) (n + 1, true, c + 1, z + x.toNatClampNeg) := by
  rw [Rn_eq hme hd]
  show j_c (2 = 2) (j_c _ _) = _
  rw [j_ct rfl]
  exact j_ct ⟨rfl, hn, hx⟩ _
theorem r_newB {n c z : Nat} {x : Int32} (hme : j_mt[i]? = some me) (hd : decode me.2.2.1 pc = .ok (.newarray .byte, 2)) (hn : n < 1000) (hx : ¬ x < 0 ∧ x.toNatClampNeg ≤ 1000) : Rn X d i pc LS (.int x :: ST) M (n, true, c, z) = Rn X d i (pc + 2) LS (.ref n :: ST) (va_up M n (.inl (1, x.toNatClampNeg, .inl (fun _ => 0)))) (n + 1, true, c + 1, z + x.toNatClampNeg) := by
  rw [Rn_eq hme hd]
  show j_c (2 = 2) (j_c _ _) = _
  rw [j_ct rfl]
  exact j_ct ⟨rfl, hn, hx⟩ _
theorem r_anew {idx n c z : Nat} {x : Int32} (hme : j_mt[i]? = some me) (hd : decode me.2.2.1 pc = .ok (.anewarray idx, 3)) (hol : j_ol me.1 idx = some 2) (hn : n < 1000) (hx : ¬ x < 0 ∧ x.toNatClampNeg ≤ 1000) : Rn X d i pc LS (.int x :: ST) M (n, true, c, z) = Rn X d i (pc + 3) LS (.ref n :: ST) (va_up M n (.inl (2, x.toNatClampNeg, .inr (.inr (.inr (.inr (fun _ => none))))))) (n + 1, true, c + 1, z + x.toNatClampNeg) := by
  rw [Rn_eq hme hd]
  show j_c (3 = 3) (j_c _ _) = _
  rw [j_ct rfl]
  exact j_ct ⟨rfl, hn, hx.1, hx.2, hol⟩ _
theorem r_throw {idx is ic : Nat} {E : String} (hme : j_mt[i]? = some me) (hd : decode me.2.2.1 pc = .ok (.new idx, 3)) (htl : j_tl me.1 idx = some (E, ic)) (hh : me.2.2.2.2.2.2 = []) (h3 : decode me.2.2.1 (pc + 3) = .ok (.dup, 1)) (h4 : decode me.2.2.1 (pc + 4) = .ok (.ldc is, 2)) (hs : (j_sr me.1 is).isSome = true) (h6 : decode me.2.2.1 (pc + 6) = .ok (.invokespecial ic, 3)) (h9 : decode me.2.2.1 (pc + 9) = .ok (.athrow, 1)) : Rn X (d + 6) i pc LS [] M h = some (.inr E, M, j_thr h) := by
  rw [Rn_eq hme hd]
  show j_c (3 = 3) (j_new _ _ _ _ _ _ _ _ _ _) = _
  rw [j_ct rfl]
  unfold j_new
  rw [htl]
  show j_c _ (match decode me.2.2.1 (pc + 4) with | .ok (.ldc is, 2) => _ | .ok (.ldc_w is, 3) => _ | _ => none) = _
  rw [j_ct ⟨rfl, Nat.le_add_left 6 d, hh, h3⟩, h4]
  exact j_ct ⟨hs, h6, h9⟩ _
theorem r_throwW {idx is ic : Nat} {E : String} (hme : j_mt[i]? = some me) (hd : decode me.2.2.1 pc = .ok (.new idx, 3)) (htl : j_tl me.1 idx = some (E, ic)) (hh : me.2.2.2.2.2.2 = []) (h3 : decode me.2.2.1 (pc + 3) = .ok (.dup, 1)) (h4 : decode me.2.2.1 (pc + 4) = .ok (.ldc_w is, 3)) (hs : (j_sr me.1 is).isSome = true) (h7 : decode me.2.2.1 (pc + 7) = .ok (.invokespecial ic, 3)) (h10 : decode me.2.2.1 (pc + 10) = .ok (.athrow, 1)) : Rn X (d + 6) i pc LS [] M h = some (.inr E, M, j_thr h) := by
  rw [Rn_eq hme hd]
  show j_c (3 = 3) (j_new _ _ _ _ _ _ _ _ _ _) = _
  rw [j_ct rfl]
  unfold j_new
  rw [htl]
  show j_c _ (match decode me.2.2.1 (pc + 4) with | .ok (.ldc is, 2) => _ | .ok (.ldc_w is, 3) => _ | _ => none) = _
  rw [j_ct ⟨rfl, Nat.le_add_left 6 d, hh, h3⟩, h4]
  exact j_ct ⟨hs, h7, h10⟩ _
/-- caught -/
theorem r_cat {hp k : Nat} {E : String} (hf : j_find me.1 E pc me.2.2.2.2.2.2 = some hp) (hk : k < LS.length) (ho : j_ok1 LS k = true) (hd : (decode me.2.2.1 hp = .ok (.astore k, 2) ∧ pc' = hp + 2) ∨ (∃ q : Fin 4, q.val = k ∧ decode me.2.2.1 hp = .ok (.astore_n q, 1) ∧ pc' = hp + 1)) (hl : LS.set k none = LS') : j_cat (Rn X) me d i pc LS E M h = Rn X d i pc' LS' [] M h := by
  subst hl
  unfold j_cat
  rw [hf]
  rcases hd with ⟨h1, rfl⟩ | ⟨q, rfl, h1, rfl⟩
  · show (match decode me.2.2.1 hp with | .ok (.astore k, len) => _ | .ok (.astore_n k, len) => _ | _ => none) = _
    rw [h1]
    show j_c (2 = 2) _ = _
    rw [j_ct rfl, j_s1t hk ho]
  · show (match decode me.2.2.1 hp with | .ok (.astore k, len) => _ | .ok (.astore_n k, len) => _ | _ => none) = _
    rw [h1]
    show j_c (1 = 1) _ = _
    rw [j_ct rfl, j_s1t hk ho]
end
end
section
/-! whole numbers as the machine's ints, and the pure machine one step at a time: forms that hold no continuation, for simp to walk -/
def zN (k : Nat) : Int32 := Int32.ofInt (k : Int)
def zM (k : Nat) : Int32 := Int32.ofInt (-(k : Int) - 1)
theorem zN_toInt {a : Nat} (h : a < 2147483648) : (zN a).toInt = (a : Int) := by
  unfold zN
  exact Int32.toInt_ofInt_of_le (by omega) (by omega)
theorem zM_toInt {a : Nat} (h : a < 2147483648) : (zM a).toInt = -(a : Int) - 1 := by
  unfold zM
  exact Int32.toInt_ofInt_of_le (by omega) (by omega)
theorem i_cases (x : Int32) : (∃ k, k < 2147483648 ∧ x = zN k) ∨ (∃ k, k < 2147483648 ∧ x = zM k) := by
  have h1 := x.le_toInt
  have h2 := x.toInt_lt
  by_cases q : 0 ≤ x.toInt
  · left
    refine ⟨x.toInt.toNat, by omega, ?_⟩
    unfold zN
    rw [Int.toNat_of_nonneg q, Int32.ofInt_toInt]
  · right
    refine ⟨(-x.toInt - 1).toNat, by omega, ?_⟩
    unfold zM
    rw [Int.toNat_of_nonneg (by omega), show -(-x.toInt - 1) - 1 = x.toInt by omega, Int32.ofInt_toInt]
theorem zN_add (a b : Nat) : zN a + zN b = zN (a + b) := by
  unfold zN
  rw [Int.natCast_add, Int32.ofInt_add]
theorem zN_mul (a b : Nat) : zN a * zN b = zN (a * b) := by
  unfold zN
  rw [Int.natCast_mul, Int32.ofInt_mul]
theorem zN_sub {a b : Nat} (h : b ≤ a) : zN a - zN b = zN (a - b) := by
  unfold zN
  rw [← Int32.ofInt_sub]
  congr 1
  omega
theorem zN_subm {a b : Nat} (h : a < b) : zN a - zN b = zM (b - a - 1) := by
  unfold zN zM
  rw [← Int32.ofInt_sub]
  congr 1
  omega
theorem zM_sub (a b : Nat) : zM a - zN b = zM (a + b) := by
  unfold zN zM
  rw [← Int32.ofInt_sub]
  congr 1
  omega
theorem zM_add {a b : Nat} (h : a < b) : zM a + zN b = zN (b - a - 1) := by
  unfold zN zM
  rw [← Int32.ofInt_add]
  congr 1
  omega
theorem zN_lt {a b : Nat} (ha : a < 2147483648) (hb : b < 2147483648) : zN a < zN b ↔ a < b := by
  rw [Int32.lt_iff_toInt_lt, zN_toInt ha, zN_toInt hb]
  omega
theorem zN_le {a b : Nat} (ha : a < 2147483648) (hb : b < 2147483648) : zN a ≤ zN b ↔ a ≤ b := by
  rw [Int32.le_iff_toInt_le, zN_toInt ha, zN_toInt hb]
  omega
theorem zN_inj {a b : Nat} (ha : a < 2147483648) (hb : b < 2147483648) : zN a = zN b ↔ a = b := by
  rw [← Int32.toInt_inj, zN_toInt ha, zN_toInt hb]
  omega
theorem zM_lt_zN {a b : Nat} (ha : a < 2147483648) (hb : b < 2147483648) : zM a < zN b := by
  rw [Int32.lt_iff_toInt_lt, zM_toInt ha, zN_toInt hb]
  omega
theorem zN_nlt_zM {a b : Nat} (ha : a < 2147483648) (hb : b < 2147483648) : ¬ zN a < zM b := by
  rw [Int32.lt_iff_toInt_lt, zN_toInt ha, zM_toInt hb]
  omega
theorem zM_le_zN {a b : Nat} (ha : a < 2147483648) (hb : b < 2147483648) : zM a ≤ zN b := by
  rw [Int32.le_iff_toInt_le, zM_toInt ha, zN_toInt hb]
  omega
theorem zN_nle_zM {a b : Nat} (ha : a < 2147483648) (hb : b < 2147483648) : ¬ zN a ≤ zM b := by
  rw [Int32.le_iff_toInt_le, zN_toInt ha, zM_toInt hb]
  omega
theorem zN_ne_zM {a b : Nat} (ha : a < 2147483648) (hb : b < 2147483648) : ¬ zN a = zM b := by
  rw [← Int32.toInt_inj, zN_toInt ha, zM_toInt hb]
  omega
theorem zM_inj {a b : Nat} (ha : a < 2147483648) (hb : b < 2147483648) : zM a = zM b ↔ a = b := by
  rw [← Int32.toInt_inj, zM_toInt ha, zM_toInt hb]
  omega
theorem zM_lt {a b : Nat} (ha : a < 2147483648) (hb : b < 2147483648) : zM a < zM b ↔ b < a := by
  rw [Int32.lt_iff_toInt_lt, zM_toInt ha, zM_toInt hb]
  omega
theorem zM_le {a b : Nat} (ha : a < 2147483648) (hb : b < 2147483648) : zM a ≤ zM b ↔ b ≤ a := by
  rw [Int32.le_iff_toInt_le, zM_toInt ha, zM_toInt hb]
  omega
theorem zN_div {a b : Nat} (ha : a < 2147483648) (hb : b < 2147483648) : zN a / zN b = zN (a / b) := by
  unfold zN
  have e1 : Int32.minValue.toInt = -2147483648 := by decide
  have e2 : Int32.maxValue.toInt = 2147483647 := by decide
  rw [← Int32.ofInt_tdiv (by omega) (by omega) (by omega) (by omega), Int.tdiv_eq_ediv_of_nonneg (by omega), Int.natCast_ediv]
theorem zN_rem {a b : Nat} (ha : a < 2147483648) (hb : b < 2147483648) : zN a - zN a / zN b * zN b = zN (a % b) := by
  rw [zN_div ha hb, zN_mul, zN_sub (Nat.div_mul_le_self a b)]
  congr 1
  have := Nat.div_add_mod a b
  rw [Nat.mul_comm] at this
  omega
theorem zN_bv (a : Nat) : (zN a).toBitVec = BitVec.ofNat 32 a := by
  unfold zN
  show BitVec.ofInt 32 (a : Int) = _
  exact BitVec.ofInt_natCast 32 a
theorem i_and31 (x : Int32) : x &&& zN 31 = zN (x.toBitVec.toNat % 32) := by
  apply Int32.toBitVec_inj.mp
  rw [Int32.toBitVec_and, zN_bv, zN_bv]
  apply BitVec.eq_of_toNat_eq
  rw [BitVec.toNat_and, BitVec.toNat_ofNat, BitVec.toNat_ofNat]
  have := Nat.and_two_pow_sub_one_eq_mod x.toBitVec.toNat 5
  show x.toBitVec.toNat &&& (2 ^ 5 - 1) = _
  rw [this, Nat.mod_eq_of_lt (a := x.toBitVec.toNat % 32)]
  omega
theorem zN_and (a : Nat) : zN a &&& zN 31 = zN (a % 32) := by
  rw [i_and31, zN_bv, BitVec.toNat_ofNat]
  congr 1
  omega
theorem zN_nat {a : Nat} (ha : a < 2147483648) : (zN a).toNatClampNeg = a := by
  show (zN a).toInt.toNat = a
  rw [zN_toInt ha]
  rfl
theorem zN_in {a z : Nat} (ha : a < 2147483648) (h : a < z) : j_in (zN a) z := by
  refine ⟨?_, by rw [zN_nat ha]; exact h⟩
  rw [Int32.lt_iff_toInt_lt, zN_toInt ha]
  show ¬ ((a : Int) < 0)
  omega
theorem zN_ofNat (a : Nat) : Int32.ofNat a = zN a := by
  apply Int32.toBitVec_inj.mp
  rw [zN_bv]
  rfl
section
variable (X : jX)
noncomputable def q_g (e : va_E) (c k : Nat) (d i pc : Nat) (LS : jL) (ST : List Value) (M : jM) (h : jH) : Option jR := j_g e c k fun v => Rn X d i pc LS (v :: ST) M h
noncomputable def q_p (e : va_E) (a c k : Nat) (v : Value) (d i pc : Nat) (LS : jL) (ST : List Value) (M : jM) (h : jH) : Option jR := j_p e c k v fun e => Rn X d i pc LS ST (va_up M a e) h
noncomputable def q_ld (e : va_E) (a : Nat) (x : Int32) (d i pc : Nat) (LS : jL) (ST : List Value) (M : jM) (h : jH) : Option jR := j_ld X e a x fun v => Rn X d i pc LS (.int v :: ST) M h
noncomputable def q_lB (e : va_E) (x : Int32) (d i pc : Nat) (LS : jL) (ST : List Value) (M : jM) (h : jH) : Option jR := j_ldB e x fun v => Rn X d i pc LS (.int v :: ST) M h
noncomputable def q_lJ (e : va_E) (x : Int32) (d i pc : Nat) (LS : jL) (ST : List Value) (M : jM) (h : jH) : Option jR := j_ldJ e x fun v => Rn X d i pc LS (.long v :: ST) M h
noncomputable def q_lQ (e : va_E) (x : Int32) (d i pc : Nat) (LS : jL) (ST : List Value) (M : jM) (h : jH) : Option jR := j_ldQ e x fun v => Rn X d i pc LS (.ref v :: ST) M h
noncomputable def q_st (e : va_E) (a : Nat) (x y : Int32) (d i pc : Nat) (LS : jL) (ST : List Value) (M : jM) (h : jH) : Option jR := j_st e x y fun e => Rn X d i pc LS ST (va_up M a e) h
noncomputable def q_sB (e : va_E) (a : Nat) (x y : Int32) (d i pc : Nat) (LS : jL) (ST : List Value) (M : jM) (h : jH) : Option jR := j_stB e x y fun e => Rn X d i pc LS ST (va_up M a e) h
noncomputable def q_sJ (e : va_E) (a : Nat) (x : Int32) (y : Int64) (d i pc : Nat) (LS : jL) (ST : List Value) (M : jM) (h : jH) : Option jR := j_stJ e x y fun e => Rn X d i pc LS ST (va_up M a e) h
noncomputable def q_sQ (e ev : va_E) (a : Nat) (x : Int32) (v : Nat) (d i pc : Nat) (LS : jL) (ST : List Value) (M : jM) (h : jH) : Option jR := j_stQ e ev x v fun e => Rn X d i pc LS ST (va_up M a e) h
noncomputable def q_cp (es ee : va_E) (e : Nat) (sp dp n : Int32) (d i pc : Nat) (LS : jL) (M : jM) (h : jH) : Option jR := j_cpy es ee sp dp n fun x => Rn X d i pc LS [] (va_up M e x) h
noncomputable def q_eq (x y : Int32) (d i p1 p2 : Nat) (LS : jL) (ST : List Value) (M : jM) (h : jH) : Option jR := if x = y then Rn X d i p1 LS ST M h else Rn X d i p2 LS ST M h
noncomputable def q_lt (x y : Int32) (d i p1 p2 : Nat) (LS : jL) (ST : List Value) (M : jM) (h : jH) : Option jR := if x < y then Rn X d i p1 LS ST M h else Rn X d i p2 LS ST M h
noncomputable def q_le (x y : Int32) (d i p1 p2 : Nat) (LS : jL) (ST : List Value) (M : jM) (h : jH) : Option jR := if x ≤ y then Rn X d i p1 LS ST M h else Rn X d i p2 LS ST M h
noncomputable def q_ac (a b : Nat) (d i p1 p2 : Nat) (LS : jL) (ST : List Value) (M : jM) (h : jH) : Option jR := j_c (¬ a = 1000000 ∧ ¬ b = 1000000) (if a = b then Rn X d i p1 LS ST M h else Rn X d i p2 LS ST M h)
noncomputable def q_dv (x y : Int32) (d i pc : Nat) (LS : jL) (ST : List Value) (M : jM) (h : jH) : Option jR := j_c (¬ y = 0) (Rn X d i pc LS (.int (x / y) :: ST) M h)
noncomputable def q_rm (x y : Int32) (d i pc : Nat) (LS : jL) (ST : List Value) (M : jM) (h : jH) : Option jR := j_c (¬ y = 0) (Rn X d i pc LS (.int (x - x / y * y) :: ST) M h)
noncomputable def q_k (R : Option jR) (h : jH) (d i pc : Nat) (LS : jL) (ST : List Value) : Option jR := j_bd R h (fun v M h => Rn X d i pc LS (v.toList ++ ST) M h) (fun E M h => j_up E M h)
noncomputable def q_kc (R : Option jR) (h : jH) (me : jMe) (d i p0 pc : Nat) (LS : jL) (ST : List Value) : Option jR := j_bd R h (fun v M h => Rn X d i pc LS (v.toList ++ ST) M h) (fun E M h => j_cat (Rn X) me d i p0 LS E M h)
end
section
variable {X : jX} {d i pc p0 p1 p2 : Nat} {LS : jL} {ST : List Value} {M M' : jM} {h h' : jH} {me : jMe}
theorem q_k_v {v : Value} : q_k X (some (.inl (some v), M', h')) h d i pc LS ST = Rn X d i pc LS (v :: ST) M' (j_add h h') := rfl
theorem q_k_n : q_k X (some (.inl none, M', h')) h d i pc LS ST = Rn X d i pc LS ST M' (j_add h h') := rfl
theorem q_k_x {E : String} : q_k X (some (.inr E, M', h')) h d i pc LS ST = some (.inr E, M', j_add h h') := rfl
theorem q_kc_v {v : Value} : q_kc X (some (.inl (some v), M', h')) h me d i p0 pc LS ST = Rn X d i pc LS (v :: ST) M' (j_add h h') := rfl
theorem q_kc_n : q_kc X (some (.inl none, M', h')) h me d i p0 pc LS ST = Rn X d i pc LS ST M' (j_add h h') := rfl
theorem q_kc_x {E : String} : q_kc X (some (.inr E, M', h')) h me d i p0 pc LS ST = j_cat (Rn X) me d i p0 LS E M' (j_add h h') := rfl
theorem q_rc {α : Type} {ci : Nat} {fs : List Value} {x : Option α} : j_rc (.inr (ci, fs)) ci x = x := by
  show j_c (ci = ci) x = x
  exact j_ct rfl _
theorem q_eq_t {a b : Nat} (e : a = b) : q_eq X (zN a) (zN b) d i p1 p2 LS ST M h = Rn X d i p1 LS ST M h := if_pos (congrArg zN e)
theorem q_eq_f {a b : Nat} (e : a ≠ b) (ha : a < 2147483648) (hb : b < 2147483648) : q_eq X (zN a) (zN b) d i p1 p2 LS ST M h = Rn X d i p2 LS ST M h := if_neg (fun q => e ((zN_inj ha hb).mp q))
theorem q_eq_nm {a b : Nat} (ha : a < 2147483648) (hb : b < 2147483648) : q_eq X (zN a) (zM b) d i p1 p2 LS ST M h = Rn X d i p2 LS ST M h := if_neg (zN_ne_zM ha hb)
theorem q_eq_mn {a b : Nat} (ha : a < 2147483648) (hb : b < 2147483648) : q_eq X (zM a) (zN b) d i p1 p2 LS ST M h = Rn X d i p2 LS ST M h := if_neg (fun q => zN_ne_zM hb ha q.symm)
theorem q_eq_mt {a b : Nat} (e : a = b) : q_eq X (zM a) (zM b) d i p1 p2 LS ST M h = Rn X d i p1 LS ST M h := if_pos (congrArg zM e)
theorem q_eq_mf {a b : Nat} (e : a ≠ b) (ha : a < 2147483648) (hb : b < 2147483648) : q_eq X (zM a) (zM b) d i p1 p2 LS ST M h = Rn X d i p2 LS ST M h := if_neg (fun q => e ((zM_inj ha hb).mp q))
theorem q_lt_t {a b : Nat} (e : a < b) (hb : b < 2147483648) : q_lt X (zN a) (zN b) d i p1 p2 LS ST M h = Rn X d i p1 LS ST M h := if_pos ((zN_lt (Nat.lt_trans e hb) hb).mpr e)
theorem q_lt_f {a b : Nat} (e : b ≤ a) (ha : a < 2147483648) : q_lt X (zN a) (zN b) d i p1 p2 LS ST M h = Rn X d i p2 LS ST M h := if_neg (fun q => Nat.not_lt.mpr e ((zN_lt ha (Nat.lt_of_le_of_lt e ha)).mp q))
theorem q_lt_mn {a b : Nat} (ha : a < 2147483648) (hb : b < 2147483648) : q_lt X (zM a) (zN b) d i p1 p2 LS ST M h = Rn X d i p1 LS ST M h := if_pos (zM_lt_zN ha hb)
theorem q_lt_nm {a b : Nat} (ha : a < 2147483648) (hb : b < 2147483648) : q_lt X (zN a) (zM b) d i p1 p2 LS ST M h = Rn X d i p2 LS ST M h := if_neg (zN_nlt_zM ha hb)
theorem q_le_t {a b : Nat} (e : a ≤ b) (hb : b < 2147483648) : q_le X (zN a) (zN b) d i p1 p2 LS ST M h = Rn X d i p1 LS ST M h := if_pos ((zN_le (Nat.lt_of_le_of_lt e hb) hb).mpr e)
theorem q_le_f {a b : Nat} (e : b < a) (ha : a < 2147483648) : q_le X (zN a) (zN b) d i p1 p2 LS ST M h = Rn X d i p2 LS ST M h := if_neg (fun q => Nat.not_le.mpr e ((zN_le ha (Nat.lt_trans e ha)).mp q))
theorem q_le_mn {a b : Nat} (ha : a < 2147483648) (hb : b < 2147483648) : q_le X (zM a) (zN b) d i p1 p2 LS ST M h = Rn X d i p1 LS ST M h := if_pos (zM_le_zN ha hb)
theorem q_le_nm {a b : Nat} (ha : a < 2147483648) (hb : b < 2147483648) : q_le X (zN a) (zM b) d i p1 p2 LS ST M h = Rn X d i p2 LS ST M h := if_neg (zN_nle_zM ha hb)
theorem q_ac_t {a b : Nat} (e : a = b) (ha : a < 1000000) : q_ac X a b d i p1 p2 LS ST M h = Rn X d i p1 LS ST M h := by
  unfold q_ac
  rw [j_ct (by omega), if_pos e]
theorem q_ac_f {a b : Nat} (e : a ≠ b) (ha : a < 1000000) (hb : b < 1000000) : q_ac X a b d i p1 p2 LS ST M h = Rn X d i p2 LS ST M h := by
  unfold q_ac
  rw [j_ct (by omega), if_neg e]
theorem q_dv_n {a b : Nat} (ha : a < 2147483648) (hb : b < 2147483648) (h0 : 0 < b) : q_dv X (zN a) (zN b) d i pc LS ST M h = Rn X d i pc LS (.int (zN (a / b)) :: ST) M h := by
  unfold q_dv
  have q : ¬ zN b = 0 := fun q => by have := (zN_inj (b := 0) hb (by omega)).mp q; omega
  rw [j_ct q, zN_div ha hb]
theorem q_rm_n {a b : Nat} (ha : a < 2147483648) (hb : b < 2147483648) (h0 : 0 < b) : q_rm X (zN a) (zN b) d i pc LS ST M h = Rn X d i pc LS (.int (zN (a % b)) :: ST) M h := by
  unfold q_rm
  have q : ¬ zN b = 0 := fun q => by have := (zN_inj (b := 0) hb (by omega)).mp q; omega
  rw [j_ct q, zN_rem ha hb]
theorem q_ld_n {z a j : Nat} {f : Nat → Int32} (h1 : j < z) (h2 : z < 2147483648) : q_ld X (.inl (0, z, .inl f)) a (zN j) d i pc LS ST M h = Rn X d i pc LS (.int (f j) :: ST) M h := by
  show j_c (0 = 0 ∧ j_in (zN j) z) (Rn X d i pc LS (.int (f (zN j).toNatClampNeg) :: ST) M h) = _
  rw [j_ct ⟨rfl, zN_in (by omega) h1⟩, zN_nat (by omega)]
theorem q_ld_x {j : Nat} (h1 : j < X.1) (h2 : X.1 < 2147483648) : q_ld X j_nil 1000000 (zN j) d i pc LS ST M h = Rn X d i pc LS (.int (X.2 j) :: ST) M h := by
  show j_c (1000000 = 1000000 ∧ j_in (zN j) X.1) (Rn X d i pc LS (.int (X.2 (zN j).toNatClampNeg) :: ST) M h) = _
  rw [j_ct ⟨rfl, zN_in (by omega) h1⟩, zN_nat (by omega)]
theorem q_lB_n {z j : Nat} {f : Nat → Int32} (h1 : j < z) (h2 : z < 2147483648) : q_lB X (.inl (1, z, .inl f)) (zN j) d i pc LS ST M h = Rn X d i pc LS (.int (f j) :: ST) M h := by
  show j_c (1 = 1 ∧ j_in (zN j) z) (Rn X d i pc LS (.int (f (zN j).toNatClampNeg) :: ST) M h) = _
  rw [j_ct ⟨rfl, zN_in (by omega) h1⟩, zN_nat (by omega)]
theorem q_lJ_n {z j : Nat} {f : Nat → Int64} (h1 : j < z) (h2 : z < 2147483648) : q_lJ X (.inl (3, z, .inr (.inl f))) (zN j) d i pc LS ST M h = Rn X d i pc LS (.long (f j) :: ST) M h := by
  show j_c (3 = 3 ∧ j_in (zN j) z) (Rn X d i pc LS (.long (f (zN j).toNatClampNeg) :: ST) M h) = _
  rw [j_ct ⟨rfl, zN_in (by omega) h1⟩, zN_nat (by omega)]
theorem q_lQ_n {z j v : Nat} {f : Nat → Option Nat} (h1 : j < z) (h2 : z < 2147483648) (h3 : f j = some v) : q_lQ X (.inl (2, z, .inr (.inr (.inr (.inr f))))) (zN j) d i pc LS ST M h = Rn X d i pc LS (.ref v :: ST) M h := by
  show j_c (2 = 2 ∧ j_in (zN j) z) ((f (zN j).toNatClampNeg).bind _) = _
  rw [j_ct ⟨rfl, zN_in (by omega) h1⟩, zN_nat (by omega), h3]
  rfl
theorem q_st_n {z a j : Nat} {f : Nat → Int32} {y : Int32} (h1 : j < z) (h2 : z < 2147483648) : q_st X (.inl (0, z, .inl f)) a (zN j) y d i pc LS ST M h = Rn X d i pc LS ST (va_up M a (.inl (0, z, .inl (va_up f j y)))) h := by
  show j_c (0 = 0 ∧ j_in (zN j) z) (Rn X d i pc LS ST (va_up M a (.inl (0, z, .inl (upd f (zN j).toNatClampNeg y)))) h) = _
  rw [j_ct ⟨rfl, zN_in (by omega) h1⟩, zN_nat (by omega)]
  rfl
theorem q_sB_n {z a j : Nat} {f : Nat → Int32} {y : Int32} (h1 : j < z) (h2 : z < 2147483648) : q_sB X (.inl (1, z, .inl f)) a (zN j) y d i pc LS ST M h = Rn X d i pc LS ST (va_up M a (.inl (1, z, .inl (va_up f j (y.toInt8.toInt32))))) h := by
  show j_c (1 = 1 ∧ j_in (zN j) z) (Rn X d i pc LS ST (va_up M a (.inl (1, z, .inl (upd f (zN j).toNatClampNeg (vp_nar .byte y))))) h) = _
  rw [j_ct ⟨rfl, zN_in (by omega) h1⟩, zN_nat (by omega), vp_nar_byte]
  rfl
theorem q_sJ_n {z a j : Nat} {f : Nat → Int64} {y : Int64} (h1 : j < z) (h2 : z < 2147483648) : q_sJ X (.inl (3, z, .inr (.inl f))) a (zN j) y d i pc LS ST M h = Rn X d i pc LS ST (va_up M a (.inl (3, z, .inr (.inl (va_up f j y))))) h := by
  show j_c (3 = 3 ∧ j_in (zN j) z) (Rn X d i pc LS ST (va_up M a (.inl (3, z, .inr (.inl (vp_updL f (zN j).toNatClampNeg y))))) h) = _
  rw [j_ct ⟨rfl, zN_in (by omega) h1⟩, zN_nat (by omega)]
  rfl
theorem q_sQ_n {z a j v : Nat} {f : Nat → Option Nat} {fs : List Value} (h1 : j < z) (h2 : z < 2147483648) : q_sQ X (.inl (2, z, .inr (.inr (.inr (.inr f))))) (.inr (2, fs)) a (zN j) v d i pc LS ST M h = Rn X d i pc LS ST (va_up M a (.inl (2, z, .inr (.inr (.inr (.inr (va_up f j (some v)))))))) h := by
  show j_c (2 = 2 ∧ 2 = 2 ∧ j_in (zN j) z) (Rn X d i pc LS ST (va_up M a (.inl (2, z, .inr (.inr (.inr (.inr (va_up f (zN j).toNatClampNeg (some v)))))))) h) = _
  rw [j_ct ⟨rfl, rfl, zN_in (by omega) h1⟩, zN_nat (by omega)]
theorem q_cp_n {z0 z1 e n : Nat} {f g : Nat → Int32} (h0 : n ≤ z0) (h1 : n ≤ z1) (h2 : n < 2147483648) : q_cp X (.inl (0, z0, .inl f)) (.inl (0, z1, .inl g)) e (zN 0) (zN 0) (zN n) d i pc LS M h = Rn X d i pc LS [] (va_up M e (.inl (0, z1, .inl (va_cpy f g 0 0 n)))) h := by
  have k0 : (zN 0).toNatClampNeg = 0 := zN_nat (by omega)
  have kn := zN_nat h2
  have l0 : ¬ zN 0 < 0 := (zN_in (z := 1) (a := 0) (by omega) (by omega)).1
  have ln : ¬ zN n < 0 := (zN_in (z := n + 1) h2 (by omega)).1
  show j_c (0 = 0 ∧ 0 = 0 ∧ ¬ zN 0 < 0 ∧ ¬ zN 0 < 0 ∧ ¬ zN n < 0 ∧ (zN 0).toNatClampNeg + (zN n).toNatClampNeg ≤ z0 ∧ (zN 0).toNatClampNeg + (zN n).toNatClampNeg ≤ z1) (Rn X d i pc LS [] (va_up M e (.inl (0, z1, .inl (va_cpy f g (zN 0).toNatClampNeg (zN 0).toNatClampNeg (zN n).toNatClampNeg)))) h) = _
  rw [k0, kn, j_ct ⟨rfl, rfl, l0, l0, ln, by omega, by omega⟩]
theorem q_g_s {c k : Nat} {fs : List Value} {v : Value} (hv : fs[k]? = some v) : q_g X (.inr (c, fs)) c k d i pc LS ST M h = Rn X d i pc LS (v :: ST) M h := by
  show j_c (c = c) ((fs[k]?).bind _) = _
  rw [j_ct rfl, hv]
  rfl
theorem q_p_s {c k a : Nat} {fs fs' : List Value} {v : Value} (hk : k < fs.length) (hv : fs.set k v = fs') : q_p X (.inr (c, fs)) a c k v d i pc LS ST M h = Rn X d i pc LS ST (va_up M a (.inr (c, fs'))) h := by
  show j_c (c = c ∧ k < fs.length) (Rn X d i pc LS ST (va_up M a (.inr (c, fs.set k v))) h) = _
  rw [j_ct ⟨rfl, hk⟩, hv]
end
section
variable {X : jX} {d i pc : Nat} {LS : jL} {ST : List Value} {M : jM} {h : jH}
theorem q_g0_0 {f0 f1 f2 f3 f4 f5 f6 f7 : Value} : q_g X (.inr (0, [f0, f1, f2, f3, f4, f5, f6, f7])) 0 0 d i pc LS ST M h = Rn X d i pc LS (f0 :: ST) M h := q_g_s rfl
theorem q_p0_0 {a : Nat} {v : Value} {f0 f1 f2 f3 f4 f5 f6 f7 : Value} : q_p X (.inr (0, [f0, f1, f2, f3, f4, f5, f6, f7])) a 0 0 v d i pc LS ST M h = Rn X d i pc LS ST (va_up M a (.inr (0, [v, f1, f2, f3, f4, f5, f6, f7]))) h := q_p_s (Nat.lt_of_sub_pos (Nat.succ_pos _)) rfl
theorem q_g0_1 {f0 f1 f2 f3 f4 f5 f6 f7 : Value} : q_g X (.inr (0, [f0, f1, f2, f3, f4, f5, f6, f7])) 0 1 d i pc LS ST M h = Rn X d i pc LS (f1 :: ST) M h := q_g_s rfl
theorem q_p0_1 {a : Nat} {v : Value} {f0 f1 f2 f3 f4 f5 f6 f7 : Value} : q_p X (.inr (0, [f0, f1, f2, f3, f4, f5, f6, f7])) a 0 1 v d i pc LS ST M h = Rn X d i pc LS ST (va_up M a (.inr (0, [f0, v, f2, f3, f4, f5, f6, f7]))) h := q_p_s (Nat.lt_of_sub_pos (Nat.succ_pos _)) rfl
theorem q_g0_2 {f0 f1 f2 f3 f4 f5 f6 f7 : Value} : q_g X (.inr (0, [f0, f1, f2, f3, f4, f5, f6, f7])) 0 2 d i pc LS ST M h = Rn X d i pc LS (f2 :: ST) M h := q_g_s rfl
theorem q_p0_2 {a : Nat} {v : Value} {f0 f1 f2 f3 f4 f5 f6 f7 : Value} : q_p X (.inr (0, [f0, f1, f2, f3, f4, f5, f6, f7])) a 0 2 v d i pc LS ST M h = Rn X d i pc LS ST (va_up M a (.inr (0, [f0, f1, v, f3, f4, f5, f6, f7]))) h := q_p_s (Nat.lt_of_sub_pos (Nat.succ_pos _)) rfl
theorem q_g0_3 {f0 f1 f2 f3 f4 f5 f6 f7 : Value} : q_g X (.inr (0, [f0, f1, f2, f3, f4, f5, f6, f7])) 0 3 d i pc LS ST M h = Rn X d i pc LS (f3 :: ST) M h := q_g_s rfl
theorem q_p0_3 {a : Nat} {v : Value} {f0 f1 f2 f3 f4 f5 f6 f7 : Value} : q_p X (.inr (0, [f0, f1, f2, f3, f4, f5, f6, f7])) a 0 3 v d i pc LS ST M h = Rn X d i pc LS ST (va_up M a (.inr (0, [f0, f1, f2, v, f4, f5, f6, f7]))) h := q_p_s (Nat.lt_of_sub_pos (Nat.succ_pos _)) rfl
theorem q_g0_4 {f0 f1 f2 f3 f4 f5 f6 f7 : Value} : q_g X (.inr (0, [f0, f1, f2, f3, f4, f5, f6, f7])) 0 4 d i pc LS ST M h = Rn X d i pc LS (f4 :: ST) M h := q_g_s rfl
theorem q_p0_4 {a : Nat} {v : Value} {f0 f1 f2 f3 f4 f5 f6 f7 : Value} : q_p X (.inr (0, [f0, f1, f2, f3, f4, f5, f6, f7])) a 0 4 v d i pc LS ST M h = Rn X d i pc LS ST (va_up M a (.inr (0, [f0, f1, f2, f3, v, f5, f6, f7]))) h := q_p_s (Nat.lt_of_sub_pos (Nat.succ_pos _)) rfl
theorem q_g0_5 {f0 f1 f2 f3 f4 f5 f6 f7 : Value} : q_g X (.inr (0, [f0, f1, f2, f3, f4, f5, f6, f7])) 0 5 d i pc LS ST M h = Rn X d i pc LS (f5 :: ST) M h := q_g_s rfl
theorem q_p0_5 {a : Nat} {v : Value} {f0 f1 f2 f3 f4 f5 f6 f7 : Value} : q_p X (.inr (0, [f0, f1, f2, f3, f4, f5, f6, f7])) a 0 5 v d i pc LS ST M h = Rn X d i pc LS ST (va_up M a (.inr (0, [f0, f1, f2, f3, f4, v, f6, f7]))) h := q_p_s (Nat.lt_of_sub_pos (Nat.succ_pos _)) rfl
theorem q_g0_6 {f0 f1 f2 f3 f4 f5 f6 f7 : Value} : q_g X (.inr (0, [f0, f1, f2, f3, f4, f5, f6, f7])) 0 6 d i pc LS ST M h = Rn X d i pc LS (f6 :: ST) M h := q_g_s rfl
theorem q_p0_6 {a : Nat} {v : Value} {f0 f1 f2 f3 f4 f5 f6 f7 : Value} : q_p X (.inr (0, [f0, f1, f2, f3, f4, f5, f6, f7])) a 0 6 v d i pc LS ST M h = Rn X d i pc LS ST (va_up M a (.inr (0, [f0, f1, f2, f3, f4, f5, v, f7]))) h := q_p_s (Nat.lt_of_sub_pos (Nat.succ_pos _)) rfl
theorem q_g0_7 {f0 f1 f2 f3 f4 f5 f6 f7 : Value} : q_g X (.inr (0, [f0, f1, f2, f3, f4, f5, f6, f7])) 0 7 d i pc LS ST M h = Rn X d i pc LS (f7 :: ST) M h := q_g_s rfl
theorem q_p0_7 {a : Nat} {v : Value} {f0 f1 f2 f3 f4 f5 f6 f7 : Value} : q_p X (.inr (0, [f0, f1, f2, f3, f4, f5, f6, f7])) a 0 7 v d i pc LS ST M h = Rn X d i pc LS ST (va_up M a (.inr (0, [f0, f1, f2, f3, f4, f5, f6, v]))) h := q_p_s (Nat.lt_of_sub_pos (Nat.succ_pos _)) rfl
theorem q_g1_0 {f0 f1 f2 f3 f4 f5 f6 : Value} : q_g X (.inr (1, [f0, f1, f2, f3, f4, f5, f6])) 1 0 d i pc LS ST M h = Rn X d i pc LS (f0 :: ST) M h := q_g_s rfl
theorem q_p1_0 {a : Nat} {v : Value} {f0 f1 f2 f3 f4 f5 f6 : Value} : q_p X (.inr (1, [f0, f1, f2, f3, f4, f5, f6])) a 1 0 v d i pc LS ST M h = Rn X d i pc LS ST (va_up M a (.inr (1, [v, f1, f2, f3, f4, f5, f6]))) h := q_p_s (Nat.lt_of_sub_pos (Nat.succ_pos _)) rfl
theorem q_g1_1 {f0 f1 f2 f3 f4 f5 f6 : Value} : q_g X (.inr (1, [f0, f1, f2, f3, f4, f5, f6])) 1 1 d i pc LS ST M h = Rn X d i pc LS (f1 :: ST) M h := q_g_s rfl
theorem q_p1_1 {a : Nat} {v : Value} {f0 f1 f2 f3 f4 f5 f6 : Value} : q_p X (.inr (1, [f0, f1, f2, f3, f4, f5, f6])) a 1 1 v d i pc LS ST M h = Rn X d i pc LS ST (va_up M a (.inr (1, [f0, v, f2, f3, f4, f5, f6]))) h := q_p_s (Nat.lt_of_sub_pos (Nat.succ_pos _)) rfl
theorem q_g1_2 {f0 f1 f2 f3 f4 f5 f6 : Value} : q_g X (.inr (1, [f0, f1, f2, f3, f4, f5, f6])) 1 2 d i pc LS ST M h = Rn X d i pc LS (f2 :: ST) M h := q_g_s rfl
theorem q_p1_2 {a : Nat} {v : Value} {f0 f1 f2 f3 f4 f5 f6 : Value} : q_p X (.inr (1, [f0, f1, f2, f3, f4, f5, f6])) a 1 2 v d i pc LS ST M h = Rn X d i pc LS ST (va_up M a (.inr (1, [f0, f1, v, f3, f4, f5, f6]))) h := q_p_s (Nat.lt_of_sub_pos (Nat.succ_pos _)) rfl
theorem q_g1_3 {f0 f1 f2 f3 f4 f5 f6 : Value} : q_g X (.inr (1, [f0, f1, f2, f3, f4, f5, f6])) 1 3 d i pc LS ST M h = Rn X d i pc LS (f3 :: ST) M h := q_g_s rfl
theorem q_p1_3 {a : Nat} {v : Value} {f0 f1 f2 f3 f4 f5 f6 : Value} : q_p X (.inr (1, [f0, f1, f2, f3, f4, f5, f6])) a 1 3 v d i pc LS ST M h = Rn X d i pc LS ST (va_up M a (.inr (1, [f0, f1, f2, v, f4, f5, f6]))) h := q_p_s (Nat.lt_of_sub_pos (Nat.succ_pos _)) rfl
theorem q_g1_4 {f0 f1 f2 f3 f4 f5 f6 : Value} : q_g X (.inr (1, [f0, f1, f2, f3, f4, f5, f6])) 1 4 d i pc LS ST M h = Rn X d i pc LS (f4 :: ST) M h := q_g_s rfl
theorem q_p1_4 {a : Nat} {v : Value} {f0 f1 f2 f3 f4 f5 f6 : Value} : q_p X (.inr (1, [f0, f1, f2, f3, f4, f5, f6])) a 1 4 v d i pc LS ST M h = Rn X d i pc LS ST (va_up M a (.inr (1, [f0, f1, f2, f3, v, f5, f6]))) h := q_p_s (Nat.lt_of_sub_pos (Nat.succ_pos _)) rfl
theorem q_g1_5 {f0 f1 f2 f3 f4 f5 f6 : Value} : q_g X (.inr (1, [f0, f1, f2, f3, f4, f5, f6])) 1 5 d i pc LS ST M h = Rn X d i pc LS (f5 :: ST) M h := q_g_s rfl
theorem q_p1_5 {a : Nat} {v : Value} {f0 f1 f2 f3 f4 f5 f6 : Value} : q_p X (.inr (1, [f0, f1, f2, f3, f4, f5, f6])) a 1 5 v d i pc LS ST M h = Rn X d i pc LS ST (va_up M a (.inr (1, [f0, f1, f2, f3, f4, v, f6]))) h := q_p_s (Nat.lt_of_sub_pos (Nat.succ_pos _)) rfl
theorem q_g1_6 {f0 f1 f2 f3 f4 f5 f6 : Value} : q_g X (.inr (1, [f0, f1, f2, f3, f4, f5, f6])) 1 6 d i pc LS ST M h = Rn X d i pc LS (f6 :: ST) M h := q_g_s rfl
theorem q_p1_6 {a : Nat} {v : Value} {f0 f1 f2 f3 f4 f5 f6 : Value} : q_p X (.inr (1, [f0, f1, f2, f3, f4, f5, f6])) a 1 6 v d i pc LS ST M h = Rn X d i pc LS ST (va_up M a (.inr (1, [f0, f1, f2, f3, f4, f5, v]))) h := q_p_s (Nat.lt_of_sub_pos (Nat.succ_pos _)) rfl
theorem q_g2_0 {f0 f1 f2 f3 : Value} : q_g X (.inr (2, [f0, f1, f2, f3])) 2 0 d i pc LS ST M h = Rn X d i pc LS (f0 :: ST) M h := q_g_s rfl
theorem q_p2_0 {a : Nat} {v : Value} {f0 f1 f2 f3 : Value} : q_p X (.inr (2, [f0, f1, f2, f3])) a 2 0 v d i pc LS ST M h = Rn X d i pc LS ST (va_up M a (.inr (2, [v, f1, f2, f3]))) h := q_p_s (Nat.lt_of_sub_pos (Nat.succ_pos _)) rfl
theorem q_g2_1 {f0 f1 f2 f3 : Value} : q_g X (.inr (2, [f0, f1, f2, f3])) 2 1 d i pc LS ST M h = Rn X d i pc LS (f1 :: ST) M h := q_g_s rfl
theorem q_p2_1 {a : Nat} {v : Value} {f0 f1 f2 f3 : Value} : q_p X (.inr (2, [f0, f1, f2, f3])) a 2 1 v d i pc LS ST M h = Rn X d i pc LS ST (va_up M a (.inr (2, [f0, v, f2, f3]))) h := q_p_s (Nat.lt_of_sub_pos (Nat.succ_pos _)) rfl
theorem q_g2_2 {f0 f1 f2 f3 : Value} : q_g X (.inr (2, [f0, f1, f2, f3])) 2 2 d i pc LS ST M h = Rn X d i pc LS (f2 :: ST) M h := q_g_s rfl
theorem q_p2_2 {a : Nat} {v : Value} {f0 f1 f2 f3 : Value} : q_p X (.inr (2, [f0, f1, f2, f3])) a 2 2 v d i pc LS ST M h = Rn X d i pc LS ST (va_up M a (.inr (2, [f0, f1, v, f3]))) h := q_p_s (Nat.lt_of_sub_pos (Nat.succ_pos _)) rfl
theorem q_g2_3 {f0 f1 f2 f3 : Value} : q_g X (.inr (2, [f0, f1, f2, f3])) 2 3 d i pc LS ST M h = Rn X d i pc LS (f3 :: ST) M h := q_g_s rfl
theorem q_p2_3 {a : Nat} {v : Value} {f0 f1 f2 f3 : Value} : q_p X (.inr (2, [f0, f1, f2, f3])) a 2 3 v d i pc LS ST M h = Rn X d i pc LS ST (va_up M a (.inr (2, [f0, f1, f2, v]))) h := q_p_s (Nat.lt_of_sub_pos (Nat.succ_pos _)) rfl
theorem q_g3_0 {f0 f1 f2 f3 f4 f5 f6 : Value} : q_g X (.inr (3, [f0, f1, f2, f3, f4, f5, f6])) 3 0 d i pc LS ST M h = Rn X d i pc LS (f0 :: ST) M h := q_g_s rfl
theorem q_p3_0 {a : Nat} {v : Value} {f0 f1 f2 f3 f4 f5 f6 : Value} : q_p X (.inr (3, [f0, f1, f2, f3, f4, f5, f6])) a 3 0 v d i pc LS ST M h = Rn X d i pc LS ST (va_up M a (.inr (3, [v, f1, f2, f3, f4, f5, f6]))) h := q_p_s (Nat.lt_of_sub_pos (Nat.succ_pos _)) rfl
theorem q_g3_1 {f0 f1 f2 f3 f4 f5 f6 : Value} : q_g X (.inr (3, [f0, f1, f2, f3, f4, f5, f6])) 3 1 d i pc LS ST M h = Rn X d i pc LS (f1 :: ST) M h := q_g_s rfl
theorem q_p3_1 {a : Nat} {v : Value} {f0 f1 f2 f3 f4 f5 f6 : Value} : q_p X (.inr (3, [f0, f1, f2, f3, f4, f5, f6])) a 3 1 v d i pc LS ST M h = Rn X d i pc LS ST (va_up M a (.inr (3, [f0, v, f2, f3, f4, f5, f6]))) h := q_p_s (Nat.lt_of_sub_pos (Nat.succ_pos _)) rfl
theorem q_g3_2 {f0 f1 f2 f3 f4 f5 f6 : Value} : q_g X (.inr (3, [f0, f1, f2, f3, f4, f5, f6])) 3 2 d i pc LS ST M h = Rn X d i pc LS (f2 :: ST) M h := q_g_s rfl
theorem q_p3_2 {a : Nat} {v : Value} {f0 f1 f2 f3 f4 f5 f6 : Value} : q_p X (.inr (3, [f0, f1, f2, f3, f4, f5, f6])) a 3 2 v d i pc LS ST M h = Rn X d i pc LS ST (va_up M a (.inr (3, [f0, f1, v, f3, f4, f5, f6]))) h := q_p_s (Nat.lt_of_sub_pos (Nat.succ_pos _)) rfl
theorem q_g3_3 {f0 f1 f2 f3 f4 f5 f6 : Value} : q_g X (.inr (3, [f0, f1, f2, f3, f4, f5, f6])) 3 3 d i pc LS ST M h = Rn X d i pc LS (f3 :: ST) M h := q_g_s rfl
theorem q_p3_3 {a : Nat} {v : Value} {f0 f1 f2 f3 f4 f5 f6 : Value} : q_p X (.inr (3, [f0, f1, f2, f3, f4, f5, f6])) a 3 3 v d i pc LS ST M h = Rn X d i pc LS ST (va_up M a (.inr (3, [f0, f1, f2, v, f4, f5, f6]))) h := q_p_s (Nat.lt_of_sub_pos (Nat.succ_pos _)) rfl
theorem q_g3_4 {f0 f1 f2 f3 f4 f5 f6 : Value} : q_g X (.inr (3, [f0, f1, f2, f3, f4, f5, f6])) 3 4 d i pc LS ST M h = Rn X d i pc LS (f4 :: ST) M h := q_g_s rfl
theorem q_p3_4 {a : Nat} {v : Value} {f0 f1 f2 f3 f4 f5 f6 : Value} : q_p X (.inr (3, [f0, f1, f2, f3, f4, f5, f6])) a 3 4 v d i pc LS ST M h = Rn X d i pc LS ST (va_up M a (.inr (3, [f0, f1, f2, f3, v, f5, f6]))) h := q_p_s (Nat.lt_of_sub_pos (Nat.succ_pos _)) rfl
theorem q_g3_5 {f0 f1 f2 f3 f4 f5 f6 : Value} : q_g X (.inr (3, [f0, f1, f2, f3, f4, f5, f6])) 3 5 d i pc LS ST M h = Rn X d i pc LS (f5 :: ST) M h := q_g_s rfl
theorem q_p3_5 {a : Nat} {v : Value} {f0 f1 f2 f3 f4 f5 f6 : Value} : q_p X (.inr (3, [f0, f1, f2, f3, f4, f5, f6])) a 3 5 v d i pc LS ST M h = Rn X d i pc LS ST (va_up M a (.inr (3, [f0, f1, f2, f3, f4, v, f6]))) h := q_p_s (Nat.lt_of_sub_pos (Nat.succ_pos _)) rfl
theorem q_g3_6 {f0 f1 f2 f3 f4 f5 f6 : Value} : q_g X (.inr (3, [f0, f1, f2, f3, f4, f5, f6])) 3 6 d i pc LS ST M h = Rn X d i pc LS (f6 :: ST) M h := q_g_s rfl
theorem q_p3_6 {a : Nat} {v : Value} {f0 f1 f2 f3 f4 f5 f6 : Value} : q_p X (.inr (3, [f0, f1, f2, f3, f4, f5, f6])) a 3 6 v d i pc LS ST M h = Rn X d i pc LS ST (va_up M a (.inr (3, [f0, f1, f2, f3, f4, f5, v]))) h := q_p_s (Nat.lt_of_sub_pos (Nat.succ_pos _)) rfl
theorem q_g4_0 {f0 f1 f2 f3 f4 : Value} : q_g X (.inr (4, [f0, f1, f2, f3, f4])) 4 0 d i pc LS ST M h = Rn X d i pc LS (f0 :: ST) M h := q_g_s rfl
theorem q_p4_0 {a : Nat} {v : Value} {f0 f1 f2 f3 f4 : Value} : q_p X (.inr (4, [f0, f1, f2, f3, f4])) a 4 0 v d i pc LS ST M h = Rn X d i pc LS ST (va_up M a (.inr (4, [v, f1, f2, f3, f4]))) h := q_p_s (Nat.lt_of_sub_pos (Nat.succ_pos _)) rfl
theorem q_g4_1 {f0 f1 f2 f3 f4 : Value} : q_g X (.inr (4, [f0, f1, f2, f3, f4])) 4 1 d i pc LS ST M h = Rn X d i pc LS (f1 :: ST) M h := q_g_s rfl
theorem q_p4_1 {a : Nat} {v : Value} {f0 f1 f2 f3 f4 : Value} : q_p X (.inr (4, [f0, f1, f2, f3, f4])) a 4 1 v d i pc LS ST M h = Rn X d i pc LS ST (va_up M a (.inr (4, [f0, v, f2, f3, f4]))) h := q_p_s (Nat.lt_of_sub_pos (Nat.succ_pos _)) rfl
theorem q_g4_2 {f0 f1 f2 f3 f4 : Value} : q_g X (.inr (4, [f0, f1, f2, f3, f4])) 4 2 d i pc LS ST M h = Rn X d i pc LS (f2 :: ST) M h := q_g_s rfl
theorem q_p4_2 {a : Nat} {v : Value} {f0 f1 f2 f3 f4 : Value} : q_p X (.inr (4, [f0, f1, f2, f3, f4])) a 4 2 v d i pc LS ST M h = Rn X d i pc LS ST (va_up M a (.inr (4, [f0, f1, v, f3, f4]))) h := q_p_s (Nat.lt_of_sub_pos (Nat.succ_pos _)) rfl
theorem q_g4_3 {f0 f1 f2 f3 f4 : Value} : q_g X (.inr (4, [f0, f1, f2, f3, f4])) 4 3 d i pc LS ST M h = Rn X d i pc LS (f3 :: ST) M h := q_g_s rfl
theorem q_p4_3 {a : Nat} {v : Value} {f0 f1 f2 f3 f4 : Value} : q_p X (.inr (4, [f0, f1, f2, f3, f4])) a 4 3 v d i pc LS ST M h = Rn X d i pc LS ST (va_up M a (.inr (4, [f0, f1, f2, v, f4]))) h := q_p_s (Nat.lt_of_sub_pos (Nat.succ_pos _)) rfl
theorem q_g4_4 {f0 f1 f2 f3 f4 : Value} : q_g X (.inr (4, [f0, f1, f2, f3, f4])) 4 4 d i pc LS ST M h = Rn X d i pc LS (f4 :: ST) M h := q_g_s rfl
theorem q_p4_4 {a : Nat} {v : Value} {f0 f1 f2 f3 f4 : Value} : q_p X (.inr (4, [f0, f1, f2, f3, f4])) a 4 4 v d i pc LS ST M h = Rn X d i pc LS ST (va_up M a (.inr (4, [f0, f1, f2, f3, v]))) h := q_p_s (Nat.lt_of_sub_pos (Nat.succ_pos _)) rfl
theorem q_g5_0 {f0 f1 f2 f3 f4 f5 f6 f7 f8 f9 f10 f11 f12 f13 f14 f15 : Value} : q_g X (.inr (5, [f0, f1, f2, f3, f4, f5, f6, f7, f8, f9, f10, f11, f12, f13, f14, f15])) 5 0 d i pc LS ST M h = Rn X d i pc LS (f0 :: ST) M h := q_g_s rfl
theorem q_p5_0 {a : Nat} {v : Value} {f0 f1 f2 f3 f4 f5 f6 f7 f8 f9 f10 f11 f12 f13 f14 f15 : Value} : q_p X (.inr (5, [f0, f1, f2, f3, f4, f5, f6, f7, f8, f9, f10, f11, f12, f13, f14, f15])) a 5 0 v d i pc LS ST M h = Rn X d i pc LS ST (va_up M a (.inr (5, [v, f1, f2, f3, f4, f5, f6, f7, f8, f9, f10, f11, f12, f13, f14, f15]))) h := q_p_s (Nat.lt_of_sub_pos (Nat.succ_pos _)) rfl
theorem q_g5_1 {f0 f1 f2 f3 f4 f5 f6 f7 f8 f9 f10 f11 f12 f13 f14 f15 : Value} : q_g X (.inr (5, [f0, f1, f2, f3, f4, f5, f6, f7, f8, f9, f10, f11, f12, f13, f14, f15])) 5 1 d i pc LS ST M h = Rn X d i pc LS (f1 :: ST) M h := q_g_s rfl
theorem q_p5_1 {a : Nat} {v : Value} {f0 f1 f2 f3 f4 f5 f6 f7 f8 f9 f10 f11 f12 f13 f14 f15 : Value} : q_p X (.inr (5, [f0, f1, f2, f3, f4, f5, f6, f7, f8, f9, f10, f11, f12, f13, f14, f15])) a 5 1 v d i pc LS ST M h = Rn X d i pc LS ST (va_up M a (.inr (5, [f0, v, f2, f3, f4, f5, f6, f7, f8, f9, f10, f11, f12, f13, f14, f15]))) h := q_p_s (Nat.lt_of_sub_pos (Nat.succ_pos _)) rfl
theorem q_g5_2 {f0 f1 f2 f3 f4 f5 f6 f7 f8 f9 f10 f11 f12 f13 f14 f15 : Value} : q_g X (.inr (5, [f0, f1, f2, f3, f4, f5, f6, f7, f8, f9, f10, f11, f12, f13, f14, f15])) 5 2 d i pc LS ST M h = Rn X d i pc LS (f2 :: ST) M h := q_g_s rfl
theorem q_p5_2 {a : Nat} {v : Value} {f0 f1 f2 f3 f4 f5 f6 f7 f8 f9 f10 f11 f12 f13 f14 f15 : Value} : q_p X (.inr (5, [f0, f1, f2, f3, f4, f5, f6, f7, f8, f9, f10, f11, f12, f13, f14, f15])) a 5 2 v d i pc LS ST M h = Rn X d i pc LS ST (va_up M a (.inr (5, [f0, f1, v, f3, f4, f5, f6, f7, f8, f9, f10, f11, f12, f13, f14, f15]))) h := q_p_s (Nat.lt_of_sub_pos (Nat.succ_pos _)) rfl
theorem q_g5_3 {f0 f1 f2 f3 f4 f5 f6 f7 f8 f9 f10 f11 f12 f13 f14 f15 : Value} : q_g X (.inr (5, [f0, f1, f2, f3, f4, f5, f6, f7, f8, f9, f10, f11, f12, f13, f14, f15])) 5 3 d i pc LS ST M h = Rn X d i pc LS (f3 :: ST) M h := q_g_s rfl
theorem q_p5_3 {a : Nat} {v : Value} {f0 f1 f2 f3 f4 f5 f6 f7 f8 f9 f10 f11 f12 f13 f14 f15 : Value} : q_p X (.inr (5, [f0, f1, f2, f3, f4, f5, f6, f7, f8, f9, f10, f11, f12, f13, f14, f15])) a 5 3 v d i pc LS ST M h = Rn X d i pc LS ST (va_up M a (.inr (5, [f0, f1, f2, v, f4, f5, f6, f7, f8, f9, f10, f11, f12, f13, f14, f15]))) h := q_p_s (Nat.lt_of_sub_pos (Nat.succ_pos _)) rfl
theorem q_g5_4 {f0 f1 f2 f3 f4 f5 f6 f7 f8 f9 f10 f11 f12 f13 f14 f15 : Value} : q_g X (.inr (5, [f0, f1, f2, f3, f4, f5, f6, f7, f8, f9, f10, f11, f12, f13, f14, f15])) 5 4 d i pc LS ST M h = Rn X d i pc LS (f4 :: ST) M h := q_g_s rfl
theorem q_p5_4 {a : Nat} {v : Value} {f0 f1 f2 f3 f4 f5 f6 f7 f8 f9 f10 f11 f12 f13 f14 f15 : Value} : q_p X (.inr (5, [f0, f1, f2, f3, f4, f5, f6, f7, f8, f9, f10, f11, f12, f13, f14, f15])) a 5 4 v d i pc LS ST M h = Rn X d i pc LS ST (va_up M a (.inr (5, [f0, f1, f2, f3, v, f5, f6, f7, f8, f9, f10, f11, f12, f13, f14, f15]))) h := q_p_s (Nat.lt_of_sub_pos (Nat.succ_pos _)) rfl
theorem q_g5_5 {f0 f1 f2 f3 f4 f5 f6 f7 f8 f9 f10 f11 f12 f13 f14 f15 : Value} : q_g X (.inr (5, [f0, f1, f2, f3, f4, f5, f6, f7, f8, f9, f10, f11, f12, f13, f14, f15])) 5 5 d i pc LS ST M h = Rn X d i pc LS (f5 :: ST) M h := q_g_s rfl
theorem q_p5_5 {a : Nat} {v : Value} {f0 f1 f2 f3 f4 f5 f6 f7 f8 f9 f10 f11 f12 f13 f14 f15 : Value} : q_p X (.inr (5, [f0, f1, f2, f3, f4, f5, f6, f7, f8, f9, f10, f11, f12, f13, f14, f15])) a 5 5 v d i pc LS ST M h = Rn X d i pc LS ST (va_up M a (.inr (5, [f0, f1, f2, f3, f4, v, f6, f7, f8, f9, f10, f11, f12, f13, f14, f15]))) h := q_p_s (Nat.lt_of_sub_pos (Nat.succ_pos _)) rfl
theorem q_g5_6 {f0 f1 f2 f3 f4 f5 f6 f7 f8 f9 f10 f11 f12 f13 f14 f15 : Value} : q_g X (.inr (5, [f0, f1, f2, f3, f4, f5, f6, f7, f8, f9, f10, f11, f12, f13, f14, f15])) 5 6 d i pc LS ST M h = Rn X d i pc LS (f6 :: ST) M h := q_g_s rfl
theorem q_p5_6 {a : Nat} {v : Value} {f0 f1 f2 f3 f4 f5 f6 f7 f8 f9 f10 f11 f12 f13 f14 f15 : Value} : q_p X (.inr (5, [f0, f1, f2, f3, f4, f5, f6, f7, f8, f9, f10, f11, f12, f13, f14, f15])) a 5 6 v d i pc LS ST M h = Rn X d i pc LS ST (va_up M a (.inr (5, [f0, f1, f2, f3, f4, f5, v, f7, f8, f9, f10, f11, f12, f13, f14, f15]))) h := q_p_s (Nat.lt_of_sub_pos (Nat.succ_pos _)) rfl
theorem q_g5_7 {f0 f1 f2 f3 f4 f5 f6 f7 f8 f9 f10 f11 f12 f13 f14 f15 : Value} : q_g X (.inr (5, [f0, f1, f2, f3, f4, f5, f6, f7, f8, f9, f10, f11, f12, f13, f14, f15])) 5 7 d i pc LS ST M h = Rn X d i pc LS (f7 :: ST) M h := q_g_s rfl
theorem q_p5_7 {a : Nat} {v : Value} {f0 f1 f2 f3 f4 f5 f6 f7 f8 f9 f10 f11 f12 f13 f14 f15 : Value} : q_p X (.inr (5, [f0, f1, f2, f3, f4, f5, f6, f7, f8, f9, f10, f11, f12, f13, f14, f15])) a 5 7 v d i pc LS ST M h = Rn X d i pc LS ST (va_up M a (.inr (5, [f0, f1, f2, f3, f4, f5, f6, v, f8, f9, f10, f11, f12, f13, f14, f15]))) h := q_p_s (Nat.lt_of_sub_pos (Nat.succ_pos _)) rfl
theorem q_g5_8 {f0 f1 f2 f3 f4 f5 f6 f7 f8 f9 f10 f11 f12 f13 f14 f15 : Value} : q_g X (.inr (5, [f0, f1, f2, f3, f4, f5, f6, f7, f8, f9, f10, f11, f12, f13, f14, f15])) 5 8 d i pc LS ST M h = Rn X d i pc LS (f8 :: ST) M h := q_g_s rfl
theorem q_p5_8 {a : Nat} {v : Value} {f0 f1 f2 f3 f4 f5 f6 f7 f8 f9 f10 f11 f12 f13 f14 f15 : Value} : q_p X (.inr (5, [f0, f1, f2, f3, f4, f5, f6, f7, f8, f9, f10, f11, f12, f13, f14, f15])) a 5 8 v d i pc LS ST M h = Rn X d i pc LS ST (va_up M a (.inr (5, [f0, f1, f2, f3, f4, f5, f6, f7, v, f9, f10, f11, f12, f13, f14, f15]))) h := q_p_s (Nat.lt_of_sub_pos (Nat.succ_pos _)) rfl
theorem q_g5_9 {f0 f1 f2 f3 f4 f5 f6 f7 f8 f9 f10 f11 f12 f13 f14 f15 : Value} : q_g X (.inr (5, [f0, f1, f2, f3, f4, f5, f6, f7, f8, f9, f10, f11, f12, f13, f14, f15])) 5 9 d i pc LS ST M h = Rn X d i pc LS (f9 :: ST) M h := q_g_s rfl
theorem q_p5_9 {a : Nat} {v : Value} {f0 f1 f2 f3 f4 f5 f6 f7 f8 f9 f10 f11 f12 f13 f14 f15 : Value} : q_p X (.inr (5, [f0, f1, f2, f3, f4, f5, f6, f7, f8, f9, f10, f11, f12, f13, f14, f15])) a 5 9 v d i pc LS ST M h = Rn X d i pc LS ST (va_up M a (.inr (5, [f0, f1, f2, f3, f4, f5, f6, f7, f8, v, f10, f11, f12, f13, f14, f15]))) h := q_p_s (Nat.lt_of_sub_pos (Nat.succ_pos _)) rfl
theorem q_g5_10 {f0 f1 f2 f3 f4 f5 f6 f7 f8 f9 f10 f11 f12 f13 f14 f15 : Value} : q_g X (.inr (5, [f0, f1, f2, f3, f4, f5, f6, f7, f8, f9, f10, f11, f12, f13, f14, f15])) 5 10 d i pc LS ST M h = Rn X d i pc LS (f10 :: ST) M h := q_g_s rfl
theorem q_p5_10 {a : Nat} {v : Value} {f0 f1 f2 f3 f4 f5 f6 f7 f8 f9 f10 f11 f12 f13 f14 f15 : Value} : q_p X (.inr (5, [f0, f1, f2, f3, f4, f5, f6, f7, f8, f9, f10, f11, f12, f13, f14, f15])) a 5 10 v d i pc LS ST M h = Rn X d i pc LS ST (va_up M a (.inr (5, [f0, f1, f2, f3, f4, f5, f6, f7, f8, f9, v, f11, f12, f13, f14, f15]))) h := q_p_s (Nat.lt_of_sub_pos (Nat.succ_pos _)) rfl
theorem q_g5_11 {f0 f1 f2 f3 f4 f5 f6 f7 f8 f9 f10 f11 f12 f13 f14 f15 : Value} : q_g X (.inr (5, [f0, f1, f2, f3, f4, f5, f6, f7, f8, f9, f10, f11, f12, f13, f14, f15])) 5 11 d i pc LS ST M h = Rn X d i pc LS (f11 :: ST) M h := q_g_s rfl
theorem q_p5_11 {a : Nat} {v : Value} {f0 f1 f2 f3 f4 f5 f6 f7 f8 f9 f10 f11 f12 f13 f14 f15 : Value} : q_p X (.inr (5, [f0, f1, f2, f3, f4, f5, f6, f7, f8, f9, f10, f11, f12, f13, f14, f15])) a 5 11 v d i pc LS ST M h = Rn X d i pc LS ST (va_up M a (.inr (5, [f0, f1, f2, f3, f4, f5, f6, f7, f8, f9, f10, v, f12, f13, f14, f15]))) h := q_p_s (Nat.lt_of_sub_pos (Nat.succ_pos _)) rfl
theorem q_g5_12 {f0 f1 f2 f3 f4 f5 f6 f7 f8 f9 f10 f11 f12 f13 f14 f15 : Value} : q_g X (.inr (5, [f0, f1, f2, f3, f4, f5, f6, f7, f8, f9, f10, f11, f12, f13, f14, f15])) 5 12 d i pc LS ST M h = Rn X d i pc LS (f12 :: ST) M h := q_g_s rfl
theorem q_p5_12 {a : Nat} {v : Value} {f0 f1 f2 f3 f4 f5 f6 f7 f8 f9 f10 f11 f12 f13 f14 f15 : Value} : q_p X (.inr (5, [f0, f1, f2, f3, f4, f5, f6, f7, f8, f9, f10, f11, f12, f13, f14, f15])) a 5 12 v d i pc LS ST M h = Rn X d i pc LS ST (va_up M a (.inr (5, [f0, f1, f2, f3, f4, f5, f6, f7, f8, f9, f10, f11, v, f13, f14, f15]))) h := q_p_s (Nat.lt_of_sub_pos (Nat.succ_pos _)) rfl
theorem q_g5_13 {f0 f1 f2 f3 f4 f5 f6 f7 f8 f9 f10 f11 f12 f13 f14 f15 : Value} : q_g X (.inr (5, [f0, f1, f2, f3, f4, f5, f6, f7, f8, f9, f10, f11, f12, f13, f14, f15])) 5 13 d i pc LS ST M h = Rn X d i pc LS (f13 :: ST) M h := q_g_s rfl
theorem q_p5_13 {a : Nat} {v : Value} {f0 f1 f2 f3 f4 f5 f6 f7 f8 f9 f10 f11 f12 f13 f14 f15 : Value} : q_p X (.inr (5, [f0, f1, f2, f3, f4, f5, f6, f7, f8, f9, f10, f11, f12, f13, f14, f15])) a 5 13 v d i pc LS ST M h = Rn X d i pc LS ST (va_up M a (.inr (5, [f0, f1, f2, f3, f4, f5, f6, f7, f8, f9, f10, f11, f12, v, f14, f15]))) h := q_p_s (Nat.lt_of_sub_pos (Nat.succ_pos _)) rfl
theorem q_g5_14 {f0 f1 f2 f3 f4 f5 f6 f7 f8 f9 f10 f11 f12 f13 f14 f15 : Value} : q_g X (.inr (5, [f0, f1, f2, f3, f4, f5, f6, f7, f8, f9, f10, f11, f12, f13, f14, f15])) 5 14 d i pc LS ST M h = Rn X d i pc LS (f14 :: ST) M h := q_g_s rfl
theorem q_p5_14 {a : Nat} {v : Value} {f0 f1 f2 f3 f4 f5 f6 f7 f8 f9 f10 f11 f12 f13 f14 f15 : Value} : q_p X (.inr (5, [f0, f1, f2, f3, f4, f5, f6, f7, f8, f9, f10, f11, f12, f13, f14, f15])) a 5 14 v d i pc LS ST M h = Rn X d i pc LS ST (va_up M a (.inr (5, [f0, f1, f2, f3, f4, f5, f6, f7, f8, f9, f10, f11, f12, f13, v, f15]))) h := q_p_s (Nat.lt_of_sub_pos (Nat.succ_pos _)) rfl
theorem q_g5_15 {f0 f1 f2 f3 f4 f5 f6 f7 f8 f9 f10 f11 f12 f13 f14 f15 : Value} : q_g X (.inr (5, [f0, f1, f2, f3, f4, f5, f6, f7, f8, f9, f10, f11, f12, f13, f14, f15])) 5 15 d i pc LS ST M h = Rn X d i pc LS (f15 :: ST) M h := q_g_s rfl
theorem q_p5_15 {a : Nat} {v : Value} {f0 f1 f2 f3 f4 f5 f6 f7 f8 f9 f10 f11 f12 f13 f14 f15 : Value} : q_p X (.inr (5, [f0, f1, f2, f3, f4, f5, f6, f7, f8, f9, f10, f11, f12, f13, f14, f15])) a 5 15 v d i pc LS ST M h = Rn X d i pc LS ST (va_up M a (.inr (5, [f0, f1, f2, f3, f4, f5, f6, f7, f8, f9, f10, f11, f12, f13, f14, v]))) h := q_p_s (Nat.lt_of_sub_pos (Nat.succ_pos _)) rfl
end
end
section
/-! the rules in the forms above -/
section
variable {X : jX} {d i pc pc' : Nat} {LS LS' LE : jL} {ST : List Value} {M : jM} {h : jH} {me mf : jMe}
theorem s_ifeq {x : Int32} {off : Int} {tgt : Nat} (hme : j_mt[i]? = some me) (hd : decode me.2.2.1 pc = .ok (.ifCond .eq off, 3)) (ht : (pc : Int) + off = (tgt : Int)) : Rn X d i pc LS (.int x :: ST) M h = q_eq X x (zN 0) d i tgt (pc + 3) LS ST M h := r_ifeq hme hd ht
theorem s_ifne {x : Int32} {off : Int} {tgt : Nat} (hme : j_mt[i]? = some me) (hd : decode me.2.2.1 pc = .ok (.ifCond .ne off, 3)) (ht : (pc : Int) + off = (tgt : Int)) : Rn X d i pc LS (.int x :: ST) M h = q_eq X x (zN 0) d i (pc + 3) tgt LS ST M h := r_ifne hme hd ht
theorem s_iflt {x : Int32} {off : Int} {tgt : Nat} (hme : j_mt[i]? = some me) (hd : decode me.2.2.1 pc = .ok (.ifCond .lt off, 3)) (ht : (pc : Int) + off = (tgt : Int)) : Rn X d i pc LS (.int x :: ST) M h = q_lt X x (zN 0) d i tgt (pc + 3) LS ST M h := r_iflt hme hd ht
theorem s_ifle {x : Int32} {off : Int} {tgt : Nat} (hme : j_mt[i]? = some me) (hd : decode me.2.2.1 pc = .ok (.ifCond .le off, 3)) (ht : (pc : Int) + off = (tgt : Int)) : Rn X d i pc LS (.int x :: ST) M h = q_le X x (zN 0) d i tgt (pc + 3) LS ST M h := r_ifle hme hd ht
theorem s_ifgt {x : Int32} {off : Int} {tgt : Nat} (hme : j_mt[i]? = some me) (hd : decode me.2.2.1 pc = .ok (.ifCond .gt off, 3)) (ht : (pc : Int) + off = (tgt : Int)) : Rn X d i pc LS (.int x :: ST) M h = q_lt X (zN 0) x d i tgt (pc + 3) LS ST M h := r_ifgt hme hd ht
theorem s_iceq {x y : Int32} {off : Int} {tgt : Nat} (hme : j_mt[i]? = some me) (hd : decode me.2.2.1 pc = .ok (.if_icmp .eq off, 3)) (ht : (pc : Int) + off = (tgt : Int)) : Rn X d i pc LS (.int y :: .int x :: ST) M h = q_eq X x y d i tgt (pc + 3) LS ST M h := r_iceq hme hd ht
theorem s_icne {x y : Int32} {off : Int} {tgt : Nat} (hme : j_mt[i]? = some me) (hd : decode me.2.2.1 pc = .ok (.if_icmp .ne off, 3)) (ht : (pc : Int) + off = (tgt : Int)) : Rn X d i pc LS (.int y :: .int x :: ST) M h = q_eq X x y d i (pc + 3) tgt LS ST M h := r_icne hme hd ht
theorem s_iclt {x y : Int32} {off : Int} {tgt : Nat} (hme : j_mt[i]? = some me) (hd : decode me.2.2.1 pc = .ok (.if_icmp .lt off, 3)) (ht : (pc : Int) + off = (tgt : Int)) : Rn X d i pc LS (.int y :: .int x :: ST) M h = q_lt X x y d i tgt (pc + 3) LS ST M h := r_iclt hme hd ht
theorem s_icge {x y : Int32} {off : Int} {tgt : Nat} (hme : j_mt[i]? = some me) (hd : decode me.2.2.1 pc = .ok (.if_icmp .ge off, 3)) (ht : (pc : Int) + off = (tgt : Int)) : Rn X d i pc LS (.int y :: .int x :: ST) M h = q_le X y x d i tgt (pc + 3) LS ST M h := r_icge hme hd ht
theorem s_icgt {x y : Int32} {off : Int} {tgt : Nat} (hme : j_mt[i]? = some me) (hd : decode me.2.2.1 pc = .ok (.if_icmp .gt off, 3)) (ht : (pc : Int) + off = (tgt : Int)) : Rn X d i pc LS (.int y :: .int x :: ST) M h = q_lt X y x d i tgt (pc + 3) LS ST M h := r_icgt hme hd ht
theorem s_icle {x y : Int32} {off : Int} {tgt : Nat} (hme : j_mt[i]? = some me) (hd : decode me.2.2.1 pc = .ok (.if_icmp .le off, 3)) (ht : (pc : Int) + off = (tgt : Int)) : Rn X d i pc LS (.int y :: .int x :: ST) M h = q_le X x y d i tgt (pc + 3) LS ST M h := r_icle hme hd ht
theorem s_acne {a b : Nat} {off : Int} {tgt : Nat} (hme : j_mt[i]? = some me) (hd : decode me.2.2.1 pc = .ok (.if_acmp .ne off, 3)) (ht : (pc : Int) + off = (tgt : Int)) : Rn X d i pc LS (.ref b :: .ref a :: ST) M h = q_ac X a b d i (pc + 3) tgt LS ST M h := r_acne hme hd ht
theorem s_get {idx c k a : Nat} (hme : j_mt[i]? = some me) (hd : decode me.2.2.1 pc = .ok (.getfield idx, 3)) (hf : j_fl me.1 idx = some (c, k)) : Rn X d i pc LS (.ref a :: ST) M h = q_g X (M a) c k d i (pc + 3) LS ST M h := r_get hme hd hf
theorem s_putN {idx c k a : Nat} {v : Value} (hme : j_mt[i]? = some me) (hd : decode me.2.2.1 pc = .ok (.putfield idx, 3)) (hf : j_fl me.1 idx = some (c, k)) (h1 : (j_T c k).2.2.2 = false) (h2 : narrow (j_ty c k) v = v) (h3 : fits (j_ty c k) v = true) : Rn X d i pc LS (v :: .ref a :: ST) M h = q_p X (M a) a c k v d i (pc + 3) LS ST M h :=
  r_put hme hd hf ⟨by rw [h1, Bool.and_false], h2, h3⟩
theorem s_putF {idx c k a : Nat} {v : Value} (hme : j_mt[i]? = some me) (hd : decode me.2.2.1 pc = .ok (.putfield idx, 3)) (hf : j_fl me.1 idx = some (c, k)) (h0 : (c == me.1) = true) (h1 : (me.2.1.name == "<init>") = true) (h2 : narrow (j_ty c k) v = v) (h3 : fits (j_ty c k) v = true) : Rn X d i pc LS (v :: .ref a :: ST) M h = q_p X (M a) a c k v d i (pc + 3) LS ST M h :=
  r_put hme hd hf ⟨by rw [h0, h1]; rfl, h2, h3⟩
theorem zN_b {a : Nat} (h : a < 2) : zN a &&& 1 = zN a := by
  obtain rfl | rfl : a = 0 ∨ a = 1 := by omega
  · decide
  · decide
theorem zN_nb {a : Nat} (h : a < 2) : narrow .boolean (.int (zN a)) = .int (zN a) := by
  obtain rfl | rfl : a = 0 ∨ a = 1 := by omega
  · decide
  · decide
theorem s_zret {a : Nat} (hme : j_mt[i]? = some me) (hd : decode me.2.2.1 pc = .ok (.ireturn, 1)) (hr : me.2.2.2.2.1 = some .boolean) (ha : a < 2) : Rn X d i pc LS [.int (zN a)] M h = some (.inl (some (.int (zN a))), M, h) := r_zret hme hd hr (zN_b ha)
theorem s_idiv {x y : Int32} (hme : j_mt[i]? = some me) (hd : decode me.2.2.1 pc = .ok (.idiv, 1)) : Rn X d i pc LS (.int y :: .int x :: ST) M h = q_dv X x y d i (pc + 1) LS ST M h := r_idiv hme hd
theorem s_irem {x y : Int32} (hme : j_mt[i]? = some me) (hd : decode me.2.2.1 pc = .ok (.irem, 1)) : Rn X d i pc LS (.int y :: .int x :: ST) M h = q_rm X x y d i (pc + 1) LS ST M h := r_irem hme hd
theorem s_iald {a : Nat} {x : Int32} (hme : j_mt[i]? = some me) (hd : decode me.2.2.1 pc = .ok (.iaload, 1)) : Rn X d i pc LS (.int x :: .ref a :: ST) M h = q_ld X (M a) a x d i (pc + 1) LS ST M h := r_iald hme hd
theorem s_bald {a : Nat} {x : Int32} (hme : j_mt[i]? = some me) (hd : decode me.2.2.1 pc = .ok (.baload, 1)) : Rn X d i pc LS (.int x :: .ref a :: ST) M h = q_lB X (M a) x d i (pc + 1) LS ST M h := r_bald hme hd
theorem s_aald {a : Nat} {x : Int32} (hme : j_mt[i]? = some me) (hd : decode me.2.2.1 pc = .ok (.aaload, 1)) : Rn X d i pc LS (.int x :: .ref a :: ST) M h = q_lQ X (M a) x d i (pc + 1) LS ST M h := r_aald hme hd
theorem s_iast {a : Nat} {x y : Int32} (hme : j_mt[i]? = some me) (hd : decode me.2.2.1 pc = .ok (.iastore, 1)) : Rn X d i pc LS (.int y :: .int x :: .ref a :: ST) M h = q_st X (M a) a x y d i (pc + 1) LS ST M h := r_iast hme hd
theorem s_bast {a : Nat} {x y : Int32} (hme : j_mt[i]? = some me) (hd : decode me.2.2.1 pc = .ok (.bastore, 1)) : Rn X d i pc LS (.int y :: .int x :: .ref a :: ST) M h = q_sB X (M a) a x y d i (pc + 1) LS ST M h := r_bast hme hd
theorem s_aast {a v : Nat} {x : Int32} (hme : j_mt[i]? = some me) (hd : decode me.2.2.1 pc = .ok (.aastore, 1)) : Rn X d i pc LS (.ref v :: .int x :: .ref a :: ST) M h = q_sQ X (M a) (M v) a x v d i (pc + 1) LS ST M h := r_aast hme hd
theorem s_cpy {idx t s e : Nat} {n dp sp : Int32} (hme : j_mt[i]? = some me) (hd : decode me.2.2.1 pc = .ok (.invokestatic idx, 3)) (hcl : j_cl me.1 idx = some (7, t)) : Rn X (d + 1) i pc LS [.int n, .int dp, .ref e, .int sp, .ref s] M h = q_cp X (M s) (M e) e sp dp n (d + 1) i (pc + 3) LS M h := r_cpy hme hd hcl
theorem s_alen (hme : j_mt[i]? = some me) (hd : decode me.2.2.1 pc = .ok (.arraylength, 1)) : Rn X d i pc LS (.ref 1000000 :: ST) M h = Rn X d i (pc + 1) LS (.int (zN X.1) :: ST) M h := by
  rw [r_alen hme hd, zN_ofNat]
theorem s_callV {idx t a na ci : Nat} {as : List Value} (hme : j_mt[i]? = some me) (hd : decode me.2.2.1 pc = .ok (.invokevirtual idx, 3)) (hcl : j_cl me.1 idx = some (0, t)) (hmf : j_mt[t]? = some mf) (hna : mf.2.2.2.2.2.1 = na) (hci : mf.1 = ci) (hn : na ≤ ST.length) (ha : (ST.take na).reverse = .ref a :: as) (hl : Nat.ble (j_sl (.ref a :: as)).length mf.2.2.2.1 = true) (he : j_ent mf.2.2.2.1 (.ref a :: as) = LE) (hh : me.2.2.2.2.2.2 = []) (hcs : Nat.ble (j_cs (ST.drop na)) 8 = true) :
    Rn X (d + 1) i pc LS ST M h = j_rc (M a) ci (q_k X (Rn X d t 0 LE [] M (j_h0 h)) h (d + 1) i (pc + 3) LS (ST.drop na)) := by
  subst hna hci he
  rw [r_callV hme hd hcl hmf hn (Nat.le_of_ble_eq_true hcs) ha (Nat.le_of_ble_eq_true hl), hh]
  rfl
theorem s_callC {idx t a na ci : Nat} {as : List Value} (hme : j_mt[i]? = some me) (hd : decode me.2.2.1 pc = .ok (.invokevirtual idx, 3)) (hcl : j_cl me.1 idx = some (0, t)) (hmf : j_mt[t]? = some mf) (hna : mf.2.2.2.2.2.1 = na) (hci : mf.1 = ci) (hn : na ≤ ST.length) (ha : (ST.take na).reverse = .ref a :: as) (hl : Nat.ble (j_sl (.ref a :: as)).length mf.2.2.2.1 = true) (he : j_ent mf.2.2.2.1 (.ref a :: as) = LE) (hh : me.2.2.2.2.2.2 ≠ []) (hcs : Nat.ble (j_cs (ST.drop na)) 8 = true) :
    Rn X (d + 1) i pc LS ST M h = j_rc (M a) ci (q_kc X (Rn X d t 0 LE [] M (j_h0 h)) h me (d + 1) i pc (pc + 3) LS (ST.drop na)) := by
  subst hna hci he
  rw [r_callV hme hd hcl hmf hn (Nat.le_of_ble_eq_true hcs) ha (Nat.le_of_ble_eq_true hl)]
  unfold q_kc
  congr 2
  funext E M h
  split
  · rename_i e
    exact absurd e hh
  · rfl
theorem s_callI {idx t a na ci kd : Nat} {as : List Value} (hkd : kd = 3 ∨ kd = 4) (hme : j_mt[i]? = some me) (hd : decode me.2.2.1 pc = .ok (.invokespecial idx, 3)) (hcl : j_cl me.1 idx = some (kd, t)) (hmf : j_mt[t]? = some mf) (hna : mf.2.2.2.2.2.1 = na) (hci : mf.1 = ci) (hn : na ≤ ST.length) (ha : (ST.take na).reverse = .ref a :: as) (hl : Nat.ble (j_sl (.ref a :: as)).length mf.2.2.2.1 = true) (he : j_ent mf.2.2.2.1 (.ref a :: as) = LE) (hh : me.2.2.2.2.2.2 = []) (hcs : Nat.ble (j_cs (ST.drop na)) 8 = true) :
    Rn X (d + 1) i pc LS ST M h = j_rc (M a) ci (q_k X (Rn X d t 0 LE [] M (j_h0 h)) h (d + 1) i (pc + 3) LS (ST.drop na)) := by
  subst hna hci he
  rw [r_callI hkd hme hd hcl hmf hn (Nat.le_of_ble_eq_true hcs) ha (Nat.le_of_ble_eq_true hl), hh]
  rfl
theorem s_callS {idx t na kd : Nat} {as : List Value} (hkd : kd = 1 ∨ kd = 2 ∨ kd = 5) (hme : j_mt[i]? = some me) (hd : decode me.2.2.1 pc = .ok (.invokestatic idx, 3)) (hcl : j_cl me.1 idx = some (kd, t)) (hmf : j_mt[t]? = some mf) (hna : mf.2.2.2.2.2.1 = na) (hn : na ≤ ST.length) (ha : (ST.take na).reverse = as) (hl : Nat.ble (j_sl as).length mf.2.2.2.1 = true) (he : j_ent mf.2.2.2.1 as = LE) (hh : me.2.2.2.2.2.2 = []) (hcs : Nat.ble (j_cs (ST.drop na)) 8 = true) :
    Rn X (d + 1) i pc LS ST M h = q_k X (Rn X d t 0 LE [] M (j_h0 h)) h (d + 1) i (pc + 3) LS (ST.drop na) := by
  subst hna he
  rw [r_callS hkd hme hd hcl hmf hn (Nat.le_of_ble_eq_true hcs) ha (Nat.le_of_ble_eq_true hl), hh]
  rfl
theorem s_obj {idx t a : Nat} (hme : j_mt[i]? = some me) (hd : decode me.2.2.1 pc = .ok (.invokespecial idx, 3)) (hcl : j_cl me.1 idx = some (6, t)) (hcs : Nat.ble (j_cs ST) 8 = true) : Rn X (d + 1) i pc LS (.ref a :: ST) M h = Rn X (d + 1) i (pc + 3) LS ST M h := r_obj hme hd hcl (Nat.le_of_ble_eq_true hcs)
theorem s_max {idx t a b : Nat} (hme : j_mt[i]? = some me) (hd : decode me.2.2.1 pc = .ok (.invokestatic idx, 3)) (hcl : j_cl me.1 idx = some (8, t)) (ha : a < 2147483648) (hb : b < 2147483648) (hcs : Nat.ble (j_cs ST) 8 = true) : Rn X (d + 1) i pc LS (.int (zN b) :: .int (zN a) :: ST) M h = Rn X (d + 1) i (pc + 3) LS (.int (zN (max a b)) :: ST) M h := by
  rw [r_max hme hd hcl (Nat.le_of_ble_eq_true hcs)]
  congr 3
  by_cases q : a < b
  · rw [if_pos ((zN_lt ha hb).mpr q), Nat.max_eq_right (by omega)]
  · rw [if_neg (fun q' => q ((zN_lt ha hb).mp q')), Nat.max_eq_left (by omega)]
theorem s_maxM {idx t a b : Nat} (hme : j_mt[i]? = some me) (hd : decode me.2.2.1 pc = .ok (.invokestatic idx, 3)) (hcl : j_cl me.1 idx = some (8, t)) (ha : a < 2147483648) (hb : b < 2147483648) (hcs : Nat.ble (j_cs ST) 8 = true) : Rn X (d + 1) i pc LS (.int (zN b) :: .int (zM a) :: ST) M h = Rn X (d + 1) i (pc + 3) LS (.int (zN b) :: ST) M h := by
  rw [r_max hme hd hcl (Nat.le_of_ble_eq_true hcs), if_pos (zM_lt_zN ha hb)]
theorem s_min {idx t a b : Nat} (hme : j_mt[i]? = some me) (hd : decode me.2.2.1 pc = .ok (.invokestatic idx, 3)) (hcl : j_cl me.1 idx = some (9, t)) (ha : a < 2147483648) (hb : b < 2147483648) (hcs : Nat.ble (j_cs ST) 8 = true) : Rn X (d + 1) i pc LS (.int (zN b) :: .int (zN a) :: ST) M h = Rn X (d + 1) i (pc + 3) LS (.int (zN (min a b)) :: ST) M h := by
  rw [r_min hme hd hcl (Nat.le_of_ble_eq_true hcs)]
  congr 3
  by_cases q : b < a
  · rw [if_pos ((zN_lt hb ha).mpr q), Nat.min_eq_right (by omega)]
  · rw [if_neg (fun q' => q ((zN_lt hb ha).mp q')), Nat.min_eq_left (by omega)]
theorem s_newI {n c z a : Nat} (hme : j_mt[i]? = some me) (hd : decode me.2.2.1 pc = .ok (.newarray .int, 2)) (hn : n < 1000) (hx : a ≤ 1000) : Rn X d i pc LS (.int (zN a) :: ST) M (n, true, c, z) = Rn X d i (pc + 2) LS (.ref n :: ST) (va_up M n (.inl (0, a, .inl (fun _ => 0)))) (n + 1, true, c + 1, z + a) := by
  have k := zN_nat (a := a) (by omega)
  have := r_newI (X := X) (d := d) (LS := LS) (ST := ST) (M := M) (c := c) (z := z) (x := zN a) hme hd hn ⟨(zN_in (z := a + 1) (by omega) (by omega)).1, by omega⟩
  rw [k] at this
  exact this
theorem s_newB {n c z a : Nat} (hme : j_mt[i]? = some me) (hd : decode me.2.2.1 pc = .ok (.newarray .byte, 2)) (hn : n < 1000) (hx : a ≤ 1000) : Rn X d i pc LS (.int (zN a) :: ST) M (n, true, c, z) = Rn X d i (pc + 2) LS (.ref n :: ST) (va_up M n (.inl (1, a, .inl (fun _ => 0)))) (n + 1, true, c + 1, z + a) := by
  have k := zN_nat (a := a) (by omega)
  have := r_newB (X := X) (d := d) (LS := LS) (ST := ST) (M := M) (c := c) (z := z) (x := zN a) hme hd hn ⟨(zN_in (z := a + 1) (by omega) (by omega)).1, by omega⟩
  rw [k] at this
  exact this
theorem s_anew {idx n c z a : Nat} (hme : j_mt[i]? = some me) (hd : decode me.2.2.1 pc = .ok (.anewarray idx, 3)) (hol : j_ol me.1 idx = some 2) (hn : n < 1000) (hx : a ≤ 1000) : Rn X d i pc LS (.int (zN a) :: ST) M (n, true, c, z) = Rn X d i (pc + 3) LS (.ref n :: ST) (va_up M n (.inl (2, a, .inr (.inr (.inr (.inr (fun _ => none))))))) (n + 1, true, c + 1, z + a) := by
  have k := zN_nat (a := a) (by omega)
  have := r_anew (X := X) (d := d) (LS := LS) (ST := ST) (M := M) (c := c) (z := z) (x := zN a) hme hd hol hn ⟨(zN_in (z := a + 1) (by omega) (by omega)).1, by omega⟩
  rw [k] at this
  exact this
theorem s_tab {dflt lo hi : Int} {offs : Array Int} {len v : Nat} {off : Int} {tgt : Nat} (hme : j_mt[i]? = some me) (hd : decode me.2.2.1 pc = .ok (.tableswitch dflt lo hi offs, len)) (h0 : v < 2147483648) (h1 : ¬ ((v : Int) < lo ∨ hi < (v : Int))) (ho : offs[((v : Int) - lo).toNat]? = some off) (ht : (pc : Int) + off = (tgt : Int)) : Rn X d i pc LS (.int (zN v) :: ST) M h = Rn X d i tgt LS ST M h :=
  r_tab hme hd (by rw [zN_toInt h0]; exact h1) (by rw [zN_toInt h0]; exact ho) ht
theorem s_tabD {dflt lo hi : Int} {offs : Array Int} {len v : Nat} {tgt : Nat} (hme : j_mt[i]? = some me) (hd : decode me.2.2.1 pc = .ok (.tableswitch dflt lo hi offs, len)) (ht : (pc : Int) + dflt = (tgt : Int)) (h0 : v < 2147483648) (h1 : (v : Int) < lo ∨ hi < (v : Int)) : Rn X d i pc LS (.int (zN v) :: ST) M h = Rn X d i tgt LS ST M h :=
  r_tabD hme hd (by rw [zN_toInt h0]; exact h1) ht
theorem s_tabM {dflt lo hi : Int} {offs : Array Int} {len v : Nat} {tgt : Nat} (hme : j_mt[i]? = some me) (hd : decode me.2.2.1 pc = .ok (.tableswitch dflt lo hi offs, len)) (ht : (pc : Int) + dflt = (tgt : Int)) (hl : 0 ≤ lo) (h0 : v < 2147483648) : Rn X d i pc LS (.int (zM v) :: ST) M h = Rn X d i tgt LS ST M h :=
  r_tabD hme hd (by rw [zM_toInt h0]; left; omega) ht
end
end
