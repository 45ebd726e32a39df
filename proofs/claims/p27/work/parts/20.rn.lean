/-! the limit of the runs, as a function, and its equation -/
def j_le (g g' : jQ) : Prop := ∀ d i pc LS ST M h r, g d i pc LS ST M h = some r → g' d i pc LS ST M h = some r
noncomputable def Rn (X : jX) : jQ := fun d i pc LS ST M h => @dite (Option jR) (∃ (r : jR) (N : Nat), j_run X N d i pc LS ST M h = some r) (Classical.propDecidable _) (fun q => some (Classical.choose q)) (fun _ => none)
/-- monotone, and continuous along the runs -/
def j_MC (X : jX) {α : Type} (F : jQ → Option α) : Prop := (∀ g g', j_le g g' → ∀ r, F g = some r → F g' = some r) ∧ ((∀ N, j_le (j_run X N) (j_run X (N + 1))) → ∀ r, F (Rn X) = some r → ∃ N, F (j_run X N) = some r)
theorem j_le_add {X : jX} (h : ∀ N, j_le (j_run X N) (j_run X (N + 1))) (N k : Nat) : j_le (j_run X N) (j_run X (N + k)) := by
  induction k with
  | zero => exact fun _ _ _ _ _ _ _ _ q => q
  | succ k ih => exact fun d i pc LS ST M h' r q => h (N + k) d i pc LS ST M h' r (ih d i pc LS ST M h' r q)
section
variable {X : jX} {α β : Type}
theorem j_MC.const (z : Option α) : j_MC X (fun _ => z) := ⟨fun _ _ _ _ h => h, fun _ _ h => ⟨0, h⟩⟩
theorem j_MC.bind {F : jQ → Option α} {G : α → jQ → Option β} (hF : j_MC X F) (hG : ∀ x, j_MC X (G x)) : j_MC X (fun g => (F g).bind fun x => G x g) := by
  refine ⟨fun g g' hle r h => ?_, fun hm r h => ?_⟩
  · obtain ⟨x, h1, h2⟩ := Option.bind_eq_some_iff.mp h
    exact Option.bind_eq_some_iff.mpr ⟨x, hF.1 g g' hle x h1, (hG x).1 g g' hle r h2⟩
  · obtain ⟨x, h1, h2⟩ := Option.bind_eq_some_iff.mp h
    obtain ⟨N1, q1⟩ := hF.2 hm x h1
    obtain ⟨N2, q2⟩ := (hG x).2 hm r h2
    refine ⟨N1 + N2, Option.bind_eq_some_iff.mpr ⟨x, hF.1 _ _ (j_le_add hm N1 N2) x q1, (hG x).1 _ _ ?_ r q2⟩⟩
    rw [Nat.add_comm]
    exact j_le_add hm N2 N1
theorem j_MC.cb {z : Option α} {G : α → jQ → Option β} (hG : ∀ x, j_MC X (G x)) : j_MC X (fun g => z.bind fun x => G x g) := j_MC.bind (F := fun _ => z) (j_MC.const z) hG
theorem j_MC.c {c : Prop} [Decidable c] {F : jQ → Option α} (hF : j_MC X F) : j_MC X (fun g => j_c c (F g)) := by
  by_cases h : c
  · have : (fun g => j_c c (F g)) = F := by funext g; unfold j_c; rw [if_pos h]
    rw [this]; exact hF
  · have : (fun g => j_c c (F g)) = fun _ => none := by funext g; unfold j_c; rw [if_neg h]
    rw [this]; exact j_MC.const none
theorem j_MC.sh {st : List Value} {S : List Value → (jQ → Option α) → Prop} {F : jQ → Option α} (h : j_MC X F) : j_MC X F := h
theorem j_MC.i {st : List Value} {F : Int32 → List Value → jQ → Option α} (hF : ∀ x r, j_MC X (F x r)) : j_MC X (fun g => j_i st fun x r => F x r g) := by
  unfold j_i
  split
  · exact hF _ _
  · exact j_MC.const none
theorem j_MC.ii {st : List Value} {F : Int32 → Int32 → List Value → jQ → Option α} (hF : ∀ x y r, j_MC X (F x y r)) : j_MC X (fun g => j_ii st fun x y r => F x y r g) := by
  unfold j_ii
  split
  · exact hF _ _ _
  · exact j_MC.const none
theorem j_MC.r {st : List Value} {F : Nat → List Value → jQ → Option α} (hF : ∀ x r, j_MC X (F x r)) : j_MC X (fun g => j_r st fun x r => F x r g) := by
  unfold j_r
  split
  · exact hF _ _
  · exact j_MC.const none
theorem j_MC.cp {st : List Value} {F : Int32 → Int32 → Nat → Int32 → Nat → List Value → jQ → Option α} (hF : ∀ a b c d e r, j_MC X (F a b c d e r)) : j_MC X (fun g => j_cp st fun a b c d e r => F a b c d e r g) := by
  unfold j_cp
  split
  · exact hF _ _ _ _ _ _
  · exact j_MC.const none
theorem j_MC.ob {e : va_E} {F : Nat → List Value → jQ → Option α} (hF : ∀ x r, j_MC X (F x r)) : j_MC X (fun g => j_ob e fun x r => F x r g) := by
  unfold j_ob
  split
  · exact hF _ _
  · exact j_MC.const none
theorem j_MC.aI {e : va_E} {F : Nat → Nat → (Nat → Int32) → jQ → Option α} (hF : ∀ x y f, j_MC X (F x y f)) : j_MC X (fun g => j_aI e fun x y f => F x y f g) := by
  unfold j_aI
  split
  · exact hF _ _ _
  · exact j_MC.const none
theorem j_MC.s1 {ls : jL} {k : Nat} {v : Option Value} {F : jL → jQ → Option α} (hF : ∀ x, j_MC X (F x)) : j_MC X (fun g => j_s1 ls k v fun x => F x g) := by
  unfold j_s1
  split
  · exact hF _
  · exact j_MC.const none
theorem Rn_iff {d i pc : Nat} {LS : jL} {ST : List Value} {M : jM} {h : jH} {r : jR} (hm : ∀ N, j_le (j_run X N) (j_run X (N + 1))) : Rn X d i pc LS ST M h = some r ↔ ∃ N, j_run X N d i pc LS ST M h = some r := by
  unfold Rn
  constructor
  · intro q
    split at q
    · rename_i q0
      have := Classical.choose_spec q0
      rw [Option.some.inj q] at this
      exact this
    · cases q
  · rintro ⟨N, q⟩
    have q0 : ∃ (r : jR) (N : Nat), j_run X N d i pc LS ST M h = some r := ⟨r, N, q⟩
    rw [dif_pos q0]
    obtain ⟨N2, q2⟩ := Classical.choose_spec q0
    have a1 := j_le_add hm N N2 _ _ _ _ _ _ _ _ q
    have a2 := j_le_add hm N2 N _ _ _ _ _ _ _ _ q2
    rw [Nat.add_comm] at a2
    rw [a2] at a1
    exact a1
theorem j_MC.app {d i pc : Nat} {LS : jL} {ST : List Value} {M : jM} {h : jH} : j_MC X (fun g => g d i pc LS ST M h) := ⟨fun g g' hle r q => hle _ _ _ _ _ _ _ _ q, fun hm r q => (Rn_iff hm).mp q⟩
theorem j_MC.cat {me : jMe} {d i pc : Nat} {ls : jL} {E : String} {M : jM} {h : jH} : j_MC X (fun g => j_cat g me d i pc ls E M h) := by
  unfold j_cat
  refine j_MC.cb (fun hp => ?_)
  split
  · exact j_MC.c (j_MC.s1 fun _ => j_MC.app)
  · exact j_MC.c (j_MC.s1 fun _ => j_MC.app)
  · exact j_MC.const none
theorem j_MC.own {me : jMe} {d i pc : Nat} {ls : jL} {st : List Value} {M : jM} {h : jH} {kd t : Nat} : j_MC X (fun g => j_own g me d i pc ls st M h kd t) := by
  unfold j_own
  refine j_MC.cb (fun mf => j_MC.c ?_)
  cases d with
  | zero => exact j_MC.const none
  | succ d =>
    refine j_MC.bind j_MC.app (fun r => ?_)
    split
    · exact j_MC.app
    · split
      · exact j_MC.const _
      · exact j_MC.cat
theorem j_MC.rcv {st : List Value} {M : jM} {na ci : Nat} {F : jQ → Option α} (hF : j_MC X F) : j_MC X (fun g => j_rcv st M na ci (F g)) := by
  unfold j_rcv
  split
  · exact j_MC.ob fun _ _ => j_MC.c hF
  · exact j_MC.const none
theorem j_MC.inv {me : jMe} {d i pc : Nat} {ls : jL} {st : List Value} {M : jM} {h : jH} {kd t : Nat} : j_MC X (fun g => j_inv g me d i pc ls st M h kd t) := by
  unfold j_inv
  split
  · exact j_MC.cb fun _ => j_MC.rcv j_MC.own
  · exact j_MC.cb fun _ => j_MC.rcv j_MC.own
  · exact j_MC.cb fun _ => j_MC.rcv j_MC.own
  · exact j_MC.r fun _ _ => j_MC.c j_MC.app
  · exact j_MC.cp fun _ _ _ _ _ _ => j_MC.aI fun _ _ _ => j_MC.aI fun _ _ _ => j_MC.c j_MC.app
  · exact j_MC.ii fun _ _ _ => j_MC.c j_MC.app
  · exact j_MC.ii fun _ _ _ => j_MC.c j_MC.app
  · exact j_MC.own
theorem j_MC.new {me : jMe} {d i idx pc : Nat} {ls : jL} {st : List Value} {M : jM} {h : jH} : j_MC X (fun g => j_new g me d i idx pc ls st M h) := by
  unfold j_new
  split
  · exact j_MC.const _
  · exact j_MC.cb fun _ => j_MC.c j_MC.app
theorem j_MC.nar {t : ArrayType} {d i pc : Nat} {ls : jL} {st : List Value} {M : jM} {h : jH} : j_MC X (fun g => j_nar g t d i pc ls st M h) := by
  unfold j_nar
  refine j_MC.i fun _ _ => j_MC.c ?_
  split
  · exact j_MC.app
  · exact j_MC.app
  · exact j_MC.const none
theorem j_MC.anar {me : jMe} {d i idx pc : Nat} {ls : jL} {st : List Value} {M : jM} {h : jH} : j_MC X (fun g => j_anar g me d i idx pc ls st M h) := by
  unfold j_anar
  exact j_MC.i fun _ _ => j_MC.c j_MC.app
theorem j_MC.one {me : jMe} {d i len pc : Nat} {I : Instr} {ls : jL} {st : List Value} {M : jM} {h : jH} : j_MC X (fun g => j_one1 X g me d i I len pc ls st M h) := by
  unfold j_one1
  split
  · exact j_MC.const _
  · exact j_MC.const _
  · exact j_MC.const _
  · exact j_MC.const _
  · exact j_MC.const _
  · exact j_MC.c (j_MC.cb fun _ => j_MC.c j_MC.inv)
  · exact j_MC.c (j_MC.cb fun _ => j_MC.c j_MC.inv)
  · exact j_MC.c (j_MC.cb fun _ => j_MC.c j_MC.inv)
  · exact j_MC.c j_MC.new
  · exact j_MC.c j_MC.nar
  · exact j_MC.c j_MC.anar
  · exact j_MC.cb fun _ => j_MC.app
theorem j_run_mono : ∀ N, j_le (j_run X N) (j_run X (N + 1)) := by
  intro N
  induction N with
  | zero => intro d i pc LS ST M h r q; cases q
  | succ N ih =>
    intro d i pc LS ST M h r q
    unfold j_run at q ⊢
    obtain ⟨me, hme, g⟩ := Option.bind_eq_some_iff.mp q
    refine Option.bind_eq_some_iff.mpr ⟨me, hme, ?_⟩
    split at g
    · rename_i I len hd
      exact j_MC.one.1 _ _ ih r g
    · cases g
/-- the equation -/
theorem Rn_eq {d i pc len : Nat} {LS : jL} {ST : List Value} {M : jM} {h : jH} {me : jMe} {I : Instr} (hme : j_mt[i]? = some me) (hd : decode me.2.2.1 pc = .ok (I, len)) : Rn X d i pc LS ST M h = j_one1 X (Rn X) me d i I len pc LS ST M h := by
  have e : ∀ N, j_run X (N + 1) d i pc LS ST M h = j_one1 X (j_run X N) me d i I len pc LS ST M h := by
    intro N
    show (j_mt[i]?).bind _ = _
    rw [hme]
    show (match decode me.2.2.1 pc with | .ok (I, len) => j_one1 X (j_run X N) me d i I len pc LS ST M h | .error _ => none) = _
    rw [hd]
  apply Option.ext
  intro r
  rw [Rn_iff j_run_mono]
  constructor
  · rintro ⟨N, q⟩
    cases N with
    | zero => cases q
    | succ N =>
      rw [e] at q
      exact j_MC.one.1 _ _ (fun d i pc LS ST M h r q => (Rn_iff j_run_mono).mpr ⟨N, q⟩) r q
  · intro q
    obtain ⟨N, q⟩ := j_MC.one.2 j_run_mono r q
    exact ⟨N + 1, by rw [e]; exact q⟩
end
