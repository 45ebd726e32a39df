/-! from the logical cells to the machine's -/
def j_ad (base b : Nat) (k : Nat) : Nat := if k = 1000000 then b else base + k
def j_cv (ad : Nat → Nat) (v : Value) : Value := match v with
  | .ref k => .ref (ad k)
  | .int x => .int x
  | .long x => .long x
  | .float x => .float x
  | .double x => .double x
  | .null => .null
  | .retAddr x => .retAddr x
def j_ce (ad : Nat → Nat) (tc : Nat → ClassId) (e : va_E) : va_E := match e with
  | .inr (c, fs) => .inr (c, fs.map (j_cv ad))
  | .inl (t, z, .inl f) => .inl (tc t, z, .inl f)
  | .inl (t, z, .inr (.inl f)) => .inl (tc t, z, .inr (.inl f))
  | .inl (t, z, .inr (.inr (.inl f))) => .inl (tc t, z, .inr (.inr (.inl f)))
  | .inl (t, z, .inr (.inr (.inr (.inl f)))) => .inl (tc t, z, .inr (.inr (.inr (.inl f))))
  | .inl (t, z, .inr (.inr (.inr (.inr f)))) => .inl (tc t, z, .inr (.inr (.inr (.inr (fun j => (f j).map ad)))))
def j_wl (base b : Nat) (tc : Nat → ClassId) (n : Nat) (M : jM) : va_W := (List.range n).map fun k => (base + k, j_ce (j_ad base b) tc (M k))
def j_tys (tc : Nat → ClassId) : List (ClassId × FieldType) := [(tc 0, .int), (tc 1, .byte), (tc 2, .object "ShipJournal$State")]
abbrev j_A (base : Nat) : Nat → Prop := fun q => base ≤ q
/-- the heap H holds the n cells of M -/
def j_W (base b : Nat) (D : va_G) (tc : Nat → ClassId) (n : Nat) (M : jM) (H : Heap) : Prop :=
  va_P D vwCl (j_wl base b tc n M) H ∧ n ≤ 1000 ∧ ∀ k, n ≤ k → M k = j_nil
theorem j_wl_at {base b : Nat} {tc : Nat → ClassId} {n : Nat} {M : jM} {k : Nat} (h : k < n) : (j_wl base b tc n M)[k]? = some (base + k, j_ce (j_ad base b) tc (M k)) := by
  unfold j_wl
  rw [List.getElem?_map, List.getElem?_range h]
  rfl
theorem j_wl_at2 {base b : Nat} {tc : Nat → ClassId} {n : Nat} {M : jM} {k : Nat} {q : Nat × va_E} (h : (j_wl base b tc n M)[k]? = some q) : k < n ∧ q = (base + k, j_ce (j_ad base b) tc (M k)) := by
  have hk : k < n := by
    have := (List.getElem?_eq_some_iff.mp h).1
    simpa [j_wl] using this
  rw [j_wl_at hk] at h
  exact ⟨hk, (Option.some.inj h).symm⟩
theorem j_wl_set {base b : Nat} {tc : Nat → ClassId} {n : Nat} {M : jM} {k : Nat} {e : va_E} : (j_wl base b tc n M).set k (base + k, j_ce (j_ad base b) tc e) = j_wl base b tc n (va_up M k e) := by
  apply List.ext_getElem?
  intro j
  by_cases hj : j < n
  · rw [j_wl_at hj, List.getElem?_set]
    by_cases hk : k = j
    · subst hk
      rw [if_pos rfl, va_up_self]
      simp [j_wl, hj]
    · rw [if_neg hk, va_up_ne _ _ (Ne.symm hk), j_wl_at hj]
  · rw [List.getElem?_eq_none (by simp [j_wl]; omega), List.getElem?_eq_none (by simp [j_wl]; omega)]
theorem j_wl_D {base b : Nat} {tc : Nat → ClassId} {n : Nat} {M : jM} : va_D (j_A base) (j_wl base b tc n M) := by
  refine ⟨fun i j p q hi hj hpq => ?_, fun k q hk => ?_⟩
  · obtain ⟨-, rfl⟩ := j_wl_at2 hi
    obtain ⟨-, rfl⟩ := j_wl_at2 hj
    have : base + i = base + j := hpq
    omega
  · obtain ⟨-, rfl⟩ := j_wl_at2 hk
    exact Nat.le_add_right _ _
theorem j_W.lt {base b : Nat} {D : va_G} {tc : Nat → ClassId} {n : Nat} {M : jM} {H : Heap} (w : j_W base b D tc n M H) {a : Nat} (h : M a ≠ j_nil) : a < n := by
  rcases Nat.lt_or_ge a n with q | q
  · exact q
  · exact absurd (w.2.2 a q) h
theorem j_nil_ob {c : Nat} {fs : List Value} (h : c < 1000) : (.inr (c, fs) : va_E) ≠ j_nil := by
  intro q
  have q := congrArg (fun z => match z with | Sum.inr (y : Nat × List Value) => y.1 | _ => 0) q
  dsimp only [j_nil] at q
  omega
theorem j_nil_ar {x : ClassId × vp_A} : (.inl x : va_E) ≠ j_nil := fun q => by cases q
theorem j_W.ad {base b : Nat} {D : va_G} {tc : Nat → ClassId} {n : Nat} {M : jM} {H : Heap} (w : j_W base b D tc n M H) {a : Nat} (h : a < n) : j_ad base b a = base + a := by
  have := w.2.1
  unfold j_ad
  rw [if_neg (by omega)]
/-- a cell is changed -/
theorem j_W.up {base b : Nat} {D : va_G} {tc : Nat → ClassId} {n : Nat} {M : jM} {H H1 : Heap} (w : j_W base b D tc n M H) {a : Nat} (h : a < n) {e : va_E} (hP : va_P D vwCl ((j_wl base b tc n M).set a (base + a, j_ce (j_ad base b) tc e)) H1) : j_W base b D tc n (va_up M a e) H1 := by
  rw [j_wl_set] at hP
  exact ⟨hP, w.2.1, fun k hk => by rw [va_up_ne _ _ (by omega)]; exact w.2.2 k hk⟩
theorem j_W.sz {base b : Nat} {D : va_G} {tc : Nat → ClassId} {n : Nat} {M : jM} {H : Heap} (w : j_W base b D tc n M H) (h : base ≤ H.size) : base + n ≤ H.size := by
  rcases Nat.eq_zero_or_pos n with q | q
  · omega
  · have := (w.1 (n - 1) _ (j_wl_at (by omega))).lt
    dsimp only at this
    omega
-- shapes, backwards
theorem j_c_some {α : Type} {c : Prop} [Decidable c] {x : Option α} {z : α} (h : j_c c x = some z) : c ∧ x = some z := by
  unfold j_c at h
  split at h
  · exact ⟨by assumption, h⟩
  · cases h
theorem j_i_some {α : Type} {st : List Value} {K : Int32 → List Value → Option α} {z : α} (h : j_i st K = some z) : ∃ x r, st = .int x :: r ∧ K x r = some z := by
  unfold j_i at h
  split at h
  · exact ⟨_, _, rfl, h⟩
  · cases h
theorem j_ii_some {α : Type} {st : List Value} {K : Int32 → Int32 → List Value → Option α} {z : α} (h : j_ii st K = some z) : ∃ x y r, st = .int y :: .int x :: r ∧ K x y r = some z := by
  unfold j_ii at h
  split at h
  · exact ⟨_, _, _, rfl, h⟩
  · cases h
theorem j_l_some {α : Type} {st : List Value} {K : Int64 → List Value → Option α} {z : α} (h : j_l st K = some z) : ∃ x r, st = .long x :: r ∧ K x r = some z := by
  unfold j_l at h
  split at h
  · exact ⟨_, _, rfl, h⟩
  · cases h
theorem j_ll_some {α : Type} {st : List Value} {K : Int64 → Int64 → List Value → Option α} {z : α} (h : j_ll st K = some z) : ∃ x y r, st = .long y :: .long x :: r ∧ K x y r = some z := by
  unfold j_ll at h
  split at h
  · exact ⟨_, _, _, rfl, h⟩
  · cases h
theorem j_d_some {α : Type} {st : List Value} {K : UInt64 → List Value → Option α} {z : α} (h : j_d st K = some z) : ∃ x r, st = .double x :: r ∧ K x r = some z := by
  unfold j_d at h
  split at h
  · exact ⟨_, _, rfl, h⟩
  · cases h
theorem j_dd_some {α : Type} {st : List Value} {K : UInt64 → UInt64 → List Value → Option α} {z : α} (h : j_dd st K = some z) : ∃ x y r, st = .double y :: .double x :: r ∧ K x y r = some z := by
  unfold j_dd at h
  split at h
  · exact ⟨_, _, _, rfl, h⟩
  · cases h
theorem j_r_some {α : Type} {st : List Value} {K : Nat → List Value → Option α} {z : α} (h : j_r st K = some z) : ∃ a r, st = .ref a :: r ∧ K a r = some z := by
  unfold j_r at h
  split at h
  · exact ⟨_, _, rfl, h⟩
  · cases h
theorem j_rr_some {α : Type} {st : List Value} {K : Nat → Nat → List Value → Option α} {z : α} (h : j_rr st K = some z) : ∃ a b r, st = .ref b :: .ref a :: r ∧ K a b r = some z := by
  unfold j_rr at h
  split at h
  · exact ⟨_, _, _, rfl, h⟩
  · cases h
theorem j_v_some {α : Type} {st : List Value} {K : Value → List Value → Option α} {z : α} (h : j_v st K = some z) : ∃ v r, st = v :: r ∧ K v r = some z := by
  unfold j_v at h
  split at h
  · exact ⟨_, _, rfl, h⟩
  · cases h
theorem j_vv_some {α : Type} {st : List Value} {K : Value → Value → List Value → Option α} {z : α} (h : j_vv st K = some z) : ∃ v w r, st = w :: v :: r ∧ K v w r = some z := by
  unfold j_vv at h
  split at h
  · exact ⟨_, _, _, rfl, h⟩
  · cases h
theorem j_vr_some {α : Type} {st : List Value} {K : Value → Nat → List Value → Option α} {z : α} (h : j_vr st K = some z) : ∃ v a r, st = v :: .ref a :: r ∧ K v a r = some z := by
  unfold j_vr at h
  split at h
  · exact ⟨_, _, _, rfl, h⟩
  · cases h
theorem j_ir_some {α : Type} {st : List Value} {K : Int32 → Nat → List Value → Option α} {z : α} (h : j_ir st K = some z) : ∃ i a r, st = .int i :: .ref a :: r ∧ K i a r = some z := by
  unfold j_ir at h
  split at h
  · exact ⟨_, _, _, rfl, h⟩
  · cases h
theorem j_iir_some {α : Type} {st : List Value} {K : Int32 → Int32 → Nat → List Value → Option α} {z : α} (h : j_iir st K = some z) : ∃ x i a r, st = .int x :: .int i :: .ref a :: r ∧ K x i a r = some z := by
  unfold j_iir at h
  split at h
  · exact ⟨_, _, _, _, rfl, h⟩
  · cases h
theorem j_lir_some {α : Type} {st : List Value} {K : Int64 → Int32 → Nat → List Value → Option α} {z : α} (h : j_lir st K = some z) : ∃ x i a r, st = .long x :: .int i :: .ref a :: r ∧ K x i a r = some z := by
  unfold j_lir at h
  split at h
  · exact ⟨_, _, _, _, rfl, h⟩
  · cases h
theorem j_rir_some {α : Type} {st : List Value} {K : Nat → Int32 → Nat → List Value → Option α} {z : α} (h : j_rir st K = some z) : ∃ v i a r, st = .ref v :: .int i :: .ref a :: r ∧ K v i a r = some z := by
  unfold j_rir at h
  split at h
  · exact ⟨_, _, _, _, rfl, h⟩
  · cases h
theorem j_cp_some {α : Type} {st : List Value} {K : Int32 → Int32 → Nat → Int32 → Nat → List Value → Option α} {z : α} (h : j_cp st K = some z) : ∃ n dp d sp s r, st = .int n :: .int dp :: .ref d :: .int sp :: .ref s :: r ∧ K n dp d sp s r = some z := by
  unfold j_cp at h
  split at h
  · exact ⟨_, _, _, _, _, _, rfl, h⟩
  · cases h
theorem j_ob_some {α : Type} {e : va_E} {K : Nat → List Value → Option α} {z : α} (h : j_ob e K = some z) : ∃ c fs, e = .inr (c, fs) ∧ K c fs = some z := by
  unfold j_ob at h
  split at h
  · exact ⟨_, _, rfl, h⟩
  · cases h
theorem j_aI_some {α : Type} {e : va_E} {K : Nat → Nat → (Nat → Int32) → Option α} {z : α} (h : j_aI e K = some z) : ∃ t y f, e = .inl (t, y, .inl f) ∧ K t y f = some z := by
  unfold j_aI at h
  split at h
  · exact ⟨_, _, _, rfl, h⟩
  · cases h
theorem j_aE_some {α : Type} {e : va_E} {K : Nat → Nat → (Nat → Int32) → Option α} {y : Option α} {w : α} (h : j_aE e K y = some w) : (∃ t n f, e = .inl (t, n, .inl f) ∧ K t n f = some w) ∨ y = some w := by
  unfold j_aE at h
  split at h
  · exact Or.inl ⟨_, _, _, rfl, h⟩
  · exact Or.inr h
theorem j_aJ_some {α : Type} {e : va_E} {K : Nat → Nat → (Nat → Int64) → Option α} {z : α} (h : j_aJ e K = some z) : ∃ t y f, e = .inl (t, y, .inr (.inl f)) ∧ K t y f = some z := by
  unfold j_aJ at h
  split at h
  · exact ⟨_, _, _, rfl, h⟩
  · cases h
theorem j_aQ_some {α : Type} {e : va_E} {K : Nat → Nat → (Nat → Option Nat) → Option α} {z : α} (h : j_aQ e K = some z) : ∃ t y f, e = .inl (t, y, .inr (.inr (.inr (.inr f)))) ∧ K t y f = some z := by
  unfold j_aQ at h
  split at h
  · exact ⟨_, _, _, rfl, h⟩
  · cases h
theorem j_gI_some {α : Type} {ls : jL} {k : Nat} {K : Int32 → Option α} {z : α} (h : j_gI ls k K = some z) : ∃ x, ls[k]? = some (some (.int x)) ∧ K x = some z := by
  unfold j_gI at h
  split at h
  · exact ⟨_, by assumption, h⟩
  · cases h
theorem j_gJ_some {α : Type} {ls : jL} {k : Nat} {K : Int64 → Option α} {z : α} (h : j_gJ ls k K = some z) : ∃ x, ls[k]? = some (some (.long x)) ∧ K x = some z := by
  unfold j_gJ at h
  split at h
  · exact ⟨_, by assumption, h⟩
  · cases h
theorem j_gD_some {α : Type} {ls : jL} {k : Nat} {K : UInt64 → Option α} {z : α} (h : j_gD ls k K = some z) : ∃ x, ls[k]? = some (some (.double x)) ∧ K x = some z := by
  unfold j_gD at h
  split at h
  · exact ⟨_, by assumption, h⟩
  · cases h
theorem j_gR_some {α : Type} {ls : jL} {k : Nat} {K : Nat → Option α} {z : α} (h : j_gR ls k K = some z) : ∃ x, ls[k]? = some (some (.ref x)) ∧ K x = some z := by
  unfold j_gR at h
  split at h
  · exact ⟨_, by assumption, h⟩
  · cases h
theorem j_s1_some {α : Type} {ls : jL} {k : Nat} {v : Option Value} {K : jL → Option α} {z : α} (h : j_s1 ls k v K = some z) : k < ls.length ∧ j_ok1 ls k = true ∧ K (ls.set k v) = some z := by
  unfold j_s1 at h
  split at h
  · rename_i q; exact ⟨q.1, q.2, h⟩
  · cases h
theorem j_s2_some {α : Type} {ls : jL} {k : Nat} {v : Value} {K : jL → Option α} {z : α} (h : j_s2 ls k v K = some z) : k + 1 < ls.length ∧ j_ok1 ls k = true ∧ K ((ls.set k (some v)).set (k + 1) none) = some z := by
  unfold j_s2 at h
  split at h
  · rename_i q; exact ⟨q.1, q.2, h⟩
  · cases h
-- locals
def j_lv (ad : Nat → Nat) (L : jL) : List (Nat × Value) := (List.range L.length).filterMap fun i => match L[i]? with
  | some (some v) => some (i, j_cv ad v)
  | _ => none
theorem j_lv_mem {ad : Nat → Nat} {L : jL} {q : Nat × Value} : q ∈ j_lv ad L ↔ ∃ v, L[q.1]? = some (some v) ∧ q.2 = j_cv ad v := by
  unfold j_lv
  rw [List.mem_filterMap]
  constructor
  · rintro ⟨i, hi, h⟩
    split at h
    · rename_i v hv
      cases h
      exact ⟨v, hv, rfl⟩
    · cases h
  · rintro ⟨v, hv, h2⟩
    refine ⟨q.1, List.mem_range.mpr (List.getElem?_eq_some_iff.mp hv).1, ?_⟩
    rw [hv]
    obtain ⟨a, c⟩ := q
    cases h2
    rfl
def j_LH (ad : Nat → Nat) (ls : Array Slot) (L : jL) : Prop := lv_has ls L.length (j_lv ad L)
theorem j_LH.at {ad : Nat → Nat} {ls : Array Slot} {L : jL} (h : j_LH ad ls L) {k : Nat} {v : Value} (hk : L[k]? = some (some v)) : ls[k]? = some (.val (j_cv ad v)) := h.2.2 (k, j_cv ad v) (j_lv_mem.mpr ⟨v, hk, rfl⟩)
theorem j_cv_cat (ad : Nat → Nat) (v : Value) : (j_cv ad v).category = v.category := by cases v <;> rfl
/-- behind a store of one slot -/
theorem j_LH.set1 {ad : Nat → Nat} {ls : Array Slot} {L : jL} {k : Nat} {w : Value} {o : Option Value} (ho : ∀ v, o = some v → w = j_cv ad v) (hk : k < L.length) (ho1 : j_ok1 L k = true)
    (h : lv_has ls L.length ((k, w) :: (j_lv ad L).filter (fun q => !(q.1 == k) && !(q.1 + 1 == k && q.2.category == 2)))) : j_LH ad ls (L.set k o) := by
  refine ⟨by rw [List.length_set]; exact h.1, h.2.1, fun q hq => h.2.2 q ?_⟩
  obtain ⟨v, hv, h2⟩ := j_lv_mem.mp hq
  obtain ⟨i, c⟩ := q
  dsimp only at hv h2
  by_cases hi : i = k
  · subst hi
    rw [List.getElem?_set_self hk] at hv
    have hv := Option.some.inj hv
    rw [h2, ← ho v hv]
    exact List.mem_cons_self
  · rw [List.getElem?_set_ne (Ne.symm hi)] at hv
    refine List.mem_cons_of_mem _ (List.mem_filter.mpr ⟨j_lv_mem.mpr ⟨v, hv, h2⟩, ?_⟩)
    have n1 : (i == k) = false := by simpa using hi
    have n2 : (i + 1 == k && c.category == 2) = false := by
      by_cases hik : i + 1 = k
      · subst hik
        have : v.category = 1 := by
          unfold j_ok1 at ho1; dsimp only at ho1
          rw [hv] at ho1
          simpa [j_one] using ho1
        rw [h2, j_cv_cat, this]
        simp
      · have : (i + 1 == k) = false := by simpa using hik
        rw [this]; rfl
    simp [n1, n2]
theorem j_LH.set2 {ad : Nat → Nat} {ls : Array Slot} {L : jL} {k : Nat} {v : Value} (hk : k + 1 < L.length) (ho1 : j_ok1 L k = true)
    (h : lv_has ls L.length ((k, j_cv ad v) :: (j_lv ad L).filter (fun q => !(q.1 == k) && (!(q.1 == k + 1) && !(q.1 + 1 == k && q.2.category == 2))))) : j_LH ad ls ((L.set k (some v)).set (k + 1) none) := by
  refine ⟨by rw [List.length_set, List.length_set]; exact h.1, h.2.1, fun q hq => h.2.2 q ?_⟩
  obtain ⟨u, hv, h2⟩ := j_lv_mem.mp hq
  obtain ⟨i, c⟩ := q
  dsimp only at hv h2
  by_cases hi1 : i = k + 1
  · subst hi1
    rw [List.getElem?_set_self (by rw [List.length_set]; exact hk)] at hv
    cases hv
  · rw [List.getElem?_set_ne (Ne.symm hi1)] at hv
    by_cases hi : i = k
    · subst hi
      rw [List.getElem?_set_self (by omega)] at hv
      cases hv
      rw [h2]
      exact List.mem_cons_self
    · rw [List.getElem?_set_ne (Ne.symm hi)] at hv
      refine List.mem_cons_of_mem _ (List.mem_filter.mpr ⟨j_lv_mem.mpr ⟨u, hv, h2⟩, ?_⟩)
      have n1 : (i == k) = false := by simpa using hi
      have n3 : (i == k + 1) = false := by simpa using hi1
      have n2 : (i + 1 == k && c.category == 2) = false := by
        by_cases hik : i + 1 = k
        · subst hik
          have : u.category = 1 := by
            unfold j_ok1 at ho1; dsimp only at ho1
            rw [hv] at ho1
            simpa [j_one] using ho1
          rw [h2, j_cv_cat, this]
          simp
        · have : (i + 1 == k) = false := by simpa using hik
          rw [this]; rfl
      simp [n1, n2, n3]
-- lookups
theorem j_fl_ok {ci idx : Nat} {f : Nat × Nat} (h : j_fl ci idx = some f) : f.1 < 5 ∧ f.2 < j_nf f.1 ∧ Cond.fieldLink (j_cn ci) idx (j_T f.1 f.2).1 (j_T f.1 f.2).2.1 (j_T f.1 f.2).2.2.1 ∈ j_gws := by
  unfold j_fl at h
  obtain ⟨t, ht, rfl⟩ := Option.map_eq_some_iff.mp h
  have hm := List.mem_of_find?_eq_some ht
  have hp := List.find?_some ht
  simp only [Bool.and_eq_true, beq_iff_eq] at hp
  obtain ⟨rfl, rfl⟩ := hp
  have h1 := List.all_eq_true.mp j_okF_all t hm
  simp only [Bool.and_eq_true, decide_eq_true_eq] at h1
  exact ⟨h1.1, h1.2, j_fF_i t hm _ List.mem_cons_self⟩
theorem j_ki_ok {ci idx : Nat} {x : Int32} (h : j_ki ci idx = some x) : Cond.constant (j_cn ci) idx x ∈ j_gws := by
  unfold j_ki at h
  obtain ⟨t, ht, rfl⟩ := Option.map_eq_some_iff.mp h
  have hm := List.mem_of_find?_eq_some ht
  have hp := List.find?_some ht
  simp only [Bool.and_eq_true, beq_iff_eq] at hp
  obtain ⟨rfl, rfl⟩ := hp
  exact j_fKI_i t hm _ List.mem_cons_self
theorem j_kj_ok {ci idx : Nat} {x : Int64} (h : j_kj ci idx = some x) : Cond.constantLong (j_cn ci) idx x ∈ j_gws := by
  unfold j_kj at h
  obtain ⟨t, ht, rfl⟩ := Option.map_eq_some_iff.mp h
  have hm := List.mem_of_find?_eq_some ht
  have hp := List.find?_some ht
  simp only [Bool.and_eq_true, beq_iff_eq] at hp
  obtain ⟨rfl, rfl⟩ := hp
  exact j_fKJ_i t hm _ List.mem_cons_self
theorem j_ol_ok {ci idx k : Nat} (h : j_ol ci idx = some k) : k < 5 ∧ ∀ w ∈ ([.classLink (j_cn ci) idx (j_cn k), .instantiable (j_cn k) (j_nf k), .initialized (j_cn k)] : List Cond), w ∈ j_gws := by
  unfold j_ol at h
  obtain ⟨t, ht, rfl⟩ := Option.map_eq_some_iff.mp h
  have hm := List.mem_of_find?_eq_some ht
  have hp := List.find?_some ht
  simp only [Bool.and_eq_true, beq_iff_eq] at hp
  obtain ⟨rfl, rfl⟩ := hp
  have h1 := List.all_eq_true.mp j_okO_all t hm
  simp only [decide_eq_true_eq] at h1
  exact ⟨h1, j_fO_i t hm⟩
theorem j_kl_ok {ci idx : Nat} {nm : String} (h : j_kl ci idx = some nm) : Cond.classLink (j_cn ci) idx nm ∈ j_gws := by
  unfold j_kl at h
  obtain ⟨t, ht, rfl⟩ := Option.map_eq_some_iff.mp h
  have hm := List.mem_of_find?_eq_some ht
  have hp := List.find?_some ht
  simp only [Bool.and_eq_true, beq_iff_eq] at hp
  obtain ⟨rfl, rfl⟩ := hp
  exact j_fK_i t hm _ List.mem_cons_self
theorem j_tl_ok {ci idx : Nat} {E : String} {ic : Nat} (h : j_tl ci idx = some (E, ic)) : (ci, idx, E, ic) ∈ j_tlT ∧ Bundle.fit E = true ∧ Cond.classLink (j_cn ci) idx E ∈ j_gws ∧ Cond.initialized E ∈ j_gws := by
  unfold j_tl at h
  obtain ⟨t, ht, h2⟩ := Option.map_eq_some_iff.mp h
  have hm := List.mem_of_find?_eq_some ht
  have hp := List.find?_some ht
  simp only [Bool.and_eq_true, beq_iff_eq] at hp
  obtain ⟨a, b, E', ic'⟩ := t
  obtain ⟨rfl, rfl⟩ := hp
  cases h2
  have h1 := List.all_eq_true.mp j_okT_all _ hm
  exact ⟨hm, h1, j_fT_i _ hm _ List.mem_cons_self, j_fT_i _ hm _ (List.mem_cons_of_mem _ List.mem_cons_self)⟩
theorem j_sr_ok {ci idx : Nat} {tx : String} (h : j_sr ci idx = some tx) : (ci, idx, tx) ∈ j_srT := by
  unfold j_sr at h
  obtain ⟨t, ht, rfl⟩ := Option.map_eq_some_iff.mp h
  have hm := List.mem_of_find?_eq_some ht
  have hp := List.find?_some ht
  simp only [Bool.and_eq_true, beq_iff_eq] at hp
  obtain ⟨rfl, rfl⟩ := hp
  exact hm
theorem j_cl_ok {ci idx kd t : Nat} (h : j_cl ci idx = some (kd, t)) : (ci, idx, kd, t) ∈ j_clT := by
  unfold j_cl at h
  obtain ⟨q, ht, h2⟩ := Option.map_eq_some_iff.mp h
  have hm := List.mem_of_find?_eq_some ht
  have hp := List.find?_some ht
  simp only [Bool.and_eq_true, beq_iff_eq] at hp
  obtain ⟨a, b, c, d⟩ := q
  obtain ⟨rfl, rfl⟩ := hp
  cases h2
  exact hm
theorem j_inG : ∀ k, k < 5 → ∀ w ∈ u_ws (j_cn k) (j_T k) (j_nf k), w ∈ j_gws := by
  have h : ∀ k, k < 5 → (u_ws (j_cn k) (j_T k) (j_nf k)).all (fun w => decide (w ∈ tables_1) && goodWord w) = true := by decide +kernel
  intro k hk w hw
  have h1 := List.all_eq_true.mp (h k hk) w hw
  simp only [Bool.and_eq_true, decide_eq_true_eq] at h1
  exact List.mem_filter.mpr ⟨List.mem_append_right _ h1.1, h1.2⟩
theorem j_tyG : ∀ k, k < 5 → ∀ j, j < j_nf k → parseFieldDescriptor (j_T k j).2.2.1 = some (j_ty k j) := by
  intro k hk
  rcases (show k = 0 ∨ k = 1 ∨ k = 2 ∨ k = 3 ∨ k = 4 by omega) with rfl | rfl | rfl | rfl | rfl
  · exact tyX0_ok
  · exact tyX1_ok
  · exact tyX2_ok
  · exact tyX3_ok
  · exact tyX4_ok
theorem j_nmG : ∀ k, k < 5 → ∀ a, a < j_nf k → ∀ b, b < j_nf k → a ≠ b → (j_T k a).2.1 ≠ (j_T k b).2.1 := by
  intro k hk
  rcases (show k = 0 ∨ k = 1 ∨ k = 2 ∨ k = 3 ∨ k = 4 by omega) with rfl | rfl | rfl | rfl | rfl
  · exact nmX0
  · exact nmX1
  · exact nmX2
  · exact nmX3
  · exact nmX4
theorem j_dcl : ∀ k, k < 5 → ∀ j, j < j_nf k → (j_T k j).1 = j_cn k := by decide +kernel
