/-! one call of each: the class's and the reference's answers are the same -/
def isW (M : jM) (v : rw_) (cnt : Nat) (u : Nat → rw_) (ln : Nat) (tx : Nat → Nat) (th B : Nat) : Prop := isO M v cnt u ln tx ∧ isM M v cnt u ln tx th ∧ (∃ F : Nat → Int64, M 76 = .inl (3, 1, .inr (.inl F))) ∧ M 1000000 = j_nil ∧ okV v B ∧ (∀ k, k < cnt → okV (u k) B) ∧ ∀ j, j < ln → tx j < 128
/-- after a throw, or not -/
def jG (e : Bool) (h : jH) : jH := if e then j_thr h else h
theorem jG_f (h : jH) : jG false h = h := rfl
theorem jG_t (h : jH) : jG true h = j_thr h := rfl
theorem j_addG (e : Bool) (h : jH) : j_add h (jG e (j_h0 h)) = jG e h := by
  cases e
  · exact j_add0 h
  · exact j_addt h
theorem lg_self (x : Int64) : lg_cmp x x = zN 0 := (lg_cmp_eq x x).mpr rfl
theorem q_eq_self {X : jX} {d i p1 p2 : Nat} {LS : jL} {ST : List Value} {M : jM} {h : jH} (x : Int32) : q_eq X x x d i p1 p2 LS ST M h = Rn X d i p1 LS ST M h := if_pos rfl
def oneS (X : jX) (d : Nat) (M : jM) (h : jH) (w : Nat) (LW : jL) (m : Nat) (LM : jL) (B : Nat) : Prop := ∃ (k : Nat) (b : Int32) (M1 M2 : jM) (e : Bool) (v' : rw_) (cnt' : Nat) (u' : Nat → rw_) (ln' : Nat) (tx' : Nat → Nat), k < 3 ∧ Rn X (d + 11) w 0 LW [] M (j_h0 h) = some (.inl (some (.int (zN k))), M1, jG e (j_h0 h)) ∧ (∃ fs, M1 70 = .inr (5, fs)) ∧ M1 1000000 = j_nil ∧ Rn X (d + 11) m 0 LM [] M1 (j_h0 (jG e h)) = some (.inl (some (.int b)), M2, j_h0 (jG e h)) ∧ isW M2 v' cnt' u' ln' tx' k (B + 100) ∧ (k = 0 → ∃ F : Nat → Int64, M2 76 = .inl (3, 1, .inr (.inl F)) ∧ F 0 = b.toInt64)
def oneD (X : jX) (d : Nat) (M : jM) (h : jH) (c : Nat) (LC : jL) (m : Nat) (LM : jL) (B : Nat) (b : Value) : Prop := ∃ (M1 M2 : jM) (v' : rw_) (cnt' : Nat) (u' : Nat → rw_) (ln' : Nat) (tx' : Nat → Nat), (∃ fs, M 0 = .inr (4, fs)) ∧ Rn X (d + 11) c 0 LC [] M (j_h0 h) = some (.inl (some b), M1, j_h0 h) ∧ (∃ fs, M1 70 = .inr (5, fs)) ∧ Rn X (d + 11) m 0 LM [] M1 (j_h0 h) = some (.inl (some b), M2, j_h0 h) ∧ isW M2 v' cnt' u' ln' tx' 0 (B + 100)
section
variable {X : jX} {d : Nat} {M M' M1 : jM} {h : jH} {v v' : rw_} {cnt cnt' ln ln' B th : Nat} {u u' : Nat → rw_} {tx tx' : Nat → Nat}
theorem fr_M (hM : isM M v cnt u ln tx th) (hf : ∀ a, 70 ≤ a → a < 76 → M1 a = M a) : isM M1 v cnt u ln tx th := by
  obtain ⟨⟨an, x, fa, le, fi, se, am, hs, h0⟩, ⟨N, h1, k1⟩, ⟨K, h2, k2⟩, ⟨A, h3⟩, ⟨T, h4, k4⟩, ⟨H, h5⟩, h6, h7⟩ := hM
  refine ⟨⟨an, x, fa, le, fi, se, am, hs, ?_⟩, ⟨N, ?_, k1⟩, ⟨K, ?_, k2⟩, ⟨A, ?_⟩, ⟨T, ?_, k4⟩, ⟨H, ?_⟩, h6, h7⟩
  · rw [hf _ (by omega) (by omega), h0]
  · rw [hf _ (by omega) (by omega), h1]
  · rw [hf _ (by omega) (by omega), h2]
  · rw [hf _ (by omega) (by omega), h3]
  · rw [hf _ (by omega) (by omega), h4]
  · rw [hf _ (by omega) (by omega), h5]
theorem fr_O (hO : isO M v cnt u ln tx) (hf : ∀ a, a < 70 → M1 a = M a) : isO M1 v cnt u ln tx :=
  isO_of hO (isJ_fr hO.1 fun a q => hf a (by omega)) fun a l1 l2 => hf a (by omega)
theorem ok_sv (hv : okV v B) (hu : ∀ k, k < cnt → okV (u k) B) (hc : cnt ≤ 4) : ∀ k, k < svC cnt → okV (svU u cnt v k) (B + 100) := by
  intro k hk
  unfold svC at hk
  unfold svU
  by_cases q : cnt < 4
  · rw [if_pos q] at hk ⊢
    by_cases e : k = cnt
    · rw [e, va_up_self]
      exact okV_w hv (by omega)
    · rw [va_up_ne _ _ e]
      exact okV_w (hu k (by omega)) (by omega)
  · rw [if_neg q] at hk ⊢
    by_cases e : k < 3
    · rw [if_pos e]
      exact okV_w (hu (k + 1) (by omega)) (by omega)
    · rw [if_neg e]
      exact okV_w hv (by omega)
theorem isO_4 (hO : isO M v cnt u ln tx) : cnt ≤ 4 := by
  obtain ⟨⟨tau, S, a0, a1, a2, a3, a4, a5, a6⟩, -⟩ := hO
  exact a6
theorem one_v {w m : Nat} {LW LM : jL} {y : Int32} (hW : isW M v cnt u ln tx th B)
    (hw : ∀ (f0 : List Value) (F : Nat → Int64), M 0 = .inr (4, f0) → M' 76 = .inl (3, 1, .inr (.inl F)) → Rn X (d + 11) w 0 LW [] M (j_h0 h) = some (.inl (some (.int (zN 0))), va_up M' 76 (.inl (3, 1, .inr (.inl (va_up F 0 y.toInt64)))), j_h0 h))
    (hO : isO M' v' cnt' u' ln' tx') (s1 : sm M M' 0 70)
    (hm : ∀ M1, isM M1 v cnt u ln tx th → ∃ M2, Rn X (d + 11) m 0 LM [] M1 (j_h0 h) = some (.inl (some (.int y)), M2, j_h0 h) ∧ isM M2 v' cnt' u' ln' tx' 0 ∧ sm M1 M2 70 76)
    (hv : okV v' (B + 100)) (hu : ∀ k, k < cnt' → okV (u' k) (B + 100)) (ht : ∀ j, j < ln' → tx' j < 128) : oneS X d M h w LW m LM B := by
  obtain ⟨gO, gM, ⟨F, h76⟩, hn, -⟩ := hW
  have e76 := (s1 76 (by omega)).trans h76
  have ew := hw _ F (isJ_0 gO.1) e76
  have J1 : isM (va_up M' 76 (.inl (3, 1, .inr (.inl (va_up F 0 y.toInt64))))) v cnt u ln tx th := fr_M gM fun a l1 l2 => by rw [va_up_ne _ _ (by omega), s1 a (by omega)]
  obtain ⟨M2, em, J2, s2⟩ := hm _ J1
  obtain ⟨fs, i5⟩ := isM_5 J1
  have f76 : M2 76 = .inl (3, 1, .inr (.inl (va_up F 0 y.toInt64))) := by rw [s2 76 (by omega), va_up_self]
  refine ⟨0, y, _, M2, false, v', cnt', u', ln', tx', by omega, ew, ⟨fs, i5⟩, ?_, em, ⟨?_, J2, ⟨_, f76⟩, ?_, hv, hu, ht⟩, fun _ => ⟨_, f76, va_up_self _ _ _⟩⟩
  · rw [va_up_ne _ _ (by omega), s1 _ (by omega), hn]
  · exact fr_O hO fun a l => by rw [s2 a (by omega), va_up_ne _ _ (by omega)]
  · rw [s2 _ (by omega), va_up_ne _ _ (by omega), s1 _ (by omega), hn]
theorem one_x {w m k : Nat} {LW LM : jL} (hW : isW M v cnt u ln tx th B) (ew : Rn X (d + 11) w 0 LW [] M (j_h0 h) = some (.inl (some (.int (zN k))), M, j_thr (j_h0 h))) (h1 : 1 ≤ k) (h2 : k < 3)
    (hm : ∃ M2, Rn X (d + 11) m 0 LM [] M (j_h0 (j_thr h)) = some (.inl (some (.int (zN 0))), M2, j_h0 (j_thr h)) ∧ isM M2 v cnt u ln tx k ∧ sm M M2 70 76) : oneS X d M h w LW m LM B := by
  obtain ⟨gO, gM, ⟨F, h76⟩, hn, hv, hu, ht⟩ := hW
  obtain ⟨M2, em, J2, s2⟩ := hm
  refine ⟨k, zN 0, M, M2, true, v, cnt, u, ln, tx, h2, ew, isM_5 gM, hn, em, ⟨?_, J2, ⟨F, ?_⟩, ?_, okV_w hv (by omega), fun k hk => okV_w (hu k hk) (by omega), ht⟩, fun q => by omega⟩
  · exact fr_O gO fun a l => s2 a (by omega)
  · rw [s2 _ (by omega), h76]
  · rw [s2 _ (by omega), hn]
theorem one_d {c m : Nat} {LC LM : jL} {b : Value} (hW : isW M v cnt u ln tx th B) (ec : Rn X (d + 11) c 0 LC [] M (j_h0 h) = some (.inl (some b), M', j_h0 h)) (hO : isO M' v' cnt' u' ln' tx') (s1 : sm M M' 0 70)
    (hm : ∀ M1, isM M1 v cnt u ln tx th → ∃ M2, Rn X (d + 11) m 0 LM [] M1 (j_h0 h) = some (.inl (some b), M2, j_h0 h) ∧ isM M2 v' cnt' u' ln' tx' 0 ∧ sm M1 M2 70 76)
    (hv : okV v' (B + 100)) (hu : ∀ k, k < cnt' → okV (u' k) (B + 100)) (ht : ∀ j, j < ln' → tx' j < 128) : oneD X d M h c LC m LM B b := by
  obtain ⟨gO, gM, ⟨F, h76⟩, hn, -⟩ := hW
  have J1 : isM M' v cnt u ln tx th := fr_M gM fun a l1 l2 => s1 a (by omega)
  obtain ⟨M2, em, J2, s2⟩ := hm _ J1
  refine ⟨M', M2, v', cnt', u', ln', tx', ⟨_, isJ_0 gO.1⟩, ec, isM_5 J1, em, ?_, J2, ⟨F, ?_⟩, ?_, hv, hu, ht⟩
  · exact fr_O hO fun a l => s2 a (by omega)
  · rw [s2 _ (by omega), s1 _ (by omega), h76]
  · rw [s2 _ (by omega), s1 _ (by omega), hn]
theorem one_0 {x1 : Int32} (hW : isW M v cnt u ln tx th B) (hB : B + 100 < 1000000000) : oneS X d M h 171 [some (.ref 0), some (.int x1), some (.ref 76), none] 126 [some (.ref 70), some (.int x1), none] B := by
  obtain ⟨hO, hM, -, hn, hv, hu, ht⟩ := id hW
  obtain ⟨k, l1, l2, rfl⟩ | hx := rng x1 4 32
  · obtain ⟨M', e, O', s⟩ := o_begin (X := X) (d := d + 3) (h := j_h0 (j_h0 h)) hO hv (by omega) l1 l2
    exact one_v hW (fun f0 F i0 m => wv_171 i0 e m) O' s (fun M1 J => m_begin (d := d + 4) J hv l1 l2) (okV_w (ok_fresh l1 l2) (by omega)) (ok_sv hv hu (isO_4 hO)) ht
  · exact one_x hW (wx_171_A (isJ_0 hO.1) (x62_a (d := d + 3) hx)) (by omega) (by omega) (m_begin_x (d := d + 4) hM hx)
theorem one_1 {x1 x2 x3 x4 : Int32} (hW : isW M v cnt u ln tx th B) (hB : B + 100 < 1000000000) : oneS X d M h 172 [some (.ref 0), some (.int x1), some (.int x2), some (.int x3), some (.int x4), some (.ref 76), none] 127 [some (.ref 70), some (.int x1), some (.int x2), some (.int x3), some (.int x4)] B := by
  obtain ⟨hO, hM, -, hn, hv, hu, ht⟩ := id hW
  by_cases ho : isOrd x1 x2 x3 x4
  · obtain ⟨k, a, b, n, rfl, rfl, rfl, rfl, l1, l2, l3, l4, l5, l6⟩ := ho
    by_cases hf : v 2 - v 1 < v 0
    · obtain ⟨M', e, O', s⟩ := o_write (X := X) (d := d + 3) (h := j_h0 (j_h0 h)) hO hv (by omega) l1 l2 l3 l4 l5 l6 hf
      exact one_v hW (fun f0 F i0 m => wv_172 i0 e m) O' s (fun M1 J => m_write (d := d + 4) J hv (by omega) l1 l2 l3 l4 l5 l6 hf) (okV_w (ok_wr hv l1 l2 l3 l4 l5 l6 hf) (by omega)) (ok_sv hv hu (isO_4 hO)) ht
    · exact one_x hW (wx_172_S (isJ_0 hO.1) (x63_f (d := d + 3) hO hv (by omega) l1 l2 l3 l4 l5 l6 (by omega))) (by omega) (by omega) (m_write_f (d := d + 4) hM hv (by omega) l1 l2 l3 l4 l5 l6 (by omega))
  · exact one_x hW (wx_172_A (isJ_0 hO.1) (x63_a (d := d + 3) ho)) (by omega) (by omega) (m_write_x (d := d + 4) hM ho)
/-- a kept position, or none -/
theorem kpt (v : rw_) (p : Int32) : (∃ k, v 1 ≤ k ∧ k < v 2 ∧ p = zN k) ∨ ∀ k, v 1 ≤ k → k < v 2 → p ≠ zN k := by
  by_cases q : ∃ k, v 1 ≤ k ∧ k < v 2 ∧ p = zN k
  · exact Or.inl q
  · exact Or.inr fun k h1 h2 e => q ⟨k, h1, h2, e⟩
theorem one_2 {x1 x2 : Int32} (hW : isW M v cnt u ln tx th B) (hB : B + 100 < 1000000000) : oneS X d M h 173 [some (.ref 0), some (.int x1), some (.int x2), some (.ref 76), none] 129 [some (.ref 70), some (.int x1), some (.int x2)] B := by
  obtain ⟨hO, hM, -, hn, hv, hu, ht⟩ := id hW
  obtain ⟨p, l1, l2, rfl⟩ | hp := kpt v x1
  · obtain ⟨c, l3, l4, rfl⟩ | hc := rng x2 0 1
    · obtain ⟨M', e, O', s⟩ := o_spoil (X := X) (d := d + 3) (h := j_h0 (j_h0 h)) (c := c) hO hv (by omega) l1 l2 (by omega)
      exact one_v hW (fun f0 F i0 m => wv_173 i0 e m) O' s (fun M1 J => m_spoil (d := d + 4) J hv (by omega) l1 l2 (by omega)) (okV_w (ok_sp hv l1 l2 (by omega)) (by omega)) (ok_sv hv hu (isO_4 hO)) ht
    · exact one_x hW (wx_173_A (isJ_0 hO.1) (x64_a (d := d + 3) hO hv (by omega) l1 l2 hc)) (by omega) (by omega) (m_spoil_a (d := d + 4) hM hv (by omega) l1 l2 hc)
  · exact one_x hW (wx_173_B (isJ_0 hO.1) (x64_k (d := d + 3) hO hv (by omega) hp)) (by omega) (by omega) (m_spoil_k (d := d + 4) hM hv (by omega) hp)
theorem one_4 {x1 x2 : Int32} (hW : isW M v cnt u ln tx th B) (hB : B + 100 < 1000000000) : oneS X d M h 174 [some (.ref 0), some (.int x1), some (.int x2), some (.ref 76), none] 132 [some (.ref 70), some (.int x1), some (.int x2)] B := by
  obtain ⟨hO, hM, -, hn, hv, hu, ht⟩ := id hW
  obtain ⟨s, l1, l2, rfl⟩ | hs := rng x1 0 1
  · obtain ⟨n, l3, l4, rfl⟩ | hc := rng x2 1 99
    · obtain ⟨M', e, O', s'⟩ := o_replay (X := X) (d := d + 3) (h := j_h0 (j_h0 h)) hO hv (by omega) (show s < 2 by omega) l3 l4
      exact one_v hW (fun f0 F i0 m => wv_174 i0 e m) O' s' (fun M1 J => m_replay (d := d + 4) J hv (by omega) (by omega) l3 l4) (okV_w (ok_rp (by omega) hv (Nat.min_le_right _ _)) (by omega)) (ok_sv hv hu (isO_4 hO)) ht
    · exact one_x hW (wx_174_A (isJ_0 hO.1) (x66_a (d := d + 3) (by omega) hc)) (by omega) (by omega) (m_replay_a (d := d + 4) hM (by omega) hc)
  · exact one_x hW (wx_174_B (isJ_0 hO.1) (x66_s (d := d + 3) hs)) (by omega) (by omega) (m_replay_s (d := d + 4) hM hs)
theorem one_5 {x1 : Int32} (hW : isW M v cnt u ln tx th B) (hB : B + 100 < 1000000000) : oneS X d M h 175 [some (.ref 0), some (.int x1), some (.ref 76), none] 133 [some (.ref 70), some (.int x1)] B := by
  obtain ⟨hO, hM, -, hn, hv, hu, ht⟩ := id hW
  obtain ⟨s, l1, l2, rfl⟩ | hs := rng x1 0 1
  · by_cases hu1 : v (164 + 21 * s + 1) = 1
    · obtain ⟨M', e, O', s'⟩ := o_snap (X := X) (d := d + 3) (h := j_h0 (j_h0 h)) hO hv (by omega) (show s < 2 by omega) hu1
      exact one_v hW (fun f0 F i0 m => wv_175 i0 e m) O' s' (fun M1 J => m_snap (d := d + 4) J hv (by omega) (by omega) hu1) (okV_w (ok_sn (by omega) hv) (by omega)) (ok_sv hv hu (isO_4 hO)) ht
    · have u2 := (okV_s hv (show s < 2 by omega)).2.2.2.1
      exact one_x hW (wx_175_S (isJ_0 hO.1) (x67_d (d := d + 3) hO (by omega) (by omega))) (by omega) (by omega) (m_snap_d (d := d + 4) hM (by omega) (by omega))
  · exact one_x hW (wx_175_B (isJ_0 hO.1) (x67_s (d := d + 3) hs)) (by omega) (by omega) (m_snap_s (d := d + 4) hM hs)
theorem one_6 {x1 : Int32} (hW : isW M v cnt u ln tx th B) (hB : B + 100 < 1000000000) : oneS X d M h 176 [some (.ref 0), some (.int x1), some (.ref 76), none] 134 [some (.ref 70), some (.int x1)] B := by
  obtain ⟨hO, hM, -, hn, hv, hu, ht⟩ := id hW
  obtain ⟨s, l1, l2, rfl⟩ | hs := rng x1 0 1
  · obtain ⟨M', e, O', s'⟩ := o_crash (X := X) (d := d + 3) (h := j_h0 (j_h0 h)) hO hv (by omega) (show s < 2 by omega)
    exact one_v hW (fun f0 F i0 m => wv_176 i0 e m) O' s' (fun M1 J => m_crash (d := d + 4) J hv (by omega)) (okV_w (ok_cr (by omega) hv) (by omega)) (ok_sv hv hu (isO_4 hO)) ht
  · exact one_x hW (wx_176_B (isJ_0 hO.1) (x68_s (d := d + 3) hs)) (by omega) (by omega) (m_crash_s (d := d + 4) hM hs)
theorem one_7 {x1 : Int32} {up : Nat} (hW : isW M v cnt u ln tx th B) (hB : B + 100 < 1000000000) (hup : up < 2) : oneS X d M h 177 [some (.ref 0), some (.int x1), some (.int (zN up)), some (.ref 76), none] 135 [some (.ref 70), some (.int x1), some (.int (zN up)), none] B := by
  obtain ⟨hO, hM, -, hn, hv, hu, ht⟩ := id hW
  obtain ⟨s, l1, l2, rfl⟩ | hs := rng x1 0 1
  · by_cases hu1 : v (164 + 21 * s + 1) = up
    · exact one_x hW (wx_177_S (isJ_0 hO.1) (x69_u (d := d + 3) hO (by omega) hup hu1)) (by omega) (by omega) (m_link_u (d := d + 4) hM (by omega) hup hu1)
    · obtain ⟨M', e, O', s'⟩ := o_link (X := X) (d := d + 3) (h := j_h0 (j_h0 h)) hO hv (by omega) (show s < 2 by omega) hup hu1
      exact one_v hW (fun f0 F i0 m => wv_177 i0 e m) O' s' (fun M1 J => m_link (d := d + 4) J hv (by omega) hup hu1) (okV_w (ok_lk (by omega) hv hup) (by omega)) (ok_sv hv hu (isO_4 hO)) ht
  · exact one_x hW (wx_177_B (isJ_0 hO.1) (x69_s (d := d + 3) hs)) (by omega) (by omega) (m_link_s (d := d + 4) hM hs)
theorem same_w (hv : okV v B) (hu : ∀ k, k < cnt → okV (u k) B) : okV v (B + 100) ∧ ∀ k, k < cnt → okV (u k) (B + 100) := ⟨okV_w hv (by omega), fun k hk => okV_w (hu k hk) (by omega)⟩
theorem one_8 {x1 x2 : Int32} (hW : isW M v cnt u ln tx th B) (hB : B + 100 < 1000000000) : oneS X d M h 178 [some (.ref 0), some (.int x1), some (.int x2), some (.ref 76), none] 137 [some (.ref 70), some (.int x1), some (.int x2)] B := by
  obtain ⟨hO, hM, -, hn, hv, hu, ht⟩ := id hW
  obtain ⟨g1, g2⟩ := same_w hv hu
  obtain ⟨p, l1, l2, rfl⟩ | hp := kpt v x1
  · obtain ⟨c, l3, l4, rfl⟩ | hc := rng x2 0 5
    · have e := o_order (X := X) (d := d + 3) (h := j_h0 (j_h0 h)) (w := c) hO hv (by omega) l1 l2 (by omega)
      exact one_v hW (fun f0 F i0 m => wv_178 i0 e m) hO sm_rfl (fun M1 J => m_order (d := d + 4) J hv (by omega) l1 l2 (by omega)) g1 g2 ht
    · exact one_x hW (wx_178_A (isJ_0 hO.1) (x70_a (d := d + 3) hO hv (by omega) l1 l2 hc)) (by omega) (by omega) (m_order_a (d := d + 4) hM hv (by omega) l1 l2 hc)
  · exact one_x hW (wx_178_B (isJ_0 hO.1) (x70_k (d := d + 3) hO hv (by omega) hp)) (by omega) (by omega) (m_order_k (d := d + 4) hM hv (by omega) hp)
theorem one_9 {x1 x2 : Int32} (hW : isW M v cnt u ln tx th B) (hB : B + 100 < 1000000000) : oneS X d M h 179 [some (.ref 0), some (.int x1), some (.int x2), some (.ref 76), none] 139 [some (.ref 70), some (.int x1), some (.int x2)] B := by
  obtain ⟨hO, hM, -, hn, hv, hu, ht⟩ := id hW
  obtain ⟨g1, g2⟩ := same_w hv hu
  obtain ⟨s, l1, l2, rfl⟩ | hs := rng x1 0 1
  · obtain ⟨c, l3, l4, rfl⟩ | hc := rng x2 0 5
    · have e := o_ship (X := X) (d := d + 3) (h := j_h0 (j_h0 h)) (s := s) (w := c) hO hv (by omega) (by omega) (by omega)
      exact one_v hW (fun f0 F i0 m => wv_179 i0 e m) hO sm_rfl (fun M1 J => m_ship (d := d + 4) J (by omega) (by omega)) g1 g2 ht
    · exact one_x hW (wx_179_A (isJ_0 hO.1) (x71_a (d := d + 3) hO (by omega) hc)) (by omega) (by omega) (m_ship_a (d := d + 4) hM (by omega) hc)
  · exact one_x hW (wx_179_B (isJ_0 hO.1) (x71_s (d := d + 3) hs)) (by omega) (by omega) (m_ship_s (d := d + 4) hM hs)
theorem one_10 {x1 x2 : Int32} (hW : isW M v cnt u ln tx th B) (hB : B + 100 < 1000000000) : oneS X d M h 180 [some (.ref 0), some (.int x1), some (.int x2), some (.ref 76), none] 140 [some (.ref 70), some (.int x1), some (.int x2)] B := by
  obtain ⟨hO, hM, -, hn, hv, hu, ht⟩ := id hW
  obtain ⟨g1, g2⟩ := same_w hv hu
  obtain ⟨s, l1, l2, rfl⟩ | hs := rng x1 0 1
  · obtain ⟨c, l3, l4, rfl⟩ | hc := rng x2 0 7
    · have e := o_hold (X := X) (d := d + 3) (h := j_h0 (j_h0 h)) (s := s) (j := c) hO (by omega) (by omega)
      exact one_v hW (fun f0 F i0 m => wv_180 i0 e m) hO sm_rfl (fun M1 J => m_hold (d := d + 4) J (by omega) (by omega)) g1 g2 ht
    · exact one_x hW (wx_180_B (isJ_0 hO.1) (x72_h (d := d + 3) (by omega) hc)) (by omega) (by omega) (m_hold_h (d := d + 4) hM (by omega) hc)
  · exact one_x hW (wx_180_B (isJ_0 hO.1) (x72_s (d := d + 3) hs)) (by omega) (by omega) (m_hold_s (d := d + 4) hM hs)
theorem one_11 {x1 : Int32} (hW : isW M v cnt u ln tx th B) (hB : B + 100 < 1000000000) : oneS X d M h 181 [some (.ref 0), some (.int x1), some (.ref 76), none] 143 [some (.ref 70), some (.int x1)] B := by
  obtain ⟨hO, hM, -, hn, hv, hu, ht⟩ := id hW
  obtain ⟨g1, g2⟩ := same_w hv hu
  obtain ⟨k, l1, l2, rfl⟩ | hx := rng x1 0 6
  · have e := o_value (X := X) (d := d + 3) (h := j_h0 (j_h0 h)) (w := k) hO hv (by omega) (by omega)
    exact one_v hW (fun f0 F i0 m => wv_181 i0 e m) hO sm_rfl (fun M1 J => m_value (d := d + 4) J hv (by omega) (by omega)) g1 g2 ht
  · exact one_x hW (wx_181_A (isJ_0 hO.1) (x73_a (d := d + 3) hx)) (by omega) (by omega) (m_value_a (d := d + 4) hM hx)
theorem one_12 {x1 : Int32} (hW : isW M v cnt u ln tx th B) (hB : B + 100 < 1000000000) : oneS X d M h 182 [some (.ref 0), some (.int x1), some (.ref 76), none] 144 [some (.ref 70), some (.int x1)] B := by
  obtain ⟨hO, hM, -, hn, hv, hu, ht⟩ := id hW
  obtain ⟨g1, g2⟩ := same_w hv hu
  obtain ⟨s, l1, l2, rfl⟩ | hs := rng x1 0 1
  · have e := o_ahead (X := X) (d := d + 3) (h := j_h0 (j_h0 h)) (s := s) hO hv (by omega) (by omega)
    exact one_v hW (fun f0 F i0 m => wv_182 i0 e m) hO sm_rfl (fun M1 J => m_ahead (d := d + 4) J hv (by omega) (by omega)) g1 g2 ht
  · exact one_x hW (wx_182_B (isJ_0 hO.1) (x74_s (d := d + 3) hs)) (by omega) (by omega) (m_ahead_s (d := d + 4) hM hs)
theorem one_13 {x1 : Int32} (hW : isW M v cnt u ln tx th B) (hB : B + 100 < 1000000000) : oneS X d M h 183 [some (.ref 0), some (.int x1), some (.ref 76), none] 145 [some (.ref 70), some (.int x1)] B := by
  obtain ⟨hO, hM, -, hn, hv, hu, ht⟩ := id hW
  obtain ⟨g1, g2⟩ := same_w hv hu
  obtain ⟨s, l1, l2, rfl⟩ | hs := rng x1 0 1
  · have e := o_stop (X := X) (d := d + 3) (h := j_h0 (j_h0 h)) (s := s) hO hv (by omega) (by omega)
    exact one_v hW (fun f0 F i0 m => wv_183 i0 e m) hO sm_rfl (fun M1 J => m_stop (d := d + 4) J hv (by omega) (by omega)) g1 g2 ht
  · exact one_x hW (wx_183_B (isJ_0 hO.1) (x75_s (d := d + 3) hs)) (by omega) (by omega) (m_stop_s (d := d + 4) hM hs)
theorem one_14 {x1 x2 : Int32} (hW : isW M v cnt u ln tx th B) (hB : B + 100 < 1000000000) : oneS X d M h 184 [some (.ref 0), some (.int x1), some (.int x2), some (.ref 76), none] 150 [some (.ref 70), some (.int x1), some (.int x2)] B := by
  obtain ⟨hO, hM, -, hn, hv, hu, ht⟩ := id hW
  obtain ⟨g1, g2⟩ := same_w hv hu
  obtain ⟨j, l3, l4, rfl⟩ | hc := rng x2 0 7
  · obtain ⟨p, l1, rfl⟩ | ⟨p, l1, rfl⟩ := i_cases x1
    · obtain ⟨F', e⟩ := o_tons (X := X) (d := d + 3) (h := j_h0 (j_h0 h)) (j := j) hO hv (by omega) l1 (by omega)
      exact one_v hW (fun f0 F i0 m => wv_184 i0 e m) (isO_17 hO) (fun a q => va_up_ne _ _ (by omega)) (fun M1 J => m_tons (d := d + 4) J hv (by omega) l1 (by omega)) g1 g2 ht
    · have e := o_tons_m (X := X) (d := d + 3) (h := j_h0 (j_h0 h)) (j := j) hO hv (by omega) l1 (by omega)
      exact one_v hW (fun f0 F i0 m => wv_184 i0 e m) hO sm_rfl (fun M1 J => m_tons_m (d := d + 4) J hv (by omega) l1 (by omega)) g1 g2 ht
  · exact one_x hW (wx_184_B (isJ_0 hO.1) (x76_h (d := d + 3) hc)) (by omega) (by omega) (m_tons_h (d := d + 4) hM hc)
theorem one_16 {x1 : Int32} (hW : isW M v cnt u ln tx th B) (hB : B + 100 < 1000000000) : oneS X d M h 185 [some (.ref 0), some (.int x1), some (.ref 76), none] 153 [some (.ref 70), some (.int x1), none, none] B := by
  obtain ⟨hO, hM, -, hn, hv, hu, ht⟩ := id hW
  obtain ⟨g1, g2⟩ := same_w hv hu
  obtain ⟨s, l1, l2, rfl⟩ | hs := rng x1 0 1
  · have e := o_room (X := X) (d := d + 3) (h := j_h0 (j_h0 h)) (s := s) hO hv (by omega) (by omega)
    exact one_v hW (fun f0 F i0 m => wv_185 i0 e m) hO sm_rfl (fun M1 J => m_room (d := d + 4) J hv (by omega) (by omega)) g1 g2 ht
  · exact one_x hW (wx_185_B (isJ_0 hO.1) (x78_s (d := d + 3) hs)) (by omega) (by omega) (m_room_s (d := d + 4) hM hs)
theorem one_19 {x1 : Int32} (hW : isW M v cnt u ln tx th B) (hB : B + 100 < 1000000000) : oneS X d M h 186 [some (.ref 0), some (.int x1), some (.ref 76), none] 156 [some (.ref 70), some (.int x1)] B := by
  obtain ⟨hO, hM, -, hn, hv, hu, ht⟩ := id hW
  obtain ⟨g1, g2⟩ := same_w hv hu
  obtain ⟨k, l1, l2, rfl⟩ | hx := rng x1 0 127
  · by_cases hl : ln < 100
    · obtain ⟨M', e, O', s'⟩ := o_append (X := X) (d := d + 3) (h := j_h0 (j_h0 h)) (k := k) hO (by omega) hl
      exact one_v hW (fun f0 F i0 m => wv_186 i0 e m) O' s' (fun M1 J => m_append (d := d + 4) J (by omega) hl) g1 g2 (fun j hj => by
        unfold va_up
        split
        · omega
        · exact ht j (by omega))
    · exact one_x hW (wx_186_S (isJ_0 hO.1) (x81_f (d := d + 3) hO (by omega) (by omega))) (by omega) (by omega) (m_append_f (d := d + 4) hM (by omega) (by omega))
  · exact one_x hW (wx_186_A (isJ_0 hO.1) (x81_a (d := d + 3) hx)) (by omega) (by omega) (m_append_a (d := d + 4) hM hx)
theorem one_22 (hW : isW M v cnt u ln tx th B) (hB : B + 100 < 1000000000) : oneS X d M h 187 [some (.ref 0), some (.ref 76), none] 117 [some (.ref 70), none] B := by
  obtain ⟨hO, hM, -, hn, hv, hu, ht⟩ := id hW
  obtain ⟨g1, g2⟩ := same_w hv hu
  by_cases hc : 0 < cnt
  · have hl := hu (cnt - 1) (by omega)
    have l1 : u (cnt - 1) 165 < 2 := hl.2.2.2.2.2.2.1.2.2.2.1
    have l2 : u (cnt - 1) 186 < 2 := hl.2.2.2.2.2.2.2.2.2.2.1
    obtain ⟨M', e, O', s'⟩ := o_undo (X := X) (d := d + 3) (h := j_h0 (j_h0 h)) hO hc l1 l2
    exact one_v hW (fun f0 F i0 m => wv_187 i0 e m) O' s' (fun M1 J => m_undo (d := d + 4) J hc) (okV_w hl (by omega)) (fun k hk => g2 k (by omega)) ht
  · have hc0 : cnt = 0 := by omega
    subst hc0
    exact one_x hW (wx_187_S (isJ_0 hO.1) (x84_n (d := d + 3) hO)) (by omega) (by omega) (m_undo_n (d := d + 4) hM)
theorem one_3 (hW : isW M v cnt u ln tx th B) (hB : B + 100 < 1000000000) : ∃ b, oneD X d M h 65 [some (.ref 0)] 131 [some (.ref 70), none, none] B (.int b) := by
  obtain ⟨hO, hM, -, hn, hv, hu, ht⟩ := id hW
  obtain ⟨M', e, O', s'⟩ := o_repair (X := X) (d := d + 4) (h := j_h0 h) hO hv (by omega)
  exact ⟨_, one_d hW e O' s' (fun M1 J => m_repair (d := d + 4) J hv (by omega)) (okV_w (ok_rpr hv) (by omega)) (ok_sv hv hu (isO_4 hO)) ht⟩
theorem one_15 (hW : isW M v cnt u ln tx th B) (hB : B + 100 < 1000000000) : ∃ b, oneD X d M h 77 [some (.ref 0), none, none] 152 [some (.ref 70)] B (.int b) := by
  obtain ⟨hO, hM, -, hn, hv, hu, ht⟩ := id hW
  obtain ⟨g1, g2⟩ := same_w hv hu
  obtain ⟨F, e⟩ := o_agree (X := X) (d := d + 4) (h := j_h0 h) hO hv (by omega)
  exact ⟨_, one_d hW e (isO_17 hO) (fun a q => va_up_ne _ _ (by omega)) (fun M1 J => m_agree (d := d + 4) J hv (by omega)) g1 g2 ht⟩
theorem one_17 (hW : isW M v cnt u ln tx th B) (hB : B + 100 < 1000000000) : ∃ b, oneD X d M h 79 [some (.ref 0)] 154 [some (.ref 70)] B (.int b) := by
  obtain ⟨hO, hM, -, hn, hv, hu, ht⟩ := id hW
  obtain ⟨g1, g2⟩ := same_w hv hu
  have e := o_slower (X := X) (d := d + 4) (h := j_h0 h) hO hv (by omega)
  exact ⟨_, one_d hW e hO sm_rfl (fun M1 J => m_slower (d := d + 4) J hv (by omega)) g1 g2 ht⟩
theorem one_20 (hW : isW M v cnt u ln tx th B) : ∃ b, oneD X d M h 82 [some (.ref 0)] 157 [some (.ref 70), none] B (.int b) := by
  obtain ⟨hO, hM, -, hn, hv, hu, ht⟩ := id hW
  obtain ⟨g1, g2⟩ := same_w hv hu
  obtain ⟨M', e, O', s'⟩ := o_clear (X := X) (d := d + 4) (h := j_h0 h) hO
  exact ⟨_, one_d hW e O' s' (fun M1 J => m_clear (d := d + 4) J) g1 g2 (fun j hj => absurd hj (Nat.not_lt_zero j))⟩
theorem one_21 (hW : isW M v cnt u ln tx th B) (hB : B + 100 < 1000000000) : ∃ b, oneD X d M h 83 [some (.ref 0), none, none] 167 [some (.ref 70), none, none] B (.int b) := by
  obtain ⟨hO, hM, -, hn, hv, hu, ht⟩ := id hW
  obtain ⟨g1, g2⟩ := same_w hv hu
  rcases hs : synF tx ln 100 0 with _ | p
  · obtain ⟨M', e, O', s'⟩ := o_carry (X := X) (d := d + 4) (h := j_h0 h) hO ht hv hB hs
    exact ⟨_, one_d hW e O' s' (fun M1 J => m_carry (d := d + 4) J ht hv hB hs) (ok_run 100 0 B v hv) (ok_sv hv hu (isO_4 hO)) ht⟩
  · obtain ⟨M', e, O', s'⟩ := o_carry_e (X := X) (d := d + 4) (h := j_h0 h) hO ht hs
    exact ⟨_, one_d hW e O' s' (fun M1 J => m_carry_e (d := d + 4) J ht hs) g1 g2 ht⟩
theorem one_18 (hW : isW M v cnt u ln tx th B) (hB : B + 100 < 1000000000) : ∃ b, oneD X d M h 80 [some (.ref 0)] 155 [some (.ref 70)] B (.double b) ∧ Op.cmpValue (FP.dcmp b b) .l = zN 0 := by
  obtain ⟨hO, hM, -, hn, hv, hu, ht⟩ := id hW
  obtain ⟨g1, g2⟩ := same_w hv hu
  have e := o_full (X := X) (d := d + 4) (h := j_h0 h) hO hv (by omega)
  obtain ⟨q0, q1, q2, q3, -⟩ := id hv
  exact ⟨_, one_d hW e hO sm_rfl (fun M1 J => m_full (d := d + 4) J hv (by omega)) g1 g2 ht, dc_all _ (by omega) _ (by omega) q0⟩
theorem one_23 (hW : isW M v cnt u ln tx th B) (hB : B + 100 < 1000000000) : ∃ b, oneD X d M h 85 [some (.ref 0), none, none, none] 169 [some (.ref 70), none, none] B (.long b) := by
  obtain ⟨hO, hM, -, hn, hv, hu, ht⟩ := id hW
  obtain ⟨g1, g2⟩ := same_w hv hu
  obtain ⟨F, e⟩ := o_digest (X := X) (d := d + 2) (h := j_h0 h) hO hv (by omega)
  exact ⟨_, one_d hW e (isO_17 hO) (fun a q => va_up_ne _ _ (by omega)) (fun M1 J => m_digest (d := d + 2) J hv (by omega)) g1 g2 ht⟩
end
