/-! the law's large methods among the words -/
def j_mtL7 : List jMe := j_mt7.dropLast
set_option maxRecDepth 1000000 in
theorem j_fM7_p : (j_mtL7).flatMap j_wM = ([267, 514, 478, 489, 521, 669, 360, 437, 398, 689, 692, 714, 717, 529, 686] : List Nat).filterMap (fun i => lw_tbl[i]?) := rfl
theorem j_fM7_g : (j_mtL7).all (fun t => (j_wM t).all goodWord) = true := by decide +kernel
theorem j_fM7_i : ∀ t ∈ j_mtL7, ∀ w ∈ j_wM t, w ∈ j_gws := j_fam j_fM7_p j_fM7_g
