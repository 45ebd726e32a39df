/-! one rule an instruction, printed by wip/p27/gen25.py -/
section
variable {X : jX} {d : Nat} {l0 l1 l2 l3 l4 l5 l6 l7 l8 l9 l10 l11 : Option Value} {LS t : jL} {ST : List Value} {M : jM} {h : jH} {x y z w u : Int32} {a b c e : Nat} {p q : Int64} {f g : UInt64}
theorem e126_0 : Rn X d 126 0 (l0 :: some (.int x) :: t) ST M h = Rn X d 126 1 (l0 :: some (.int x) :: t) (.int x :: ST) M h := r_iload_n mt_126 dL_acts_0 rfl
theorem e126_1 : Rn X d 126 1 LS ST M h = Rn X d 126 2 LS (.int (zN 4) :: ST) M h := r_iconst mt_126 dL_acts_1 c_ic4
theorem e126_2 : Rn X d 126 2 LS (.int y :: .int x :: ST) M h = Rn X d 126 3 LS (.int (x >>> (y &&& 31)) :: ST) M h := r_ishr mt_126 dL_acts_2
theorem e126_3 (ho : j_one l1 = true) : Rn X d 126 3 (l0 :: l1 :: l2 :: t) (.int x :: ST) M h = Rn X d 126 4 (l0 :: l1 :: some (.int x) :: t) ST M h := r_istore_n mt_126 dL_acts_3 (by show 2 < _; simp only [List.length_cons]; omega) ho rfl
theorem e126_4 : Rn X d 126 4 (l0 :: l1 :: some (.int x) :: t) ST M h = Rn X d 126 5 (l0 :: l1 :: some (.int x) :: t) (.int x :: ST) M h := r_iload_n mt_126 dL_acts_4 rfl
theorem e126_5 : Rn X d 126 5 LS ST M h = Rn X d 126 6 LS (.int (zN 1) :: ST) M h := r_iconst mt_126 dL_acts_5 c_ic1
theorem e126_6 : Rn X d 126 6 LS (.int y :: .int x :: ST) M h = Rn X d 126 7 LS (.int (x &&& y) :: ST) M h := r_iand mt_126 dL_acts_6
theorem e126_7 (ho : j_one l2 = true) : Rn X d 126 7 (l0 :: l1 :: l2 :: l3 :: t) (.int x :: ST) M h = Rn X d 126 8 (l0 :: l1 :: l2 :: some (.int x) :: t) ST M h := r_istore_n mt_126 dL_acts_7 (by show 3 < _; simp only [List.length_cons]; omega) ho rfl
theorem e126_8 : Rn X d 126 8 (l0 :: l1 :: some (.int x) :: t) ST M h = Rn X d 126 9 (l0 :: l1 :: some (.int x) :: t) (.int x :: ST) M h := r_iload_n mt_126 dL_acts_8 rfl
theorem e126_9 : Rn X d 126 9 LS ST M h = Rn X d 126 10 LS (.int (zN 2) :: ST) M h := r_iconst mt_126 dL_acts_9 c_ic2
theorem e126_10 : Rn X d 126 10 LS (.int y :: .int x :: ST) M h = q_dv X x y d 126 11 LS ST M h := s_idiv mt_126 dL_acts_10
theorem e126_11 : Rn X d 126 11 LS ST M h = Rn X d 126 13 LS (.int (zN 7) :: ST) M h := r_bipush mt_126 dL_acts_11 c_bi7
theorem e126_13 : Rn X d 126 13 LS (.int y :: .int x :: ST) M h = Rn X d 126 14 LS (.int (x &&& y) :: ST) M h := r_iand mt_126 dL_acts_13
theorem e126_14 (ho : j_one l3 = true) : Rn X d 126 14 (l0 :: l1 :: l2 :: l3 :: l4 :: t) (.int x :: ST) M h = Rn X d 126 16 (l0 :: l1 :: l2 :: l3 :: some (.int x) :: t) ST M h := r_istore mt_126 dL_acts_14 (by show 4 < _; simp only [List.length_cons]; omega) ho rfl
theorem e126_16 : Rn X d 126 16 (l0 :: l1 :: some (.int x) :: t) ST M h = Rn X d 126 17 (l0 :: l1 :: some (.int x) :: t) (.int x :: ST) M h := r_iload_n mt_126 dL_acts_16 rfl
theorem e126_17 : Rn X d 126 17 LS ST M h = Rn X d 126 19 LS (.int (zN 16) :: ST) M h := r_bipush mt_126 dL_acts_17 c_bi16
theorem e126_19 : Rn X d 126 19 LS (.int y :: .int x :: ST) M h = q_dv X x y d 126 20 LS ST M h := s_idiv mt_126 dL_acts_19
theorem e126_20 : Rn X d 126 20 LS ST M h = Rn X d 126 22 LS (.int (zN 7) :: ST) M h := r_bipush mt_126 dL_acts_20 c_bi7
theorem e126_22 : Rn X d 126 22 LS (.int y :: .int x :: ST) M h = Rn X d 126 23 LS (.int (x &&& y) :: ST) M h := r_iand mt_126 dL_acts_22
theorem e126_23 (ho : j_one l4 = true) : Rn X d 126 23 (l0 :: l1 :: l2 :: l3 :: l4 :: l5 :: t) (.int x :: ST) M h = Rn X d 126 25 (l0 :: l1 :: l2 :: l3 :: l4 :: some (.int x) :: t) ST M h := r_istore mt_126 dL_acts_23 (by show 5 < _; simp only [List.length_cons]; omega) ho rfl
theorem e126_25 : Rn X d 126 25 (l0 :: some (.int x) :: t) ST M h = Rn X d 126 26 (l0 :: some (.int x) :: t) (.int x :: ST) M h := r_iload_n mt_126 dL_acts_25 rfl
theorem e126_26 : Rn X d 126 26 LS ST M h = Rn X d 126 28 LS (.int (zN 15) :: ST) M h := r_bipush mt_126 dL_acts_26 c_bi15
theorem e126_28 : Rn X d 126 28 LS (.int y :: .int x :: ST) M h = Rn X d 126 29 LS (.int (x &&& y) :: ST) M h := r_iand mt_126 dL_acts_28
theorem e126_29_0 : Rn X d 126 29 LS (.int (zN 0) :: ST) M h = Rn X d 126 104 LS ST M h := s_tab (off := 75) mt_126 dL_acts_29 (by decide) (by decide) (by decide +kernel) rfl
theorem e126_29_1 : Rn X d 126 29 LS (.int (zN 1) :: ST) M h = Rn X d 126 104 LS ST M h := s_tab (off := 75) mt_126 dL_acts_29 (by decide) (by decide) (by decide +kernel) rfl
theorem e126_29_2 : Rn X d 126 29 LS (.int (zN 2) :: ST) M h = Rn X d 126 104 LS ST M h := s_tab (off := 75) mt_126 dL_acts_29 (by decide) (by decide) (by decide +kernel) rfl
theorem e126_29_3 : Rn X d 126 29 LS (.int (zN 3) :: ST) M h = Rn X d 126 104 LS ST M h := s_tab (off := 75) mt_126 dL_acts_29 (by decide) (by decide) (by decide +kernel) rfl
theorem e126_29_4 : Rn X d 126 29 LS (.int (zN 4) :: ST) M h = Rn X d 126 140 LS ST M h := s_tab (off := 111) mt_126 dL_acts_29 (by decide) (by decide) (by decide +kernel) rfl
theorem e126_29_5 : Rn X d 126 29 LS (.int (zN 5) :: ST) M h = Rn X d 126 140 LS ST M h := s_tab (off := 111) mt_126 dL_acts_29 (by decide) (by decide) (by decide +kernel) rfl
theorem e126_29_6 : Rn X d 126 29 LS (.int (zN 6) :: ST) M h = Rn X d 126 154 LS ST M h := s_tab (off := 125) mt_126 dL_acts_29 (by decide) (by decide) (by decide +kernel) rfl
theorem e126_29_7 : Rn X d 126 29 LS (.int (zN 7) :: ST) M h = Rn X d 126 176 LS ST M h := s_tab (off := 147) mt_126 dL_acts_29 (by decide) (by decide) (by decide +kernel) rfl
theorem e126_29_8 : Rn X d 126 29 LS (.int (zN 8) :: ST) M h = Rn X d 126 176 LS ST M h := s_tab (off := 147) mt_126 dL_acts_29 (by decide) (by decide) (by decide +kernel) rfl
theorem e126_29_9 : Rn X d 126 29 LS (.int (zN 9) :: ST) M h = Rn X d 126 182 LS ST M h := s_tab (off := 153) mt_126 dL_acts_29 (by decide) (by decide) (by decide +kernel) rfl
theorem e126_29_10 : Rn X d 126 29 LS (.int (zN 10) :: ST) M h = Rn X d 126 220 LS ST M h := s_tab (off := 191) mt_126 dL_acts_29 (by decide) (by decide) (by decide +kernel) rfl
theorem e126_29_11 : Rn X d 126 29 LS (.int (zN 11) :: ST) M h = Rn X d 126 233 LS ST M h := s_tab (off := 204) mt_126 dL_acts_29 (by decide) (by decide) (by decide +kernel) rfl
theorem e126_29_12 : Rn X d 126 29 LS (.int (zN 12) :: ST) M h = Rn X d 126 239 LS ST M h := s_tab (off := 210) mt_126 dL_acts_29 (by decide) (by decide) (by decide +kernel) rfl
theorem e126_29_13 : Rn X d 126 29 LS (.int (zN 13) :: ST) M h = Rn X d 126 253 LS ST M h := s_tab (off := 224) mt_126 dL_acts_29 (by decide) (by decide) (by decide +kernel) rfl
theorem e126_29_14 : Rn X d 126 29 LS (.int (zN 14) :: ST) M h = Rn X d 126 253 LS ST M h := s_tab (off := 224) mt_126 dL_acts_29 (by decide) (by decide) (by decide +kernel) rfl
theorem e126_29_h {v : Nat} (h0 : v < 2147483648) (h1 : 14 < v) : Rn X d 126 29 LS (.int (zN v) :: ST) M h = Rn X d 126 273 LS ST M h := s_tabD mt_126 dL_acts_29 rfl h0 (Or.inr (by omega))
theorem e126_29_m {v : Nat} (h0 : v < 2147483648) : Rn X d 126 29 LS (.int (zM v) :: ST) M h = Rn X d 126 273 LS ST M h := s_tabM mt_126 dL_acts_29 rfl (by decide) h0
theorem e126_104 : Rn X d 126 104 (some (.ref a) :: t) ST M h = Rn X d 126 105 (some (.ref a) :: t) (.ref a :: ST) M h := r_aload_n mt_126 dL_acts_104 rfl
theorem e126_105 : Rn X d 126 105 (l0 :: l1 :: some (.int x) :: t) ST M h = Rn X d 126 106 (l0 :: l1 :: some (.int x) :: t) (.int x :: ST) M h := r_iload_n mt_126 dL_acts_105 rfl
theorem e126_106 : Rn X d 126 106 LS ST M h = Rn X d 126 109 LS (.int (zN 128) :: ST) M h := r_sipush mt_126 dL_acts_106 c_si128
theorem e126_109 : Rn X d 126 109 LS (.int y :: .int x :: ST) M h = q_dv X x y d 126 110 LS ST M h := s_idiv mt_126 dL_acts_109
theorem e126_110 : Rn X d 126 110 LS ST M h = Rn X d 126 111 LS (.int (zN 5) :: ST) M h := r_iconst mt_126 dL_acts_110 c_ic5
theorem e126_111 : Rn X d 126 111 LS (.int y :: .int x :: ST) M h = q_rm X x y d 126 112 LS ST M h := s_irem mt_126 dL_acts_111
theorem e126_112 : Rn X d 126 112 (l0 :: l1 :: l2 :: l3 :: some (.int x) :: t) ST M h = Rn X d 126 114 (l0 :: l1 :: l2 :: l3 :: some (.int x) :: t) (.int x :: ST) M h := r_iload mt_126 dL_acts_112 rfl
theorem e126_114 : Rn X d 126 114 (l0 :: l1 :: l2 :: l3 :: l4 :: some (.int x) :: t) ST M h = Rn X d 126 116 (l0 :: l1 :: l2 :: l3 :: l4 :: some (.int x) :: t) (.int x :: ST) M h := r_iload mt_126 dL_acts_114 rfl
theorem e126_116 : Rn X d 126 116 LS ST M h = Rn X d 126 117 LS (.int (zN 1) :: ST) M h := r_iconst mt_126 dL_acts_116 c_ic1
theorem e126_117 : Rn X d 126 117 (l0 :: l1 :: some (.int x) :: t) ST M h = Rn X d 126 118 (l0 :: l1 :: some (.int x) :: t) (.int x :: ST) M h := r_iload_n mt_126 dL_acts_117 rfl
theorem e126_118 : Rn X d 126 118 LS ST M h = Rn X d 126 121 LS (.int (zN 1024) :: ST) M h := r_sipush mt_126 dL_acts_118 c_si1024
theorem e126_121 : Rn X d 126 121 LS (.int y :: .int x :: ST) M h = q_dv X x y d 126 122 LS ST M h := s_idiv mt_126 dL_acts_121
theorem e126_122 : Rn X d 126 122 LS ST M h = Rn X d 126 124 LS (.int (zN 99) :: ST) M h := r_bipush mt_126 dL_acts_122 c_bi99
theorem e126_124 : Rn X d 126 124 LS (.int y :: .int x :: ST) M h = q_rm X x y d 126 125 LS ST M h := s_irem mt_126 dL_acts_124
theorem e126_125 : Rn X d 126 125 LS (.int y :: .int x :: ST) M h = Rn X d 126 126 LS (.int (x + y) :: ST) M h := r_iadd mt_126 dL_acts_125
theorem e126_126 (hcs : Nat.ble (j_cs ST) 8 = true) : Rn X (d + 1) 126 126 LS (.int w :: .int z :: .int y :: .int x :: .ref a :: ST) M h = q_k X (Rn X d 103 0 [some (.ref a), some (.int x), some (.int y), some (.int z), some (.int w), none] [] M (j_h0 h)) h (d + 1) 126 129 LS ST := s_callS (Or.inr (Or.inl rfl)) mt_126 dL_acts_126 cl_8_122 mt_103 rfl (Nat.le_add_left _ _) rfl rfl rfl rfl hcs
theorem e126_129 : Rn X d 126 129 LS ST M h = Rn X d 126 131 LS (.int (zM 11) :: ST) M h := r_bipush mt_126 dL_acts_129 c_bim12
theorem e126_131 : Rn X d 126 131 LS (.int y :: .int x :: ST) M h = q_lt X x y d 126 138 134 LS ST M h := s_iclt mt_126 dL_acts_131 rfl
theorem e126_134 : Rn X d 126 134 LS ST M h = Rn X d 126 135 LS (.int (zN 1) :: ST) M h := r_iconst mt_126 dL_acts_134 c_ic1
theorem e126_135 : Rn X d 126 135 LS ST M h = Rn X d 126 139 LS ST M h := r_goto mt_126 dL_acts_135 rfl
theorem e126_138 : Rn X d 126 138 LS ST M h = Rn X d 126 139 LS (.int (zN 0) :: ST) M h := r_iconst mt_126 dL_acts_138 c_ic0
theorem e126_139 {v : Nat} (h0 : v < 2) : Rn X d 126 139 LS ([.int (zN v)]) M h = some (.inl (some (.int (zN v))), M, h) := s_zret mt_126 dL_acts_139 rfl h0
theorem e126_140 : Rn X d 126 140 (some (.ref a) :: t) ST M h = Rn X d 126 141 (some (.ref a) :: t) (.ref a :: ST) M h := r_aload_n mt_126 dL_acts_140 rfl
theorem e126_141 : Rn X d 126 141 (l0 :: l1 :: l2 :: some (.int x) :: t) ST M h = Rn X d 126 142 (l0 :: l1 :: l2 :: some (.int x) :: t) (.int x :: ST) M h := r_iload_n mt_126 dL_acts_141 rfl
theorem e126_142 : Rn X d 126 142 LS ST M h = Rn X d 126 143 LS (.int (zN 1) :: ST) M h := r_iconst mt_126 dL_acts_142 c_ic1
theorem e126_143 : Rn X d 126 143 (l0 :: l1 :: some (.int x) :: t) ST M h = Rn X d 126 144 (l0 :: l1 :: some (.int x) :: t) (.int x :: ST) M h := r_iload_n mt_126 dL_acts_143 rfl
theorem e126_144 : Rn X d 126 144 LS ST M h = Rn X d 126 145 LS (.int (zN 2) :: ST) M h := r_iconst mt_126 dL_acts_144 c_ic2
theorem e126_145 : Rn X d 126 145 LS (.int y :: .int x :: ST) M h = q_dv X x y d 126 146 LS ST M h := s_idiv mt_126 dL_acts_145
theorem e126_146 : Rn X d 126 146 LS ST M h = Rn X d 126 148 LS (.int (zN 9) :: ST) M h := r_bipush mt_126 dL_acts_146 c_bi9
theorem e126_148 : Rn X d 126 148 LS (.int y :: .int x :: ST) M h = q_rm X x y d 126 149 LS ST M h := s_irem mt_126 dL_acts_148
theorem e126_149 : Rn X d 126 149 LS (.int y :: .int x :: ST) M h = Rn X d 126 150 LS (.int (x + y) :: ST) M h := r_iadd mt_126 dL_acts_149
theorem e126_150 (hcs : Nat.ble (j_cs ST) 8 = true) : Rn X (d + 1) 126 150 LS (.int y :: .int x :: .ref a :: ST) M h = q_k X (Rn X d 121 0 [some (.ref a), some (.int x), some (.int y), none, none, none, none, none, none, none] [] M (j_h0 h)) h (d + 1) 126 153 LS ST := s_callS (Or.inl rfl) mt_126 dL_acts_150 cl_8_133 mt_121 rfl (Nat.le_add_left _ _) rfl rfl rfl rfl hcs
theorem e126_153 {v : Nat} (h0 : v < 2) : Rn X d 126 153 LS ([.int (zN v)]) M h = some (.inl (some (.int (zN v))), M, h) := s_zret mt_126 dL_acts_153 rfl h0
theorem e126_154 : Rn X d 126 154 (some (.ref a) :: t) ST M h = Rn X d 126 155 (some (.ref a) :: t) (.ref a :: ST) M h := r_aload_n mt_126 dL_acts_154 rfl
theorem e126_155 : Rn X d 126 155 (l0 :: l1 :: l2 :: some (.int x) :: t) ST M h = Rn X d 126 156 (l0 :: l1 :: l2 :: some (.int x) :: t) (.int x :: ST) M h := r_iload_n mt_126 dL_acts_155 rfl
theorem e126_156 : Rn X d 126 156 LS ST M h = Rn X d 126 157 LS (.int (zN 1) :: ST) M h := r_iconst mt_126 dL_acts_156 c_ic1
theorem e126_157 : Rn X d 126 157 (l0 :: l1 :: some (.int x) :: t) ST M h = Rn X d 126 158 (l0 :: l1 :: some (.int x) :: t) (.int x :: ST) M h := r_iload_n mt_126 dL_acts_157 rfl
theorem e126_158 : Rn X d 126 158 LS ST M h = Rn X d 126 159 LS (.int (zN 2) :: ST) M h := r_iconst mt_126 dL_acts_158 c_ic2
theorem e126_159 : Rn X d 126 159 LS (.int y :: .int x :: ST) M h = q_dv X x y d 126 160 LS ST M h := s_idiv mt_126 dL_acts_159
theorem e126_160 : Rn X d 126 160 LS ST M h = Rn X d 126 162 LS (.int (zN 20) :: ST) M h := r_bipush mt_126 dL_acts_160 c_bi20
theorem e126_162 : Rn X d 126 162 LS (.int y :: .int x :: ST) M h = q_rm X x y d 126 163 LS ST M h := s_irem mt_126 dL_acts_162
theorem e126_163 : Rn X d 126 163 LS (.int y :: .int x :: ST) M h = Rn X d 126 164 LS (.int (x + y) :: ST) M h := r_iadd mt_126 dL_acts_163
theorem e126_164 (hcs : Nat.ble (j_cs ST) 8 = true) : Rn X (d + 1) 126 164 LS (.int y :: .int x :: .ref a :: ST) M h = q_k X (Rn X d 105 0 [some (.ref a), some (.int x), some (.int y), none] [] M (j_h0 h)) h (d + 1) 126 167 LS ST := s_callS (Or.inr (Or.inl rfl)) mt_126 dL_acts_164 cl_8_102 mt_105 rfl (Nat.le_add_left _ _) rfl rfl rfl rfl hcs
theorem e126_167 : Rn X d 126 167 LS (.int x :: ST) M h = q_lt X x (zN 0) d 126 174 170 LS ST M h := s_iflt mt_126 dL_acts_167 rfl
theorem e126_170 : Rn X d 126 170 LS ST M h = Rn X d 126 171 LS (.int (zN 1) :: ST) M h := r_iconst mt_126 dL_acts_170 c_ic1
theorem e126_171 : Rn X d 126 171 LS ST M h = Rn X d 126 175 LS ST M h := r_goto mt_126 dL_acts_171 rfl
theorem e126_174 : Rn X d 126 174 LS ST M h = Rn X d 126 175 LS (.int (zN 0) :: ST) M h := r_iconst mt_126 dL_acts_174 c_ic0
theorem e126_175 {v : Nat} (h0 : v < 2) : Rn X d 126 175 LS ([.int (zN v)]) M h = some (.inl (some (.int (zN v))), M, h) := s_zret mt_126 dL_acts_175 rfl h0
theorem e126_176 : Rn X d 126 176 (some (.ref a) :: t) ST M h = Rn X d 126 177 (some (.ref a) :: t) (.ref a :: ST) M h := r_aload_n mt_126 dL_acts_176 rfl
theorem e126_177 : Rn X d 126 177 (l0 :: l1 :: l2 :: some (.int x) :: t) ST M h = Rn X d 126 178 (l0 :: l1 :: l2 :: some (.int x) :: t) (.int x :: ST) M h := r_iload_n mt_126 dL_acts_177 rfl
theorem e126_178 (hcs : Nat.ble (j_cs ST) 8 = true) : Rn X (d + 1) 126 178 LS (.int x :: .ref a :: ST) M h = q_k X (Rn X d 122 0 [some (.ref a), some (.int x), none, none, none] [] M (j_h0 h)) h (d + 1) 126 181 LS ST := s_callS (Or.inl rfl) mt_126 dL_acts_178 cl_8_137 mt_122 rfl (Nat.le_add_left _ _) rfl rfl rfl rfl hcs
theorem e126_181 {v : Nat} (h0 : v < 2) : Rn X d 126 181 LS ([.int (zN v)]) M h = some (.inl (some (.int (zN v))), M, h) := s_zret mt_126 dL_acts_181 rfl h0
theorem e126_182 : Rn X d 126 182 (some (.ref a) :: t) ST M h = Rn X d 126 183 (some (.ref a) :: t) (.ref a :: ST) M h := r_aload_n mt_126 dL_acts_182 rfl
theorem e126_183 : Rn X d 126 183 LS ST M h = Rn X d 126 184 LS (.int (zN 3) :: ST) M h := r_iconst mt_126 dL_acts_183 c_ic3
theorem e126_184 (hcs : Nat.ble (j_cs ST) 8 = true) : Rn X (d + 1) 126 184 LS (.int x :: .ref a :: ST) M h = q_k X (Rn X d 112 0 [some (.ref a), some (.int x), none] [] M (j_h0 h)) h (d + 1) 126 187 LS ST := s_callS (Or.inr (Or.inl rfl)) mt_126 dL_acts_184 cl_8_73 mt_112 rfl (Nat.le_add_left _ _) rfl rfl rfl rfl hcs
theorem e126_187 : Rn X d 126 187 LS (.int x :: ST) M h = q_eq X x (zN 0) d 126 214 190 LS ST M h := s_ifeq mt_126 dL_acts_187 rfl
theorem e126_190 : Rn X d 126 190 (some (.ref a) :: t) ST M h = Rn X d 126 191 (some (.ref a) :: t) (.ref a :: ST) M h := r_aload_n mt_126 dL_acts_190 rfl
theorem e126_191 : Rn X d 126 191 (some (.ref a) :: t) ST M h = Rn X d 126 192 (some (.ref a) :: t) (.ref a :: ST) M h := r_aload_n mt_126 dL_acts_191 rfl
theorem e126_192 : Rn X d 126 192 LS ST M h = Rn X d 126 193 LS (.int (zN 1) :: ST) M h := r_iconst mt_126 dL_acts_192 c_ic1
theorem e126_193 (hcs : Nat.ble (j_cs ST) 8 = true) : Rn X (d + 1) 126 193 LS (.int x :: .ref a :: ST) M h = q_k X (Rn X d 112 0 [some (.ref a), some (.int x), none] [] M (j_h0 h)) h (d + 1) 126 196 LS ST := s_callS (Or.inr (Or.inl rfl)) mt_126 dL_acts_193 cl_8_73 mt_112 rfl (Nat.le_add_left _ _) rfl rfl rfl rfl hcs
theorem e126_196 : Rn X d 126 196 (l0 :: l1 :: some (.int x) :: t) ST M h = Rn X d 126 197 (l0 :: l1 :: some (.int x) :: t) (.int x :: ST) M h := r_iload_n mt_126 dL_acts_196 rfl
theorem e126_197 : Rn X d 126 197 LS ST M h = Rn X d 126 198 LS (.int (zN 2) :: ST) M h := r_iconst mt_126 dL_acts_197 c_ic2
theorem e126_198 : Rn X d 126 198 LS (.int y :: .int x :: ST) M h = q_dv X x y d 126 199 LS ST M h := s_idiv mt_126 dL_acts_198
theorem e126_199 : Rn X d 126 199 (some (.ref a) :: t) ST M h = Rn X d 126 200 (some (.ref a) :: t) (.ref a :: ST) M h := r_aload_n mt_126 dL_acts_199 rfl
theorem e126_200 : Rn X d 126 200 LS ST M h = Rn X d 126 201 LS (.int (zN 3) :: ST) M h := r_iconst mt_126 dL_acts_200 c_ic3
theorem e126_201 (hcs : Nat.ble (j_cs ST) 8 = true) : Rn X (d + 1) 126 201 LS (.int x :: .ref a :: ST) M h = q_k X (Rn X d 112 0 [some (.ref a), some (.int x), none] [] M (j_h0 h)) h (d + 1) 126 204 LS ST := s_callS (Or.inr (Or.inl rfl)) mt_126 dL_acts_201 cl_8_73 mt_112 rfl (Nat.le_add_left _ _) rfl rfl rfl rfl hcs
theorem e126_204 : Rn X d 126 204 LS (.int y :: .int x :: ST) M h = q_rm X x y d 126 205 LS ST M h := s_irem mt_126 dL_acts_204
theorem e126_205 : Rn X d 126 205 LS (.int y :: .int x :: ST) M h = Rn X d 126 206 LS (.int (x + y) :: ST) M h := r_iadd mt_126 dL_acts_205
theorem e126_206 : Rn X d 126 206 (l0 :: l1 :: l2 :: some (.int x) :: t) ST M h = Rn X d 126 207 (l0 :: l1 :: l2 :: some (.int x) :: t) (.int x :: ST) M h := r_iload_n mt_126 dL_acts_206 rfl
theorem e126_207 (hcs : Nat.ble (j_cs ST) 8 = true) : Rn X (d + 1) 126 207 LS (.int y :: .int x :: .ref a :: ST) M h = q_k X (Rn X d 104 0 [some (.ref a), some (.int x), some (.int y), none] [] M (j_h0 h)) h (d + 1) 126 210 LS ST := s_callS (Or.inr (Or.inl rfl)) mt_126 dL_acts_207 cl_8_131 mt_104 rfl (Nat.le_add_left _ _) rfl rfl rfl rfl hcs
theorem e126_210 : Rn X d 126 210 LS ST M h = Rn X d 126 211 LS (.int (zN 1) :: ST) M h := r_iconst mt_126 dL_acts_210 c_ic1
theorem e126_211 : Rn X d 126 211 LS (.int y :: .int x :: ST) M h = q_lt X x y d 126 218 214 LS ST M h := s_iclt mt_126 dL_acts_211 rfl
theorem e126_214 : Rn X d 126 214 LS ST M h = Rn X d 126 215 LS (.int (zN 1) :: ST) M h := r_iconst mt_126 dL_acts_214 c_ic1
theorem e126_215 : Rn X d 126 215 LS ST M h = Rn X d 126 219 LS ST M h := r_goto mt_126 dL_acts_215 rfl
theorem e126_218 : Rn X d 126 218 LS ST M h = Rn X d 126 219 LS (.int (zN 0) :: ST) M h := r_iconst mt_126 dL_acts_218 c_ic0
theorem e126_219 {v : Nat} (h0 : v < 2) : Rn X d 126 219 LS ([.int (zN v)]) M h = some (.inl (some (.int (zN v))), M, h) := s_zret mt_126 dL_acts_219 rfl h0
theorem e126_220 : Rn X d 126 220 (some (.ref a) :: t) ST M h = Rn X d 126 221 (some (.ref a) :: t) (.ref a :: ST) M h := r_aload_n mt_126 dL_acts_220 rfl
theorem e126_221 (hcs : Nat.ble (j_cs ST) 8 = true) : Rn X (d + 1) 126 221 LS (.ref a :: ST) M h = j_rc (M a) 4 (q_k X (Rn X d 65 0 [some (.ref a)] [] M (j_h0 h)) h (d + 1) 126 224 LS ST) := s_callV mt_126 dL_acts_221 cl_8_141 mt_65 rfl rfl (Nat.le_add_left _ _) rfl rfl rfl rfl hcs
theorem e126_224 : Rn X d 126 224 LS (.int x :: ST) M h = q_lt X x (zN 0) d 126 231 227 LS ST M h := s_iflt mt_126 dL_acts_224 rfl
theorem e126_227 : Rn X d 126 227 LS ST M h = Rn X d 126 228 LS (.int (zN 1) :: ST) M h := r_iconst mt_126 dL_acts_227 c_ic1
theorem e126_228 : Rn X d 126 228 LS ST M h = Rn X d 126 232 LS ST M h := r_goto mt_126 dL_acts_228 rfl
theorem e126_231 : Rn X d 126 231 LS ST M h = Rn X d 126 232 LS (.int (zN 0) :: ST) M h := r_iconst mt_126 dL_acts_231 c_ic0
theorem e126_232 {v : Nat} (h0 : v < 2) : Rn X d 126 232 LS ([.int (zN v)]) M h = some (.inl (some (.int (zN v))), M, h) := s_zret mt_126 dL_acts_232 rfl h0
theorem e126_233 : Rn X d 126 233 (some (.ref a) :: t) ST M h = Rn X d 126 234 (some (.ref a) :: t) (.ref a :: ST) M h := r_aload_n mt_126 dL_acts_233 rfl
theorem e126_234 : Rn X d 126 234 (l0 :: l1 :: l2 :: some (.int x) :: t) ST M h = Rn X d 126 235 (l0 :: l1 :: l2 :: some (.int x) :: t) (.int x :: ST) M h := r_iload_n mt_126 dL_acts_234 rfl
theorem e126_235 (hcs : Nat.ble (j_cs ST) 8 = true) : Rn X (d + 1) 126 235 LS (.int x :: .ref a :: ST) M h = q_k X (Rn X d 123 0 [some (.ref a), some (.int x), none] [] M (j_h0 h)) h (d + 1) 126 238 LS ST := s_callS (Or.inl rfl) mt_126 dL_acts_235 cl_8_144 mt_123 rfl (Nat.le_add_left _ _) rfl rfl rfl rfl hcs
theorem e126_238 {v : Nat} (h0 : v < 2) : Rn X d 126 238 LS ([.int (zN v)]) M h = some (.inl (some (.int (zN v))), M, h) := s_zret mt_126 dL_acts_238 rfl h0
theorem e126_239 : Rn X d 126 239 (some (.ref a) :: t) ST M h = Rn X d 126 240 (some (.ref a) :: t) (.ref a :: ST) M h := r_aload_n mt_126 dL_acts_239 rfl
theorem e126_240 : Rn X d 126 240 (l0 :: l1 :: l2 :: some (.int x) :: t) ST M h = Rn X d 126 241 (l0 :: l1 :: l2 :: some (.int x) :: t) (.int x :: ST) M h := r_iload_n mt_126 dL_acts_240 rfl
theorem e126_241 (hcs : Nat.ble (j_cs ST) 8 = true) : Rn X (d + 1) 126 241 LS (.int x :: .ref a :: ST) M h = q_k X (Rn X d 107 0 [some (.ref a), some (.int x), none] [] M (j_h0 h)) h (d + 1) 126 244 LS ST := s_callS (Or.inr (Or.inl rfl)) mt_126 dL_acts_241 cl_8_107 mt_107 rfl (Nat.le_add_left _ _) rfl rfl rfl rfl hcs
theorem e126_244 : Rn X d 126 244 LS (.int x :: ST) M h = q_lt X x (zN 0) d 126 251 247 LS ST M h := s_iflt mt_126 dL_acts_244 rfl
theorem e126_247 : Rn X d 126 247 LS ST M h = Rn X d 126 248 LS (.int (zN 1) :: ST) M h := r_iconst mt_126 dL_acts_247 c_ic1
theorem e126_248 : Rn X d 126 248 LS ST M h = Rn X d 126 252 LS ST M h := r_goto mt_126 dL_acts_248 rfl
theorem e126_251 : Rn X d 126 251 LS ST M h = Rn X d 126 252 LS (.int (zN 0) :: ST) M h := r_iconst mt_126 dL_acts_251 c_ic0
theorem e126_252 {v : Nat} (h0 : v < 2) : Rn X d 126 252 LS ([.int (zN v)]) M h = some (.inl (some (.int (zN v))), M, h) := s_zret mt_126 dL_acts_252 rfl h0
theorem e126_253 : Rn X d 126 253 (some (.ref a) :: t) ST M h = Rn X d 126 254 (some (.ref a) :: t) (.ref a :: ST) M h := r_aload_n mt_126 dL_acts_253 rfl
theorem e126_254 : Rn X d 126 254 (l0 :: l1 :: l2 :: l3 :: some (.int x) :: t) ST M h = Rn X d 126 256 (l0 :: l1 :: l2 :: l3 :: some (.int x) :: t) (.int x :: ST) M h := r_iload mt_126 dL_acts_254 rfl
theorem e126_256 : Rn X d 126 256 (l0 :: l1 :: l2 :: l3 :: l4 :: some (.int x) :: t) ST M h = Rn X d 126 258 (l0 :: l1 :: l2 :: l3 :: l4 :: some (.int x) :: t) (.int x :: ST) M h := r_iload mt_126 dL_acts_256 rfl
theorem e126_258 : Rn X d 126 258 LS ST M h = Rn X d 126 259 LS (.int (zN 1) :: ST) M h := r_iconst mt_126 dL_acts_258 c_ic1
theorem e126_259 : Rn X d 126 259 (l0 :: l1 :: some (.int x) :: t) ST M h = Rn X d 126 260 (l0 :: l1 :: some (.int x) :: t) (.int x :: ST) M h := r_iload_n mt_126 dL_acts_259 rfl
theorem e126_260 : Rn X d 126 260 LS ST M h = Rn X d 126 263 LS (.int (zN 1024) :: ST) M h := r_sipush mt_126 dL_acts_260 c_si1024
theorem e126_263 : Rn X d 126 263 LS (.int y :: .int x :: ST) M h = q_dv X x y d 126 264 LS ST M h := s_idiv mt_126 dL_acts_263
theorem e126_264 : Rn X d 126 264 LS ST M h = Rn X d 126 266 LS (.int (zN 99) :: ST) M h := r_bipush mt_126 dL_acts_264 c_bi99
theorem e126_266 : Rn X d 126 266 LS (.int y :: .int x :: ST) M h = q_rm X x y d 126 267 LS ST M h := s_irem mt_126 dL_acts_266
theorem e126_267 : Rn X d 126 267 LS (.int y :: .int x :: ST) M h = Rn X d 126 268 LS (.int (x + y) :: ST) M h := r_iadd mt_126 dL_acts_267
theorem e126_268 : Rn X d 126 268 (l0 :: l1 :: l2 :: some (.int x) :: t) ST M h = Rn X d 126 269 (l0 :: l1 :: l2 :: some (.int x) :: t) (.int x :: ST) M h := r_iload_n mt_126 dL_acts_268 rfl
theorem e126_269 (hcs : Nat.ble (j_cs ST) 8 = true) : Rn X (d + 1) 126 269 LS (.int w :: .int z :: .int y :: .int x :: .ref a :: ST) M h = q_k X (Rn X d 124 0 [some (.ref a), some (.int x), some (.int y), some (.int z), some (.int w), none, none, none, none, none, none] [] M (j_h0 h)) h (d + 1) 126 272 LS ST := s_callS (Or.inl rfl) mt_126 dL_acts_269 cl_8_147 mt_124 rfl (Nat.le_add_left _ _) rfl rfl rfl rfl hcs
theorem e126_272 {v : Nat} (h0 : v < 2) : Rn X d 126 272 LS ([.int (zN v)]) M h = some (.inl (some (.int (zN v))), M, h) := s_zret mt_126 dL_acts_272 rfl h0
theorem e126_273 : Rn X d 126 273 (l0 :: l1 :: some (.int x) :: t) ST M h = Rn X d 126 274 (l0 :: l1 :: some (.int x) :: t) (.int x :: ST) M h := r_iload_n mt_126 dL_acts_273 rfl
theorem e126_274 : Rn X d 126 274 LS ST M h = Rn X d 126 276 LS (.int (zN 15) :: ST) M h := r_bipush mt_126 dL_acts_274 c_bi15
theorem e126_276 : Rn X d 126 276 LS (.int y :: .int x :: ST) M h = Rn X d 126 277 LS (.int (x &&& y) :: ST) M h := r_iand mt_126 dL_acts_276
theorem e126_277 : Rn X d 126 277 LS (.int x :: ST) M h = q_lt X (zN 0) x d 126 296 280 LS ST M h := s_ifgt mt_126 dL_acts_277 rfl
theorem e126_280 : Rn X d 126 280 (some (.ref a) :: t) ST M h = Rn X d 126 281 (some (.ref a) :: t) (.ref a :: ST) M h := r_aload_n mt_126 dL_acts_280 rfl
theorem e126_281 : Rn X d 126 281 LS ST M h = Rn X d 126 282 LS (.int (zN 4) :: ST) M h := r_iconst mt_126 dL_acts_281 c_ic4
theorem e126_282 : Rn X d 126 282 (l0 :: l1 :: some (.int x) :: t) ST M h = Rn X d 126 283 (l0 :: l1 :: some (.int x) :: t) (.int x :: ST) M h := r_iload_n mt_126 dL_acts_282 rfl
theorem e126_283 : Rn X d 126 283 LS ST M h = Rn X d 126 285 LS (.int (zN 16) :: ST) M h := r_bipush mt_126 dL_acts_283 c_bi16
theorem e126_285 : Rn X d 126 285 LS (.int y :: .int x :: ST) M h = q_dv X x y d 126 286 LS ST M h := s_idiv mt_126 dL_acts_285
theorem e126_286 : Rn X d 126 286 LS ST M h = Rn X d 126 288 LS (.int (zN 29) :: ST) M h := r_bipush mt_126 dL_acts_286 c_bi29
theorem e126_288 : Rn X d 126 288 LS (.int y :: .int x :: ST) M h = q_rm X x y d 126 289 LS ST M h := s_irem mt_126 dL_acts_288
theorem e126_289 : Rn X d 126 289 LS (.int y :: .int x :: ST) M h = Rn X d 126 290 LS (.int (x + y) :: ST) M h := r_iadd mt_126 dL_acts_289
theorem e126_290 (hcs : Nat.ble (j_cs ST) 8 = true) : Rn X (d + 1) 126 290 LS (.int x :: .ref a :: ST) M h = q_k X (Rn X d 102 0 [some (.ref a), some (.int x), none] [] M (j_h0 h)) h (d + 1) 126 293 LS ST := s_callS (Or.inr (Or.inl rfl)) mt_126 dL_acts_290 cl_8_129 mt_102 rfl (Nat.le_add_left _ _) rfl rfl rfl rfl hcs
theorem e126_293 : Rn X d 126 293 LS (.int x :: ST) M h = q_lt X x (zN 0) d 126 300 296 LS ST M h := s_iflt mt_126 dL_acts_293 rfl
theorem e126_296 : Rn X d 126 296 LS ST M h = Rn X d 126 297 LS (.int (zN 1) :: ST) M h := r_iconst mt_126 dL_acts_296 c_ic1
theorem e126_297 : Rn X d 126 297 LS ST M h = Rn X d 126 301 LS ST M h := r_goto mt_126 dL_acts_297 rfl
theorem e126_300 : Rn X d 126 300 LS ST M h = Rn X d 126 301 LS (.int (zN 0) :: ST) M h := r_iconst mt_126 dL_acts_300 c_ic0
theorem e126_301 {v : Nat} (h0 : v < 2) : Rn X d 126 301 LS ([.int (zN v)]) M h = some (.inl (some (.int (zN v))), M, h) := s_zret mt_126 dL_acts_301 rfl h0
theorem e127_0 {n c z : Nat} (h0 : n < 1000) : Rn X d 127 0 LS ST M (n, true, c, z) = Rn X d 127 3 LS (.ref n :: ST) (va_up M n (.inr (4, j_df 4))) (n + 1, true, c + 1, z + j_nf 4) := r_newo mt_127 dL_law_0 tl_8_10 ol_8_10 h0
theorem e127_3 : Rn X d 127 3 LS (.int x :: ST) M h = Rn X d 127 4 LS (.int x :: .int x :: ST) M h := r_dup mt_127 dL_law_3 rfl
theorem e127_3r : Rn X d 127 3 LS (.ref a :: ST) M h = Rn X d 127 4 LS (.ref a :: .ref a :: ST) M h := r_dup mt_127 dL_law_3 rfl
theorem e127_4 (hcs : Nat.ble (j_cs ST) 8 = true) : Rn X (d + 1) 127 4 LS (.ref a :: ST) M h = j_rc (M a) 4 (q_k X (Rn X d 61 0 [some (.ref a), none] [] M (j_h0 h)) h (d + 1) 127 7 LS ST) := s_callI (Or.inl rfl) mt_127 dL_law_4 cl_8_151 mt_61 rfl rfl (Nat.le_add_left _ _) rfl rfl rfl rfl hcs
theorem e127_7 (ho : j_one l0 = true) : Rn X d 127 7 (l0 :: l1 :: t) (.ref a :: ST) M h = Rn X d 127 8 (l0 :: some (.ref a) :: t) ST M h := r_astore_n mt_127 dL_law_7 (by show 1 < _; simp only [List.length_cons]; omega) ho rfl
theorem e127_8 : Rn X d 127 8 (l0 :: some (.ref a) :: t) ST M h = Rn X d 127 9 (l0 :: some (.ref a) :: t) (.ref a :: ST) M h := r_aload_n mt_127 dL_law_8 rfl
theorem e127_9 (hcs : Nat.ble (j_cs ST) 8 = true) : Rn X (d + 1) 127 9 LS (.ref a :: ST) M h = q_k X (Rn X d 118 0 [some (.ref a), none] [] M (j_h0 h)) h (d + 1) 127 12 LS ST := s_callS (Or.inr (Or.inl rfl)) mt_127 dL_law_9 cl_8_104 mt_118 rfl (Nat.le_add_left _ _) rfl rfl rfl rfl hcs
theorem e127_12 : Rn X d 127 12 LS ST M h = Rn X d 127 14 LS (.int (zM 10) :: ST) M h := r_bipush mt_127 dL_law_12 c_bim11
theorem e127_14 : Rn X d 127 14 LS (.int y :: .int x :: ST) M h = q_eq X x y d 127 17 54 LS ST M h := s_icne mt_127 dL_law_14 rfl
theorem e127_17 : Rn X d 127 17 (l0 :: some (.ref a) :: t) ST M h = Rn X d 127 18 (l0 :: some (.ref a) :: t) (.ref a :: ST) M h := r_aload_n mt_127 dL_law_17 rfl
theorem e127_18 : Rn X d 127 18 LS ST M h = Rn X d 127 19 LS (.int (zN 0) :: ST) M h := r_iconst mt_127 dL_law_18 c_ic0
theorem e127_19 (hcs : Nat.ble (j_cs ST) 8 = true) : Rn X (d + 1) 127 19 LS (.int x :: .ref a :: ST) M h = q_k X (Rn X d 112 0 [some (.ref a), some (.int x), none] [] M (j_h0 h)) h (d + 1) 127 22 LS ST := s_callS (Or.inr (Or.inl rfl)) mt_127 dL_law_19 cl_8_73 mt_112 rfl (Nat.le_add_left _ _) rfl rfl rfl rfl hcs
theorem e127_22 : Rn X d 127 22 LS ST M h = Rn X d 127 24 LS (.int (zN 8) :: ST) M h := r_bipush mt_127 dL_law_22 c_bi8
theorem e127_24 : Rn X d 127 24 LS (.int y :: .int x :: ST) M h = q_eq X x y d 127 27 54 LS ST M h := s_icne mt_127 dL_law_24 rfl
theorem e127_27 : Rn X d 127 27 (l0 :: some (.ref a) :: t) ST M h = Rn X d 127 28 (l0 :: some (.ref a) :: t) (.ref a :: ST) M h := r_aload_n mt_127 dL_law_27 rfl
theorem e127_28 (hcs : Nat.ble (j_cs ST) 8 = true) : Rn X (d + 1) 127 28 LS (.ref a :: ST) M h = j_rc (M a) 4 (q_k X (Rn X d 77 0 [some (.ref a), none, none] [] M (j_h0 h)) h (d + 1) 127 31 LS ST) := s_callV mt_127 dL_law_28 cl_8_99 mt_77 rfl rfl (Nat.le_add_left _ _) rfl rfl rfl rfl hcs
theorem e127_31 : Rn X d 127 31 LS ST M h = Rn X d 127 32 LS (.int (zN 1) :: ST) M h := r_iconst mt_127 dL_law_31 c_ic1
theorem e127_32 : Rn X d 127 32 LS (.int y :: .int x :: ST) M h = q_eq X x y d 127 35 54 LS ST M h := s_icne mt_127 dL_law_32 rfl
theorem e127_35 : Rn X d 127 35 (l0 :: some (.ref a) :: t) ST M h = Rn X d 127 36 (l0 :: some (.ref a) :: t) (.ref a :: ST) M h := r_aload_n mt_127 dL_law_35 rfl
theorem e127_36 (hcs : Nat.ble (j_cs ST) 8 = true) : Rn X (d + 1) 127 36 LS (.ref a :: ST) M h = j_rc (M a) 4 (q_k X (Rn X d 79 0 [some (.ref a)] [] M (j_h0 h)) h (d + 1) 127 39 LS ST) := s_callV mt_127 dL_law_36 cl_8_96 mt_79 rfl rfl (Nat.le_add_left _ _) rfl rfl rfl rfl hcs
theorem e127_39 : Rn X d 127 39 LS ST M h = Rn X d 127 40 LS (.int (zN 2) :: ST) M h := r_iconst mt_127 dL_law_39 c_ic2
theorem e127_40 : Rn X d 127 40 LS (.int y :: .int x :: ST) M h = q_eq X x y d 127 43 54 LS ST M h := s_icne mt_127 dL_law_40 rfl
theorem e127_43 : Rn X d 127 43 (l0 :: some (.ref a) :: t) ST M h = Rn X d 127 44 (l0 :: some (.ref a) :: t) (.ref a :: ST) M h := r_aload_n mt_127 dL_law_43 rfl
theorem e127_44 (hcs : Nat.ble (j_cs ST) 8 = true) : Rn X (d + 1) 127 44 LS (.ref a :: ST) M h = q_k X (Rn X d 120 0 [some (.ref a), none, none, none, none, none, none, none, none, none, none, none] [] M (j_h0 h)) h (d + 1) 127 47 LS ST := s_callS (Or.inl rfl) mt_127 dL_law_44 cl_8_152 mt_120 rfl (Nat.le_add_left _ _) rfl rfl rfl rfl hcs
theorem e127_47 : Rn X d 127 47 LS (.int x :: ST) M h = q_eq X x (zN 0) d 127 54 50 LS ST M h := s_ifeq mt_127 dL_law_47 rfl
theorem e127_50 : Rn X d 127 50 LS ST M h = Rn X d 127 51 LS (.int (zN 1) :: ST) M h := r_iconst mt_127 dL_law_50 c_ic1
theorem e127_51 : Rn X d 127 51 LS ST M h = Rn X d 127 55 LS ST M h := r_goto mt_127 dL_law_51 rfl
theorem e127_54 : Rn X d 127 54 LS ST M h = Rn X d 127 55 LS (.int (zN 0) :: ST) M h := r_iconst mt_127 dL_law_54 c_ic0
theorem e127_55 (ho : j_one l1 = true) : Rn X d 127 55 (l0 :: l1 :: l2 :: t) (.int x :: ST) M h = Rn X d 127 56 (l0 :: l1 :: some (.int x) :: t) ST M h := r_istore_n mt_127 dL_law_55 (by show 2 < _; simp only [List.length_cons]; omega) ho rfl
theorem e127_56 : Rn X d 127 56 LS ST M h = Rn X d 127 57 LS (.int (zN 0) :: ST) M h := r_iconst mt_127 dL_law_56 c_ic0
theorem e127_57 (ho : j_one l2 = true) : Rn X d 127 57 (l0 :: l1 :: l2 :: l3 :: t) (.int x :: ST) M h = Rn X d 127 58 (l0 :: l1 :: l2 :: some (.int x) :: t) ST M h := r_istore_n mt_127 dL_law_57 (by show 3 < _; simp only [List.length_cons]; omega) ho rfl
theorem e127_58 : Rn X d 127 58 (l0 :: l1 :: l2 :: some (.int x) :: t) ST M h = Rn X d 127 59 (l0 :: l1 :: l2 :: some (.int x) :: t) (.int x :: ST) M h := r_iload_n mt_127 dL_law_58 rfl
theorem e127_59 : Rn X d 127 59 LS ST M h = Rn X d 127 61 LS (.int (zN 22) :: ST) M h := r_bipush mt_127 dL_law_59 c_bi22
theorem e127_61 : Rn X d 127 61 LS (.int y :: .int x :: ST) M h = q_le X y x d 127 106 64 LS ST M h := s_icge mt_127 dL_law_61 rfl
theorem e127_64 : Rn X d 127 64 (l0 :: l1 :: some (.int x) :: t) ST M h = Rn X d 127 65 (l0 :: l1 :: some (.int x) :: t) (.int x :: ST) M h := r_iload_n mt_127 dL_law_64 rfl
theorem e127_65 : Rn X d 127 65 LS (.int x :: ST) M h = q_eq X x (zN 0) d 127 106 68 LS ST M h := s_ifeq mt_127 dL_law_65 rfl
theorem e127_68 : Rn X d 127 68 (l0 :: some (.ref a) :: t) ST M h = Rn X d 127 69 (l0 :: some (.ref a) :: t) (.ref a :: ST) M h := r_aload_n mt_127 dL_law_68 rfl
theorem e127_69 : Rn X d 127 69 (some (.ref a) :: t) ST M h = Rn X d 127 70 (some (.ref a) :: t) (.ref a :: ST) M h := r_aload_n mt_127 dL_law_69 rfl
theorem e127_70 : Rn X d 127 70 (l0 :: l1 :: l2 :: some (.int x) :: t) ST M h = Rn X d 127 71 (l0 :: l1 :: l2 :: some (.int x) :: t) (.int x :: ST) M h := r_iload_n mt_127 dL_law_70 rfl
theorem e127_71 (hcs : Nat.ble (j_cs ST) 8 = true) : Rn X (d + 1) 127 71 LS (.int x :: .ref a :: ST) M h = q_k X (Rn X d 101 0 [some (.ref a), some (.int x)] [] M (j_h0 h)) h (d + 1) 127 74 LS ST := s_callS (Or.inl rfl) mt_127 dL_law_71 cl_8_156 mt_101 rfl (Nat.le_add_left _ _) rfl rfl rfl rfl hcs
theorem e127_74 (hcs : Nat.ble (j_cs ST) 8 = true) : Rn X (d + 1) 127 74 LS (.int x :: .ref a :: ST) M h = q_k X (Rn X d 126 0 [some (.ref a), some (.int x), none, none, none, none] [] M (j_h0 h)) h (d + 1) 127 77 LS ST := s_callS (Or.inl rfl) mt_127 dL_law_74 cl_8_160 mt_126 rfl (Nat.le_add_left _ _) rfl rfl rfl rfl hcs
theorem e127_77 : Rn X d 127 77 LS (.int x :: ST) M h = q_eq X x (zN 0) d 127 98 80 LS ST M h := s_ifeq mt_127 dL_law_77 rfl
theorem e127_80 : Rn X d 127 80 (l0 :: l1 :: l2 :: some (.int x) :: t) ST M h = Rn X d 127 81 (l0 :: l1 :: l2 :: some (.int x) :: t) (.int x :: ST) M h := r_iload_n mt_127 dL_law_80 rfl
theorem e127_81 : Rn X d 127 81 LS ST M h = Rn X d 127 82 LS (.int (zN 3) :: ST) M h := r_iconst mt_127 dL_law_81 c_ic3
theorem e127_82 : Rn X d 127 82 LS (.int y :: .int x :: ST) M h = q_rm X x y d 127 83 LS ST M h := s_irem mt_127 dL_law_82
theorem e127_83 : Rn X d 127 83 LS ST M h = Rn X d 127 84 LS (.int (zN 2) :: ST) M h := r_iconst mt_127 dL_law_83 c_ic2
theorem e127_84 : Rn X d 127 84 LS (.int y :: .int x :: ST) M h = q_eq X x y d 127 87 94 LS ST M h := s_icne mt_127 dL_law_84 rfl
theorem e127_87 : Rn X d 127 87 (l0 :: some (.ref a) :: t) ST M h = Rn X d 127 88 (l0 :: some (.ref a) :: t) (.ref a :: ST) M h := r_aload_n mt_127 dL_law_87 rfl
theorem e127_88 (hcs : Nat.ble (j_cs ST) 8 = true) : Rn X (d + 1) 127 88 LS (.ref a :: ST) M h = q_k X (Rn X d 120 0 [some (.ref a), none, none, none, none, none, none, none, none, none, none, none] [] M (j_h0 h)) h (d + 1) 127 91 LS ST := s_callS (Or.inl rfl) mt_127 dL_law_88 cl_8_152 mt_120 rfl (Nat.le_add_left _ _) rfl rfl rfl rfl hcs
theorem e127_91 : Rn X d 127 91 LS (.int x :: ST) M h = q_eq X x (zN 0) d 127 98 94 LS ST M h := s_ifeq mt_127 dL_law_91 rfl
theorem e127_94 : Rn X d 127 94 LS ST M h = Rn X d 127 95 LS (.int (zN 1) :: ST) M h := r_iconst mt_127 dL_law_94 c_ic1
theorem e127_95 : Rn X d 127 95 LS ST M h = Rn X d 127 99 LS ST M h := r_goto mt_127 dL_law_95 rfl
theorem e127_98 : Rn X d 127 98 LS ST M h = Rn X d 127 99 LS (.int (zN 0) :: ST) M h := r_iconst mt_127 dL_law_98 c_ic0
theorem e127_99 (ho : j_one l1 = true) : Rn X d 127 99 (l0 :: l1 :: l2 :: t) (.int x :: ST) M h = Rn X d 127 100 (l0 :: l1 :: some (.int x) :: t) ST M h := r_istore_n mt_127 dL_law_99 (by show 2 < _; simp only [List.length_cons]; omega) ho rfl
theorem e127_100 (ho : j_one l2 = true) : Rn X d 127 100 (l0 :: l1 :: l2 :: some (.int x) :: t) ST M h = Rn X d 127 103 (l0 :: l1 :: l2 :: some (.int (x + (zN 1))) :: t) ST M h := r_iinc mt_127 dL_law_100 rfl (by simp only [List.length_cons]; omega) ho c_ic1 rfl
theorem e127_103 : Rn X d 127 103 LS ST M h = Rn X d 127 58 LS ST M h := r_goto mt_127 dL_law_103 rfl
theorem e127_106 : Rn X d 127 106 (l0 :: l1 :: some (.int x) :: t) ST M h = Rn X d 127 107 (l0 :: l1 :: some (.int x) :: t) (.int x :: ST) M h := r_iload_n mt_127 dL_law_106 rfl
theorem e127_107 : Rn X d 127 107 LS (.int x :: ST) M h = q_eq X x (zN 0) d 127 128 110 LS ST M h := s_ifeq mt_127 dL_law_107 rfl
theorem e127_110 : Rn X d 127 110 (l0 :: some (.ref a) :: t) ST M h = Rn X d 127 111 (l0 :: some (.ref a) :: t) (.ref a :: ST) M h := r_aload_n mt_127 dL_law_110 rfl
theorem e127_111 (hcs : Nat.ble (j_cs ST) 8 = true) : Rn X (d + 1) 127 111 LS (.ref a :: ST) M h = q_k X (Rn X d 120 0 [some (.ref a), none, none, none, none, none, none, none, none, none, none, none] [] M (j_h0 h)) h (d + 1) 127 114 LS ST := s_callS (Or.inl rfl) mt_127 dL_law_111 cl_8_152 mt_120 rfl (Nat.le_add_left _ _) rfl rfl rfl rfl hcs
theorem e127_114 : Rn X d 127 114 LS (.int x :: ST) M h = q_eq X x (zN 0) d 127 128 117 LS ST M h := s_ifeq mt_127 dL_law_114 rfl
theorem e127_117 : Rn X d 127 117 (l0 :: some (.ref a) :: t) ST M h = Rn X d 127 118 (l0 :: some (.ref a) :: t) (.ref a :: ST) M h := r_aload_n mt_127 dL_law_117 rfl
theorem e127_118 (hcs : Nat.ble (j_cs ST) 8 = true) : Rn X (d + 1) 127 118 LS (.ref a :: ST) M h = q_k X (Rn X d 125 0 [some (.ref a), none, none, none, none] [] M (j_h0 h)) h (d + 1) 127 121 LS ST := s_callS (Or.inl rfl) mt_127 dL_law_118 cl_8_163 mt_125 rfl (Nat.le_add_left _ _) rfl rfl rfl rfl hcs
theorem e127_121 : Rn X d 127 121 LS (.int x :: ST) M h = q_eq X x (zN 0) d 127 128 124 LS ST M h := s_ifeq mt_127 dL_law_121 rfl
theorem e127_124 : Rn X d 127 124 LS ST M h = Rn X d 127 125 LS (.int (zN 1) :: ST) M h := r_iconst mt_127 dL_law_124 c_ic1
theorem e127_125 : Rn X d 127 125 LS ST M h = Rn X d 127 129 LS ST M h := r_goto mt_127 dL_law_125 rfl
theorem e127_128 : Rn X d 127 128 LS ST M h = Rn X d 127 129 LS (.int (zN 0) :: ST) M h := r_iconst mt_127 dL_law_128 c_ic0
theorem e127_129 {v : Nat} (h0 : v < 2) : Rn X d 127 129 LS ([.int (zN v)]) M h = some (.inl (some (.int (zN v))), M, h) := s_zret mt_127 dL_law_129 rfl h0
end
