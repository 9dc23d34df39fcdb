theorem d72_0 : decode mt72.2.1 0 = .ok (.iconst 0, 1) := by decide +kernel
theorem d72_1 : decode mt72.2.1 1 = .ok (.istore_n 1, 1) := by decide +kernel
theorem d72_2 : decode mt72.2.1 2 = .ok (.aload_n 0, 1) := by decide +kernel
theorem d72_3 : decode mt72.2.1 3 = .ok (.getfield 25, 3) := by decide +kernel
theorem d72_6 : decode mt72.2.1 6 = .ok (.istore_n 2, 1) := by decide +kernel
theorem d72_7 : decode mt72.2.1 7 = .ok (.iload_n 2, 1) := by decide +kernel
theorem d72_8 : decode mt72.2.1 8 = .ok (.aload_n 0, 1) := by decide +kernel
theorem d72_9 : decode mt72.2.1 9 = .ok (.getfield 19, 3) := by decide +kernel
theorem d72_12 : decode mt72.2.1 12 = .ok (.if_icmp .ge 24, 3) := by decide +kernel
theorem d72_15 : decode mt72.2.1 15 = .ok (.bipush 10, 2) := by decide +kernel
theorem d72_17 : decode mt72.2.1 17 = .ok (.iload_n 1, 1) := by decide +kernel
theorem d72_18 : decode mt72.2.1 18 = .ok (.imul, 1) := by decide +kernel
theorem d72_19 : decode mt72.2.1 19 = .ok (.aload_n 0, 1) := by decide +kernel
theorem d72_20 : decode mt72.2.1 20 = .ok (.getfield 9, 3) := by decide +kernel
theorem d72_23 : decode mt72.2.1 23 = .ok (.iload_n 2, 1) := by decide +kernel
theorem d72_24 : decode mt72.2.1 24 = .ok (.baload, 1) := by decide +kernel
theorem d72_25 : decode mt72.2.1 25 = .ok (.iadd, 1) := by decide +kernel
theorem d72_26 : decode mt72.2.1 26 = .ok (.bipush 48, 2) := by decide +kernel
theorem d72_28 : decode mt72.2.1 28 = .ok (.isub, 1) := by decide +kernel
theorem d72_29 : decode mt72.2.1 29 = .ok (.istore_n 1, 1) := by decide +kernel
theorem d72_30 : decode mt72.2.1 30 = .ok (.iinc 2 1, 3) := by decide +kernel
theorem d72_33 : decode mt72.2.1 33 = .ok (.goto (-26), 3) := by decide +kernel
theorem d72_36 : decode mt72.2.1 36 = .ok (.iload_n 1, 1) := by decide +kernel
theorem d72_37 : decode mt72.2.1 37 = .ok (.ireturn, 1) := by decide +kernel
noncomputable def pg72_0 : List (Nat × aP) := [(0, oPush (.int 0) 1),
  (1, oStI 1 2),
  (2, oLdA 0 3),
  (3, oGetI (fun k => k = 7) 3 6),
  (6, oStI 2 7),
  (7, oLdI 2 8),
  (8, oLdA 0 9),
  (9, oGetI (fun k => k = 7) 4 12),
  (12, oIc (fun x y => y ≤ x) 36 15),
  (15, oPush (.int 10) 17),
  (17, oLdI 1 18),
  (18, oII (fun x y => x * y) 19),
  (19, oLdA 0 20),
  (20, oGetF (fun k => k = 7) 0 23),
  (23, oLdI 2 24),
  (24, oALdB 25),
  (25, oII (fun x y => x + y) 26),
  (26, oPush (.int 48) 28),
  (28, oII (fun x y => x - y) 29),
  (29, oStI 1 30),
  (30, oInc 2 1 33),
  (33, oGo 7),
  (36, oLdI 1 37),
  (37, oRetI)]
theorem ok72_0 : ∀ q ∈ pg72_0, Sim mT mt72 q.1 q.2 ∧ Grow q.2 :=
  List.forall_mem_cons.mpr ⟨⟨sim_iconst d72_0 (by decide), gr_Push (.int 0) 1⟩,
  List.forall_mem_cons.mpr ⟨⟨sim_istore_n d72_1 rfl (by decide), gr_StI 1 2⟩,
  List.forall_mem_cons.mpr ⟨⟨sim_aload_n d72_2 rfl, gr_LdA 0 3⟩,
  List.forall_mem_cons.mpr ⟨⟨sim_getI d72_3 gf72, gr_GetI (fun k => k = 7) 3 6⟩,
  List.forall_mem_cons.mpr ⟨⟨sim_istore_n d72_6 rfl (by decide), gr_StI 2 7⟩,
  List.forall_mem_cons.mpr ⟨⟨sim_iload_n d72_7 rfl, gr_LdI 2 8⟩,
  List.forall_mem_cons.mpr ⟨⟨sim_aload_n d72_8 rfl, gr_LdA 0 9⟩,
  List.forall_mem_cons.mpr ⟨⟨sim_getI d72_9 gf71, gr_GetI (fun k => k = 7) 4 12⟩,
  List.forall_mem_cons.mpr ⟨⟨sim_icmp_ge d72_12 (by decide), gr_Ic (fun x y => y ≤ x) 36 15⟩,
  List.forall_mem_cons.mpr ⟨⟨sim_bipush d72_15 (by decide), gr_Push (.int 10) 17⟩,
  List.forall_mem_cons.mpr ⟨⟨sim_iload_n d72_17 rfl, gr_LdI 1 18⟩,
  List.forall_mem_cons.mpr ⟨⟨sim_imul d72_18, gr_II (fun x y => x * y) 19⟩,
  List.forall_mem_cons.mpr ⟨⟨sim_aload_n d72_19 rfl, gr_LdA 0 20⟩,
  List.forall_mem_cons.mpr ⟨⟨sim_getF d72_20 gf70, gr_GetF (fun k => k = 7) 0 23⟩,
  List.forall_mem_cons.mpr ⟨⟨sim_iload_n d72_23 rfl, gr_LdI 2 24⟩,
  List.forall_mem_cons.mpr ⟨⟨sim_baload d72_24, gr_ALdB 25⟩,
  List.forall_mem_cons.mpr ⟨⟨sim_iadd d72_25, gr_II (fun x y => x + y) 26⟩,
  List.forall_mem_cons.mpr ⟨⟨sim_bipush d72_26 (by decide), gr_Push (.int 48) 28⟩,
  List.forall_mem_cons.mpr ⟨⟨sim_isub d72_28, gr_II (fun x y => x - y) 29⟩,
  List.forall_mem_cons.mpr ⟨⟨sim_istore_n d72_29 rfl (by decide), gr_StI 1 30⟩,
  List.forall_mem_cons.mpr ⟨⟨sim_iinc d72_30 (by decide) (by decide), gr_Inc 2 1 33⟩,
  List.forall_mem_cons.mpr ⟨⟨sim_goto d72_33 (by decide), gr_Go 7⟩,
  List.forall_mem_cons.mpr ⟨⟨sim_iload_n d72_36 rfl, gr_LdI 1 37⟩,
  List.forall_mem_cons.mpr ⟨⟨sim_ireturn d72_37 rfl, gr_RetI⟩, fun _ h => absurd h List.not_mem_nil⟩⟩⟩⟩⟩⟩⟩⟩⟩⟩⟩⟩⟩⟩⟩⟩⟩⟩⟩⟩⟩⟩⟩⟩
noncomputable def pg72 : List (Nat × aP) := pg72_0
theorem ok72 : ∀ q ∈ pg72, Sim mT mt72 q.1 q.2 ∧ Grow q.2 := ok72_0
theorem d73_0 : decode mt73.2.1 0 = .ok (.aload_n 0, 1) := by decide +kernel
theorem d73_1 : decode mt73.2.1 1 = .ok (.invokespecial 1, 3) := by decide +kernel
theorem d73_4 : decode mt73.2.1 4 = .ok (.return_, 1) := by decide +kernel
noncomputable def pg73_0 : List (Nat × aP) := [(0, oLdA 0 1),
  (1, oObj 4),
  (4, oRetV)]
theorem ok73_0 : ∀ q ∈ pg73_0, Sim mT mt73 q.1 q.2 ∧ Grow q.2 :=
  List.forall_mem_cons.mpr ⟨⟨sim_aload_n d73_0 rfl, gr_LdA 0 1⟩,
  List.forall_mem_cons.mpr ⟨⟨sim_obj d73_1 kw156 kw26 kw27, gr_Obj 4⟩,
  List.forall_mem_cons.mpr ⟨⟨sim_return d73_4 rfl, gr_RetV⟩, fun _ h => absurd h List.not_mem_nil⟩⟩⟩
noncomputable def pg73 : List (Nat × aP) := pg73_0
theorem ok73 : ∀ q ∈ pg73, Sim mT mt73 q.1 q.2 ∧ Grow q.2 := ok73_0
theorem d74_0 : decode mt74.2.1 0 = .ok (.aload_n 1, 1) := by decide +kernel
theorem d74_1 : decode mt74.2.1 1 = .ok (.getfield 7, 3) := by decide +kernel
theorem d74_4 : decode mt74.2.1 4 = .ok (.iload_n 2, 1) := by decide +kernel
theorem d74_5 : decode mt74.2.1 5 = .ok (.iaload, 1) := by decide +kernel
theorem d74_6 : decode mt74.2.1 6 = .ok (.istore 6, 2) := by decide +kernel
theorem d74_8 : decode mt74.2.1 8 = .ok (.iload 6, 2) := by decide +kernel
theorem d74_10 : decode mt74.2.1 10 = .ok (.istore 7, 2) := by decide +kernel
theorem d74_12 : decode mt74.2.1 12 = .ok (.aload_n 1, 1) := by decide +kernel
theorem d74_13 : decode mt74.2.1 13 = .ok (.getfield 13, 3) := by decide +kernel
theorem d74_16 : decode mt74.2.1 16 = .ok (.iload_n 2, 1) := by decide +kernel
theorem d74_17 : decode mt74.2.1 17 = .ok (.iaload, 1) := by decide +kernel
theorem d74_18 : decode mt74.2.1 18 = .ok (.istore 8, 2) := by decide +kernel
theorem d74_20 : decode mt74.2.1 20 = .ok (.lconst 1, 1) := by decide +kernel
theorem d74_21 : decode mt74.2.1 21 = .ok (.iload 6, 2) := by decide +kernel
theorem d74_23 : decode mt74.2.1 23 = .ok (.lshl, 1) := by decide +kernel
theorem d74_24 : decode mt74.2.1 24 = .ok (.lstore 9, 2) := by decide +kernel
theorem d74_26 : decode mt74.2.1 26 = .ok (.aload_n 0, 1) := by decide +kernel
theorem d74_27 : decode mt74.2.1 27 = .ok (.lconst 0, 1) := by decide +kernel
theorem d74_28 : decode mt74.2.1 28 = .ok (.putfield 16, 3) := by decide +kernel
theorem d74_31 : decode mt74.2.1 31 = .ok (.aload_n 0, 1) := by decide +kernel
theorem d74_32 : decode mt74.2.1 32 = .ok (.iconst 0, 1) := by decide +kernel
theorem d74_33 : decode mt74.2.1 33 = .ok (.putfield 22, 3) := by decide +kernel
theorem d74_36 : decode mt74.2.1 36 = .ok (.aload_n 0, 1) := by decide +kernel
theorem d74_37 : decode mt74.2.1 37 = .ok (.iload 5, 2) := by decide +kernel
theorem d74_39 : decode mt74.2.1 39 = .ok (.putfield 26, 3) := by decide +kernel
theorem d74_42 : decode mt74.2.1 42 = .ok (.iconst 0, 1) := by decide +kernel
theorem d74_43 : decode mt74.2.1 43 = .ok (.istore 11, 2) := by decide +kernel
theorem d74_45 : decode mt74.2.1 45 = .ok (.iload 11, 2) := by decide +kernel
theorem d74_47 : decode mt74.2.1 47 = .ok (.iload 5, 2) := by decide +kernel
theorem d74_49 : decode mt74.2.1 49 = .ok (.if_icmp .ge 152, 3) := by decide +kernel
theorem d74_52 : decode mt74.2.1 52 = .ok (.aload_n 3, 1) := by decide +kernel
theorem d74_53 : decode mt74.2.1 53 = .ok (.getfield 29, 3) := by decide +kernel
theorem d74_56 : decode mt74.2.1 56 = .ok (.iload 4, 2) := by decide +kernel
theorem d74_58 : decode mt74.2.1 58 = .ok (.iload 11, 2) := by decide +kernel
theorem d74_60 : decode mt74.2.1 60 = .ok (.iadd, 1) := by decide +kernel
theorem d74_61 : decode mt74.2.1 61 = .ok (.iaload, 1) := by decide +kernel
theorem d74_62 : decode mt74.2.1 62 = .ok (.istore 12, 2) := by decide +kernel
theorem d74_64 : decode mt74.2.1 64 = .ok (.aload_n 1, 1) := by decide +kernel
theorem d74_65 : decode mt74.2.1 65 = .ok (.iload 7, 2) := by decide +kernel
theorem d74_67 : decode mt74.2.1 67 = .ok (.iload 12, 2) := by decide +kernel
theorem d74_69 : decode mt74.2.1 69 = .ok (.invokevirtual 34, 3) := by decide +kernel
theorem d74_72 : decode mt74.2.1 72 = .ok (.ifCond .ne 11, 3) := by decide +kernel
theorem d74_75 : decode mt74.2.1 75 = .ok (.aload_n 0, 1) := by decide +kernel
theorem d74_76 : decode mt74.2.1 76 = .ok (.iconst 1, 1) := by decide +kernel
theorem d74_77 : decode mt74.2.1 77 = .ok (.iload 11, 2) := by decide +kernel
theorem d74_79 : decode mt74.2.1 79 = .ok (.invokevirtual 38, 3) := by decide +kernel
theorem d74_82 : decode mt74.2.1 82 = .ok (.return_, 1) := by decide +kernel
theorem d74_83 : decode mt74.2.1 83 = .ok (.iload 7, 2) := by decide +kernel
theorem d74_85 : decode mt74.2.1 85 = .ok (.getstatic 42, 3) := by decide +kernel
theorem d74_88 : decode mt74.2.1 88 = .ok (.iload 12, 2) := by decide +kernel
theorem d74_90 : decode mt74.2.1 90 = .ok (.iaload, 1) := by decide +kernel
theorem d74_91 : decode mt74.2.1 91 = .ok (.iadd, 1) := by decide +kernel
theorem d74_92 : decode mt74.2.1 92 = .ok (.istore 13, 2) := by decide +kernel
theorem d74_94 : decode mt74.2.1 94 = .ok (.iload 13, 2) := by decide +kernel
theorem d74_96 : decode mt74.2.1 96 = .ok (.iload 6, 2) := by decide +kernel
theorem d74_98 : decode mt74.2.1 98 = .ok (.if_icmp .ne 16, 3) := by decide +kernel
theorem d74_101 : decode mt74.2.1 101 = .ok (.iload 11, 2) := by decide +kernel
theorem d74_103 : decode mt74.2.1 103 = .ok (.iload 5, 2) := by decide +kernel
theorem d74_105 : decode mt74.2.1 105 = .ok (.iconst 1, 1) := by decide +kernel
theorem d74_106 : decode mt74.2.1 106 = .ok (.isub, 1) := by decide +kernel
theorem d74_107 : decode mt74.2.1 107 = .ok (.if_icmp .ne 7, 3) := by decide +kernel
theorem d74_110 : decode mt74.2.1 110 = .ok (.iconst 1, 1) := by decide +kernel
theorem d74_111 : decode mt74.2.1 111 = .ok (.goto 4, 3) := by decide +kernel
theorem d74_114 : decode mt74.2.1 114 = .ok (.iconst 0, 1) := by decide +kernel
theorem d74_115 : decode mt74.2.1 115 = .ok (.istore 14, 2) := by decide +kernel
theorem d74_117 : decode mt74.2.1 117 = .ok (.lload 9, 2) := by decide +kernel
theorem d74_119 : decode mt74.2.1 119 = .ok (.iload 13, 2) := by decide +kernel
theorem d74_121 : decode mt74.2.1 121 = .ok (.invokestatic 47, 3) := by decide +kernel
theorem d74_124 : decode mt74.2.1 124 = .ok (.ifCond .eq 16, 3) := by decide +kernel
theorem d74_127 : decode mt74.2.1 127 = .ok (.iload 14, 2) := by decide +kernel
theorem d74_129 : decode mt74.2.1 129 = .ok (.ifCond .ne 11, 3) := by decide +kernel
theorem d74_132 : decode mt74.2.1 132 = .ok (.aload_n 0, 1) := by decide +kernel
theorem d74_133 : decode mt74.2.1 133 = .ok (.iconst 2, 1) := by decide +kernel
theorem d74_134 : decode mt74.2.1 134 = .ok (.iload 11, 2) := by decide +kernel
theorem d74_136 : decode mt74.2.1 136 = .ok (.invokevirtual 38, 3) := by decide +kernel
theorem d74_139 : decode mt74.2.1 139 = .ok (.return_, 1) := by decide +kernel
theorem d74_140 : decode mt74.2.1 140 = .ok (.iload 8, 2) := by decide +kernel
theorem d74_142 : decode mt74.2.1 142 = .ok (.aload_n 1, 1) := by decide +kernel
theorem d74_143 : decode mt74.2.1 143 = .ok (.iload 7, 2) := by decide +kernel
theorem d74_145 : decode mt74.2.1 145 = .ok (.iload 12, 2) := by decide +kernel
theorem d74_147 : decode mt74.2.1 147 = .ok (.invokevirtual 51, 3) := by decide +kernel
theorem d74_150 : decode mt74.2.1 150 = .ok (.isub, 1) := by decide +kernel
theorem d74_151 : decode mt74.2.1 151 = .ok (.istore 8, 2) := by decide +kernel
theorem d74_153 : decode mt74.2.1 153 = .ok (.iload 8, 2) := by decide +kernel
theorem d74_155 : decode mt74.2.1 155 = .ok (.ifCond .ge 11, 3) := by decide +kernel
theorem d74_158 : decode mt74.2.1 158 = .ok (.aload_n 0, 1) := by decide +kernel
theorem d74_159 : decode mt74.2.1 159 = .ok (.iconst 3, 1) := by decide +kernel
theorem d74_160 : decode mt74.2.1 160 = .ok (.iload 11, 2) := by decide +kernel
theorem d74_162 : decode mt74.2.1 162 = .ok (.invokevirtual 38, 3) := by decide +kernel
theorem d74_165 : decode mt74.2.1 165 = .ok (.return_, 1) := by decide +kernel
theorem d74_166 : decode mt74.2.1 166 = .ok (.aload_n 0, 1) := by decide +kernel
theorem d74_167 : decode mt74.2.1 167 = .ok (.dup, 1) := by decide +kernel
theorem d74_168 : decode mt74.2.1 168 = .ok (.getfield 16, 3) := by decide +kernel
theorem d74_171 : decode mt74.2.1 171 = .ok (.iload 7, 2) := by decide +kernel
theorem d74_173 : decode mt74.2.1 173 = .ok (.iload 12, 2) := by decide +kernel
theorem d74_175 : decode mt74.2.1 175 = .ok (.invokestatic 55, 3) := by decide +kernel
theorem d74_178 : decode mt74.2.1 178 = .ok (.lxor, 1) := by decide +kernel
theorem d74_179 : decode mt74.2.1 179 = .ok (.putfield 16, 3) := by decide +kernel
theorem d74_182 : decode mt74.2.1 182 = .ok (.lload 9, 2) := by decide +kernel
theorem d74_184 : decode mt74.2.1 184 = .ok (.lconst 1, 1) := by decide +kernel
theorem d74_185 : decode mt74.2.1 185 = .ok (.iload 13, 2) := by decide +kernel
theorem d74_187 : decode mt74.2.1 187 = .ok (.lshl, 1) := by decide +kernel
theorem d74_188 : decode mt74.2.1 188 = .ok (.lor, 1) := by decide +kernel
theorem d74_189 : decode mt74.2.1 189 = .ok (.lstore 9, 2) := by decide +kernel
theorem d74_191 : decode mt74.2.1 191 = .ok (.iload 13, 2) := by decide +kernel
theorem d74_193 : decode mt74.2.1 193 = .ok (.istore 7, 2) := by decide +kernel
theorem d74_195 : decode mt74.2.1 195 = .ok (.iinc 11 1, 3) := by decide +kernel
theorem d74_198 : decode mt74.2.1 198 = .ok (.goto (-153), 3) := by decide +kernel
theorem d74_201 : decode mt74.2.1 201 = .ok (.aload_n 0, 1) := by decide +kernel
theorem d74_202 : decode mt74.2.1 202 = .ok (.aload_n 1, 1) := by decide +kernel
theorem d74_203 : decode mt74.2.1 203 = .ok (.iload 7, 2) := by decide +kernel
theorem d74_205 : decode mt74.2.1 205 = .ok (.iload 6, 2) := by decide +kernel
theorem d74_207 : decode mt74.2.1 207 = .ok (.if_icmp .ne 7, 3) := by decide +kernel
theorem d74_210 : decode mt74.2.1 210 = .ok (.iconst 1, 1) := by decide +kernel
theorem d74_211 : decode mt74.2.1 211 = .ok (.goto 4, 3) := by decide +kernel
theorem d74_214 : decode mt74.2.1 214 = .ok (.iconst 0, 1) := by decide +kernel
theorem d74_215 : decode mt74.2.1 215 = .ok (.iload 5, 2) := by decide +kernel
theorem d74_217 : decode mt74.2.1 217 = .ok (.invokevirtual 59, 3) := by decide +kernel
theorem d74_220 : decode mt74.2.1 220 = .ok (.return_, 1) := by decide +kernel
noncomputable def pg74_0 : List (Nat × aP) := [(0, oLdA 1 1),
  (1, oGetF (fun k => k = 3) 6 4),
  (4, oLdI 2 5),
  (5, oALdI 6),
  (6, oStI 6 8),
  (8, oLdI 6 10),
  (10, oStI 7 12),
  (12, oLdA 1 13),
  (13, oGetF (fun k => k = 3) 7 16),
  (16, oLdI 2 17),
  (17, oALdI 18),
  (18, oStI 8 20),
  (20, oPush (.long 1) 21),
  (21, oLdI 6 23),
  (23, oLSh (fun x y => x <<< (y.toInt64 &&& 63)) 24),
  (24, oStL 9 26),
  (26, oLdA 0 27),
  (27, oPush (.long 0) 28),
  (28, oPutL (fun k => k = 8) 0 31),
  (31, oLdA 0 32),
  (32, oPush (.int 0) 33),
  (33, oPutI (fun k => k = 8) 1 36),
  (36, oLdA 0 37),
  (37, oLdI 5 39),
  (39, oPutI (fun k => k = 8) 2 42),
  (42, oPush (.int 0) 43),
  (43, oStI 11 45),
  (45, oLdI 11 47),
  (47, oLdI 5 49),
  (49, oIc (fun x y => y ≤ x) 201 52),
  (52, oLdA 3 53),
  (53, oGetF (fun k => k = 6) 0 56),
  (56, oLdI 4 58),
  (58, oLdI 11 60),
  (60, oII (fun x y => x + y) 61),
  (61, oALdI 62),
  (62, oStI 12 64),
  (64, oLdA 1 65),
  (65, oLdI 7 67),
  (67, oLdI 12 69)]
theorem ok74_0 : ∀ q ∈ pg74_0, Sim mT mt74 q.1 q.2 ∧ Grow q.2 :=
  List.forall_mem_cons.mpr ⟨⟨sim_aload_n d74_0 rfl, gr_LdA 1 1⟩,
  List.forall_mem_cons.mpr ⟨⟨sim_getF d74_1 gf74, gr_GetF (fun k => k = 3) 6 4⟩,
  List.forall_mem_cons.mpr ⟨⟨sim_iload_n d74_4 rfl, gr_LdI 2 5⟩,
  List.forall_mem_cons.mpr ⟨⟨sim_iaload d74_5, gr_ALdI 6⟩,
  List.forall_mem_cons.mpr ⟨⟨sim_istore d74_6 (by decide), gr_StI 6 8⟩,
  List.forall_mem_cons.mpr ⟨⟨sim_iload d74_8, gr_LdI 6 10⟩,
  List.forall_mem_cons.mpr ⟨⟨sim_istore d74_10 (by decide), gr_StI 7 12⟩,
  List.forall_mem_cons.mpr ⟨⟨sim_aload_n d74_12 rfl, gr_LdA 1 13⟩,
  List.forall_mem_cons.mpr ⟨⟨sim_getF d74_13 gf75, gr_GetF (fun k => k = 3) 7 16⟩,
  List.forall_mem_cons.mpr ⟨⟨sim_iload_n d74_16 rfl, gr_LdI 2 17⟩,
  List.forall_mem_cons.mpr ⟨⟨sim_iaload d74_17, gr_ALdI 18⟩,
  List.forall_mem_cons.mpr ⟨⟨sim_istore d74_18 (by decide), gr_StI 8 20⟩,
  List.forall_mem_cons.mpr ⟨⟨sim_lconst d74_20 (by decide), gr_Push (.long 1) 21⟩,
  List.forall_mem_cons.mpr ⟨⟨sim_iload d74_21, gr_LdI 6 23⟩,
  List.forall_mem_cons.mpr ⟨⟨sim_lshl d74_23, gr_LSh (fun x y => x <<< (y.toInt64 &&& 63)) 24⟩,
  List.forall_mem_cons.mpr ⟨⟨sim_lstore d74_24 (by decide), gr_StL 9 26⟩,
  List.forall_mem_cons.mpr ⟨⟨sim_aload_n d74_26 rfl, gr_LdA 0 27⟩,
  List.forall_mem_cons.mpr ⟨⟨sim_lconst d74_27 (by decide), gr_Push (.long 0) 28⟩,
  List.forall_mem_cons.mpr ⟨⟨sim_putL d74_28 gf76, gr_PutL (fun k => k = 8) 0 31⟩,
  List.forall_mem_cons.mpr ⟨⟨sim_aload_n d74_31 rfl, gr_LdA 0 32⟩,
  List.forall_mem_cons.mpr ⟨⟨sim_iconst d74_32 (by decide), gr_Push (.int 0) 33⟩,
  List.forall_mem_cons.mpr ⟨⟨sim_putI d74_33 gf77w, gr_PutI (fun k => k = 8) 1 36⟩,
  List.forall_mem_cons.mpr ⟨⟨sim_aload_n d74_36 rfl, gr_LdA 0 37⟩,
  List.forall_mem_cons.mpr ⟨⟨sim_iload d74_37, gr_LdI 5 39⟩,
  List.forall_mem_cons.mpr ⟨⟨sim_putI d74_39 gf78w, gr_PutI (fun k => k = 8) 2 42⟩,
  List.forall_mem_cons.mpr ⟨⟨sim_iconst d74_42 (by decide), gr_Push (.int 0) 43⟩,
  List.forall_mem_cons.mpr ⟨⟨sim_istore d74_43 (by decide), gr_StI 11 45⟩,
  List.forall_mem_cons.mpr ⟨⟨sim_iload d74_45, gr_LdI 11 47⟩,
  List.forall_mem_cons.mpr ⟨⟨sim_iload d74_47, gr_LdI 5 49⟩,
  List.forall_mem_cons.mpr ⟨⟨sim_icmp_ge d74_49 (by decide), gr_Ic (fun x y => y ≤ x) 201 52⟩,
  List.forall_mem_cons.mpr ⟨⟨sim_aload_n d74_52 rfl, gr_LdA 3 53⟩,
  List.forall_mem_cons.mpr ⟨⟨sim_getF d74_53 gf79, gr_GetF (fun k => k = 6) 0 56⟩,
  List.forall_mem_cons.mpr ⟨⟨sim_iload d74_56, gr_LdI 4 58⟩,
  List.forall_mem_cons.mpr ⟨⟨sim_iload d74_58, gr_LdI 11 60⟩,
  List.forall_mem_cons.mpr ⟨⟨sim_iadd d74_60, gr_II (fun x y => x + y) 61⟩,
  List.forall_mem_cons.mpr ⟨⟨sim_iaload d74_61, gr_ALdI 62⟩,
  List.forall_mem_cons.mpr ⟨⟨sim_istore d74_62 (by decide), gr_StI 12 64⟩,
  List.forall_mem_cons.mpr ⟨⟨sim_aload_n d74_64 rfl, gr_LdA 1 65⟩,
  List.forall_mem_cons.mpr ⟨⟨sim_iload d74_65, gr_LdI 7 67⟩,
  List.forall_mem_cons.mpr ⟨⟨sim_iload d74_67, gr_LdI 12 69⟩, fun _ h => absurd h List.not_mem_nil⟩⟩⟩⟩⟩⟩⟩⟩⟩⟩⟩⟩⟩⟩⟩⟩⟩⟩⟩⟩⟩⟩⟩⟩⟩⟩⟩⟩⟩⟩⟩⟩⟩⟩⟩⟩⟩⟩⟩⟩
noncomputable def pg74_1 : List (Nat × aP) := [(69, oCalV (fun k => if k = 3 then some 33 else none) 2 72),
  (72, oIf (fun x => ¬ x = 0) 83 75),
  (75, oLdA 0 76),
  (76, oPush (.int 1) 77),
  (77, oLdI 11 79),
  (79, oCalV (fun k => if k = 8 then some 75 else none) 2 82),
  (82, oRetV),
  (83, oLdI 7 85),
  (85, oPush (.ref 1) 88),
  (88, oLdI 12 90),
  (90, oALdI 91),
  (91, oII (fun x y => x + y) 92),
  (92, oStI 13 94),
  (94, oLdI 13 96),
  (96, oLdI 6 98),
  (98, oIc (fun x y => ¬ x = y) 114 101),
  (101, oLdI 11 103),
  (103, oLdI 5 105),
  (105, oPush (.int 1) 106),
  (106, oII (fun x y => x - y) 107),
  (107, oIc (fun x y => ¬ x = y) 114 110),
  (110, oPush (.int 1) 111),
  (111, oGo 115),
  (114, oPush (.int 0) 115),
  (115, oStI 14 117),
  (117, oLdL 9 119),
  (119, oLdI 13 121),
  (121, oCall 122 2 124),
  (124, oIf (fun x => x = 0) 140 127),
  (127, oLdI 14 129),
  (129, oIf (fun x => ¬ x = 0) 140 132),
  (132, oLdA 0 133),
  (133, oPush (.int 2) 134),
  (134, oLdI 11 136),
  (136, oCalV (fun k => if k = 8 then some 75 else none) 2 139),
  (139, oRetV),
  (140, oLdI 8 142),
  (142, oLdA 1 143),
  (143, oLdI 7 145),
  (145, oLdI 12 147)]
theorem ok74_1 : ∀ q ∈ pg74_1, Sim mT mt74 q.1 q.2 ∧ Grow q.2 :=
  List.forall_mem_cons.mpr ⟨⟨sim_virtual d74_69 vk46, gr_CalV (fun k => if k = 3 then some 33 else none) 2 72⟩,
  List.forall_mem_cons.mpr ⟨⟨sim_if_ne d74_72 (by decide), gr_If (fun x => ¬ x = 0) 83 75⟩,
  List.forall_mem_cons.mpr ⟨⟨sim_aload_n d74_75 rfl, gr_LdA 0 76⟩,
  List.forall_mem_cons.mpr ⟨⟨sim_iconst d74_76 (by decide), gr_Push (.int 1) 77⟩,
  List.forall_mem_cons.mpr ⟨⟨sim_iload d74_77, gr_LdI 11 79⟩,
  List.forall_mem_cons.mpr ⟨⟨sim_virtual d74_79 vk47, gr_CalV (fun k => if k = 8 then some 75 else none) 2 82⟩,
  List.forall_mem_cons.mpr ⟨⟨sim_return d74_82 rfl, gr_RetV⟩,
  List.forall_mem_cons.mpr ⟨⟨sim_iload d74_83, gr_LdI 7 85⟩,
  List.forall_mem_cons.mpr ⟨⟨sim_strides d74_85 kn616, gr_Push (.ref 1) 88⟩,
  List.forall_mem_cons.mpr ⟨⟨sim_iload d74_88, gr_LdI 12 90⟩,
  List.forall_mem_cons.mpr ⟨⟨sim_iaload d74_90, gr_ALdI 91⟩,
  List.forall_mem_cons.mpr ⟨⟨sim_iadd d74_91, gr_II (fun x y => x + y) 92⟩,
  List.forall_mem_cons.mpr ⟨⟨sim_istore d74_92 (by decide), gr_StI 13 94⟩,
  List.forall_mem_cons.mpr ⟨⟨sim_iload d74_94, gr_LdI 13 96⟩,
  List.forall_mem_cons.mpr ⟨⟨sim_iload d74_96, gr_LdI 6 98⟩,
  List.forall_mem_cons.mpr ⟨⟨sim_icmp_ne d74_98 (by decide), gr_Ic (fun x y => ¬ x = y) 114 101⟩,
  List.forall_mem_cons.mpr ⟨⟨sim_iload d74_101, gr_LdI 11 103⟩,
  List.forall_mem_cons.mpr ⟨⟨sim_iload d74_103, gr_LdI 5 105⟩,
  List.forall_mem_cons.mpr ⟨⟨sim_iconst d74_105 (by decide), gr_Push (.int 1) 106⟩,
  List.forall_mem_cons.mpr ⟨⟨sim_isub d74_106, gr_II (fun x y => x - y) 107⟩,
  List.forall_mem_cons.mpr ⟨⟨sim_icmp_ne d74_107 (by decide), gr_Ic (fun x y => ¬ x = y) 114 110⟩,
  List.forall_mem_cons.mpr ⟨⟨sim_iconst d74_110 (by decide), gr_Push (.int 1) 111⟩,
  List.forall_mem_cons.mpr ⟨⟨sim_goto d74_111 (by decide), gr_Go 115⟩,
  List.forall_mem_cons.mpr ⟨⟨sim_iconst d74_114 (by decide), gr_Push (.int 0) 115⟩,
  List.forall_mem_cons.mpr ⟨⟨sim_istore d74_115 (by decide), gr_StI 14 117⟩,
  List.forall_mem_cons.mpr ⟨⟨sim_lload d74_117, gr_LdL 9 119⟩,
  List.forall_mem_cons.mpr ⟨⟨sim_iload d74_119, gr_LdI 13 121⟩,
  List.forall_mem_cons.mpr ⟨⟨sim_static (y := 122) d74_121 (Or.inr ⟨_, kn617⟩) kw534 mo122, gr_Call 122 2 124⟩,
  List.forall_mem_cons.mpr ⟨⟨sim_if_eq d74_124 (by decide), gr_If (fun x => x = 0) 140 127⟩,
  List.forall_mem_cons.mpr ⟨⟨sim_iload d74_127, gr_LdI 14 129⟩,
  List.forall_mem_cons.mpr ⟨⟨sim_if_ne d74_129 (by decide), gr_If (fun x => ¬ x = 0) 140 132⟩,
  List.forall_mem_cons.mpr ⟨⟨sim_aload_n d74_132 rfl, gr_LdA 0 133⟩,
  List.forall_mem_cons.mpr ⟨⟨sim_iconst d74_133 (by decide), gr_Push (.int 2) 134⟩,
  List.forall_mem_cons.mpr ⟨⟨sim_iload d74_134, gr_LdI 11 136⟩,
  List.forall_mem_cons.mpr ⟨⟨sim_virtual d74_136 vk47, gr_CalV (fun k => if k = 8 then some 75 else none) 2 139⟩,
  List.forall_mem_cons.mpr ⟨⟨sim_return d74_139 rfl, gr_RetV⟩,
  List.forall_mem_cons.mpr ⟨⟨sim_iload d74_140, gr_LdI 8 142⟩,
  List.forall_mem_cons.mpr ⟨⟨sim_aload_n d74_142 rfl, gr_LdA 1 143⟩,
  List.forall_mem_cons.mpr ⟨⟨sim_iload d74_143, gr_LdI 7 145⟩,
  List.forall_mem_cons.mpr ⟨⟨sim_iload d74_145, gr_LdI 12 147⟩, fun _ h => absurd h List.not_mem_nil⟩⟩⟩⟩⟩⟩⟩⟩⟩⟩⟩⟩⟩⟩⟩⟩⟩⟩⟩⟩⟩⟩⟩⟩⟩⟩⟩⟩⟩⟩⟩⟩⟩⟩⟩⟩⟩⟩⟩⟩
noncomputable def pg74_2 : List (Nat × aP) := [(147, oCalV (fun k => if k = 3 then some 34 else none) 2 150),
  (150, oII (fun x y => x - y) 151),
  (151, oStI 8 153),
  (153, oLdI 8 155),
  (155, oIf (fun x => 0 ≤ x) 166 158),
  (158, oLdA 0 159),
  (159, oPush (.int 3) 160),
  (160, oLdI 11 162),
  (162, oCalV (fun k => if k = 8 then some 75 else none) 2 165),
  (165, oRetV),
  (166, oLdA 0 167),
  (167, oDup 168),
  (168, oGetL (fun k => k = 8) 0 171),
  (171, oLdI 7 173),
  (173, oLdI 12 175),
  (175, oCall 127 2 178),
  (178, oLL (fun x y => x ^^^ y) 179),
  (179, oPutL (fun k => k = 8) 0 182),
  (182, oLdL 9 184),
  (184, oPush (.long 1) 185),
  (185, oLdI 13 187),
  (187, oLSh (fun x y => x <<< (y.toInt64 &&& 63)) 188),
  (188, oLL (fun x y => x ||| y) 189),
  (189, oStL 9 191),
  (191, oLdI 13 193),
  (193, oStI 7 195),
  (195, oInc 11 1 198),
  (198, oGo 45),
  (201, oLdA 0 202),
  (202, oLdA 1 203),
  (203, oLdI 7 205),
  (205, oLdI 6 207),
  (207, oIc (fun x y => ¬ x = y) 214 210),
  (210, oPush (.int 1) 211),
  (211, oGo 215),
  (214, oPush (.int 0) 215),
  (215, oLdI 5 217),
  (217, oCalV (fun k => if k = 8 then some 76 else none) 3 220),
  (220, oRetV)]
theorem ok74_2 : ∀ q ∈ pg74_2, Sim mT mt74 q.1 q.2 ∧ Grow q.2 :=
  List.forall_mem_cons.mpr ⟨⟨sim_virtual d74_147 vk48, gr_CalV (fun k => if k = 3 then some 34 else none) 2 150⟩,
  List.forall_mem_cons.mpr ⟨⟨sim_isub d74_150, gr_II (fun x y => x - y) 151⟩,
  List.forall_mem_cons.mpr ⟨⟨sim_istore d74_151 (by decide), gr_StI 8 153⟩,
  List.forall_mem_cons.mpr ⟨⟨sim_iload d74_153, gr_LdI 8 155⟩,
  List.forall_mem_cons.mpr ⟨⟨sim_if_ge d74_155 (by decide), gr_If (fun x => 0 ≤ x) 166 158⟩,
  List.forall_mem_cons.mpr ⟨⟨sim_aload_n d74_158 rfl, gr_LdA 0 159⟩,
  List.forall_mem_cons.mpr ⟨⟨sim_iconst d74_159 (by decide), gr_Push (.int 3) 160⟩,
  List.forall_mem_cons.mpr ⟨⟨sim_iload d74_160, gr_LdI 11 162⟩,
  List.forall_mem_cons.mpr ⟨⟨sim_virtual d74_162 vk47, gr_CalV (fun k => if k = 8 then some 75 else none) 2 165⟩,
  List.forall_mem_cons.mpr ⟨⟨sim_return d74_165 rfl, gr_RetV⟩,
  List.forall_mem_cons.mpr ⟨⟨sim_aload_n d74_166 rfl, gr_LdA 0 167⟩,
  List.forall_mem_cons.mpr ⟨⟨sim_dup d74_167, gr_Dup 168⟩,
  List.forall_mem_cons.mpr ⟨⟨sim_getL d74_168 gf76, gr_GetL (fun k => k = 8) 0 171⟩,
  List.forall_mem_cons.mpr ⟨⟨sim_iload d74_171, gr_LdI 7 173⟩,
  List.forall_mem_cons.mpr ⟨⟨sim_iload d74_173, gr_LdI 12 175⟩,
  List.forall_mem_cons.mpr ⟨⟨sim_static (y := 127) d74_175 (Or.inr ⟨_, kn619⟩) kw620 mo127, gr_Call 127 2 178⟩,
  List.forall_mem_cons.mpr ⟨⟨sim_lxor d74_178, gr_LL (fun x y => x ^^^ y) 179⟩,
  List.forall_mem_cons.mpr ⟨⟨sim_putL d74_179 gf76, gr_PutL (fun k => k = 8) 0 182⟩,
  List.forall_mem_cons.mpr ⟨⟨sim_lload d74_182, gr_LdL 9 184⟩,
  List.forall_mem_cons.mpr ⟨⟨sim_lconst d74_184 (by decide), gr_Push (.long 1) 185⟩,
  List.forall_mem_cons.mpr ⟨⟨sim_iload d74_185, gr_LdI 13 187⟩,
  List.forall_mem_cons.mpr ⟨⟨sim_lshl d74_187, gr_LSh (fun x y => x <<< (y.toInt64 &&& 63)) 188⟩,
  List.forall_mem_cons.mpr ⟨⟨sim_lor d74_188, gr_LL (fun x y => x ||| y) 189⟩,
  List.forall_mem_cons.mpr ⟨⟨sim_lstore d74_189 (by decide), gr_StL 9 191⟩,
  List.forall_mem_cons.mpr ⟨⟨sim_iload d74_191, gr_LdI 13 193⟩,
  List.forall_mem_cons.mpr ⟨⟨sim_istore d74_193 (by decide), gr_StI 7 195⟩,
  List.forall_mem_cons.mpr ⟨⟨sim_iinc d74_195 (by decide) (by decide), gr_Inc 11 1 198⟩,
  List.forall_mem_cons.mpr ⟨⟨sim_goto d74_198 (by decide), gr_Go 45⟩,
  List.forall_mem_cons.mpr ⟨⟨sim_aload_n d74_201 rfl, gr_LdA 0 202⟩,
  List.forall_mem_cons.mpr ⟨⟨sim_aload_n d74_202 rfl, gr_LdA 1 203⟩,
  List.forall_mem_cons.mpr ⟨⟨sim_iload d74_203, gr_LdI 7 205⟩,
  List.forall_mem_cons.mpr ⟨⟨sim_iload d74_205, gr_LdI 6 207⟩,
  List.forall_mem_cons.mpr ⟨⟨sim_icmp_ne d74_207 (by decide), gr_Ic (fun x y => ¬ x = y) 214 210⟩,
  List.forall_mem_cons.mpr ⟨⟨sim_iconst d74_210 (by decide), gr_Push (.int 1) 211⟩,
  List.forall_mem_cons.mpr ⟨⟨sim_goto d74_211 (by decide), gr_Go 215⟩,
  List.forall_mem_cons.mpr ⟨⟨sim_iconst d74_214 (by decide), gr_Push (.int 0) 215⟩,
  List.forall_mem_cons.mpr ⟨⟨sim_iload d74_215, gr_LdI 5 217⟩,
  List.forall_mem_cons.mpr ⟨⟨sim_virtual d74_217 vk49, gr_CalV (fun k => if k = 8 then some 76 else none) 3 220⟩,
  List.forall_mem_cons.mpr ⟨⟨sim_return d74_220 rfl, gr_RetV⟩, fun _ h => absurd h List.not_mem_nil⟩⟩⟩⟩⟩⟩⟩⟩⟩⟩⟩⟩⟩⟩⟩⟩⟩⟩⟩⟩⟩⟩⟩⟩⟩⟩⟩⟩⟩⟩⟩⟩⟩⟩⟩⟩⟩⟩⟩
noncomputable def pg74 : List (Nat × aP) := pg74_0 ++ (pg74_1 ++ (pg74_2))
theorem ok74 : ∀ q ∈ pg74, Sim mT mt74 q.1 q.2 ∧ Grow q.2 := List.forall_mem_append.mpr ⟨ok74_0, List.forall_mem_append.mpr ⟨ok74_1, ok74_2⟩⟩
theorem d75_0 : decode mt75.2.1 0 = .ok (.aload_n 0, 1) := by decide +kernel
theorem d75_1 : decode mt75.2.1 1 = .ok (.iload_n 1, 1) := by decide +kernel
theorem d75_2 : decode mt75.2.1 2 = .ok (.putfield 22, 3) := by decide +kernel
theorem d75_5 : decode mt75.2.1 5 = .ok (.aload_n 0, 1) := by decide +kernel
theorem d75_6 : decode mt75.2.1 6 = .ok (.iload_n 2, 1) := by decide +kernel
theorem d75_7 : decode mt75.2.1 7 = .ok (.putfield 26, 3) := by decide +kernel
theorem d75_10 : decode mt75.2.1 10 = .ok (.return_, 1) := by decide +kernel
noncomputable def pg75_0 : List (Nat × aP) := [(0, oLdA 0 1),
  (1, oLdI 1 2),
  (2, oPutI (fun k => k = 8) 1 5),
  (5, oLdA 0 6),
  (6, oLdI 2 7),
  (7, oPutI (fun k => k = 8) 2 10),
  (10, oRetV)]
theorem ok75_0 : ∀ q ∈ pg75_0, Sim mT mt75 q.1 q.2 ∧ Grow q.2 :=
  List.forall_mem_cons.mpr ⟨⟨sim_aload_n d75_0 rfl, gr_LdA 0 1⟩,
  List.forall_mem_cons.mpr ⟨⟨sim_iload_n d75_1 rfl, gr_LdI 1 2⟩,
  List.forall_mem_cons.mpr ⟨⟨sim_putI d75_2 gf77w, gr_PutI (fun k => k = 8) 1 5⟩,
  List.forall_mem_cons.mpr ⟨⟨sim_aload_n d75_5 rfl, gr_LdA 0 6⟩,
  List.forall_mem_cons.mpr ⟨⟨sim_iload_n d75_6 rfl, gr_LdI 2 7⟩,
  List.forall_mem_cons.mpr ⟨⟨sim_putI d75_7 gf78w, gr_PutI (fun k => k = 8) 2 10⟩,
  List.forall_mem_cons.mpr ⟨⟨sim_return d75_10 rfl, gr_RetV⟩, fun _ h => absurd h List.not_mem_nil⟩⟩⟩⟩⟩⟩⟩
noncomputable def pg75 : List (Nat × aP) := pg75_0
theorem ok75 : ∀ q ∈ pg75, Sim mT mt75 q.1 q.2 ∧ Grow q.2 := ok75_0
theorem d76_0 : decode mt76.2.1 0 = .ok (.iload_n 2, 1) := by decide +kernel
theorem d76_1 : decode mt76.2.1 1 = .ok (.ifCond .ne 11, 3) := by decide +kernel
theorem d76_4 : decode mt76.2.1 4 = .ok (.aload_n 0, 1) := by decide +kernel
theorem d76_5 : decode mt76.2.1 5 = .ok (.iconst 4, 1) := by decide +kernel
theorem d76_6 : decode mt76.2.1 6 = .ok (.putfield 22, 3) := by decide +kernel
theorem d76_9 : decode mt76.2.1 9 = .ok (.goto 36, 3) := by decide +kernel
theorem d76_12 : decode mt76.2.1 12 = .ok (.iload_n 3, 1) := by decide +kernel
theorem d76_13 : decode mt76.2.1 13 = .ok (.iconst 4, 1) := by decide +kernel
theorem d76_14 : decode mt76.2.1 14 = .ok (.if_icmp .ge 11, 3) := by decide +kernel
theorem d76_17 : decode mt76.2.1 17 = .ok (.aload_n 0, 1) := by decide +kernel
theorem d76_18 : decode mt76.2.1 18 = .ok (.iconst 5, 1) := by decide +kernel
theorem d76_19 : decode mt76.2.1 19 = .ok (.putfield 22, 3) := by decide +kernel
theorem d76_22 : decode mt76.2.1 22 = .ok (.goto 23, 3) := by decide +kernel
theorem d76_25 : decode mt76.2.1 25 = .ok (.aload_n 0, 1) := by decide +kernel
theorem d76_26 : decode mt76.2.1 26 = .ok (.getfield 16, 3) := by decide +kernel
theorem d76_29 : decode mt76.2.1 29 = .ok (.aload_n 1, 1) := by decide +kernel
theorem d76_30 : decode mt76.2.1 30 = .ok (.getfield 63, 3) := by decide +kernel
theorem d76_33 : decode mt76.2.1 33 = .ok (.land, 1) := by decide +kernel
theorem d76_34 : decode mt76.2.1 34 = .ok (.lconst 0, 1) := by decide +kernel
theorem d76_35 : decode mt76.2.1 35 = .ok (.lcmp, 1) := by decide +kernel
theorem d76_36 : decode mt76.2.1 36 = .ok (.ifCond .eq 9, 3) := by decide +kernel
theorem d76_39 : decode mt76.2.1 39 = .ok (.aload_n 0, 1) := by decide +kernel
theorem d76_40 : decode mt76.2.1 40 = .ok (.bipush 6, 2) := by decide +kernel
theorem d76_42 : decode mt76.2.1 42 = .ok (.putfield 22, 3) := by decide +kernel
theorem d76_45 : decode mt76.2.1 45 = .ok (.return_, 1) := by decide +kernel
noncomputable def pg76_0 : List (Nat × aP) := [(0, oLdI 2 1),
  (1, oIf (fun x => ¬ x = 0) 12 4),
  (4, oLdA 0 5),
  (5, oPush (.int 4) 6),
  (6, oPutI (fun k => k = 8) 1 9),
  (9, oGo 45),
  (12, oLdI 3 13),
  (13, oPush (.int 4) 14),
  (14, oIc (fun x y => y ≤ x) 25 17),
  (17, oLdA 0 18),
  (18, oPush (.int 5) 19),
  (19, oPutI (fun k => k = 8) 1 22),
  (22, oGo 45),
  (25, oLdA 0 26),
  (26, oGetL (fun k => k = 8) 0 29),
  (29, oLdA 1 30),
  (30, oGetL (fun k => k = 3) 10 33),
  (33, oLL (fun x y => x &&& y) 34),
  (34, oPush (.long 0) 35),
  (35, oLcmp 36),
  (36, oIf (fun x => x = 0) 45 39),
  (39, oLdA 0 40),
  (40, oPush (.int 6) 42),
  (42, oPutI (fun k => k = 8) 1 45),
  (45, oRetV)]
theorem ok76_0 : ∀ q ∈ pg76_0, Sim mT mt76 q.1 q.2 ∧ Grow q.2 :=
  List.forall_mem_cons.mpr ⟨⟨sim_iload_n d76_0 rfl, gr_LdI 2 1⟩,
  List.forall_mem_cons.mpr ⟨⟨sim_if_ne d76_1 (by decide), gr_If (fun x => ¬ x = 0) 12 4⟩,
  List.forall_mem_cons.mpr ⟨⟨sim_aload_n d76_4 rfl, gr_LdA 0 5⟩,
  List.forall_mem_cons.mpr ⟨⟨sim_iconst d76_5 (by decide), gr_Push (.int 4) 6⟩,
  List.forall_mem_cons.mpr ⟨⟨sim_putI d76_6 gf77w, gr_PutI (fun k => k = 8) 1 9⟩,
  List.forall_mem_cons.mpr ⟨⟨sim_goto d76_9 (by decide), gr_Go 45⟩,
  List.forall_mem_cons.mpr ⟨⟨sim_iload_n d76_12 rfl, gr_LdI 3 13⟩,
  List.forall_mem_cons.mpr ⟨⟨sim_iconst d76_13 (by decide), gr_Push (.int 4) 14⟩,
  List.forall_mem_cons.mpr ⟨⟨sim_icmp_ge d76_14 (by decide), gr_Ic (fun x y => y ≤ x) 25 17⟩,
  List.forall_mem_cons.mpr ⟨⟨sim_aload_n d76_17 rfl, gr_LdA 0 18⟩,
  List.forall_mem_cons.mpr ⟨⟨sim_iconst d76_18 (by decide), gr_Push (.int 5) 19⟩,
  List.forall_mem_cons.mpr ⟨⟨sim_putI d76_19 gf77w, gr_PutI (fun k => k = 8) 1 22⟩,
  List.forall_mem_cons.mpr ⟨⟨sim_goto d76_22 (by decide), gr_Go 45⟩,
  List.forall_mem_cons.mpr ⟨⟨sim_aload_n d76_25 rfl, gr_LdA 0 26⟩,
  List.forall_mem_cons.mpr ⟨⟨sim_getL d76_26 gf76, gr_GetL (fun k => k = 8) 0 29⟩,
  List.forall_mem_cons.mpr ⟨⟨sim_aload_n d76_29 rfl, gr_LdA 1 30⟩,
  List.forall_mem_cons.mpr ⟨⟨sim_getL d76_30 gf80, gr_GetL (fun k => k = 3) 10 33⟩,
  List.forall_mem_cons.mpr ⟨⟨sim_land d76_33, gr_LL (fun x y => x &&& y) 34⟩,
  List.forall_mem_cons.mpr ⟨⟨sim_lconst d76_34 (by decide), gr_Push (.long 0) 35⟩,
  List.forall_mem_cons.mpr ⟨⟨sim_lcmp d76_35, gr_Lcmp 36⟩,
  List.forall_mem_cons.mpr ⟨⟨sim_if_eq d76_36 (by decide), gr_If (fun x => x = 0) 45 39⟩,
  List.forall_mem_cons.mpr ⟨⟨sim_aload_n d76_39 rfl, gr_LdA 0 40⟩,
  List.forall_mem_cons.mpr ⟨⟨sim_bipush d76_40 (by decide), gr_Push (.int 6) 42⟩,
  List.forall_mem_cons.mpr ⟨⟨sim_putI d76_42 gf77w, gr_PutI (fun k => k = 8) 1 45⟩,
  List.forall_mem_cons.mpr ⟨⟨sim_return d76_45 rfl, gr_RetV⟩, fun _ h => absurd h List.not_mem_nil⟩⟩⟩⟩⟩⟩⟩⟩⟩⟩⟩⟩⟩⟩⟩⟩⟩⟩⟩⟩⟩⟩⟩⟩⟩
noncomputable def pg76 : List (Nat × aP) := pg76_0
theorem ok76 : ∀ q ∈ pg76, Sim mT mt76 q.1 q.2 ∧ Grow q.2 := ok76_0
theorem d77_0 : decode mt77.2.1 0 = .ok (.aload_n 0, 1) := by decide +kernel
theorem d77_1 : decode mt77.2.1 1 = .ok (.invokespecial 3, 3) := by decide +kernel
theorem d77_4 : decode mt77.2.1 4 = .ok (.return_, 1) := by decide +kernel
noncomputable def pg77_0 : List (Nat × aP) := [(0, oLdA 0 1),
  (1, oObj 4),
  (4, oRetV)]
theorem ok77_0 : ∀ q ∈ pg77_0, Sim mT mt77 q.1 q.2 ∧ Grow q.2 :=
  List.forall_mem_cons.mpr ⟨⟨sim_aload_n d77_0 rfl, gr_LdA 0 1⟩,
  List.forall_mem_cons.mpr ⟨⟨sim_obj d77_1 kw178 kw26 kw27, gr_Obj 4⟩,
  List.forall_mem_cons.mpr ⟨⟨sim_return d77_4 rfl, gr_RetV⟩, fun _ h => absurd h List.not_mem_nil⟩⟩⟩
noncomputable def pg77 : List (Nat × aP) := pg77_0
theorem ok77 : ∀ q ∈ pg77, Sim mT mt77 q.1 q.2 ∧ Grow q.2 := ok77_0
theorem d78_0 : decode mt78.2.1 0 = .ok (.aload_n 0, 1) := by decide +kernel
theorem d78_1 : decode mt78.2.1 1 = .ok (.aload_n 1, 1) := by decide +kernel
theorem d78_2 : decode mt78.2.1 2 = .ok (.putfield 9, 3) := by decide +kernel
theorem d78_5 : decode mt78.2.1 5 = .ok (.aload_n 0, 1) := by decide +kernel
theorem d78_6 : decode mt78.2.1 6 = .ok (.iload_n 2, 1) := by decide +kernel
theorem d78_7 : decode mt78.2.1 7 = .ok (.putfield 15, 3) := by decide +kernel
theorem d78_10 : decode mt78.2.1 10 = .ok (.aload_n 0, 1) := by decide +kernel
theorem d78_11 : decode mt78.2.1 11 = .ok (.iload_n 3, 1) := by decide +kernel
theorem d78_12 : decode mt78.2.1 12 = .ok (.putfield 19, 3) := by decide +kernel
theorem d78_15 : decode mt78.2.1 15 = .ok (.aload_n 0, 1) := by decide +kernel
theorem d78_16 : decode mt78.2.1 16 = .ok (.iload_n 2, 1) := by decide +kernel
theorem d78_17 : decode mt78.2.1 17 = .ok (.iconst 0, 1) := by decide +kernel
theorem d78_18 : decode mt78.2.1 18 = .ok (.lconst 1, 1) := by decide +kernel
theorem d78_19 : decode mt78.2.1 19 = .ok (.iload_n 2, 1) := by decide +kernel
theorem d78_20 : decode mt78.2.1 20 = .ok (.lshl, 1) := by decide +kernel
theorem d78_21 : decode mt78.2.1 21 = .ok (.lconst 0, 1) := by decide +kernel
theorem d78_22 : decode mt78.2.1 22 = .ok (.lconst 0, 1) := by decide +kernel
theorem d78_23 : decode mt78.2.1 23 = .ok (.invokevirtual 22, 3) := by decide +kernel
theorem d78_26 : decode mt78.2.1 26 = .ok (.return_, 1) := by decide +kernel
noncomputable def pg78_0 : List (Nat × aP) := [(0, oLdA 0 1),
  (1, oLdA 1 2),
  (2, oPutD (fun k => k = 1 ∨ k = 2 ∨ k = 5) 0 5),
  (5, oLdA 0 6),
  (6, oLdI 2 7),
  (7, oPutI (fun k => k = 1 ∨ k = 2 ∨ k = 5) 1 10),
  (10, oLdA 0 11),
  (11, oLdI 3 12),
  (12, oPutI (fun k => k = 1 ∨ k = 2 ∨ k = 5) 2 15),
  (15, oLdA 0 16),
  (16, oLdI 2 17),
  (17, oPush (.int 0) 18),
  (18, oPush (.long 1) 19),
  (19, oLdI 2 20),
  (20, oLSh (fun x y => x <<< (y.toInt64 &&& 63)) 21),
  (21, oPush (.long 0) 22),
  (22, oPush (.long 0) 23),
  (23, oCalV (fun k => if k = 1 then some 79 else if k = 2 then some 79 else if k = 5 then some 79 else none) 5 26),
  (26, oRetV)]
theorem ok78_0 : ∀ q ∈ pg78_0, Sim mT mt78 q.1 q.2 ∧ Grow q.2 :=
  List.forall_mem_cons.mpr ⟨⟨sim_aload_n d78_0 rfl, gr_LdA 0 1⟩,
  List.forall_mem_cons.mpr ⟨⟨sim_aload_n d78_1 rfl, gr_LdA 1 2⟩,
  List.forall_mem_cons.mpr ⟨⟨sim_putD d78_2 gf81, gr_PutD (fun k => k = 1 ∨ k = 2 ∨ k = 5) 0 5⟩,
  List.forall_mem_cons.mpr ⟨⟨sim_aload_n d78_5 rfl, gr_LdA 0 6⟩,
  List.forall_mem_cons.mpr ⟨⟨sim_iload_n d78_6 rfl, gr_LdI 2 7⟩,
  List.forall_mem_cons.mpr ⟨⟨sim_putI d78_7 gf82w, gr_PutI (fun k => k = 1 ∨ k = 2 ∨ k = 5) 1 10⟩,
  List.forall_mem_cons.mpr ⟨⟨sim_aload_n d78_10 rfl, gr_LdA 0 11⟩,
  List.forall_mem_cons.mpr ⟨⟨sim_iload_n d78_11 rfl, gr_LdI 3 12⟩,
  List.forall_mem_cons.mpr ⟨⟨sim_putI d78_12 gf83w, gr_PutI (fun k => k = 1 ∨ k = 2 ∨ k = 5) 2 15⟩,
  List.forall_mem_cons.mpr ⟨⟨sim_aload_n d78_15 rfl, gr_LdA 0 16⟩,
  List.forall_mem_cons.mpr ⟨⟨sim_iload_n d78_16 rfl, gr_LdI 2 17⟩,
  List.forall_mem_cons.mpr ⟨⟨sim_iconst d78_17 (by decide), gr_Push (.int 0) 18⟩,
  List.forall_mem_cons.mpr ⟨⟨sim_lconst d78_18 (by decide), gr_Push (.long 1) 19⟩,
  List.forall_mem_cons.mpr ⟨⟨sim_iload_n d78_19 rfl, gr_LdI 2 20⟩,
  List.forall_mem_cons.mpr ⟨⟨sim_lshl d78_20, gr_LSh (fun x y => x <<< (y.toInt64 &&& 63)) 21⟩,
  List.forall_mem_cons.mpr ⟨⟨sim_lconst d78_21 (by decide), gr_Push (.long 0) 22⟩,
  List.forall_mem_cons.mpr ⟨⟨sim_lconst d78_22 (by decide), gr_Push (.long 0) 23⟩,
  List.forall_mem_cons.mpr ⟨⟨sim_virtual d78_23 vk50, gr_CalV (fun k => if k = 1 then some 79 else if k = 2 then some 79 else if k = 5 then some 79 else none) 5 26⟩,
  List.forall_mem_cons.mpr ⟨⟨sim_return d78_26 rfl, gr_RetV⟩, fun _ h => absurd h List.not_mem_nil⟩⟩⟩⟩⟩⟩⟩⟩⟩⟩⟩⟩⟩⟩⟩⟩⟩⟩⟩
noncomputable def pg78 : List (Nat × aP) := pg78_0
theorem ok78 : ∀ q ∈ pg78, Sim mT mt78 q.1 q.2 ∧ Grow q.2 := ok78_0
theorem d79_0 : decode mt79.2.1 0 = .ok (.iload_n 2, 1) := by decide +kernel
theorem d79_1 : decode mt79.2.1 1 = .ok (.aload_n 0, 1) := by decide +kernel
theorem d79_2 : decode mt79.2.1 2 = .ok (.getfield 19, 3) := by decide +kernel
theorem d79_5 : decode mt79.2.1 5 = .ok (.if_icmp .lt 4, 3) := by decide +kernel
theorem d79_8 : decode mt79.2.1 8 = .ok (.return_, 1) := by decide +kernel
theorem d79_9 : decode mt79.2.1 9 = .ok (.iconst 0, 1) := by decide +kernel
theorem d79_10 : decode mt79.2.1 10 = .ok (.istore 9, 2) := by decide +kernel
theorem d79_12 : decode mt79.2.1 12 = .ok (.iload 9, 2) := by decide +kernel
theorem d79_14 : decode mt79.2.1 14 = .ok (.iconst 4, 1) := by decide +kernel
theorem d79_15 : decode mt79.2.1 15 = .ok (.if_icmp .ge 147, 3) := by decide +kernel
theorem d79_18 : decode mt79.2.1 18 = .ok (.aload_n 0, 1) := by decide +kernel
theorem d79_19 : decode mt79.2.1 19 = .ok (.getfield 9, 3) := by decide +kernel
theorem d79_22 : decode mt79.2.1 22 = .ok (.iload_n 1, 1) := by decide +kernel
theorem d79_23 : decode mt79.2.1 23 = .ok (.iload 9, 2) := by decide +kernel
theorem d79_25 : decode mt79.2.1 25 = .ok (.invokevirtual 26, 3) := by decide +kernel
theorem d79_28 : decode mt79.2.1 28 = .ok (.ifCond .ne 6, 3) := by decide +kernel
theorem d79_31 : decode mt79.2.1 31 = .ok (.goto 125, 3) := by decide +kernel
theorem d79_34 : decode mt79.2.1 34 = .ok (.iload_n 1, 1) := by decide +kernel
theorem d79_35 : decode mt79.2.1 35 = .ok (.getstatic 32, 3) := by decide +kernel
theorem d79_38 : decode mt79.2.1 38 = .ok (.iload 9, 2) := by decide +kernel
theorem d79_40 : decode mt79.2.1 40 = .ok (.iaload, 1) := by decide +kernel
theorem d79_41 : decode mt79.2.1 41 = .ok (.iadd, 1) := by decide +kernel
theorem d79_42 : decode mt79.2.1 42 = .ok (.istore 10, 2) := by decide +kernel
theorem d79_44 : decode mt79.2.1 44 = .ok (.lload 5, 2) := by decide +kernel
theorem d79_46 : decode mt79.2.1 46 = .ok (.iload_n 1, 1) := by decide +kernel
theorem d79_47 : decode mt79.2.1 47 = .ok (.iload 9, 2) := by decide +kernel
theorem d79_49 : decode mt79.2.1 49 = .ok (.invokestatic 36, 3) := by decide +kernel
theorem d79_52 : decode mt79.2.1 52 = .ok (.lxor, 1) := by decide +kernel
theorem d79_53 : decode mt79.2.1 53 = .ok (.lstore 11, 2) := by decide +kernel
theorem d79_55 : decode mt79.2.1 55 = .ok (.lload 7, 2) := by decide +kernel
theorem d79_57 : decode mt79.2.1 57 = .ok (.iload 9, 2) := by decide +kernel
theorem d79_59 : decode mt79.2.1 59 = .ok (.i2l, 1) := by decide +kernel
theorem d79_60 : decode mt79.2.1 60 = .ok (.iconst 2, 1) := by decide +kernel
theorem d79_61 : decode mt79.2.1 61 = .ok (.iload_n 2, 1) := by decide +kernel
theorem d79_62 : decode mt79.2.1 62 = .ok (.imul, 1) := by decide +kernel
theorem d79_63 : decode mt79.2.1 63 = .ok (.lshl, 1) := by decide +kernel
theorem d79_64 : decode mt79.2.1 64 = .ok (.lor, 1) := by decide +kernel
theorem d79_65 : decode mt79.2.1 65 = .ok (.lstore 13, 2) := by decide +kernel
theorem d79_67 : decode mt79.2.1 67 = .ok (.iload 10, 2) := by decide +kernel
theorem d79_69 : decode mt79.2.1 69 = .ok (.aload_n 0, 1) := by decide +kernel
theorem d79_70 : decode mt79.2.1 70 = .ok (.getfield 15, 3) := by decide +kernel
theorem d79_73 : decode mt79.2.1 73 = .ok (.if_icmp .ne 40, 3) := by decide +kernel
theorem d79_76 : decode mt79.2.1 76 = .ok (.iload_n 2, 1) := by decide +kernel
theorem d79_77 : decode mt79.2.1 77 = .ok (.iconst 1, 1) := by decide +kernel
theorem d79_78 : decode mt79.2.1 78 = .ok (.iadd, 1) := by decide +kernel
theorem d79_79 : decode mt79.2.1 79 = .ok (.iconst 4, 1) := by decide +kernel
theorem d79_80 : decode mt79.2.1 80 = .ok (.if_icmp .lt 76, 3) := by decide +kernel
theorem d79_83 : decode mt79.2.1 83 = .ok (.lload 11, 2) := by decide +kernel
theorem d79_85 : decode mt79.2.1 85 = .ok (.aload_n 0, 1) := by decide +kernel
theorem d79_86 : decode mt79.2.1 86 = .ok (.getfield 9, 3) := by decide +kernel
theorem d79_89 : decode mt79.2.1 89 = .ok (.getfield 42, 3) := by decide +kernel
theorem d79_92 : decode mt79.2.1 92 = .ok (.land, 1) := by decide +kernel
theorem d79_93 : decode mt79.2.1 93 = .ok (.lconst 0, 1) := by decide +kernel
theorem d79_94 : decode mt79.2.1 94 = .ok (.lcmp, 1) := by decide +kernel
theorem d79_95 : decode mt79.2.1 95 = .ok (.ifCond .ne 61, 3) := by decide +kernel
theorem d79_98 : decode mt79.2.1 98 = .ok (.aload_n 0, 1) := by decide +kernel
theorem d79_99 : decode mt79.2.1 99 = .ok (.lload 11, 2) := by decide +kernel
theorem d79_101 : decode mt79.2.1 101 = .ok (.lload_n 3, 1) := by decide +kernel
theorem d79_102 : decode mt79.2.1 102 = .ok (.lload 13, 2) := by decide +kernel
theorem d79_104 : decode mt79.2.1 104 = .ok (.iload_n 2, 1) := by decide +kernel
theorem d79_105 : decode mt79.2.1 105 = .ok (.iconst 1, 1) := by decide +kernel
theorem d79_106 : decode mt79.2.1 106 = .ok (.iadd, 1) := by decide +kernel
theorem d79_107 : decode mt79.2.1 107 = .ok (.invokevirtual 46, 3) := by decide +kernel
theorem d79_110 : decode mt79.2.1 110 = .ok (.goto 46, 3) := by decide +kernel
theorem d79_113 : decode mt79.2.1 113 = .ok (.lload_n 3, 1) := by decide +kernel
theorem d79_114 : decode mt79.2.1 114 = .ok (.iload 10, 2) := by decide +kernel
theorem d79_116 : decode mt79.2.1 116 = .ok (.invokestatic 50, 3) := by decide +kernel
theorem d79_119 : decode mt79.2.1 119 = .ok (.ifCond .ne 37, 3) := by decide +kernel
theorem d79_122 : decode mt79.2.1 122 = .ok (.aload_n 0, 1) := by decide +kernel
theorem d79_123 : decode mt79.2.1 123 = .ok (.iload 10, 2) := by decide +kernel
theorem d79_125 : decode mt79.2.1 125 = .ok (.invokevirtual 54, 3) := by decide +kernel
theorem d79_128 : decode mt79.2.1 128 = .ok (.aload_n 0, 1) := by decide +kernel
theorem d79_129 : decode mt79.2.1 129 = .ok (.getfield 19, 3) := by decide +kernel
theorem d79_132 : decode mt79.2.1 132 = .ok (.iload_n 2, 1) := by decide +kernel
theorem d79_133 : decode mt79.2.1 133 = .ok (.isub, 1) := by decide +kernel
theorem d79_134 : decode mt79.2.1 134 = .ok (.if_icmp .ge 22, 3) := by decide +kernel
theorem d79_137 : decode mt79.2.1 137 = .ok (.aload_n 0, 1) := by decide +kernel
theorem d79_138 : decode mt79.2.1 138 = .ok (.iload 10, 2) := by decide +kernel
theorem d79_140 : decode mt79.2.1 140 = .ok (.iload_n 2, 1) := by decide +kernel
theorem d79_141 : decode mt79.2.1 141 = .ok (.iconst 1, 1) := by decide +kernel
theorem d79_142 : decode mt79.2.1 142 = .ok (.iadd, 1) := by decide +kernel
theorem d79_143 : decode mt79.2.1 143 = .ok (.lload_n 3, 1) := by decide +kernel
theorem d79_144 : decode mt79.2.1 144 = .ok (.lconst 1, 1) := by decide +kernel
theorem d79_145 : decode mt79.2.1 145 = .ok (.iload 10, 2) := by decide +kernel
theorem d79_147 : decode mt79.2.1 147 = .ok (.lshl, 1) := by decide +kernel
theorem d79_148 : decode mt79.2.1 148 = .ok (.lor, 1) := by decide +kernel
theorem d79_149 : decode mt79.2.1 149 = .ok (.lload 11, 2) := by decide +kernel
theorem d79_151 : decode mt79.2.1 151 = .ok (.lload 13, 2) := by decide +kernel
theorem d79_153 : decode mt79.2.1 153 = .ok (.invokevirtual 22, 3) := by decide +kernel
theorem d79_156 : decode mt79.2.1 156 = .ok (.iinc 9 1, 3) := by decide +kernel
theorem d79_159 : decode mt79.2.1 159 = .ok (.goto (-147), 3) := by decide +kernel
theorem d79_162 : decode mt79.2.1 162 = .ok (.return_, 1) := by decide +kernel
noncomputable def pg79_0 : List (Nat × aP) := [(0, oLdI 2 1),
  (1, oLdA 0 2),
  (2, oGetI (fun k => k = 1 ∨ k = 2 ∨ k = 5) 2 5),
  (5, oIc (fun x y => x < y) 9 8),
  (8, oRetV),
  (9, oPush (.int 0) 10),
  (10, oStI 9 12),
  (12, oLdI 9 14),
  (14, oPush (.int 4) 15),
  (15, oIc (fun x y => y ≤ x) 162 18),
  (18, oLdA 0 19),
  (19, oGetD (fun k => k = 1 ∨ k = 2 ∨ k = 5) 0 22),
  (22, oLdI 1 23),
  (23, oLdI 9 25),
  (25, oCalV (fun k => if k = 3 then some 33 else none) 2 28),
  (28, oIf (fun x => ¬ x = 0) 34 31),
  (31, oGo 156),
  (34, oLdI 1 35),
  (35, oPush (.ref 1) 38),
  (38, oLdI 9 40),
  (40, oALdI 41),
  (41, oII (fun x y => x + y) 42),
  (42, oStI 10 44),
  (44, oLdL 5 46),
  (46, oLdI 1 47),
  (47, oLdI 9 49),
  (49, oCall 127 2 52),
  (52, oLL (fun x y => x ^^^ y) 53),
  (53, oStL 11 55),
  (55, oLdL 7 57),
  (57, oLdI 9 59),
  (59, oIL (fun x => x.toInt64) 60),
  (60, oPush (.int 2) 61),
  (61, oLdI 2 62),
  (62, oII (fun x y => x * y) 63),
  (63, oLSh (fun x y => x <<< (y.toInt64 &&& 63)) 64),
  (64, oLL (fun x y => x ||| y) 65),
  (65, oStL 13 67),
  (67, oLdI 10 69),
  (69, oLdA 0 70)]
theorem ok79_0 : ∀ q ∈ pg79_0, Sim mT mt79 q.1 q.2 ∧ Grow q.2 :=
  List.forall_mem_cons.mpr ⟨⟨sim_iload_n d79_0 rfl, gr_LdI 2 1⟩,
  List.forall_mem_cons.mpr ⟨⟨sim_aload_n d79_1 rfl, gr_LdA 0 2⟩,
  List.forall_mem_cons.mpr ⟨⟨sim_getI d79_2 gf83, gr_GetI (fun k => k = 1 ∨ k = 2 ∨ k = 5) 2 5⟩,
  List.forall_mem_cons.mpr ⟨⟨sim_icmp_lt d79_5 (by decide), gr_Ic (fun x y => x < y) 9 8⟩,
  List.forall_mem_cons.mpr ⟨⟨sim_return d79_8 rfl, gr_RetV⟩,
  List.forall_mem_cons.mpr ⟨⟨sim_iconst d79_9 (by decide), gr_Push (.int 0) 10⟩,
  List.forall_mem_cons.mpr ⟨⟨sim_istore d79_10 (by decide), gr_StI 9 12⟩,
  List.forall_mem_cons.mpr ⟨⟨sim_iload d79_12, gr_LdI 9 14⟩,
  List.forall_mem_cons.mpr ⟨⟨sim_iconst d79_14 (by decide), gr_Push (.int 4) 15⟩,
  List.forall_mem_cons.mpr ⟨⟨sim_icmp_ge d79_15 (by decide), gr_Ic (fun x y => y ≤ x) 162 18⟩,
  List.forall_mem_cons.mpr ⟨⟨sim_aload_n d79_18 rfl, gr_LdA 0 19⟩,
  List.forall_mem_cons.mpr ⟨⟨sim_getD d79_19 gf81, gr_GetD (fun k => k = 1 ∨ k = 2 ∨ k = 5) 0 22⟩,
  List.forall_mem_cons.mpr ⟨⟨sim_iload_n d79_22 rfl, gr_LdI 1 23⟩,
  List.forall_mem_cons.mpr ⟨⟨sim_iload d79_23, gr_LdI 9 25⟩,
  List.forall_mem_cons.mpr ⟨⟨sim_virtual d79_25 vk51, gr_CalV (fun k => if k = 3 then some 33 else none) 2 28⟩,
  List.forall_mem_cons.mpr ⟨⟨sim_if_ne d79_28 (by decide), gr_If (fun x => ¬ x = 0) 34 31⟩,
  List.forall_mem_cons.mpr ⟨⟨sim_goto d79_31 (by decide), gr_Go 156⟩,
  List.forall_mem_cons.mpr ⟨⟨sim_iload_n d79_34 rfl, gr_LdI 1 35⟩,
  List.forall_mem_cons.mpr ⟨⟨sim_strides d79_35 kn699, gr_Push (.ref 1) 38⟩,
  List.forall_mem_cons.mpr ⟨⟨sim_iload d79_38, gr_LdI 9 40⟩,
  List.forall_mem_cons.mpr ⟨⟨sim_iaload d79_40, gr_ALdI 41⟩,
  List.forall_mem_cons.mpr ⟨⟨sim_iadd d79_41, gr_II (fun x y => x + y) 42⟩,
  List.forall_mem_cons.mpr ⟨⟨sim_istore d79_42 (by decide), gr_StI 10 44⟩,
  List.forall_mem_cons.mpr ⟨⟨sim_lload d79_44, gr_LdL 5 46⟩,
  List.forall_mem_cons.mpr ⟨⟨sim_iload_n d79_46 rfl, gr_LdI 1 47⟩,
  List.forall_mem_cons.mpr ⟨⟨sim_iload d79_47, gr_LdI 9 49⟩,
  List.forall_mem_cons.mpr ⟨⟨sim_static (y := 127) d79_49 (Or.inr ⟨_, kn700⟩) kw620 mo127, gr_Call 127 2 52⟩,
  List.forall_mem_cons.mpr ⟨⟨sim_lxor d79_52, gr_LL (fun x y => x ^^^ y) 53⟩,
  List.forall_mem_cons.mpr ⟨⟨sim_lstore d79_53 (by decide), gr_StL 11 55⟩,
  List.forall_mem_cons.mpr ⟨⟨sim_lload d79_55, gr_LdL 7 57⟩,
  List.forall_mem_cons.mpr ⟨⟨sim_iload d79_57, gr_LdI 9 59⟩,
  List.forall_mem_cons.mpr ⟨⟨sim_i2l d79_59, gr_IL (fun x => x.toInt64) 60⟩,
  List.forall_mem_cons.mpr ⟨⟨sim_iconst d79_60 (by decide), gr_Push (.int 2) 61⟩,
  List.forall_mem_cons.mpr ⟨⟨sim_iload_n d79_61 rfl, gr_LdI 2 62⟩,
  List.forall_mem_cons.mpr ⟨⟨sim_imul d79_62, gr_II (fun x y => x * y) 63⟩,
  List.forall_mem_cons.mpr ⟨⟨sim_lshl d79_63, gr_LSh (fun x y => x <<< (y.toInt64 &&& 63)) 64⟩,
  List.forall_mem_cons.mpr ⟨⟨sim_lor d79_64, gr_LL (fun x y => x ||| y) 65⟩,
  List.forall_mem_cons.mpr ⟨⟨sim_lstore d79_65 (by decide), gr_StL 13 67⟩,
  List.forall_mem_cons.mpr ⟨⟨sim_iload d79_67, gr_LdI 10 69⟩,
  List.forall_mem_cons.mpr ⟨⟨sim_aload_n d79_69 rfl, gr_LdA 0 70⟩, fun _ h => absurd h List.not_mem_nil⟩⟩⟩⟩⟩⟩⟩⟩⟩⟩⟩⟩⟩⟩⟩⟩⟩⟩⟩⟩⟩⟩⟩⟩⟩⟩⟩⟩⟩⟩⟩⟩⟩⟩⟩⟩⟩⟩⟩⟩
noncomputable def pg79_1 : List (Nat × aP) := [(70, oGetI (fun k => k = 1 ∨ k = 2 ∨ k = 5) 1 73),
  (73, oIc (fun x y => ¬ x = y) 113 76),
  (76, oLdI 2 77),
  (77, oPush (.int 1) 78),
  (78, oII (fun x y => x + y) 79),
  (79, oPush (.int 4) 80),
  (80, oIc (fun x y => x < y) 156 83),
  (83, oLdL 11 85),
  (85, oLdA 0 86),
  (86, oGetD (fun k => k = 1 ∨ k = 2 ∨ k = 5) 0 89),
  (89, oGetL (fun k => k = 3) 10 92),
  (92, oLL (fun x y => x &&& y) 93),
  (93, oPush (.long 0) 94),
  (94, oLcmp 95),
  (95, oIf (fun x => ¬ x = 0) 156 98),
  (98, oLdA 0 99),
  (99, oLdL 11 101),
  (101, oLdL 3 102),
  (102, oLdL 13 104),
  (104, oLdI 2 105),
  (105, oPush (.int 1) 106),
  (106, oII (fun x y => x + y) 107),
  (107, oCalV (fun k => if k = 1 then some 17 else if k = 2 then some 21 else if k = 5 then some 55 else none) 4 110),
  (110, oGo 156),
  (113, oLdL 3 114),
  (114, oLdI 10 116),
  (116, oCall 122 2 119),
  (119, oIf (fun x => ¬ x = 0) 156 122),
  (122, oLdA 0 123),
  (123, oLdI 10 125),
  (125, oCalV (fun k => if k = 1 then some 80 else if k = 2 then some 80 else if k = 5 then some 80 else none) 1 128),
  (128, oLdA 0 129),
  (129, oGetI (fun k => k = 1 ∨ k = 2 ∨ k = 5) 2 132),
  (132, oLdI 2 133),
  (133, oII (fun x y => x - y) 134),
  (134, oIc (fun x y => y ≤ x) 156 137),
  (137, oLdA 0 138),
  (138, oLdI 10 140),
  (140, oLdI 2 141),
  (141, oPush (.int 1) 142)]
theorem ok79_1 : ∀ q ∈ pg79_1, Sim mT mt79 q.1 q.2 ∧ Grow q.2 :=
  List.forall_mem_cons.mpr ⟨⟨sim_getI d79_70 gf82, gr_GetI (fun k => k = 1 ∨ k = 2 ∨ k = 5) 1 73⟩,
  List.forall_mem_cons.mpr ⟨⟨sim_icmp_ne d79_73 (by decide), gr_Ic (fun x y => ¬ x = y) 113 76⟩,
  List.forall_mem_cons.mpr ⟨⟨sim_iload_n d79_76 rfl, gr_LdI 2 77⟩,
  List.forall_mem_cons.mpr ⟨⟨sim_iconst d79_77 (by decide), gr_Push (.int 1) 78⟩,
  List.forall_mem_cons.mpr ⟨⟨sim_iadd d79_78, gr_II (fun x y => x + y) 79⟩,
  List.forall_mem_cons.mpr ⟨⟨sim_iconst d79_79 (by decide), gr_Push (.int 4) 80⟩,
  List.forall_mem_cons.mpr ⟨⟨sim_icmp_lt d79_80 (by decide), gr_Ic (fun x y => x < y) 156 83⟩,
  List.forall_mem_cons.mpr ⟨⟨sim_lload d79_83, gr_LdL 11 85⟩,
  List.forall_mem_cons.mpr ⟨⟨sim_aload_n d79_85 rfl, gr_LdA 0 86⟩,
  List.forall_mem_cons.mpr ⟨⟨sim_getD d79_86 gf81, gr_GetD (fun k => k = 1 ∨ k = 2 ∨ k = 5) 0 89⟩,
  List.forall_mem_cons.mpr ⟨⟨sim_getL d79_89 gf84, gr_GetL (fun k => k = 3) 10 92⟩,
  List.forall_mem_cons.mpr ⟨⟨sim_land d79_92, gr_LL (fun x y => x &&& y) 93⟩,
  List.forall_mem_cons.mpr ⟨⟨sim_lconst d79_93 (by decide), gr_Push (.long 0) 94⟩,
  List.forall_mem_cons.mpr ⟨⟨sim_lcmp d79_94, gr_Lcmp 95⟩,
  List.forall_mem_cons.mpr ⟨⟨sim_if_ne d79_95 (by decide), gr_If (fun x => ¬ x = 0) 156 98⟩,
  List.forall_mem_cons.mpr ⟨⟨sim_aload_n d79_98 rfl, gr_LdA 0 99⟩,
  List.forall_mem_cons.mpr ⟨⟨sim_lload d79_99, gr_LdL 11 101⟩,
  List.forall_mem_cons.mpr ⟨⟨sim_lload_n d79_101 rfl, gr_LdL 3 102⟩,
  List.forall_mem_cons.mpr ⟨⟨sim_lload d79_102, gr_LdL 13 104⟩,
  List.forall_mem_cons.mpr ⟨⟨sim_iload_n d79_104 rfl, gr_LdI 2 105⟩,
  List.forall_mem_cons.mpr ⟨⟨sim_iconst d79_105 (by decide), gr_Push (.int 1) 106⟩,
  List.forall_mem_cons.mpr ⟨⟨sim_iadd d79_106, gr_II (fun x y => x + y) 107⟩,
  List.forall_mem_cons.mpr ⟨⟨sim_virtual d79_107 vk52, gr_CalV (fun k => if k = 1 then some 17 else if k = 2 then some 21 else if k = 5 then some 55 else none) 4 110⟩,
  List.forall_mem_cons.mpr ⟨⟨sim_goto d79_110 (by decide), gr_Go 156⟩,
  List.forall_mem_cons.mpr ⟨⟨sim_lload_n d79_113 rfl, gr_LdL 3 114⟩,
  List.forall_mem_cons.mpr ⟨⟨sim_iload d79_114, gr_LdI 10 116⟩,
  List.forall_mem_cons.mpr ⟨⟨sim_static (y := 122) d79_116 (Or.inr ⟨_, kn726⟩) kw534 mo122, gr_Call 122 2 119⟩,
  List.forall_mem_cons.mpr ⟨⟨sim_if_ne d79_119 (by decide), gr_If (fun x => ¬ x = 0) 156 122⟩,
  List.forall_mem_cons.mpr ⟨⟨sim_aload_n d79_122 rfl, gr_LdA 0 123⟩,
  List.forall_mem_cons.mpr ⟨⟨sim_iload d79_123, gr_LdI 10 125⟩,
  List.forall_mem_cons.mpr ⟨⟨sim_virtual d79_125 vk53, gr_CalV (fun k => if k = 1 then some 80 else if k = 2 then some 80 else if k = 5 then some 80 else none) 1 128⟩,
  List.forall_mem_cons.mpr ⟨⟨sim_aload_n d79_128 rfl, gr_LdA 0 129⟩,
  List.forall_mem_cons.mpr ⟨⟨sim_getI d79_129 gf83, gr_GetI (fun k => k = 1 ∨ k = 2 ∨ k = 5) 2 132⟩,
  List.forall_mem_cons.mpr ⟨⟨sim_iload_n d79_132 rfl, gr_LdI 2 133⟩,
  List.forall_mem_cons.mpr ⟨⟨sim_isub d79_133, gr_II (fun x y => x - y) 134⟩,
  List.forall_mem_cons.mpr ⟨⟨sim_icmp_ge d79_134 (by decide), gr_Ic (fun x y => y ≤ x) 156 137⟩,
  List.forall_mem_cons.mpr ⟨⟨sim_aload_n d79_137 rfl, gr_LdA 0 138⟩,
  List.forall_mem_cons.mpr ⟨⟨sim_iload d79_138, gr_LdI 10 140⟩,
  List.forall_mem_cons.mpr ⟨⟨sim_iload_n d79_140 rfl, gr_LdI 2 141⟩,
  List.forall_mem_cons.mpr ⟨⟨sim_iconst d79_141 (by decide), gr_Push (.int 1) 142⟩, fun _ h => absurd h List.not_mem_nil⟩⟩⟩⟩⟩⟩⟩⟩⟩⟩⟩⟩⟩⟩⟩⟩⟩⟩⟩⟩⟩⟩⟩⟩⟩⟩⟩⟩⟩⟩⟩⟩⟩⟩⟩⟩⟩⟩⟩⟩
noncomputable def pg79_2 : List (Nat × aP) := [(142, oII (fun x y => x + y) 143),
  (143, oLdL 3 144),
  (144, oPush (.long 1) 145),
  (145, oLdI 10 147),
  (147, oLSh (fun x y => x <<< (y.toInt64 &&& 63)) 148),
  (148, oLL (fun x y => x ||| y) 149),
  (149, oLdL 11 151),
  (151, oLdL 13 153),
  (153, oCalV (fun k => if k = 1 then some 79 else if k = 2 then some 79 else if k = 5 then some 79 else none) 5 156),
  (156, oInc 9 1 159),
  (159, oGo 12),
  (162, oRetV)]
theorem ok79_2 : ∀ q ∈ pg79_2, Sim mT mt79 q.1 q.2 ∧ Grow q.2 :=
  List.forall_mem_cons.mpr ⟨⟨sim_iadd d79_142, gr_II (fun x y => x + y) 143⟩,
  List.forall_mem_cons.mpr ⟨⟨sim_lload_n d79_143 rfl, gr_LdL 3 144⟩,
  List.forall_mem_cons.mpr ⟨⟨sim_lconst d79_144 (by decide), gr_Push (.long 1) 145⟩,
  List.forall_mem_cons.mpr ⟨⟨sim_iload d79_145, gr_LdI 10 147⟩,
  List.forall_mem_cons.mpr ⟨⟨sim_lshl d79_147, gr_LSh (fun x y => x <<< (y.toInt64 &&& 63)) 148⟩,
  List.forall_mem_cons.mpr ⟨⟨sim_lor d79_148, gr_LL (fun x y => x ||| y) 149⟩,
  List.forall_mem_cons.mpr ⟨⟨sim_lload d79_149, gr_LdL 11 151⟩,
  List.forall_mem_cons.mpr ⟨⟨sim_lload d79_151, gr_LdL 13 153⟩,
  List.forall_mem_cons.mpr ⟨⟨sim_virtual d79_153 vk50, gr_CalV (fun k => if k = 1 then some 79 else if k = 2 then some 79 else if k = 5 then some 79 else none) 5 156⟩,
  List.forall_mem_cons.mpr ⟨⟨sim_iinc d79_156 (by decide) (by decide), gr_Inc 9 1 159⟩,
  List.forall_mem_cons.mpr ⟨⟨sim_goto d79_159 (by decide), gr_Go 12⟩,
  List.forall_mem_cons.mpr ⟨⟨sim_return d79_162 rfl, gr_RetV⟩, fun _ h => absurd h List.not_mem_nil⟩⟩⟩⟩⟩⟩⟩⟩⟩⟩⟩⟩
noncomputable def pg79 : List (Nat × aP) := pg79_0 ++ (pg79_1 ++ (pg79_2))
theorem ok79 : ∀ q ∈ pg79, Sim mT mt79 q.1 q.2 ∧ Grow q.2 := List.forall_mem_append.mpr ⟨ok79_0, List.forall_mem_append.mpr ⟨ok79_1, ok79_2⟩⟩
theorem d80_0 : decode mt80.2.1 0 = .ok (.iload_n 1, 1) := by decide +kernel
theorem d80_1 : decode mt80.2.1 1 = .ok (.bipush 7, 2) := by decide +kernel
theorem d80_3 : decode mt80.2.1 3 = .ok (.iand, 1) := by decide +kernel
theorem d80_4 : decode mt80.2.1 4 = .ok (.aload_n 0, 1) := by decide +kernel
theorem d80_5 : decode mt80.2.1 5 = .ok (.getfield 15, 3) := by decide +kernel
theorem d80_8 : decode mt80.2.1 8 = .ok (.bipush 7, 2) := by decide +kernel
theorem d80_10 : decode mt80.2.1 10 = .ok (.iand, 1) := by decide +kernel
theorem d80_11 : decode mt80.2.1 11 = .ok (.isub, 1) := by decide +kernel
theorem d80_12 : decode mt80.2.1 12 = .ok (.invokestatic 58, 3) := by decide +kernel
theorem d80_15 : decode mt80.2.1 15 = .ok (.iload_n 1, 1) := by decide +kernel
theorem d80_16 : decode mt80.2.1 16 = .ok (.iconst 3, 1) := by decide +kernel
theorem d80_17 : decode mt80.2.1 17 = .ok (.ishr, 1) := by decide +kernel
theorem d80_18 : decode mt80.2.1 18 = .ok (.aload_n 0, 1) := by decide +kernel
theorem d80_19 : decode mt80.2.1 19 = .ok (.getfield 15, 3) := by decide +kernel
theorem d80_22 : decode mt80.2.1 22 = .ok (.iconst 3, 1) := by decide +kernel
theorem d80_23 : decode mt80.2.1 23 = .ok (.ishr, 1) := by decide +kernel
theorem d80_24 : decode mt80.2.1 24 = .ok (.isub, 1) := by decide +kernel
theorem d80_25 : decode mt80.2.1 25 = .ok (.invokestatic 58, 3) := by decide +kernel
theorem d80_28 : decode mt80.2.1 28 = .ok (.iadd, 1) := by decide +kernel
theorem d80_29 : decode mt80.2.1 29 = .ok (.ireturn, 1) := by decide +kernel
noncomputable def pg80_0 : List (Nat × aP) := [(0, oLdI 1 1),
  (1, oPush (.int 7) 3),
  (3, oII (fun x y => x &&& y) 4),
  (4, oLdA 0 5),
  (5, oGetI (fun k => k = 1 ∨ k = 2 ∨ k = 5) 1 8),
  (8, oPush (.int 7) 10),
  (10, oII (fun x y => x &&& y) 11),
  (11, oII (fun x y => x - y) 12),
  (12, oM1 (fun x => if 0 ≤ x then x else 0 - x) 15),
  (15, oLdI 1 16),
  (16, oPush (.int 3) 17),
  (17, oII (fun x y => x >>> (y &&& 31)) 18),
  (18, oLdA 0 19),
  (19, oGetI (fun k => k = 1 ∨ k = 2 ∨ k = 5) 1 22),
  (22, oPush (.int 3) 23),
  (23, oII (fun x y => x >>> (y &&& 31)) 24),
  (24, oII (fun x y => x - y) 25),
  (25, oM1 (fun x => if 0 ≤ x then x else 0 - x) 28),
  (28, oII (fun x y => x + y) 29),
  (29, oRetI)]
theorem ok80_0 : ∀ q ∈ pg80_0, Sim mT mt80 q.1 q.2 ∧ Grow q.2 :=
  List.forall_mem_cons.mpr ⟨⟨sim_iload_n d80_0 rfl, gr_LdI 1 1⟩,
  List.forall_mem_cons.mpr ⟨⟨sim_bipush d80_1 (by decide), gr_Push (.int 7) 3⟩,
  List.forall_mem_cons.mpr ⟨⟨sim_iand d80_3, gr_II (fun x y => x &&& y) 4⟩,
  List.forall_mem_cons.mpr ⟨⟨sim_aload_n d80_4 rfl, gr_LdA 0 5⟩,
  List.forall_mem_cons.mpr ⟨⟨sim_getI d80_5 gf82, gr_GetI (fun k => k = 1 ∨ k = 2 ∨ k = 5) 1 8⟩,
  List.forall_mem_cons.mpr ⟨⟨sim_bipush d80_8 (by decide), gr_Push (.int 7) 10⟩,
  List.forall_mem_cons.mpr ⟨⟨sim_iand d80_10, gr_II (fun x y => x &&& y) 11⟩,
  List.forall_mem_cons.mpr ⟨⟨sim_isub d80_11, gr_II (fun x y => x - y) 12⟩,
  List.forall_mem_cons.mpr ⟨⟨sim_mabs d80_12 kw731 kw732 kw19 kw733, gr_M1 (fun x => if 0 ≤ x then x else 0 - x) 15⟩,
  List.forall_mem_cons.mpr ⟨⟨sim_iload_n d80_15 rfl, gr_LdI 1 16⟩,
  List.forall_mem_cons.mpr ⟨⟨sim_iconst d80_16 (by decide), gr_Push (.int 3) 17⟩,
  List.forall_mem_cons.mpr ⟨⟨sim_ishr d80_17, gr_II (fun x y => x >>> (y &&& 31)) 18⟩,
  List.forall_mem_cons.mpr ⟨⟨sim_aload_n d80_18 rfl, gr_LdA 0 19⟩,
  List.forall_mem_cons.mpr ⟨⟨sim_getI d80_19 gf82, gr_GetI (fun k => k = 1 ∨ k = 2 ∨ k = 5) 1 22⟩,
  List.forall_mem_cons.mpr ⟨⟨sim_iconst d80_22 (by decide), gr_Push (.int 3) 23⟩,
  List.forall_mem_cons.mpr ⟨⟨sim_ishr d80_23, gr_II (fun x y => x >>> (y &&& 31)) 24⟩,
  List.forall_mem_cons.mpr ⟨⟨sim_isub d80_24, gr_II (fun x y => x - y) 25⟩,
  List.forall_mem_cons.mpr ⟨⟨sim_mabs d80_25 kw731 kw732 kw19 kw733, gr_M1 (fun x => if 0 ≤ x then x else 0 - x) 28⟩,
  List.forall_mem_cons.mpr ⟨⟨sim_iadd d80_28, gr_II (fun x y => x + y) 29⟩,
  List.forall_mem_cons.mpr ⟨⟨sim_ireturn d80_29 rfl, gr_RetI⟩, fun _ h => absurd h List.not_mem_nil⟩⟩⟩⟩⟩⟩⟩⟩⟩⟩⟩⟩⟩⟩⟩⟩⟩⟩⟩⟩
noncomputable def pg80 : List (Nat × aP) := pg80_0
theorem ok80 : ∀ q ∈ pg80, Sim mT mt80 q.1 q.2 ∧ Grow q.2 := ok80_0
theorem d81_0 : decode mt81.2.1 0 = .ok (.aload_n 0, 1) := by decide +kernel
theorem d81_1 : decode mt81.2.1 1 = .ok (.invokespecial 3, 3) := by decide +kernel
theorem d81_4 : decode mt81.2.1 4 = .ok (.aload_n 0, 1) := by decide +kernel
theorem d81_5 : decode mt81.2.1 5 = .ok (.bipush 8, 2) := by decide +kernel
theorem d81_7 : decode mt81.2.1 7 = .ok (.anewarray 9, 3) := by decide +kernel
theorem d81_10 : decode mt81.2.1 10 = .ok (.putfield 11, 3) := by decide +kernel
theorem d81_13 : decode mt81.2.1 13 = .ok (.aload_n 0, 1) := by decide +kernel
theorem d81_14 : decode mt81.2.1 14 = .ok (.new 15, 3) := by decide +kernel
theorem d81_17 : decode mt81.2.1 17 = .ok (.dup, 1) := by decide +kernel
theorem d81_18 : decode mt81.2.1 18 = .ok (.invokespecial 17, 3) := by decide +kernel
theorem d81_21 : decode mt81.2.1 21 = .ok (.putfield 18, 3) := by decide +kernel
theorem d81_24 : decode mt81.2.1 24 = .ok (.aload_n 0, 1) := by decide +kernel
theorem d81_25 : decode mt81.2.1 25 = .ok (.new 22, 3) := by decide +kernel
theorem d81_28 : decode mt81.2.1 28 = .ok (.dup, 1) := by decide +kernel
theorem d81_29 : decode mt81.2.1 29 = .ok (.invokespecial 24, 3) := by decide +kernel
theorem d81_32 : decode mt81.2.1 32 = .ok (.putfield 25, 3) := by decide +kernel
theorem d81_35 : decode mt81.2.1 35 = .ok (.aload_n 0, 1) := by decide +kernel
theorem d81_36 : decode mt81.2.1 36 = .ok (.iconst 2, 1) := by decide +kernel
theorem d81_37 : decode mt81.2.1 37 = .ok (.anewarray 22, 3) := by decide +kernel
theorem d81_40 : decode mt81.2.1 40 = .ok (.putfield 29, 3) := by decide +kernel
theorem d81_43 : decode mt81.2.1 43 = .ok (.aload_n 0, 1) := by decide +kernel
theorem d81_44 : decode mt81.2.1 44 = .ok (.new 33, 3) := by decide +kernel
theorem d81_47 : decode mt81.2.1 47 = .ok (.dup, 1) := by decide +kernel
theorem d81_48 : decode mt81.2.1 48 = .ok (.invokespecial 35, 3) := by decide +kernel
theorem d81_51 : decode mt81.2.1 51 = .ok (.putfield 36, 3) := by decide +kernel
theorem d81_54 : decode mt81.2.1 54 = .ok (.aload_n 0, 1) := by decide +kernel
theorem d81_55 : decode mt81.2.1 55 = .ok (.new 40, 3) := by decide +kernel
theorem d81_58 : decode mt81.2.1 58 = .ok (.dup, 1) := by decide +kernel
theorem d81_59 : decode mt81.2.1 59 = .ok (.invokespecial 42, 3) := by decide +kernel
theorem d81_62 : decode mt81.2.1 62 = .ok (.putfield 43, 3) := by decide +kernel
theorem d81_65 : decode mt81.2.1 65 = .ok (.aload_n 0, 1) := by decide +kernel
theorem d81_66 : decode mt81.2.1 66 = .ok (.new 47, 3) := by decide +kernel
theorem d81_69 : decode mt81.2.1 69 = .ok (.dup, 1) := by decide +kernel
theorem d81_70 : decode mt81.2.1 70 = .ok (.invokespecial 49, 3) := by decide +kernel
theorem d81_73 : decode mt81.2.1 73 = .ok (.putfield 50, 3) := by decide +kernel
theorem d81_76 : decode mt81.2.1 76 = .ok (.aload_n 0, 1) := by decide +kernel
theorem d81_77 : decode mt81.2.1 77 = .ok (.new 47, 3) := by decide +kernel
theorem d81_80 : decode mt81.2.1 80 = .ok (.dup, 1) := by decide +kernel
theorem d81_81 : decode mt81.2.1 81 = .ok (.invokespecial 49, 3) := by decide +kernel
theorem d81_84 : decode mt81.2.1 84 = .ok (.putfield 54, 3) := by decide +kernel
theorem d81_87 : decode mt81.2.1 87 = .ok (.aload_n 0, 1) := by decide +kernel
theorem d81_88 : decode mt81.2.1 88 = .ok (.new 57, 3) := by decide +kernel
theorem d81_91 : decode mt81.2.1 91 = .ok (.dup, 1) := by decide +kernel
theorem d81_92 : decode mt81.2.1 92 = .ok (.invokespecial 59, 3) := by decide +kernel
theorem d81_95 : decode mt81.2.1 95 = .ok (.putfield 60, 3) := by decide +kernel
theorem d81_98 : decode mt81.2.1 98 = .ok (.aload_n 0, 1) := by decide +kernel
theorem d81_99 : decode mt81.2.1 99 = .ok (.new 64, 3) := by decide +kernel
theorem d81_102 : decode mt81.2.1 102 = .ok (.dup, 1) := by decide +kernel
theorem d81_103 : decode mt81.2.1 103 = .ok (.invokespecial 66, 3) := by decide +kernel
theorem d81_106 : decode mt81.2.1 106 = .ok (.putfield 67, 3) := by decide +kernel
theorem d81_109 : decode mt81.2.1 109 = .ok (.iconst 0, 1) := by decide +kernel
theorem d81_110 : decode mt81.2.1 110 = .ok (.istore_n 1, 1) := by decide +kernel
theorem d81_111 : decode mt81.2.1 111 = .ok (.iload_n 1, 1) := by decide +kernel
theorem d81_112 : decode mt81.2.1 112 = .ok (.bipush 8, 2) := by decide +kernel
theorem d81_114 : decode mt81.2.1 114 = .ok (.if_icmp .ge 22, 3) := by decide +kernel
theorem d81_117 : decode mt81.2.1 117 = .ok (.aload_n 0, 1) := by decide +kernel
theorem d81_118 : decode mt81.2.1 118 = .ok (.getfield 11, 3) := by decide +kernel
theorem d81_121 : decode mt81.2.1 121 = .ok (.iload_n 1, 1) := by decide +kernel
theorem d81_122 : decode mt81.2.1 122 = .ok (.new 9, 3) := by decide +kernel
theorem d81_125 : decode mt81.2.1 125 = .ok (.dup, 1) := by decide +kernel
theorem d81_126 : decode mt81.2.1 126 = .ok (.invokespecial 71, 3) := by decide +kernel
theorem d81_129 : decode mt81.2.1 129 = .ok (.aastore, 1) := by decide +kernel
theorem d81_130 : decode mt81.2.1 130 = .ok (.iinc 1 1, 3) := by decide +kernel
theorem d81_133 : decode mt81.2.1 133 = .ok (.goto (-22), 3) := by decide +kernel
theorem d81_136 : decode mt81.2.1 136 = .ok (.iconst 0, 1) := by decide +kernel
theorem d81_137 : decode mt81.2.1 137 = .ok (.istore_n 1, 1) := by decide +kernel
theorem d81_138 : decode mt81.2.1 138 = .ok (.iload_n 1, 1) := by decide +kernel
theorem d81_139 : decode mt81.2.1 139 = .ok (.iconst 2, 1) := by decide +kernel
theorem d81_140 : decode mt81.2.1 140 = .ok (.if_icmp .ge 22, 3) := by decide +kernel
theorem d81_143 : decode mt81.2.1 143 = .ok (.aload_n 0, 1) := by decide +kernel
theorem d81_144 : decode mt81.2.1 144 = .ok (.getfield 29, 3) := by decide +kernel
theorem d81_147 : decode mt81.2.1 147 = .ok (.iload_n 1, 1) := by decide +kernel
theorem d81_148 : decode mt81.2.1 148 = .ok (.new 22, 3) := by decide +kernel
theorem d81_151 : decode mt81.2.1 151 = .ok (.dup, 1) := by decide +kernel
theorem d81_152 : decode mt81.2.1 152 = .ok (.invokespecial 24, 3) := by decide +kernel
theorem d81_155 : decode mt81.2.1 155 = .ok (.aastore, 1) := by decide +kernel
theorem d81_156 : decode mt81.2.1 156 = .ok (.iinc 1 1, 3) := by decide +kernel
theorem d81_159 : decode mt81.2.1 159 = .ok (.goto (-21), 3) := by decide +kernel
theorem d81_162 : decode mt81.2.1 162 = .ok (.return_, 1) := by decide +kernel
noncomputable def pg81_0 : List (Nat × aP) := [(0, oLdA 0 1),
  (1, oObj 4),
  (4, oLdA 0 5),
  (5, oPush (.int 8) 7),
  (7, oNewA (100 + 4) 10),
  (10, oPutF (fun k => k = 10) 0 13),
  (13, oLdA 0 14),
  (14, oNew 4 4 17),
  (17, oDup 18),
  (18, oCalV (fun ci => if ci < 100 then some 40 else none) 0 21),
  (21, oPutF (fun k => k = 10) 1 24),
  (24, oLdA 0 25),
  (25, oNew 3 13 28),
  (28, oDup 29),
  (29, oCalV (fun ci => if ci < 100 then some 22 else none) 0 32),
  (32, oPutF (fun k => k = 10) 2 35),
  (35, oLdA 0 36),
  (36, oPush (.int 2) 37),
  (37, oNewA (100 + 5) 40),
  (40, oPutF (fun k => k = 10) 3 43),
  (43, oLdA 0 44),
  (44, oNew 8 3 47),
  (47, oDup 48),
  (48, oCalV (fun ci => if ci < 100 then some 73 else none) 0 51),
  (51, oPutF (fun k => k = 10) 4 54),
  (54, oLdA 0 55),
  (55, oNew 1 8 58),
  (58, oDup 59),
  (59, oCalV (fun ci => if ci < 100 then some 12 else none) 0 62),
  (62, oPutF (fun k => k = 10) 5 65),
  (65, oLdA 0 66),
  (66, oNew 5 6 69),
  (69, oDup 70),
  (70, oCalV (fun ci => if ci < 100 then some 53 else none) 0 73),
  (73, oPutF (fun k => k = 10) 6 76),
  (76, oLdA 0 77),
  (77, oNew 5 6 80),
  (80, oDup 81),
  (81, oCalV (fun ci => if ci < 100 then some 53 else none) 0 84),
  (84, oPutF (fun k => k = 10) 7 87)]
theorem ok81_0 : ∀ q ∈ pg81_0, Sim mT mt81 q.1 q.2 ∧ Grow q.2 :=
  List.forall_mem_cons.mpr ⟨⟨sim_aload_n d81_0 rfl, gr_LdA 0 1⟩,
  List.forall_mem_cons.mpr ⟨⟨sim_obj d81_1 kw25 kw26 kw27, gr_Obj 4⟩,
  List.forall_mem_cons.mpr ⟨⟨sim_aload_n d81_4 rfl, gr_LdA 0 5⟩,
  List.forall_mem_cons.mpr ⟨⟨sim_bipush d81_5 (by decide), gr_Push (.int 8) 7⟩,
  List.forall_mem_cons.mpr ⟨⟨sim_anewarray (t := 4) (C := "RopeRound$Row") d81_7 kw28 kn29 (Or.inl ⟨rfl, rfl⟩), gr_NewA (100 + 4) 10⟩,
  List.forall_mem_cons.mpr ⟨⟨sim_putF d81_10 gf85f rfl, gr_PutF (fun k => k = 10) 0 13⟩,
  List.forall_mem_cons.mpr ⟨⟨sim_aload_n d81_13 rfl, gr_LdA 0 14⟩,
  List.forall_mem_cons.mpr ⟨⟨sim_new d81_14 kw30 okC4 nwC4, gr_New 4 4 17⟩,
  List.forall_mem_cons.mpr ⟨⟨sim_dup d81_17, gr_Dup 18⟩,
  List.forall_mem_cons.mpr ⟨⟨sim_special (y := 40) d81_18 (Or.inr ⟨_, kn32⟩) kw33 rfl rfl mo40, gr_CalV (fun ci => if ci < 100 then some 40 else none) 0 21⟩,
  List.forall_mem_cons.mpr ⟨⟨sim_putF d81_21 gf86f rfl, gr_PutF (fun k => k = 10) 1 24⟩,
  List.forall_mem_cons.mpr ⟨⟨sim_aload_n d81_24 rfl, gr_LdA 0 25⟩,
  List.forall_mem_cons.mpr ⟨⟨sim_new d81_25 kw148 okC3 nwC3, gr_New 3 13 28⟩,
  List.forall_mem_cons.mpr ⟨⟨sim_dup d81_28, gr_Dup 29⟩,
  List.forall_mem_cons.mpr ⟨⟨sim_special (y := 22) d81_29 (Or.inr ⟨_, kn149⟩) kw67 rfl rfl mo22, gr_CalV (fun ci => if ci < 100 then some 22 else none) 0 32⟩,
  List.forall_mem_cons.mpr ⟨⟨sim_putF d81_32 gf87f rfl, gr_PutF (fun k => k = 10) 2 35⟩,
  List.forall_mem_cons.mpr ⟨⟨sim_aload_n d81_35 rfl, gr_LdA 0 36⟩,
  List.forall_mem_cons.mpr ⟨⟨sim_iconst d81_36 (by decide), gr_Push (.int 2) 37⟩,
  List.forall_mem_cons.mpr ⟨⟨sim_anewarray (t := 5) (C := "RopeRound$Ground") d81_37 kw148 kn150 (Or.inr ⟨rfl, rfl⟩), gr_NewA (100 + 5) 40⟩,
  List.forall_mem_cons.mpr ⟨⟨sim_putF d81_40 gf88f rfl, gr_PutF (fun k => k = 10) 3 43⟩,
  List.forall_mem_cons.mpr ⟨⟨sim_aload_n d81_43 rfl, gr_LdA 0 44⟩,
  List.forall_mem_cons.mpr ⟨⟨sim_new d81_44 kw151 okC8 nwC8, gr_New 8 3 47⟩,
  List.forall_mem_cons.mpr ⟨⟨sim_dup d81_47, gr_Dup 48⟩,
  List.forall_mem_cons.mpr ⟨⟨sim_special (y := 73) d81_48 (Or.inr ⟨_, kn153⟩) kw154 rfl rfl mo73, gr_CalV (fun ci => if ci < 100 then some 73 else none) 0 51⟩,
  List.forall_mem_cons.mpr ⟨⟨sim_putF d81_51 gf89f rfl, gr_PutF (fun k => k = 10) 4 54⟩,
  List.forall_mem_cons.mpr ⟨⟨sim_aload_n d81_54 rfl, gr_LdA 0 55⟩,
  List.forall_mem_cons.mpr ⟨⟨sim_new d81_55 kw170 okC1 nwC1, gr_New 1 8 58⟩,
  List.forall_mem_cons.mpr ⟨⟨sim_dup d81_58, gr_Dup 59⟩,
  List.forall_mem_cons.mpr ⟨⟨sim_special (y := 12) d81_59 (Or.inr ⟨_, kn172⟩) kw173 rfl rfl mo12, gr_CalV (fun ci => if ci < 100 then some 12 else none) 0 62⟩,
  List.forall_mem_cons.mpr ⟨⟨sim_putF d81_62 gf90f rfl, gr_PutF (fun k => k = 10) 5 65⟩,
  List.forall_mem_cons.mpr ⟨⟨sim_aload_n d81_65 rfl, gr_LdA 0 66⟩,
  List.forall_mem_cons.mpr ⟨⟨sim_new d81_66 kw213 okC5 nwC5, gr_New 5 6 69⟩,
  List.forall_mem_cons.mpr ⟨⟨sim_dup d81_69, gr_Dup 70⟩,
  List.forall_mem_cons.mpr ⟨⟨sim_special (y := 53) d81_70 (Or.inr ⟨_, kn215⟩) kw216 rfl rfl mo53, gr_CalV (fun ci => if ci < 100 then some 53 else none) 0 73⟩,
  List.forall_mem_cons.mpr ⟨⟨sim_putF d81_73 gf91f rfl, gr_PutF (fun k => k = 10) 6 76⟩,
  List.forall_mem_cons.mpr ⟨⟨sim_aload_n d81_76 rfl, gr_LdA 0 77⟩,
  List.forall_mem_cons.mpr ⟨⟨sim_new d81_77 kw213 okC5 nwC5, gr_New 5 6 80⟩,
  List.forall_mem_cons.mpr ⟨⟨sim_dup d81_80, gr_Dup 81⟩,
  List.forall_mem_cons.mpr ⟨⟨sim_special (y := 53) d81_81 (Or.inr ⟨_, kn215⟩) kw216 rfl rfl mo53, gr_CalV (fun ci => if ci < 100 then some 53 else none) 0 84⟩,
  List.forall_mem_cons.mpr ⟨⟨sim_putF d81_84 gf92f rfl, gr_PutF (fun k => k = 10) 7 87⟩, fun _ h => absurd h List.not_mem_nil⟩⟩⟩⟩⟩⟩⟩⟩⟩⟩⟩⟩⟩⟩⟩⟩⟩⟩⟩⟩⟩⟩⟩⟩⟩⟩⟩⟩⟩⟩⟩⟩⟩⟩⟩⟩⟩⟩⟩⟩
noncomputable def pg81_1 : List (Nat × aP) := [(87, oLdA 0 88),
  (88, oNew 2 7 91),
  (91, oDup 92),
  (92, oCalV (fun ci => if ci < 100 then some 18 else none) 0 95),
  (95, oPutF (fun k => k = 10) 8 98),
  (98, oLdA 0 99),
  (99, oNew 0 6 102),
  (102, oDup 103),
  (103, oCalV (fun ci => if ci < 100 then some 0 else none) 0 106),
  (106, oPutF (fun k => k = 10) 9 109),
  (109, oPush (.int 0) 110),
  (110, oStI 1 111),
  (111, oLdI 1 112),
  (112, oPush (.int 8) 114),
  (114, oIc (fun x y => y ≤ x) 136 117),
  (117, oLdA 0 118),
  (118, oGetF (fun k => k = 10) 0 121),
  (121, oLdI 1 122),
  (122, oNew 6 3 125),
  (125, oDup 126),
  (126, oCalV (fun ci => if ci < 100 then some 57 else none) 0 129),
  (129, oAStA 130),
  (130, oInc 1 1 133),
  (133, oGo 111),
  (136, oPush (.int 0) 137),
  (137, oStI 1 138),
  (138, oLdI 1 139),
  (139, oPush (.int 2) 140),
  (140, oIc (fun x y => y ≤ x) 162 143),
  (143, oLdA 0 144),
  (144, oGetF (fun k => k = 10) 3 147),
  (147, oLdI 1 148),
  (148, oNew 3 13 151),
  (151, oDup 152),
  (152, oCalV (fun ci => if ci < 100 then some 22 else none) 0 155),
  (155, oAStA 156),
  (156, oInc 1 1 159),
  (159, oGo 138),
  (162, oRetV)]
theorem ok81_1 : ∀ q ∈ pg81_1, Sim mT mt81 q.1 q.2 ∧ Grow q.2 :=
  List.forall_mem_cons.mpr ⟨⟨sim_aload_n d81_87 rfl, gr_LdA 0 88⟩,
  List.forall_mem_cons.mpr ⟨⟨sim_new d81_88 kw235 okC2 nwC2, gr_New 2 7 91⟩,
  List.forall_mem_cons.mpr ⟨⟨sim_dup d81_91, gr_Dup 92⟩,
  List.forall_mem_cons.mpr ⟨⟨sim_special (y := 18) d81_92 (Or.inr ⟨_, kn237⟩) kw238 rfl rfl mo18, gr_CalV (fun ci => if ci < 100 then some 18 else none) 0 95⟩,
  List.forall_mem_cons.mpr ⟨⟨sim_putF d81_95 gf93f rfl, gr_PutF (fun k => k = 10) 8 98⟩,
  List.forall_mem_cons.mpr ⟨⟨sim_aload_n d81_98 rfl, gr_LdA 0 99⟩,
  List.forall_mem_cons.mpr ⟨⟨sim_new d81_99 kw257 okC0 nwC0, gr_New 0 6 102⟩,
  List.forall_mem_cons.mpr ⟨⟨sim_dup d81_102, gr_Dup 103⟩,
  List.forall_mem_cons.mpr ⟨⟨sim_special (y := 0) d81_103 (Or.inr ⟨_, kn259⟩) kw260 rfl rfl mo0, gr_CalV (fun ci => if ci < 100 then some 0 else none) 0 106⟩,
  List.forall_mem_cons.mpr ⟨⟨sim_putF d81_106 gf94f rfl, gr_PutF (fun k => k = 10) 9 109⟩,
  List.forall_mem_cons.mpr ⟨⟨sim_iconst d81_109 (by decide), gr_Push (.int 0) 110⟩,
  List.forall_mem_cons.mpr ⟨⟨sim_istore_n d81_110 rfl (by decide), gr_StI 1 111⟩,
  List.forall_mem_cons.mpr ⟨⟨sim_iload_n d81_111 rfl, gr_LdI 1 112⟩,
  List.forall_mem_cons.mpr ⟨⟨sim_bipush d81_112 (by decide), gr_Push (.int 8) 114⟩,
  List.forall_mem_cons.mpr ⟨⟨sim_icmp_ge d81_114 (by decide), gr_Ic (fun x y => y ≤ x) 136 117⟩,
  List.forall_mem_cons.mpr ⟨⟨sim_aload_n d81_117 rfl, gr_LdA 0 118⟩,
  List.forall_mem_cons.mpr ⟨⟨sim_getF d81_118 gf95, gr_GetF (fun k => k = 10) 0 121⟩,
  List.forall_mem_cons.mpr ⟨⟨sim_iload_n d81_121 rfl, gr_LdI 1 122⟩,
  List.forall_mem_cons.mpr ⟨⟨sim_new d81_122 kw28 okC6 nwC6, gr_New 6 3 125⟩,
  List.forall_mem_cons.mpr ⟨⟨sim_dup d81_125, gr_Dup 126⟩,
  List.forall_mem_cons.mpr ⟨⟨sim_special (y := 57) d81_126 (Or.inr ⟨_, kn285⟩) kw286 rfl rfl mo57, gr_CalV (fun ci => if ci < 100 then some 57 else none) 0 129⟩,
  List.forall_mem_cons.mpr ⟨⟨sim_aastore d81_129, gr_AStA 130⟩,
  List.forall_mem_cons.mpr ⟨⟨sim_iinc d81_130 (by decide) (by decide), gr_Inc 1 1 133⟩,
  List.forall_mem_cons.mpr ⟨⟨sim_goto d81_133 (by decide), gr_Go 111⟩,
  List.forall_mem_cons.mpr ⟨⟨sim_iconst d81_136 (by decide), gr_Push (.int 0) 137⟩,
  List.forall_mem_cons.mpr ⟨⟨sim_istore_n d81_137 rfl (by decide), gr_StI 1 138⟩,
  List.forall_mem_cons.mpr ⟨⟨sim_iload_n d81_138 rfl, gr_LdI 1 139⟩,
  List.forall_mem_cons.mpr ⟨⟨sim_iconst d81_139 (by decide), gr_Push (.int 2) 140⟩,
  List.forall_mem_cons.mpr ⟨⟨sim_icmp_ge d81_140 (by decide), gr_Ic (fun x y => y ≤ x) 162 143⟩,
  List.forall_mem_cons.mpr ⟨⟨sim_aload_n d81_143 rfl, gr_LdA 0 144⟩,
  List.forall_mem_cons.mpr ⟨⟨sim_getF d81_144 gf96, gr_GetF (fun k => k = 10) 3 147⟩,
  List.forall_mem_cons.mpr ⟨⟨sim_iload_n d81_147 rfl, gr_LdI 1 148⟩,
  List.forall_mem_cons.mpr ⟨⟨sim_new d81_148 kw148 okC3 nwC3, gr_New 3 13 151⟩,
  List.forall_mem_cons.mpr ⟨⟨sim_dup d81_151, gr_Dup 152⟩,
  List.forall_mem_cons.mpr ⟨⟨sim_special (y := 22) d81_152 (Or.inr ⟨_, kn149⟩) kw67 rfl rfl mo22, gr_CalV (fun ci => if ci < 100 then some 22 else none) 0 155⟩,
  List.forall_mem_cons.mpr ⟨⟨sim_aastore d81_155, gr_AStA 156⟩,
  List.forall_mem_cons.mpr ⟨⟨sim_iinc d81_156 (by decide) (by decide), gr_Inc 1 1 159⟩,
  List.forall_mem_cons.mpr ⟨⟨sim_goto d81_159 (by decide), gr_Go 138⟩,
  List.forall_mem_cons.mpr ⟨⟨sim_return d81_162 rfl, gr_RetV⟩, fun _ h => absurd h List.not_mem_nil⟩⟩⟩⟩⟩⟩⟩⟩⟩⟩⟩⟩⟩⟩⟩⟩⟩⟩⟩⟩⟩⟩⟩⟩⟩⟩⟩⟩⟩⟩⟩⟩⟩⟩⟩⟩⟩⟩⟩
noncomputable def pg81 : List (Nat × aP) := pg81_0 ++ (pg81_1)
theorem ok81 : ∀ q ∈ pg81, Sim mT mt81 q.1 q.2 ∧ Grow q.2 := List.forall_mem_append.mpr ⟨ok81_0, ok81_1⟩
theorem d82_0 : decode mt82.2.1 0 = .ok (.iload_n 1, 1) := by decide +kernel
theorem d82_1 : decode mt82.2.1 1 = .ok (.invokestatic 72, 3) := by decide +kernel
theorem d82_4 : decode mt82.2.1 4 = .ok (.ifCond .eq 18, 3) := by decide +kernel
theorem d82_7 : decode mt82.2.1 7 = .ok (.iload_n 2, 1) := by decide +kernel
theorem d82_8 : decode mt82.2.1 8 = .ok (.ifCond .lt 14, 3) := by decide +kernel
theorem d82_11 : decode mt82.2.1 11 = .ok (.iload_n 2, 1) := by decide +kernel
theorem d82_12 : decode mt82.2.1 12 = .ok (.iconst 3, 1) := by decide +kernel
theorem d82_13 : decode mt82.2.1 13 = .ok (.if_icmp .ge 9, 3) := by decide +kernel
theorem d82_16 : decode mt82.2.1 16 = .ok (.iload_n 3, 1) := by decide +kernel
theorem d82_17 : decode mt82.2.1 17 = .ok (.bipush 40, 2) := by decide +kernel
theorem d82_19 : decode mt82.2.1 19 = .ok (.if_icmp .le 6, 3) := by decide +kernel
theorem d82_22 : decode mt82.2.1 22 = .ok (.ldc 76, 2) := by decide +kernel
theorem d82_24 : decode mt82.2.1 24 = .ok (.ireturn, 1) := by decide +kernel
theorem d82_25 : decode mt82.2.1 25 = .ok (.iload_n 3, 1) := by decide +kernel
theorem d82_26 : decode mt82.2.1 26 = .ok (.ifCond .ge 9, 3) := by decide +kernel
theorem d82_29 : decode mt82.2.1 29 = .ok (.aload_n 0, 1) := by decide +kernel
theorem d82_30 : decode mt82.2.1 30 = .ok (.iconst 4, 1) := by decide +kernel
theorem d82_31 : decode mt82.2.1 31 = .ok (.invokevirtual 77, 3) := by decide +kernel
theorem d82_34 : decode mt82.2.1 34 = .ok (.ireturn, 1) := by decide +kernel
theorem d82_35 : decode mt82.2.1 35 = .ok (.aload_n 0, 1) := by decide +kernel
theorem d82_36 : decode mt82.2.1 36 = .ok (.getfield 11, 3) := by decide +kernel
theorem d82_39 : decode mt82.2.1 39 = .ok (.iload_n 1, 1) := by decide +kernel
theorem d82_40 : decode mt82.2.1 40 = .ok (.aaload, 1) := by decide +kernel
theorem d82_41 : decode mt82.2.1 41 = .ok (.iload_n 2, 1) := by decide +kernel
theorem d82_42 : decode mt82.2.1 42 = .ok (.iload_n 3, 1) := by decide +kernel
theorem d82_43 : decode mt82.2.1 43 = .ok (.invokevirtual 81, 3) := by decide +kernel
theorem d82_46 : decode mt82.2.1 46 = .ok (.aload_n 0, 1) := by decide +kernel
theorem d82_47 : decode mt82.2.1 47 = .ok (.iload_n 3, 1) := by decide +kernel
theorem d82_48 : decode mt82.2.1 48 = .ok (.invokevirtual 85, 3) := by decide +kernel
theorem d82_51 : decode mt82.2.1 51 = .ok (.ireturn, 1) := by decide +kernel
noncomputable def pg82_0 : List (Nat × aP) := [(0, oLdI 1 1),
  (1, oCall 109 1 4),
  (4, oIf (fun x => x = 0) 22 7),
  (7, oLdI 2 8),
  (8, oIf (fun x => x < 0) 22 11),
  (11, oLdI 2 12),
  (12, oPush (.int 3) 13),
  (13, oIc (fun x y => y ≤ x) 22 16),
  (16, oLdI 3 17),
  (17, oPush (.int 40) 19),
  (19, oIc (fun x y => x ≤ y) 25 22),
  (22, oPush (.int (-1000001)) 24),
  (24, oRetI),
  (25, oLdI 3 26),
  (26, oIf (fun x => 0 ≤ x) 35 29),
  (29, oLdA 0 30),
  (30, oPush (.int 4) 31),
  (31, oCalV (fun k => if k = 10 then some 111 else none) 1 34),
  (34, oRetI),
  (35, oLdA 0 36),
  (36, oGetF (fun k => k = 10) 0 39),
  (39, oLdI 1 40),
  (40, oALdA 41),
  (41, oLdI 2 42),
  (42, oLdI 3 43),
  (43, oCalV (fun k => if k = 6 then some 59 else none) 2 46),
  (46, oLdA 0 47),
  (47, oLdI 3 48),
  (48, oCalV (fun k => if k = 10 then some 112 else none) 1 51),
  (51, oRetI)]
theorem ok82_0 : ∀ q ∈ pg82_0, Sim mT mt82 q.1 q.2 ∧ Grow q.2 :=
  List.forall_mem_cons.mpr ⟨⟨sim_iload_n d82_0 rfl, gr_LdI 1 1⟩,
  List.forall_mem_cons.mpr ⟨⟨sim_static (y := 109) d82_1 (Or.inl kw345) kw346 mo109, gr_Call 109 1 4⟩,
  List.forall_mem_cons.mpr ⟨⟨sim_if_eq d82_4 (by decide), gr_If (fun x => x = 0) 22 7⟩,
  List.forall_mem_cons.mpr ⟨⟨sim_iload_n d82_7 rfl, gr_LdI 2 8⟩,
  List.forall_mem_cons.mpr ⟨⟨sim_if_lt d82_8 (by decide), gr_If (fun x => x < 0) 22 11⟩,
  List.forall_mem_cons.mpr ⟨⟨sim_iload_n d82_11 rfl, gr_LdI 2 12⟩,
  List.forall_mem_cons.mpr ⟨⟨sim_iconst d82_12 (by decide), gr_Push (.int 3) 13⟩,
  List.forall_mem_cons.mpr ⟨⟨sim_icmp_ge d82_13 (by decide), gr_Ic (fun x y => y ≤ x) 22 16⟩,
  List.forall_mem_cons.mpr ⟨⟨sim_iload_n d82_16 rfl, gr_LdI 3 17⟩,
  List.forall_mem_cons.mpr ⟨⟨sim_bipush d82_17 (by decide), gr_Push (.int 40) 19⟩,
  List.forall_mem_cons.mpr ⟨⟨sim_icmp_le d82_19 (by decide), gr_Ic (fun x y => x ≤ y) 25 22⟩,
  List.forall_mem_cons.mpr ⟨⟨sim_ldc d82_22 kw348, gr_Push (.int (-1000001)) 24⟩,
  List.forall_mem_cons.mpr ⟨⟨sim_ireturn d82_24 rfl, gr_RetI⟩,
  List.forall_mem_cons.mpr ⟨⟨sim_iload_n d82_25 rfl, gr_LdI 3 26⟩,
  List.forall_mem_cons.mpr ⟨⟨sim_if_ge d82_26 (by decide), gr_If (fun x => 0 ≤ x) 35 29⟩,
  List.forall_mem_cons.mpr ⟨⟨sim_aload_n d82_29 rfl, gr_LdA 0 30⟩,
  List.forall_mem_cons.mpr ⟨⟨sim_iconst d82_30 (by decide), gr_Push (.int 4) 31⟩,
  List.forall_mem_cons.mpr ⟨⟨sim_virtual d82_31 vk54, gr_CalV (fun k => if k = 10 then some 111 else none) 1 34⟩,
  List.forall_mem_cons.mpr ⟨⟨sim_ireturn d82_34 rfl, gr_RetI⟩,
  List.forall_mem_cons.mpr ⟨⟨sim_aload_n d82_35 rfl, gr_LdA 0 36⟩,
  List.forall_mem_cons.mpr ⟨⟨sim_getF d82_36 gf95, gr_GetF (fun k => k = 10) 0 39⟩,
  List.forall_mem_cons.mpr ⟨⟨sim_iload_n d82_39 rfl, gr_LdI 1 40⟩,
  List.forall_mem_cons.mpr ⟨⟨sim_aaload d82_40, gr_ALdA 41⟩,
  List.forall_mem_cons.mpr ⟨⟨sim_iload_n d82_41 rfl, gr_LdI 2 42⟩,
  List.forall_mem_cons.mpr ⟨⟨sim_iload_n d82_42 rfl, gr_LdI 3 43⟩,
  List.forall_mem_cons.mpr ⟨⟨sim_virtual d82_43 vk55, gr_CalV (fun k => if k = 6 then some 59 else none) 2 46⟩,
  List.forall_mem_cons.mpr ⟨⟨sim_aload_n d82_46 rfl, gr_LdA 0 47⟩,
  List.forall_mem_cons.mpr ⟨⟨sim_iload_n d82_47 rfl, gr_LdI 3 48⟩,
  List.forall_mem_cons.mpr ⟨⟨sim_virtual d82_48 vk56, gr_CalV (fun k => if k = 10 then some 112 else none) 1 51⟩,
  List.forall_mem_cons.mpr ⟨⟨sim_ireturn d82_51 rfl, gr_RetI⟩, fun _ h => absurd h List.not_mem_nil⟩⟩⟩⟩⟩⟩⟩⟩⟩⟩⟩⟩⟩⟩⟩⟩⟩⟩⟩⟩⟩⟩⟩⟩⟩⟩⟩⟩⟩⟩
noncomputable def pg82 : List (Nat × aP) := pg82_0
theorem ok82 : ∀ q ∈ pg82, Sim mT mt82 q.1 q.2 ∧ Grow q.2 := ok82_0
theorem d83_0 : decode mt83.2.1 0 = .ok (.iload_n 1, 1) := by decide +kernel
theorem d83_1 : decode mt83.2.1 1 = .ok (.invokestatic 72, 3) := by decide +kernel
theorem d83_4 : decode mt83.2.1 4 = .ok (.ifCond .ne 6, 3) := by decide +kernel
theorem d83_7 : decode mt83.2.1 7 = .ok (.ldc 76, 2) := by decide +kernel
theorem d83_9 : decode mt83.2.1 9 = .ok (.ireturn, 1) := by decide +kernel
theorem d83_10 : decode mt83.2.1 10 = .ok (.aload_n 0, 1) := by decide +kernel
theorem d83_11 : decode mt83.2.1 11 = .ok (.getfield 11, 3) := by decide +kernel
theorem d83_14 : decode mt83.2.1 14 = .ok (.iload_n 1, 1) := by decide +kernel
theorem d83_15 : decode mt83.2.1 15 = .ok (.aaload, 1) := by decide +kernel
theorem d83_16 : decode mt83.2.1 16 = .ok (.astore 4, 2) := by decide +kernel
theorem d83_18 : decode mt83.2.1 18 = .ok (.aload 4, 2) := by decide +kernel
theorem d83_20 : decode mt83.2.1 20 = .ok (.invokevirtual 88, 3) := by decide +kernel
theorem d83_23 : decode mt83.2.1 23 = .ok (.ifCond .eq 9, 3) := by decide +kernel
theorem d83_26 : decode mt83.2.1 26 = .ok (.aload_n 0, 1) := by decide +kernel
theorem d83_27 : decode mt83.2.1 27 = .ok (.iconst 1, 1) := by decide +kernel
theorem d83_28 : decode mt83.2.1 28 = .ok (.invokevirtual 77, 3) := by decide +kernel
theorem d83_31 : decode mt83.2.1 31 = .ok (.ireturn, 1) := by decide +kernel
theorem d83_32 : decode mt83.2.1 32 = .ok (.aload 4, 2) := by decide +kernel
theorem d83_34 : decode mt83.2.1 34 = .ok (.iload_n 2, 1) := by decide +kernel
theorem d83_35 : decode mt83.2.1 35 = .ok (.iconst 1, 1) := by decide +kernel
theorem d83_36 : decode mt83.2.1 36 = .ok (.invokevirtual 92, 3) := by decide +kernel
theorem d83_39 : decode mt83.2.1 39 = .ok (.ifCond .ne 9, 3) := by decide +kernel
theorem d83_42 : decode mt83.2.1 42 = .ok (.aload_n 0, 1) := by decide +kernel
theorem d83_43 : decode mt83.2.1 43 = .ok (.iconst 2, 1) := by decide +kernel
theorem d83_44 : decode mt83.2.1 44 = .ok (.invokevirtual 77, 3) := by decide +kernel
theorem d83_47 : decode mt83.2.1 47 = .ok (.ireturn, 1) := by decide +kernel
theorem d83_48 : decode mt83.2.1 48 = .ok (.aload_n 0, 1) := by decide +kernel
theorem d83_49 : decode mt83.2.1 49 = .ok (.aload 4, 2) := by decide +kernel
theorem d83_51 : decode mt83.2.1 51 = .ok (.iload_n 2, 1) := by decide +kernel
theorem d83_52 : decode mt83.2.1 52 = .ok (.iload_n 3, 1) := by decide +kernel
theorem d83_53 : decode mt83.2.1 53 = .ok (.invokevirtual 96, 3) := by decide +kernel
theorem d83_56 : decode mt83.2.1 56 = .ok (.invokevirtual 85, 3) := by decide +kernel
theorem d83_59 : decode mt83.2.1 59 = .ok (.ireturn, 1) := by decide +kernel
noncomputable def pg83_0 : List (Nat × aP) := [(0, oLdI 1 1),
  (1, oCall 109 1 4),
  (4, oIf (fun x => ¬ x = 0) 10 7),
  (7, oPush (.int (-1000001)) 9),
  (9, oRetI),
  (10, oLdA 0 11),
  (11, oGetF (fun k => k = 10) 0 14),
  (14, oLdI 1 15),
  (15, oALdA 16),
  (16, oStA 4 18),
  (18, oLdA 4 20),
  (20, oCalV (fun k => if k = 6 then some 58 else none) 0 23),
  (23, oIf (fun x => x = 0) 32 26),
  (26, oLdA 0 27),
  (27, oPush (.int 1) 28),
  (28, oCalV (fun k => if k = 10 then some 111 else none) 1 31),
  (31, oRetI),
  (32, oLdA 4 34),
  (34, oLdI 2 35),
  (35, oPush (.int 1) 36),
  (36, oCalV (fun k => if k = 6 then some 61 else none) 2 39),
  (39, oIf (fun x => ¬ x = 0) 48 42),
  (42, oLdA 0 43),
  (43, oPush (.int 2) 44),
  (44, oCalV (fun k => if k = 10 then some 111 else none) 1 47),
  (47, oRetI),
  (48, oLdA 0 49),
  (49, oLdA 4 51),
  (51, oLdI 2 52),
  (52, oLdI 3 53),
  (53, oCalV (fun k => if k = 6 then some 62 else none) 2 56),
  (56, oCalV (fun k => if k = 10 then some 112 else none) 1 59),
  (59, oRetI)]
theorem ok83_0 : ∀ q ∈ pg83_0, Sim mT mt83 q.1 q.2 ∧ Grow q.2 :=
  List.forall_mem_cons.mpr ⟨⟨sim_iload_n d83_0 rfl, gr_LdI 1 1⟩,
  List.forall_mem_cons.mpr ⟨⟨sim_static (y := 109) d83_1 (Or.inl kw345) kw346 mo109, gr_Call 109 1 4⟩,
  List.forall_mem_cons.mpr ⟨⟨sim_if_ne d83_4 (by decide), gr_If (fun x => ¬ x = 0) 10 7⟩,
  List.forall_mem_cons.mpr ⟨⟨sim_ldc d83_7 kw348, gr_Push (.int (-1000001)) 9⟩,
  List.forall_mem_cons.mpr ⟨⟨sim_ireturn d83_9 rfl, gr_RetI⟩,
  List.forall_mem_cons.mpr ⟨⟨sim_aload_n d83_10 rfl, gr_LdA 0 11⟩,
  List.forall_mem_cons.mpr ⟨⟨sim_getF d83_11 gf95, gr_GetF (fun k => k = 10) 0 14⟩,
  List.forall_mem_cons.mpr ⟨⟨sim_iload_n d83_14 rfl, gr_LdI 1 15⟩,
  List.forall_mem_cons.mpr ⟨⟨sim_aaload d83_15, gr_ALdA 16⟩,
  List.forall_mem_cons.mpr ⟨⟨sim_astore d83_16 (by decide), gr_StA 4 18⟩,
  List.forall_mem_cons.mpr ⟨⟨sim_aload d83_18, gr_LdA 4 20⟩,
  List.forall_mem_cons.mpr ⟨⟨sim_virtual d83_20 vk57, gr_CalV (fun k => if k = 6 then some 58 else none) 0 23⟩,
  List.forall_mem_cons.mpr ⟨⟨sim_if_eq d83_23 (by decide), gr_If (fun x => x = 0) 32 26⟩,
  List.forall_mem_cons.mpr ⟨⟨sim_aload_n d83_26 rfl, gr_LdA 0 27⟩,
  List.forall_mem_cons.mpr ⟨⟨sim_iconst d83_27 (by decide), gr_Push (.int 1) 28⟩,
  List.forall_mem_cons.mpr ⟨⟨sim_virtual d83_28 vk54, gr_CalV (fun k => if k = 10 then some 111 else none) 1 31⟩,
  List.forall_mem_cons.mpr ⟨⟨sim_ireturn d83_31 rfl, gr_RetI⟩,
  List.forall_mem_cons.mpr ⟨⟨sim_aload d83_32, gr_LdA 4 34⟩,
  List.forall_mem_cons.mpr ⟨⟨sim_iload_n d83_34 rfl, gr_LdI 2 35⟩,
  List.forall_mem_cons.mpr ⟨⟨sim_iconst d83_35 (by decide), gr_Push (.int 1) 36⟩,
  List.forall_mem_cons.mpr ⟨⟨sim_virtual d83_36 vk58, gr_CalV (fun k => if k = 6 then some 61 else none) 2 39⟩,
  List.forall_mem_cons.mpr ⟨⟨sim_if_ne d83_39 (by decide), gr_If (fun x => ¬ x = 0) 48 42⟩,
  List.forall_mem_cons.mpr ⟨⟨sim_aload_n d83_42 rfl, gr_LdA 0 43⟩,
  List.forall_mem_cons.mpr ⟨⟨sim_iconst d83_43 (by decide), gr_Push (.int 2) 44⟩,
  List.forall_mem_cons.mpr ⟨⟨sim_virtual d83_44 vk54, gr_CalV (fun k => if k = 10 then some 111 else none) 1 47⟩,
  List.forall_mem_cons.mpr ⟨⟨sim_ireturn d83_47 rfl, gr_RetI⟩,
  List.forall_mem_cons.mpr ⟨⟨sim_aload_n d83_48 rfl, gr_LdA 0 49⟩,
  List.forall_mem_cons.mpr ⟨⟨sim_aload d83_49, gr_LdA 4 51⟩,
  List.forall_mem_cons.mpr ⟨⟨sim_iload_n d83_51 rfl, gr_LdI 2 52⟩,
  List.forall_mem_cons.mpr ⟨⟨sim_iload_n d83_52 rfl, gr_LdI 3 53⟩,
  List.forall_mem_cons.mpr ⟨⟨sim_virtual d83_53 vk59, gr_CalV (fun k => if k = 6 then some 62 else none) 2 56⟩,
  List.forall_mem_cons.mpr ⟨⟨sim_virtual d83_56 vk56, gr_CalV (fun k => if k = 10 then some 112 else none) 1 59⟩,
  List.forall_mem_cons.mpr ⟨⟨sim_ireturn d83_59 rfl, gr_RetI⟩, fun _ h => absurd h List.not_mem_nil⟩⟩⟩⟩⟩⟩⟩⟩⟩⟩⟩⟩⟩⟩⟩⟩⟩⟩⟩⟩⟩⟩⟩⟩⟩⟩⟩⟩⟩⟩⟩⟩⟩
noncomputable def pg83 : List (Nat × aP) := pg83_0
theorem ok83 : ∀ q ∈ pg83, Sim mT mt83 q.1 q.2 ∧ Grow q.2 := ok83_0
theorem d84_0 : decode mt84.2.1 0 = .ok (.iload_n 1, 1) := by decide +kernel
theorem d84_1 : decode mt84.2.1 1 = .ok (.invokestatic 72, 3) := by decide +kernel
theorem d84_4 : decode mt84.2.1 4 = .ok (.ifCond .eq 10, 3) := by decide +kernel
theorem d84_7 : decode mt84.2.1 7 = .ok (.iload_n 3, 1) := by decide +kernel
theorem d84_8 : decode mt84.2.1 8 = .ok (.invokestatic 72, 3) := by decide +kernel
theorem d84_11 : decode mt84.2.1 11 = .ok (.ifCond .ne 6, 3) := by decide +kernel
theorem d84_14 : decode mt84.2.1 14 = .ok (.ldc 76, 2) := by decide +kernel
theorem d84_16 : decode mt84.2.1 16 = .ok (.ireturn, 1) := by decide +kernel
theorem d84_17 : decode mt84.2.1 17 = .ok (.aload_n 0, 1) := by decide +kernel
theorem d84_18 : decode mt84.2.1 18 = .ok (.getfield 11, 3) := by decide +kernel
theorem d84_21 : decode mt84.2.1 21 = .ok (.iload_n 1, 1) := by decide +kernel
theorem d84_22 : decode mt84.2.1 22 = .ok (.aaload, 1) := by decide +kernel
theorem d84_23 : decode mt84.2.1 23 = .ok (.astore 6, 2) := by decide +kernel
theorem d84_25 : decode mt84.2.1 25 = .ok (.aload_n 0, 1) := by decide +kernel
theorem d84_26 : decode mt84.2.1 26 = .ok (.getfield 11, 3) := by decide +kernel
theorem d84_29 : decode mt84.2.1 29 = .ok (.iload_n 3, 1) := by decide +kernel
theorem d84_30 : decode mt84.2.1 30 = .ok (.aaload, 1) := by decide +kernel
theorem d84_31 : decode mt84.2.1 31 = .ok (.astore 7, 2) := by decide +kernel
theorem d84_33 : decode mt84.2.1 33 = .ok (.aload 6, 2) := by decide +kernel
theorem d84_35 : decode mt84.2.1 35 = .ok (.invokevirtual 88, 3) := by decide +kernel
theorem d84_38 : decode mt84.2.1 38 = .ok (.ifCond .ne 11, 3) := by decide +kernel
theorem d84_41 : decode mt84.2.1 41 = .ok (.aload 7, 2) := by decide +kernel
theorem d84_43 : decode mt84.2.1 43 = .ok (.invokevirtual 88, 3) := by decide +kernel
theorem d84_46 : decode mt84.2.1 46 = .ok (.ifCond .eq 9, 3) := by decide +kernel
theorem d84_49 : decode mt84.2.1 49 = .ok (.aload_n 0, 1) := by decide +kernel
theorem d84_50 : decode mt84.2.1 50 = .ok (.iconst 1, 1) := by decide +kernel
theorem d84_51 : decode mt84.2.1 51 = .ok (.invokevirtual 77, 3) := by decide +kernel
theorem d84_54 : decode mt84.2.1 54 = .ok (.ireturn, 1) := by decide +kernel
theorem d84_55 : decode mt84.2.1 55 = .ok (.aload 6, 2) := by decide +kernel
theorem d84_57 : decode mt84.2.1 57 = .ok (.getfield 100, 3) := by decide +kernel
theorem d84_60 : decode mt84.2.1 60 = .ok (.aload 7, 2) := by decide +kernel
theorem d84_62 : decode mt84.2.1 62 = .ok (.getfield 100, 3) := by decide +kernel
theorem d84_65 : decode mt84.2.1 65 = .ok (.if_icmp .eq 9, 3) := by decide +kernel
theorem d84_68 : decode mt84.2.1 68 = .ok (.aload_n 0, 1) := by decide +kernel
theorem d84_69 : decode mt84.2.1 69 = .ok (.iconst 5, 1) := by decide +kernel
theorem d84_70 : decode mt84.2.1 70 = .ok (.invokevirtual 77, 3) := by decide +kernel
theorem d84_73 : decode mt84.2.1 73 = .ok (.ireturn, 1) := by decide +kernel
theorem d84_74 : decode mt84.2.1 74 = .ok (.aload 6, 2) := by decide +kernel
theorem d84_76 : decode mt84.2.1 76 = .ok (.iload_n 2, 1) := by decide +kernel
theorem d84_77 : decode mt84.2.1 77 = .ok (.iload 5, 2) := by decide +kernel
theorem d84_79 : decode mt84.2.1 79 = .ok (.invokevirtual 92, 3) := by decide +kernel
theorem d84_82 : decode mt84.2.1 82 = .ok (.ifCond .eq 15, 3) := by decide +kernel
theorem d84_85 : decode mt84.2.1 85 = .ok (.aload 7, 2) := by decide +kernel
theorem d84_87 : decode mt84.2.1 87 = .ok (.iload 4, 2) := by decide +kernel
theorem d84_89 : decode mt84.2.1 89 = .ok (.iload 5, 2) := by decide +kernel
theorem d84_91 : decode mt84.2.1 91 = .ok (.invokevirtual 92, 3) := by decide +kernel
theorem d84_94 : decode mt84.2.1 94 = .ok (.ifCond .ne 9, 3) := by decide +kernel
theorem d84_97 : decode mt84.2.1 97 = .ok (.aload_n 0, 1) := by decide +kernel
theorem d84_98 : decode mt84.2.1 98 = .ok (.iconst 2, 1) := by decide +kernel
theorem d84_99 : decode mt84.2.1 99 = .ok (.invokevirtual 77, 3) := by decide +kernel
theorem d84_102 : decode mt84.2.1 102 = .ok (.ireturn, 1) := by decide +kernel
theorem d84_103 : decode mt84.2.1 103 = .ok (.aload 6, 2) := by decide +kernel
theorem d84_105 : decode mt84.2.1 105 = .ok (.getfield 104, 3) := by decide +kernel
theorem d84_108 : decode mt84.2.1 108 = .ok (.iload_n 2, 1) := by decide +kernel
theorem d84_109 : decode mt84.2.1 109 = .ok (.aload 7, 2) := by decide +kernel
theorem d84_111 : decode mt84.2.1 111 = .ok (.getfield 104, 3) := by decide +kernel
theorem d84_114 : decode mt84.2.1 114 = .ok (.iload 4, 2) := by decide +kernel
theorem d84_116 : decode mt84.2.1 116 = .ok (.iload 5, 2) := by decide +kernel
theorem d84_118 : decode mt84.2.1 118 = .ok (.invokestatic 108, 3) := by decide +kernel
theorem d84_121 : decode mt84.2.1 121 = .ok (.aload_n 0, 1) := by decide +kernel
theorem d84_122 : decode mt84.2.1 122 = .ok (.iload 5, 2) := by decide +kernel
theorem d84_124 : decode mt84.2.1 124 = .ok (.invokevirtual 85, 3) := by decide +kernel
theorem d84_127 : decode mt84.2.1 127 = .ok (.ireturn, 1) := by decide +kernel
noncomputable def pg84_0 : List (Nat × aP) := [(0, oLdI 1 1),
  (1, oCall 109 1 4),
  (4, oIf (fun x => x = 0) 14 7),
  (7, oLdI 3 8),
  (8, oCall 109 1 11),
  (11, oIf (fun x => ¬ x = 0) 17 14),
  (14, oPush (.int (-1000001)) 16),
  (16, oRetI),
  (17, oLdA 0 18),
  (18, oGetF (fun k => k = 10) 0 21),
  (21, oLdI 1 22),
  (22, oALdA 23),
  (23, oStA 6 25),
  (25, oLdA 0 26),
  (26, oGetF (fun k => k = 10) 0 29),
  (29, oLdI 3 30),
  (30, oALdA 31),
  (31, oStA 7 33),
  (33, oLdA 6 35),
  (35, oCalV (fun k => if k = 6 then some 58 else none) 0 38),
  (38, oIf (fun x => ¬ x = 0) 49 41),
  (41, oLdA 7 43),
  (43, oCalV (fun k => if k = 6 then some 58 else none) 0 46),
  (46, oIf (fun x => x = 0) 55 49),
  (49, oLdA 0 50),
  (50, oPush (.int 1) 51),
  (51, oCalV (fun k => if k = 10 then some 111 else none) 1 54),
  (54, oRetI),
  (55, oLdA 6 57),
  (57, oGetI (fun k => k = 6) 1 60),
  (60, oLdA 7 62),
  (62, oGetI (fun k => k = 6) 1 65),
  (65, oIc (fun x y => x = y) 74 68),
  (68, oLdA 0 69),
  (69, oPush (.int 5) 70),
  (70, oCalV (fun k => if k = 10 then some 111 else none) 1 73),
  (73, oRetI),
  (74, oLdA 6 76),
  (76, oLdI 2 77),
  (77, oLdI 5 79)]
theorem ok84_0 : ∀ q ∈ pg84_0, Sim mT mt84 q.1 q.2 ∧ Grow q.2 :=
  List.forall_mem_cons.mpr ⟨⟨sim_iload_n d84_0 rfl, gr_LdI 1 1⟩,
  List.forall_mem_cons.mpr ⟨⟨sim_static (y := 109) d84_1 (Or.inl kw345) kw346 mo109, gr_Call 109 1 4⟩,
  List.forall_mem_cons.mpr ⟨⟨sim_if_eq d84_4 (by decide), gr_If (fun x => x = 0) 14 7⟩,
  List.forall_mem_cons.mpr ⟨⟨sim_iload_n d84_7 rfl, gr_LdI 3 8⟩,
  List.forall_mem_cons.mpr ⟨⟨sim_static (y := 109) d84_8 (Or.inl kw345) kw346 mo109, gr_Call 109 1 11⟩,
  List.forall_mem_cons.mpr ⟨⟨sim_if_ne d84_11 (by decide), gr_If (fun x => ¬ x = 0) 17 14⟩,
  List.forall_mem_cons.mpr ⟨⟨sim_ldc d84_14 kw348, gr_Push (.int (-1000001)) 16⟩,
  List.forall_mem_cons.mpr ⟨⟨sim_ireturn d84_16 rfl, gr_RetI⟩,
  List.forall_mem_cons.mpr ⟨⟨sim_aload_n d84_17 rfl, gr_LdA 0 18⟩,
  List.forall_mem_cons.mpr ⟨⟨sim_getF d84_18 gf95, gr_GetF (fun k => k = 10) 0 21⟩,
  List.forall_mem_cons.mpr ⟨⟨sim_iload_n d84_21 rfl, gr_LdI 1 22⟩,
  List.forall_mem_cons.mpr ⟨⟨sim_aaload d84_22, gr_ALdA 23⟩,
  List.forall_mem_cons.mpr ⟨⟨sim_astore d84_23 (by decide), gr_StA 6 25⟩,
  List.forall_mem_cons.mpr ⟨⟨sim_aload_n d84_25 rfl, gr_LdA 0 26⟩,
  List.forall_mem_cons.mpr ⟨⟨sim_getF d84_26 gf95, gr_GetF (fun k => k = 10) 0 29⟩,
  List.forall_mem_cons.mpr ⟨⟨sim_iload_n d84_29 rfl, gr_LdI 3 30⟩,
  List.forall_mem_cons.mpr ⟨⟨sim_aaload d84_30, gr_ALdA 31⟩,
  List.forall_mem_cons.mpr ⟨⟨sim_astore d84_31 (by decide), gr_StA 7 33⟩,
  List.forall_mem_cons.mpr ⟨⟨sim_aload d84_33, gr_LdA 6 35⟩,
  List.forall_mem_cons.mpr ⟨⟨sim_virtual d84_35 vk57, gr_CalV (fun k => if k = 6 then some 58 else none) 0 38⟩,
  List.forall_mem_cons.mpr ⟨⟨sim_if_ne d84_38 (by decide), gr_If (fun x => ¬ x = 0) 49 41⟩,
  List.forall_mem_cons.mpr ⟨⟨sim_aload d84_41, gr_LdA 7 43⟩,
  List.forall_mem_cons.mpr ⟨⟨sim_virtual d84_43 vk57, gr_CalV (fun k => if k = 6 then some 58 else none) 0 46⟩,
  List.forall_mem_cons.mpr ⟨⟨sim_if_eq d84_46 (by decide), gr_If (fun x => x = 0) 55 49⟩,
  List.forall_mem_cons.mpr ⟨⟨sim_aload_n d84_49 rfl, gr_LdA 0 50⟩,
  List.forall_mem_cons.mpr ⟨⟨sim_iconst d84_50 (by decide), gr_Push (.int 1) 51⟩,
  List.forall_mem_cons.mpr ⟨⟨sim_virtual d84_51 vk54, gr_CalV (fun k => if k = 10 then some 111 else none) 1 54⟩,
  List.forall_mem_cons.mpr ⟨⟨sim_ireturn d84_54 rfl, gr_RetI⟩,
  List.forall_mem_cons.mpr ⟨⟨sim_aload d84_55, gr_LdA 6 57⟩,
  List.forall_mem_cons.mpr ⟨⟨sim_getI d84_57 gf97, gr_GetI (fun k => k = 6) 1 60⟩,
  List.forall_mem_cons.mpr ⟨⟨sim_aload d84_60, gr_LdA 7 62⟩,
  List.forall_mem_cons.mpr ⟨⟨sim_getI d84_62 gf97, gr_GetI (fun k => k = 6) 1 65⟩,
  List.forall_mem_cons.mpr ⟨⟨sim_icmp_eq d84_65 (by decide), gr_Ic (fun x y => x = y) 74 68⟩,
  List.forall_mem_cons.mpr ⟨⟨sim_aload_n d84_68 rfl, gr_LdA 0 69⟩,
  List.forall_mem_cons.mpr ⟨⟨sim_iconst d84_69 (by decide), gr_Push (.int 5) 70⟩,
  List.forall_mem_cons.mpr ⟨⟨sim_virtual d84_70 vk54, gr_CalV (fun k => if k = 10 then some 111 else none) 1 73⟩,
  List.forall_mem_cons.mpr ⟨⟨sim_ireturn d84_73 rfl, gr_RetI⟩,
  List.forall_mem_cons.mpr ⟨⟨sim_aload d84_74, gr_LdA 6 76⟩,
  List.forall_mem_cons.mpr ⟨⟨sim_iload_n d84_76 rfl, gr_LdI 2 77⟩,
  List.forall_mem_cons.mpr ⟨⟨sim_iload d84_77, gr_LdI 5 79⟩, fun _ h => absurd h List.not_mem_nil⟩⟩⟩⟩⟩⟩⟩⟩⟩⟩⟩⟩⟩⟩⟩⟩⟩⟩⟩⟩⟩⟩⟩⟩⟩⟩⟩⟩⟩⟩⟩⟩⟩⟩⟩⟩⟩⟩⟩⟩
noncomputable def pg84_1 : List (Nat × aP) := [(79, oCalV (fun k => if k = 6 then some 61 else none) 2 82),
  (82, oIf (fun x => x = 0) 97 85),
  (85, oLdA 7 87),
  (87, oLdI 4 89),
  (89, oLdI 5 91),
  (91, oCalV (fun k => if k = 6 then some 61 else none) 2 94),
  (94, oIf (fun x => ¬ x = 0) 103 97),
  (97, oLdA 0 98),
  (98, oPush (.int 2) 99),
  (99, oCalV (fun k => if k = 10 then some 111 else none) 1 102),
  (102, oRetI),
  (103, oLdA 6 105),
  (105, oGetF (fun k => k = 6) 0 108),
  (108, oLdI 2 109),
  (109, oLdA 7 111),
  (111, oGetF (fun k => k = 6) 0 114),
  (114, oLdI 4 116),
  (116, oLdI 5 118),
  (118, oCopy 121),
  (121, oLdA 0 122),
  (122, oLdI 5 124),
  (124, oCalV (fun k => if k = 10 then some 112 else none) 1 127),
  (127, oRetI)]
theorem ok84_1 : ∀ q ∈ pg84_1, Sim mT mt84 q.1 q.2 ∧ Grow q.2 :=
  List.forall_mem_cons.mpr ⟨⟨sim_virtual d84_79 vk58, gr_CalV (fun k => if k = 6 then some 61 else none) 2 82⟩,
  List.forall_mem_cons.mpr ⟨⟨sim_if_eq d84_82 (by decide), gr_If (fun x => x = 0) 97 85⟩,
  List.forall_mem_cons.mpr ⟨⟨sim_aload d84_85, gr_LdA 7 87⟩,
  List.forall_mem_cons.mpr ⟨⟨sim_iload d84_87, gr_LdI 4 89⟩,
  List.forall_mem_cons.mpr ⟨⟨sim_iload d84_89, gr_LdI 5 91⟩,
  List.forall_mem_cons.mpr ⟨⟨sim_virtual d84_91 vk58, gr_CalV (fun k => if k = 6 then some 61 else none) 2 94⟩,
  List.forall_mem_cons.mpr ⟨⟨sim_if_ne d84_94 (by decide), gr_If (fun x => ¬ x = 0) 103 97⟩,
  List.forall_mem_cons.mpr ⟨⟨sim_aload_n d84_97 rfl, gr_LdA 0 98⟩,
  List.forall_mem_cons.mpr ⟨⟨sim_iconst d84_98 (by decide), gr_Push (.int 2) 99⟩,
  List.forall_mem_cons.mpr ⟨⟨sim_virtual d84_99 vk54, gr_CalV (fun k => if k = 10 then some 111 else none) 1 102⟩,
  List.forall_mem_cons.mpr ⟨⟨sim_ireturn d84_102 rfl, gr_RetI⟩,
  List.forall_mem_cons.mpr ⟨⟨sim_aload d84_103, gr_LdA 6 105⟩,
  List.forall_mem_cons.mpr ⟨⟨sim_getF d84_105 gf98, gr_GetF (fun k => k = 6) 0 108⟩,
  List.forall_mem_cons.mpr ⟨⟨sim_iload_n d84_108 rfl, gr_LdI 2 109⟩,
  List.forall_mem_cons.mpr ⟨⟨sim_aload d84_109, gr_LdA 7 111⟩,
  List.forall_mem_cons.mpr ⟨⟨sim_getF d84_111 gf98, gr_GetF (fun k => k = 6) 0 114⟩,
  List.forall_mem_cons.mpr ⟨⟨sim_iload d84_114, gr_LdI 4 116⟩,
  List.forall_mem_cons.mpr ⟨⟨sim_iload d84_116, gr_LdI 5 118⟩,
  List.forall_mem_cons.mpr ⟨⟨sim_copy d84_118 kw382 kw384 kw383 kw13, gr_Copy 121⟩,
  List.forall_mem_cons.mpr ⟨⟨sim_aload_n d84_121 rfl, gr_LdA 0 122⟩,
  List.forall_mem_cons.mpr ⟨⟨sim_iload d84_122, gr_LdI 5 124⟩,
  List.forall_mem_cons.mpr ⟨⟨sim_virtual d84_124 vk56, gr_CalV (fun k => if k = 10 then some 112 else none) 1 127⟩,
  List.forall_mem_cons.mpr ⟨⟨sim_ireturn d84_127 rfl, gr_RetI⟩, fun _ h => absurd h List.not_mem_nil⟩⟩⟩⟩⟩⟩⟩⟩⟩⟩⟩⟩⟩⟩⟩⟩⟩⟩⟩⟩⟩⟩⟩
noncomputable def pg84 : List (Nat × aP) := pg84_0 ++ (pg84_1)
theorem ok84 : ∀ q ∈ pg84, Sim mT mt84 q.1 q.2 ∧ Grow q.2 := List.forall_mem_append.mpr ⟨ok84_0, ok84_1⟩
theorem d85_0 : decode mt85.2.1 0 = .ok (.iload_n 1, 1) := by decide +kernel
theorem d85_1 : decode mt85.2.1 1 = .ok (.invokestatic 72, 3) := by decide +kernel
theorem d85_4 : decode mt85.2.1 4 = .ok (.ifCond .ne 6, 3) := by decide +kernel
theorem d85_7 : decode mt85.2.1 7 = .ok (.ldc 76, 2) := by decide +kernel
theorem d85_9 : decode mt85.2.1 9 = .ok (.ireturn, 1) := by decide +kernel
theorem d85_10 : decode mt85.2.1 10 = .ok (.aload_n 0, 1) := by decide +kernel
theorem d85_11 : decode mt85.2.1 11 = .ok (.getfield 11, 3) := by decide +kernel
theorem d85_14 : decode mt85.2.1 14 = .ok (.iload_n 1, 1) := by decide +kernel
theorem d85_15 : decode mt85.2.1 15 = .ok (.aaload, 1) := by decide +kernel
theorem d85_16 : decode mt85.2.1 16 = .ok (.astore_n 2, 1) := by decide +kernel
theorem d85_17 : decode mt85.2.1 17 = .ok (.aload_n 2, 1) := by decide +kernel
theorem d85_18 : decode mt85.2.1 18 = .ok (.invokevirtual 88, 3) := by decide +kernel
theorem d85_21 : decode mt85.2.1 21 = .ok (.ifCond .eq 9, 3) := by decide +kernel
theorem d85_24 : decode mt85.2.1 24 = .ok (.aload_n 0, 1) := by decide +kernel
theorem d85_25 : decode mt85.2.1 25 = .ok (.iconst 1, 1) := by decide +kernel
theorem d85_26 : decode mt85.2.1 26 = .ok (.invokevirtual 77, 3) := by decide +kernel
theorem d85_29 : decode mt85.2.1 29 = .ok (.ireturn, 1) := by decide +kernel
theorem d85_30 : decode mt85.2.1 30 = .ok (.aload_n 2, 1) := by decide +kernel
theorem d85_31 : decode mt85.2.1 31 = .ok (.getfield 114, 3) := by decide +kernel
theorem d85_34 : decode mt85.2.1 34 = .ok (.istore_n 3, 1) := by decide +kernel
theorem d85_35 : decode mt85.2.1 35 = .ok (.aload_n 2, 1) := by decide +kernel
theorem d85_36 : decode mt85.2.1 36 = .ok (.invokevirtual 117, 3) := by decide +kernel
theorem d85_39 : decode mt85.2.1 39 = .ok (.aload_n 0, 1) := by decide +kernel
theorem d85_40 : decode mt85.2.1 40 = .ok (.iload_n 3, 1) := by decide +kernel
theorem d85_41 : decode mt85.2.1 41 = .ok (.invokevirtual 85, 3) := by decide +kernel
theorem d85_44 : decode mt85.2.1 44 = .ok (.ireturn, 1) := by decide +kernel
noncomputable def pg85_0 : List (Nat × aP) := [(0, oLdI 1 1),
  (1, oCall 109 1 4),
  (4, oIf (fun x => ¬ x = 0) 10 7),
  (7, oPush (.int (-1000001)) 9),
  (9, oRetI),
  (10, oLdA 0 11),
  (11, oGetF (fun k => k = 10) 0 14),
  (14, oLdI 1 15),
  (15, oALdA 16),
  (16, oStA 2 17),
  (17, oLdA 2 18),
  (18, oCalV (fun k => if k = 6 then some 58 else none) 0 21),
  (21, oIf (fun x => x = 0) 30 24),
  (24, oLdA 0 25),
  (25, oPush (.int 1) 26),
  (26, oCalV (fun k => if k = 10 then some 111 else none) 1 29),
  (29, oRetI),
  (30, oLdA 2 31),
  (31, oGetI (fun k => k = 6) 2 34),
  (34, oStI 3 35),
  (35, oLdA 2 36),
  (36, oCalV (fun k => if k = 6 then some 60 else none) 0 39),
  (39, oLdA 0 40),
  (40, oLdI 3 41),
  (41, oCalV (fun k => if k = 10 then some 112 else none) 1 44),
  (44, oRetI)]
theorem ok85_0 : ∀ q ∈ pg85_0, Sim mT mt85 q.1 q.2 ∧ Grow q.2 :=
  List.forall_mem_cons.mpr ⟨⟨sim_iload_n d85_0 rfl, gr_LdI 1 1⟩,
  List.forall_mem_cons.mpr ⟨⟨sim_static (y := 109) d85_1 (Or.inl kw345) kw346 mo109, gr_Call 109 1 4⟩,
  List.forall_mem_cons.mpr ⟨⟨sim_if_ne d85_4 (by decide), gr_If (fun x => ¬ x = 0) 10 7⟩,
  List.forall_mem_cons.mpr ⟨⟨sim_ldc d85_7 kw348, gr_Push (.int (-1000001)) 9⟩,
  List.forall_mem_cons.mpr ⟨⟨sim_ireturn d85_9 rfl, gr_RetI⟩,
  List.forall_mem_cons.mpr ⟨⟨sim_aload_n d85_10 rfl, gr_LdA 0 11⟩,
  List.forall_mem_cons.mpr ⟨⟨sim_getF d85_11 gf95, gr_GetF (fun k => k = 10) 0 14⟩,
  List.forall_mem_cons.mpr ⟨⟨sim_iload_n d85_14 rfl, gr_LdI 1 15⟩,
  List.forall_mem_cons.mpr ⟨⟨sim_aaload d85_15, gr_ALdA 16⟩,
  List.forall_mem_cons.mpr ⟨⟨sim_astore_n d85_16 rfl (by decide), gr_StA 2 17⟩,
  List.forall_mem_cons.mpr ⟨⟨sim_aload_n d85_17 rfl, gr_LdA 2 18⟩,
  List.forall_mem_cons.mpr ⟨⟨sim_virtual d85_18 vk57, gr_CalV (fun k => if k = 6 then some 58 else none) 0 21⟩,
  List.forall_mem_cons.mpr ⟨⟨sim_if_eq d85_21 (by decide), gr_If (fun x => x = 0) 30 24⟩,
  List.forall_mem_cons.mpr ⟨⟨sim_aload_n d85_24 rfl, gr_LdA 0 25⟩,
  List.forall_mem_cons.mpr ⟨⟨sim_iconst d85_25 (by decide), gr_Push (.int 1) 26⟩,
  List.forall_mem_cons.mpr ⟨⟨sim_virtual d85_26 vk54, gr_CalV (fun k => if k = 10 then some 111 else none) 1 29⟩,
  List.forall_mem_cons.mpr ⟨⟨sim_ireturn d85_29 rfl, gr_RetI⟩,
  List.forall_mem_cons.mpr ⟨⟨sim_aload_n d85_30 rfl, gr_LdA 2 31⟩,
  List.forall_mem_cons.mpr ⟨⟨sim_getI d85_31 gf99, gr_GetI (fun k => k = 6) 2 34⟩,
  List.forall_mem_cons.mpr ⟨⟨sim_istore_n d85_34 rfl (by decide), gr_StI 3 35⟩,
  List.forall_mem_cons.mpr ⟨⟨sim_aload_n d85_35 rfl, gr_LdA 2 36⟩,
  List.forall_mem_cons.mpr ⟨⟨sim_virtual d85_36 vk60, gr_CalV (fun k => if k = 6 then some 60 else none) 0 39⟩,
  List.forall_mem_cons.mpr ⟨⟨sim_aload_n d85_39 rfl, gr_LdA 0 40⟩,
  List.forall_mem_cons.mpr ⟨⟨sim_iload_n d85_40 rfl, gr_LdI 3 41⟩,
  List.forall_mem_cons.mpr ⟨⟨sim_virtual d85_41 vk56, gr_CalV (fun k => if k = 10 then some 112 else none) 1 44⟩,
  List.forall_mem_cons.mpr ⟨⟨sim_ireturn d85_44 rfl, gr_RetI⟩, fun _ h => absurd h List.not_mem_nil⟩⟩⟩⟩⟩⟩⟩⟩⟩⟩⟩⟩⟩⟩⟩⟩⟩⟩⟩⟩⟩⟩⟩⟩⟩⟩
noncomputable def pg85 : List (Nat × aP) := pg85_0
theorem ok85 : ∀ q ∈ pg85, Sim mT mt85 q.1 q.2 ∧ Grow q.2 := ok85_0
theorem d86_0 : decode mt86.2.1 0 = .ok (.iload_n 3, 1) := by decide +kernel
theorem d86_1 : decode mt86.2.1 1 = .ok (.iconst 1, 1) := by decide +kernel
theorem d86_2 : decode mt86.2.1 2 = .ok (.if_icmp .lt 9, 3) := by decide +kernel
theorem d86_5 : decode mt86.2.1 5 = .ok (.iload_n 3, 1) := by decide +kernel
theorem d86_6 : decode mt86.2.1 6 = .ok (.bipush 8, 2) := by decide +kernel
theorem d86_8 : decode mt86.2.1 8 = .ok (.if_icmp .le 6, 3) := by decide +kernel
theorem d86_11 : decode mt86.2.1 11 = .ok (.ldc 76, 2) := by decide +kernel
theorem d86_13 : decode mt86.2.1 13 = .ok (.ireturn, 1) := by decide +kernel
theorem d86_14 : decode mt86.2.1 14 = .ok (.iload_n 3, 1) := by decide +kernel
theorem d86_15 : decode mt86.2.1 15 = .ok (.sipush 300, 3) := by decide +kernel
theorem d86_18 : decode mt86.2.1 18 = .ok (.aload_n 0, 1) := by decide +kernel
theorem d86_19 : decode mt86.2.1 19 = .ok (.getfield 18, 3) := by decide +kernel
theorem d86_22 : decode mt86.2.1 22 = .ok (.getfield 120, 3) := by decide +kernel
theorem d86_25 : decode mt86.2.1 25 = .ok (.getfield 124, 3) := by decide +kernel
theorem d86_28 : decode mt86.2.1 28 = .ok (.isub, 1) := by decide +kernel
theorem d86_29 : decode mt86.2.1 29 = .ok (.if_icmp .le 6, 3) := by decide +kernel
theorem d86_32 : decode mt86.2.1 32 = .ok (.ldc 129, 2) := by decide +kernel
theorem d86_34 : decode mt86.2.1 34 = .ok (.ireturn, 1) := by decide +kernel
theorem d86_35 : decode mt86.2.1 35 = .ok (.aload_n 0, 1) := by decide +kernel
theorem d86_36 : decode mt86.2.1 36 = .ok (.getfield 18, 3) := by decide +kernel
theorem d86_39 : decode mt86.2.1 39 = .ok (.getfield 120, 3) := by decide +kernel
theorem d86_42 : decode mt86.2.1 42 = .ok (.lload_n 1, 1) := by decide +kernel
theorem d86_43 : decode mt86.2.1 43 = .ok (.iload_n 3, 1) := by decide +kernel
theorem d86_44 : decode mt86.2.1 44 = .ok (.invokevirtual 130, 3) := by decide +kernel
theorem d86_47 : decode mt86.2.1 47 = .ok (.aload_n 0, 1) := by decide +kernel
theorem d86_48 : decode mt86.2.1 48 = .ok (.getfield 18, 3) := by decide +kernel
theorem d86_51 : decode mt86.2.1 51 = .ok (.getfield 120, 3) := by decide +kernel
theorem d86_54 : decode mt86.2.1 54 = .ok (.getfield 124, 3) := by decide +kernel
theorem d86_57 : decode mt86.2.1 57 = .ok (.ireturn, 1) := by decide +kernel
noncomputable def pg86_0 : List (Nat × aP) := [(0, oLdI 3 1),
  (1, oPush (.int 1) 2),
  (2, oIc (fun x y => x < y) 11 5),
  (5, oLdI 3 6),
  (6, oPush (.int 8) 8),
  (8, oIc (fun x y => x ≤ y) 14 11),
  (11, oPush (.int (-1000001)) 13),
  (13, oRetI),
  (14, oLdI 3 15),
  (15, oPush (.int 300) 18),
  (18, oLdA 0 19),
  (19, oGetF (fun k => k = 10) 1 22),
  (22, oGetF (fun k => k = 4) 0 25),
  (25, oGetI (fun k => k = 7) 1 28),
  (28, oII (fun x y => x - y) 29),
  (29, oIc (fun x y => x ≤ y) 35 32),
  (32, oPush (.int (-1000003)) 34),
  (34, oRetI),
  (35, oLdA 0 36),
  (36, oGetF (fun k => k = 10) 1 39),
  (39, oGetF (fun k => k = 4) 0 42),
  (42, oLdL 1 43),
  (43, oLdI 3 44),
  (44, oCalV (fun k => if k = 7 then some 64 else none) 2 47),
  (47, oLdA 0 48),
  (48, oGetF (fun k => k = 10) 1 51),
  (51, oGetF (fun k => k = 4) 0 54),
  (54, oGetI (fun k => k = 7) 1 57),
  (57, oRetI)]
theorem ok86_0 : ∀ q ∈ pg86_0, Sim mT mt86 q.1 q.2 ∧ Grow q.2 :=
  List.forall_mem_cons.mpr ⟨⟨sim_iload_n d86_0 rfl, gr_LdI 3 1⟩,
  List.forall_mem_cons.mpr ⟨⟨sim_iconst d86_1 (by decide), gr_Push (.int 1) 2⟩,
  List.forall_mem_cons.mpr ⟨⟨sim_icmp_lt d86_2 (by decide), gr_Ic (fun x y => x < y) 11 5⟩,
  List.forall_mem_cons.mpr ⟨⟨sim_iload_n d86_5 rfl, gr_LdI 3 6⟩,
  List.forall_mem_cons.mpr ⟨⟨sim_bipush d86_6 (by decide), gr_Push (.int 8) 8⟩,
  List.forall_mem_cons.mpr ⟨⟨sim_icmp_le d86_8 (by decide), gr_Ic (fun x y => x ≤ y) 14 11⟩,
  List.forall_mem_cons.mpr ⟨⟨sim_ldc d86_11 kw348, gr_Push (.int (-1000001)) 13⟩,
  List.forall_mem_cons.mpr ⟨⟨sim_ireturn d86_13 rfl, gr_RetI⟩,
  List.forall_mem_cons.mpr ⟨⟨sim_iload_n d86_14 rfl, gr_LdI 3 15⟩,
  List.forall_mem_cons.mpr ⟨⟨sim_sipush d86_15 (by decide), gr_Push (.int 300) 18⟩,
  List.forall_mem_cons.mpr ⟨⟨sim_aload_n d86_18 rfl, gr_LdA 0 19⟩,
  List.forall_mem_cons.mpr ⟨⟨sim_getF d86_19 gf100, gr_GetF (fun k => k = 10) 1 22⟩,
  List.forall_mem_cons.mpr ⟨⟨sim_getF d86_22 gf101, gr_GetF (fun k => k = 4) 0 25⟩,
  List.forall_mem_cons.mpr ⟨⟨sim_getI d86_25 gf102, gr_GetI (fun k => k = 7) 1 28⟩,
  List.forall_mem_cons.mpr ⟨⟨sim_isub d86_28, gr_II (fun x y => x - y) 29⟩,
  List.forall_mem_cons.mpr ⟨⟨sim_icmp_le d86_29 (by decide), gr_Ic (fun x y => x ≤ y) 35 32⟩,
  List.forall_mem_cons.mpr ⟨⟨sim_ldc d86_32 kw397, gr_Push (.int (-1000003)) 34⟩,
  List.forall_mem_cons.mpr ⟨⟨sim_ireturn d86_34 rfl, gr_RetI⟩,
  List.forall_mem_cons.mpr ⟨⟨sim_aload_n d86_35 rfl, gr_LdA 0 36⟩,
  List.forall_mem_cons.mpr ⟨⟨sim_getF d86_36 gf100, gr_GetF (fun k => k = 10) 1 39⟩,
  List.forall_mem_cons.mpr ⟨⟨sim_getF d86_39 gf101, gr_GetF (fun k => k = 4) 0 42⟩,
  List.forall_mem_cons.mpr ⟨⟨sim_lload_n d86_42 rfl, gr_LdL 1 43⟩,
  List.forall_mem_cons.mpr ⟨⟨sim_iload_n d86_43 rfl, gr_LdI 3 44⟩,
  List.forall_mem_cons.mpr ⟨⟨sim_virtual d86_44 vk61, gr_CalV (fun k => if k = 7 then some 64 else none) 2 47⟩,
  List.forall_mem_cons.mpr ⟨⟨sim_aload_n d86_47 rfl, gr_LdA 0 48⟩,
  List.forall_mem_cons.mpr ⟨⟨sim_getF d86_48 gf100, gr_GetF (fun k => k = 10) 1 51⟩,
  List.forall_mem_cons.mpr ⟨⟨sim_getF d86_51 gf101, gr_GetF (fun k => k = 4) 0 54⟩,
  List.forall_mem_cons.mpr ⟨⟨sim_getI d86_54 gf102, gr_GetI (fun k => k = 7) 1 57⟩,
  List.forall_mem_cons.mpr ⟨⟨sim_ireturn d86_57 rfl, gr_RetI⟩, fun _ h => absurd h List.not_mem_nil⟩⟩⟩⟩⟩⟩⟩⟩⟩⟩⟩⟩⟩⟩⟩⟩⟩⟩⟩⟩⟩⟩⟩⟩⟩⟩⟩⟩⟩
noncomputable def pg86 : List (Nat × aP) := pg86_0
theorem ok86 : ∀ q ∈ pg86, Sim mT mt86 q.1 q.2 ∧ Grow q.2 := ok86_0
theorem d87_0 : decode mt87.2.1 0 = .ok (.aload_n 0, 1) := by decide +kernel
theorem d87_1 : decode mt87.2.1 1 = .ok (.getfield 18, 3) := by decide +kernel
theorem d87_4 : decode mt87.2.1 4 = .ok (.invokevirtual 134, 3) := by decide +kernel
theorem d87_7 : decode mt87.2.1 7 = .ok (.istore_n 1, 1) := by decide +kernel
theorem d87_8 : decode mt87.2.1 8 = .ok (.aload_n 0, 1) := by decide +kernel
theorem d87_9 : decode mt87.2.1 9 = .ok (.getfield 18, 3) := by decide +kernel
theorem d87_12 : decode mt87.2.1 12 = .ok (.getfield 120, 3) := by decide +kernel
theorem d87_15 : decode mt87.2.1 15 = .ok (.iconst 0, 1) := by decide +kernel
theorem d87_16 : decode mt87.2.1 16 = .ok (.putfield 124, 3) := by decide +kernel
theorem d87_19 : decode mt87.2.1 19 = .ok (.iload_n 1, 1) := by decide +kernel
theorem d87_20 : decode mt87.2.1 20 = .ok (.ifCond .ne 25, 3) := by decide +kernel
theorem d87_23 : decode mt87.2.1 23 = .ok (.aload_n 0, 1) := by decide +kernel
theorem d87_24 : decode mt87.2.1 24 = .ok (.aload_n 0, 1) := by decide +kernel
theorem d87_25 : decode mt87.2.1 25 = .ok (.getfield 18, 3) := by decide +kernel
theorem d87_28 : decode mt87.2.1 28 = .ok (.getfield 137, 3) := by decide +kernel
theorem d87_31 : decode mt87.2.1 31 = .ok (.putfield 140, 3) := by decide +kernel
theorem d87_34 : decode mt87.2.1 34 = .ok (.ldc 143, 2) := by decide +kernel
theorem d87_36 : decode mt87.2.1 36 = .ok (.aload_n 0, 1) := by decide +kernel
theorem d87_37 : decode mt87.2.1 37 = .ok (.getfield 18, 3) := by decide +kernel
theorem d87_40 : decode mt87.2.1 40 = .ok (.getfield 144, 3) := by decide +kernel
theorem d87_43 : decode mt87.2.1 43 = .ok (.isub, 1) := by decide +kernel
theorem d87_44 : decode mt87.2.1 44 = .ok (.ireturn, 1) := by decide +kernel
theorem d87_45 : decode mt87.2.1 45 = .ok (.aload_n 0, 1) := by decide +kernel
theorem d87_46 : decode mt87.2.1 46 = .ok (.getfield 25, 3) := by decide +kernel
theorem d87_49 : decode mt87.2.1 49 = .ok (.aload_n 0, 1) := by decide +kernel
theorem d87_50 : decode mt87.2.1 50 = .ok (.getfield 18, 3) := by decide +kernel
theorem d87_53 : decode mt87.2.1 53 = .ok (.getfield 147, 3) := by decide +kernel
theorem d87_56 : decode mt87.2.1 56 = .ok (.invokevirtual 150, 3) := by decide +kernel
theorem d87_59 : decode mt87.2.1 59 = .ok (.aload_n 0, 1) := by decide +kernel
theorem d87_60 : decode mt87.2.1 60 = .ok (.getfield 43, 3) := by decide +kernel
theorem d87_63 : decode mt87.2.1 63 = .ok (.invokevirtual 154, 3) := by decide +kernel
theorem d87_66 : decode mt87.2.1 66 = .ok (.aload_n 0, 1) := by decide +kernel
theorem d87_67 : decode mt87.2.1 67 = .ok (.getfield 25, 3) := by decide +kernel
theorem d87_70 : decode mt87.2.1 70 = .ok (.getfield 157, 3) := by decide +kernel
theorem d87_73 : decode mt87.2.1 73 = .ok (.ireturn, 1) := by decide +kernel
noncomputable def pg87_0 : List (Nat × aP) := [(0, oLdA 0 1),
  (1, oGetF (fun k => k = 10) 1 4),
  (4, oCalV (fun k => if k = 4 then some 41 else none) 0 7),
  (7, oStI 1 8),
  (8, oLdA 0 9),
  (9, oGetF (fun k => k = 10) 1 12),
  (12, oGetF (fun k => k = 4) 0 15),
  (15, oPush (.int 0) 16),
  (16, oPutI (fun k => k = 7) 1 19),
  (19, oLdI 1 20),
  (20, oIf (fun x => ¬ x = 0) 45 23),
  (23, oLdA 0 24),
  (24, oLdA 0 25),
  (25, oGetF (fun k => k = 10) 1 28),
  (28, oGetI (fun k => k = 4) 2 31),
  (31, oPutI (fun k => k = 10) 11 34),
  (34, oPush (.int (-1000100)) 36),
  (36, oLdA 0 37),
  (37, oGetF (fun k => k = 10) 1 40),
  (40, oGetI (fun k => k = 4) 3 43),
  (43, oII (fun x y => x - y) 44),
  (44, oRetI),
  (45, oLdA 0 46),
  (46, oGetF (fun k => k = 10) 2 49),
  (49, oLdA 0 50),
  (50, oGetF (fun k => k = 10) 1 53),
  (53, oGetF (fun k => k = 4) 1 56),
  (56, oCalV (fun k => if k = 3 then some 24 else none) 1 59),
  (59, oLdA 0 60),
  (60, oGetF (fun k => k = 10) 5 63),
  (63, oCalV (fun k => if k = 1 then some 13 else none) 0 66),
  (66, oLdA 0 67),
  (67, oGetF (fun k => k = 10) 2 70),
  (70, oGetI (fun k => k = 3) 2 73),
  (73, oRetI)]
theorem ok87_0 : ∀ q ∈ pg87_0, Sim mT mt87 q.1 q.2 ∧ Grow q.2 :=
  List.forall_mem_cons.mpr ⟨⟨sim_aload_n d87_0 rfl, gr_LdA 0 1⟩,
  List.forall_mem_cons.mpr ⟨⟨sim_getF d87_1 gf100, gr_GetF (fun k => k = 10) 1 4⟩,
  List.forall_mem_cons.mpr ⟨⟨sim_virtual d87_4 vk62, gr_CalV (fun k => if k = 4 then some 41 else none) 0 7⟩,
  List.forall_mem_cons.mpr ⟨⟨sim_istore_n d87_7 rfl (by decide), gr_StI 1 8⟩,
  List.forall_mem_cons.mpr ⟨⟨sim_aload_n d87_8 rfl, gr_LdA 0 9⟩,
  List.forall_mem_cons.mpr ⟨⟨sim_getF d87_9 gf100, gr_GetF (fun k => k = 10) 1 12⟩,
  List.forall_mem_cons.mpr ⟨⟨sim_getF d87_12 gf101, gr_GetF (fun k => k = 4) 0 15⟩,
  List.forall_mem_cons.mpr ⟨⟨sim_iconst d87_15 (by decide), gr_Push (.int 0) 16⟩,
  List.forall_mem_cons.mpr ⟨⟨sim_putI d87_16 gf102w, gr_PutI (fun k => k = 7) 1 19⟩,
  List.forall_mem_cons.mpr ⟨⟨sim_iload_n d87_19 rfl, gr_LdI 1 20⟩,
  List.forall_mem_cons.mpr ⟨⟨sim_if_ne d87_20 (by decide), gr_If (fun x => ¬ x = 0) 45 23⟩,
  List.forall_mem_cons.mpr ⟨⟨sim_aload_n d87_23 rfl, gr_LdA 0 24⟩,
  List.forall_mem_cons.mpr ⟨⟨sim_aload_n d87_24 rfl, gr_LdA 0 25⟩,
  List.forall_mem_cons.mpr ⟨⟨sim_getF d87_25 gf100, gr_GetF (fun k => k = 10) 1 28⟩,
  List.forall_mem_cons.mpr ⟨⟨sim_getI d87_28 gf103, gr_GetI (fun k => k = 4) 2 31⟩,
  List.forall_mem_cons.mpr ⟨⟨sim_putI d87_31 gf104w, gr_PutI (fun k => k = 10) 11 34⟩,
  List.forall_mem_cons.mpr ⟨⟨sim_ldc d87_34 kw561, gr_Push (.int (-1000100)) 36⟩,
  List.forall_mem_cons.mpr ⟨⟨sim_aload_n d87_36 rfl, gr_LdA 0 37⟩,
  List.forall_mem_cons.mpr ⟨⟨sim_getF d87_37 gf100, gr_GetF (fun k => k = 10) 1 40⟩,
  List.forall_mem_cons.mpr ⟨⟨sim_getI d87_40 gf105, gr_GetI (fun k => k = 4) 3 43⟩,
  List.forall_mem_cons.mpr ⟨⟨sim_isub d87_43, gr_II (fun x y => x - y) 44⟩,
  List.forall_mem_cons.mpr ⟨⟨sim_ireturn d87_44 rfl, gr_RetI⟩,
  List.forall_mem_cons.mpr ⟨⟨sim_aload_n d87_45 rfl, gr_LdA 0 46⟩,
  List.forall_mem_cons.mpr ⟨⟨sim_getF d87_46 gf106, gr_GetF (fun k => k = 10) 2 49⟩,
  List.forall_mem_cons.mpr ⟨⟨sim_aload_n d87_49 rfl, gr_LdA 0 50⟩,
  List.forall_mem_cons.mpr ⟨⟨sim_getF d87_50 gf100, gr_GetF (fun k => k = 10) 1 53⟩,
  List.forall_mem_cons.mpr ⟨⟨sim_getF d87_53 gf107, gr_GetF (fun k => k = 4) 1 56⟩,
  List.forall_mem_cons.mpr ⟨⟨sim_virtual d87_56 vk63, gr_CalV (fun k => if k = 3 then some 24 else none) 1 59⟩,
  List.forall_mem_cons.mpr ⟨⟨sim_aload_n d87_59 rfl, gr_LdA 0 60⟩,
  List.forall_mem_cons.mpr ⟨⟨sim_getF d87_60 gf108, gr_GetF (fun k => k = 10) 5 63⟩,
  List.forall_mem_cons.mpr ⟨⟨sim_virtual d87_63 vk64, gr_CalV (fun k => if k = 1 then some 13 else none) 0 66⟩,
  List.forall_mem_cons.mpr ⟨⟨sim_aload_n d87_66 rfl, gr_LdA 0 67⟩,
  List.forall_mem_cons.mpr ⟨⟨sim_getF d87_67 gf106, gr_GetF (fun k => k = 10) 2 70⟩,
  List.forall_mem_cons.mpr ⟨⟨sim_getI d87_70 gf109, gr_GetI (fun k => k = 3) 2 73⟩,
  List.forall_mem_cons.mpr ⟨⟨sim_ireturn d87_73 rfl, gr_RetI⟩, fun _ h => absurd h List.not_mem_nil⟩⟩⟩⟩⟩⟩⟩⟩⟩⟩⟩⟩⟩⟩⟩⟩⟩⟩⟩⟩⟩⟩⟩⟩⟩⟩⟩⟩⟩⟩⟩⟩⟩⟩⟩
noncomputable def pg87 : List (Nat × aP) := pg87_0
theorem ok87 : ∀ q ∈ pg87, Sim mT mt87 q.1 q.2 ∧ Grow q.2 := ok87_0
theorem d88_0 : decode mt88.2.1 0 = .ok (.aload_n 0, 1) := by decide +kernel
theorem d88_1 : decode mt88.2.1 1 = .ok (.getfield 140, 3) := by decide +kernel
theorem d88_4 : decode mt88.2.1 4 = .ok (.ireturn, 1) := by decide +kernel
noncomputable def pg88_0 : List (Nat × aP) := [(0, oLdA 0 1),
  (1, oGetI (fun k => k = 10) 11 4),
  (4, oRetI)]
theorem ok88_0 : ∀ q ∈ pg88_0, Sim mT mt88 q.1 q.2 ∧ Grow q.2 :=
  List.forall_mem_cons.mpr ⟨⟨sim_aload_n d88_0 rfl, gr_LdA 0 1⟩,
  List.forall_mem_cons.mpr ⟨⟨sim_getI d88_1 gf104, gr_GetI (fun k => k = 10) 11 4⟩,
  List.forall_mem_cons.mpr ⟨⟨sim_ireturn d88_4 rfl, gr_RetI⟩, fun _ h => absurd h List.not_mem_nil⟩⟩⟩
noncomputable def pg88 : List (Nat × aP) := pg88_0
theorem ok88 : ∀ q ∈ pg88, Sim mT mt88 q.1 q.2 ∧ Grow q.2 := ok88_0
theorem d89_0 : decode mt89.2.1 0 = .ok (.aload_n 0, 1) := by decide +kernel
theorem d89_1 : decode mt89.2.1 1 = .ok (.getfield 25, 3) := by decide +kernel
theorem d89_4 : decode mt89.2.1 4 = .ok (.iload_n 1, 1) := by decide +kernel
theorem d89_5 : decode mt89.2.1 5 = .ok (.invokevirtual 160, 3) := by decide +kernel
theorem d89_8 : decode mt89.2.1 8 = .ok (.ifCond .eq 12, 3) := by decide +kernel
theorem d89_11 : decode mt89.2.1 11 = .ok (.iload_n 2, 1) := by decide +kernel
theorem d89_12 : decode mt89.2.1 12 = .ok (.ifCond .lt 8, 3) := by decide +kernel
theorem d89_15 : decode mt89.2.1 15 = .ok (.iload_n 2, 1) := by decide +kernel
theorem d89_16 : decode mt89.2.1 16 = .ok (.iconst 4, 1) := by decide +kernel
theorem d89_17 : decode mt89.2.1 17 = .ok (.if_icmp .lt 6, 3) := by decide +kernel
theorem d89_20 : decode mt89.2.1 20 = .ok (.ldc 76, 2) := by decide +kernel
theorem d89_22 : decode mt89.2.1 22 = .ok (.ireturn, 1) := by decide +kernel
theorem d89_23 : decode mt89.2.1 23 = .ok (.aload_n 0, 1) := by decide +kernel
theorem d89_24 : decode mt89.2.1 24 = .ok (.getfield 25, 3) := by decide +kernel
theorem d89_27 : decode mt89.2.1 27 = .ok (.iload_n 1, 1) := by decide +kernel
theorem d89_28 : decode mt89.2.1 28 = .ok (.iload_n 2, 1) := by decide +kernel
theorem d89_29 : decode mt89.2.1 29 = .ok (.invokevirtual 163, 3) := by decide +kernel
theorem d89_32 : decode mt89.2.1 32 = .ok (.ifCond .eq 15, 3) := by decide +kernel
theorem d89_35 : decode mt89.2.1 35 = .ok (.aload_n 0, 1) := by decide +kernel
theorem d89_36 : decode mt89.2.1 36 = .ok (.getfield 25, 3) := by decide +kernel
theorem d89_39 : decode mt89.2.1 39 = .ok (.iload_n 1, 1) := by decide +kernel
theorem d89_40 : decode mt89.2.1 40 = .ok (.iload_n 2, 1) := by decide +kernel
theorem d89_41 : decode mt89.2.1 41 = .ok (.invokevirtual 166, 3) := by decide +kernel
theorem d89_44 : decode mt89.2.1 44 = .ok (.goto 5, 3) := by decide +kernel
theorem d89_47 : decode mt89.2.1 47 = .ok (.ldc 169, 2) := by decide +kernel
theorem d89_49 : decode mt89.2.1 49 = .ok (.ireturn, 1) := by decide +kernel
noncomputable def pg89_0 : List (Nat × aP) := [(0, oLdA 0 1),
  (1, oGetF (fun k => k = 10) 2 4),
  (4, oLdI 1 5),
  (5, oCalV (fun k => if k = 3 then some 28 else none) 1 8),
  (8, oIf (fun x => x = 0) 20 11),
  (11, oLdI 2 12),
  (12, oIf (fun x => x < 0) 20 15),
  (15, oLdI 2 16),
  (16, oPush (.int 4) 17),
  (17, oIc (fun x y => x < y) 23 20),
  (20, oPush (.int (-1000001)) 22),
  (22, oRetI),
  (23, oLdA 0 24),
  (24, oGetF (fun k => k = 10) 2 27),
  (27, oLdI 1 28),
  (28, oLdI 2 29),
  (29, oCalV (fun k => if k = 3 then some 33 else none) 2 32),
  (32, oIf (fun x => x = 0) 47 35),
  (35, oLdA 0 36),
  (36, oGetF (fun k => k = 10) 2 39),
  (39, oLdI 1 40),
  (40, oLdI 2 41),
  (41, oCalV (fun k => if k = 3 then some 34 else none) 2 44),
  (44, oGo 49),
  (47, oPush (.int (-1000000)) 49),
  (49, oRetI)]
theorem ok89_0 : ∀ q ∈ pg89_0, Sim mT mt89 q.1 q.2 ∧ Grow q.2 :=
  List.forall_mem_cons.mpr ⟨⟨sim_aload_n d89_0 rfl, gr_LdA 0 1⟩,
  List.forall_mem_cons.mpr ⟨⟨sim_getF d89_1 gf106, gr_GetF (fun k => k = 10) 2 4⟩,
  List.forall_mem_cons.mpr ⟨⟨sim_iload_n d89_4 rfl, gr_LdI 1 5⟩,
  List.forall_mem_cons.mpr ⟨⟨sim_virtual d89_5 vk65, gr_CalV (fun k => if k = 3 then some 28 else none) 1 8⟩,
  List.forall_mem_cons.mpr ⟨⟨sim_if_eq d89_8 (by decide), gr_If (fun x => x = 0) 20 11⟩,
  List.forall_mem_cons.mpr ⟨⟨sim_iload_n d89_11 rfl, gr_LdI 2 12⟩,
  List.forall_mem_cons.mpr ⟨⟨sim_if_lt d89_12 (by decide), gr_If (fun x => x < 0) 20 15⟩,
  List.forall_mem_cons.mpr ⟨⟨sim_iload_n d89_15 rfl, gr_LdI 2 16⟩,
  List.forall_mem_cons.mpr ⟨⟨sim_iconst d89_16 (by decide), gr_Push (.int 4) 17⟩,
  List.forall_mem_cons.mpr ⟨⟨sim_icmp_lt d89_17 (by decide), gr_Ic (fun x y => x < y) 23 20⟩,
  List.forall_mem_cons.mpr ⟨⟨sim_ldc d89_20 kw348, gr_Push (.int (-1000001)) 22⟩,
  List.forall_mem_cons.mpr ⟨⟨sim_ireturn d89_22 rfl, gr_RetI⟩,
  List.forall_mem_cons.mpr ⟨⟨sim_aload_n d89_23 rfl, gr_LdA 0 24⟩,
  List.forall_mem_cons.mpr ⟨⟨sim_getF d89_24 gf106, gr_GetF (fun k => k = 10) 2 27⟩,
  List.forall_mem_cons.mpr ⟨⟨sim_iload_n d89_27 rfl, gr_LdI 1 28⟩,
  List.forall_mem_cons.mpr ⟨⟨sim_iload_n d89_28 rfl, gr_LdI 2 29⟩,
  List.forall_mem_cons.mpr ⟨⟨sim_virtual d89_29 vk66, gr_CalV (fun k => if k = 3 then some 33 else none) 2 32⟩,
  List.forall_mem_cons.mpr ⟨⟨sim_if_eq d89_32 (by decide), gr_If (fun x => x = 0) 47 35⟩,
  List.forall_mem_cons.mpr ⟨⟨sim_aload_n d89_35 rfl, gr_LdA 0 36⟩,
  List.forall_mem_cons.mpr ⟨⟨sim_getF d89_36 gf106, gr_GetF (fun k => k = 10) 2 39⟩,
  List.forall_mem_cons.mpr ⟨⟨sim_iload_n d89_39 rfl, gr_LdI 1 40⟩,
  List.forall_mem_cons.mpr ⟨⟨sim_iload_n d89_40 rfl, gr_LdI 2 41⟩,
  List.forall_mem_cons.mpr ⟨⟨sim_virtual d89_41 vk67, gr_CalV (fun k => if k = 3 then some 34 else none) 2 44⟩,
  List.forall_mem_cons.mpr ⟨⟨sim_goto d89_44 (by decide), gr_Go 49⟩,
  List.forall_mem_cons.mpr ⟨⟨sim_ldc d89_47 kw590, gr_Push (.int (-1000000)) 49⟩,
  List.forall_mem_cons.mpr ⟨⟨sim_ireturn d89_49 rfl, gr_RetI⟩, fun _ h => absurd h List.not_mem_nil⟩⟩⟩⟩⟩⟩⟩⟩⟩⟩⟩⟩⟩⟩⟩⟩⟩⟩⟩⟩⟩⟩⟩⟩⟩⟩
noncomputable def pg89 : List (Nat × aP) := pg89_0
theorem ok89 : ∀ q ∈ pg89, Sim mT mt89 q.1 q.2 ∧ Grow q.2 := ok89_0
theorem d90_0 : decode mt90.2.1 0 = .ok (.aload_n 0, 1) := by decide +kernel
theorem d90_1 : decode mt90.2.1 1 = .ok (.iload_n 1, 1) := by decide +kernel
theorem d90_2 : decode mt90.2.1 2 = .ok (.iload_n 2, 1) := by decide +kernel
theorem d90_3 : decode mt90.2.1 3 = .ok (.iload 4, 2) := by decide +kernel
theorem d90_5 : decode mt90.2.1 5 = .ok (.invokevirtual 170, 3) := by decide +kernel
theorem d90_8 : decode mt90.2.1 8 = .ok (.ifCond .ne 6, 3) := by decide +kernel
theorem d90_11 : decode mt90.2.1 11 = .ok (.ldc 76, 2) := by decide +kernel
theorem d90_13 : decode mt90.2.1 13 = .ok (.ireturn, 1) := by decide +kernel
theorem d90_14 : decode mt90.2.1 14 = .ok (.aload_n 0, 1) := by decide +kernel
theorem d90_15 : decode mt90.2.1 15 = .ok (.iload_n 1, 1) := by decide +kernel
theorem d90_16 : decode mt90.2.1 16 = .ok (.aload_n 0, 1) := by decide +kernel
theorem d90_17 : decode mt90.2.1 17 = .ok (.getfield 11, 3) := by decide +kernel
theorem d90_20 : decode mt90.2.1 20 = .ok (.iload_n 2, 1) := by decide +kernel
theorem d90_21 : decode mt90.2.1 21 = .ok (.aaload, 1) := by decide +kernel
theorem d90_22 : decode mt90.2.1 22 = .ok (.iload_n 3, 1) := by decide +kernel
theorem d90_23 : decode mt90.2.1 23 = .ok (.iload 4, 2) := by decide +kernel
theorem d90_25 : decode mt90.2.1 25 = .ok (.invokevirtual 174, 3) := by decide +kernel
theorem d90_28 : decode mt90.2.1 28 = .ok (.ireturn, 1) := by decide +kernel
noncomputable def pg90_0 : List (Nat × aP) := [(0, oLdA 0 1),
  (1, oLdI 1 2),
  (2, oLdI 2 3),
  (3, oLdI 4 5),
  (5, oCalV (fun k => if k = 10 then some 113 else none) 3 8),
  (8, oIf (fun x => ¬ x = 0) 14 11),
  (11, oPush (.int (-1000001)) 13),
  (13, oRetI),
  (14, oLdA 0 15),
  (15, oLdI 1 16),
  (16, oLdA 0 17),
  (17, oGetF (fun k => k = 10) 0 20),
  (20, oLdI 2 21),
  (21, oALdA 22),
  (22, oLdI 3 23),
  (23, oLdI 4 25),
  (25, oCalV (fun k => if k = 10 then some 114 else none) 4 28),
  (28, oRetI)]
theorem ok90_0 : ∀ q ∈ pg90_0, Sim mT mt90 q.1 q.2 ∧ Grow q.2 :=
  List.forall_mem_cons.mpr ⟨⟨sim_aload_n d90_0 rfl, gr_LdA 0 1⟩,
  List.forall_mem_cons.mpr ⟨⟨sim_iload_n d90_1 rfl, gr_LdI 1 2⟩,
  List.forall_mem_cons.mpr ⟨⟨sim_iload_n d90_2 rfl, gr_LdI 2 3⟩,
  List.forall_mem_cons.mpr ⟨⟨sim_iload d90_3, gr_LdI 4 5⟩,
  List.forall_mem_cons.mpr ⟨⟨sim_virtual d90_5 vk68, gr_CalV (fun k => if k = 10 then some 113 else none) 3 8⟩,
  List.forall_mem_cons.mpr ⟨⟨sim_if_ne d90_8 (by decide), gr_If (fun x => ¬ x = 0) 14 11⟩,
  List.forall_mem_cons.mpr ⟨⟨sim_ldc d90_11 kw348, gr_Push (.int (-1000001)) 13⟩,
  List.forall_mem_cons.mpr ⟨⟨sim_ireturn d90_13 rfl, gr_RetI⟩,
  List.forall_mem_cons.mpr ⟨⟨sim_aload_n d90_14 rfl, gr_LdA 0 15⟩,
  List.forall_mem_cons.mpr ⟨⟨sim_iload_n d90_15 rfl, gr_LdI 1 16⟩,
  List.forall_mem_cons.mpr ⟨⟨sim_aload_n d90_16 rfl, gr_LdA 0 17⟩,
  List.forall_mem_cons.mpr ⟨⟨sim_getF d90_17 gf95, gr_GetF (fun k => k = 10) 0 20⟩,
  List.forall_mem_cons.mpr ⟨⟨sim_iload_n d90_20 rfl, gr_LdI 2 21⟩,
  List.forall_mem_cons.mpr ⟨⟨sim_aaload d90_21, gr_ALdA 22⟩,
  List.forall_mem_cons.mpr ⟨⟨sim_iload_n d90_22 rfl, gr_LdI 3 23⟩,
  List.forall_mem_cons.mpr ⟨⟨sim_iload d90_23, gr_LdI 4 25⟩,
  List.forall_mem_cons.mpr ⟨⟨sim_virtual d90_25 vk69, gr_CalV (fun k => if k = 10 then some 114 else none) 4 28⟩,
  List.forall_mem_cons.mpr ⟨⟨sim_ireturn d90_28 rfl, gr_RetI⟩, fun _ h => absurd h List.not_mem_nil⟩⟩⟩⟩⟩⟩⟩⟩⟩⟩⟩⟩⟩⟩⟩⟩⟩⟩
noncomputable def pg90 : List (Nat × aP) := pg90_0
theorem ok90 : ∀ q ∈ pg90, Sim mT mt90 q.1 q.2 ∧ Grow q.2 := ok90_0
theorem d91_0 : decode mt91.2.1 0 = .ok (.aload_n 0, 1) := by decide +kernel
theorem d91_1 : decode mt91.2.1 1 = .ok (.iload_n 1, 1) := by decide +kernel
theorem d91_2 : decode mt91.2.1 2 = .ok (.iload_n 2, 1) := by decide +kernel
theorem d91_3 : decode mt91.2.1 3 = .ok (.iload 4, 2) := by decide +kernel
theorem d91_5 : decode mt91.2.1 5 = .ok (.invokevirtual 170, 3) := by decide +kernel
theorem d91_8 : decode mt91.2.1 8 = .ok (.ifCond .ne 6, 3) := by decide +kernel
theorem d91_11 : decode mt91.2.1 11 = .ok (.ldc 76, 2) := by decide +kernel
theorem d91_13 : decode mt91.2.1 13 = .ok (.ireturn, 1) := by decide +kernel
theorem d91_14 : decode mt91.2.1 14 = .ok (.aload_n 0, 1) := by decide +kernel
theorem d91_15 : decode mt91.2.1 15 = .ok (.getfield 25, 3) := by decide +kernel
theorem d91_18 : decode mt91.2.1 18 = .ok (.iload_n 1, 1) := by decide +kernel
theorem d91_19 : decode mt91.2.1 19 = .ok (.invokevirtual 178, 3) := by decide +kernel
theorem d91_22 : decode mt91.2.1 22 = .ok (.ifCond .eq 6, 3) := by decide +kernel
theorem d91_25 : decode mt91.2.1 25 = .ok (.ldc 181, 2) := by decide +kernel
theorem d91_27 : decode mt91.2.1 27 = .ok (.ireturn, 1) := by decide +kernel
theorem d91_28 : decode mt91.2.1 28 = .ok (.aload_n 0, 1) := by decide +kernel
theorem d91_29 : decode mt91.2.1 29 = .ok (.iload_n 1, 1) := by decide +kernel
theorem d91_30 : decode mt91.2.1 30 = .ok (.aload_n 0, 1) := by decide +kernel
theorem d91_31 : decode mt91.2.1 31 = .ok (.getfield 11, 3) := by decide +kernel
theorem d91_34 : decode mt91.2.1 34 = .ok (.iload_n 2, 1) := by decide +kernel
theorem d91_35 : decode mt91.2.1 35 = .ok (.aaload, 1) := by decide +kernel
theorem d91_36 : decode mt91.2.1 36 = .ok (.iload_n 3, 1) := by decide +kernel
theorem d91_37 : decode mt91.2.1 37 = .ok (.iload 4, 2) := by decide +kernel
theorem d91_39 : decode mt91.2.1 39 = .ok (.invokevirtual 174, 3) := by decide +kernel
theorem d91_42 : decode mt91.2.1 42 = .ok (.istore 5, 2) := by decide +kernel
theorem d91_44 : decode mt91.2.1 44 = .ok (.iload 5, 2) := by decide +kernel
theorem d91_46 : decode mt91.2.1 46 = .ok (.ifCond .lt 15, 3) := by decide +kernel
theorem d91_49 : decode mt91.2.1 49 = .ok (.aload_n 0, 1) := by decide +kernel
theorem d91_50 : decode mt91.2.1 50 = .ok (.iload_n 1, 1) := by decide +kernel
theorem d91_51 : decode mt91.2.1 51 = .ok (.aload_n 0, 1) := by decide +kernel
theorem d91_52 : decode mt91.2.1 52 = .ok (.getfield 36, 3) := by decide +kernel
theorem d91_55 : decode mt91.2.1 55 = .ok (.getfield 182, 3) := by decide +kernel
theorem d91_58 : decode mt91.2.1 58 = .ok (.invokevirtual 186, 3) := by decide +kernel
theorem d91_61 : decode mt91.2.1 61 = .ok (.iload 5, 2) := by decide +kernel
theorem d91_63 : decode mt91.2.1 63 = .ok (.ireturn, 1) := by decide +kernel
noncomputable def pg91_0 : List (Nat × aP) := [(0, oLdA 0 1),
  (1, oLdI 1 2),
  (2, oLdI 2 3),
  (3, oLdI 4 5),
  (5, oCalV (fun k => if k = 10 then some 113 else none) 3 8),
  (8, oIf (fun x => ¬ x = 0) 14 11),
  (11, oPush (.int (-1000001)) 13),
  (13, oRetI),
  (14, oLdA 0 15),
  (15, oGetF (fun k => k = 10) 2 18),
  (18, oLdI 1 19),
  (19, oCalV (fun k => if k = 3 then some 27 else none) 1 22),
  (22, oIf (fun x => x = 0) 28 25),
  (25, oPush (.int (-1000002)) 27),
  (27, oRetI),
  (28, oLdA 0 29),
  (29, oLdI 1 30),
  (30, oLdA 0 31),
  (31, oGetF (fun k => k = 10) 0 34),
  (34, oLdI 2 35),
  (35, oALdA 36),
  (36, oLdI 3 37),
  (37, oLdI 4 39),
  (39, oCalV (fun k => if k = 10 then some 114 else none) 4 42),
  (42, oStI 5 44),
  (44, oLdI 5 46),
  (46, oIf (fun x => x < 0) 61 49),
  (49, oLdA 0 50),
  (50, oLdI 1 51),
  (51, oLdA 0 52),
  (52, oGetF (fun k => k = 10) 4 55),
  (55, oGetL (fun k => k = 8) 0 58),
  (58, oCalV (fun k => if k = 10 then some 115 else none) 2 61),
  (61, oLdI 5 63),
  (63, oRetI)]
theorem ok91_0 : ∀ q ∈ pg91_0, Sim mT mt91 q.1 q.2 ∧ Grow q.2 :=
  List.forall_mem_cons.mpr ⟨⟨sim_aload_n d91_0 rfl, gr_LdA 0 1⟩,
  List.forall_mem_cons.mpr ⟨⟨sim_iload_n d91_1 rfl, gr_LdI 1 2⟩,
  List.forall_mem_cons.mpr ⟨⟨sim_iload_n d91_2 rfl, gr_LdI 2 3⟩,
  List.forall_mem_cons.mpr ⟨⟨sim_iload d91_3, gr_LdI 4 5⟩,
  List.forall_mem_cons.mpr ⟨⟨sim_virtual d91_5 vk68, gr_CalV (fun k => if k = 10 then some 113 else none) 3 8⟩,
  List.forall_mem_cons.mpr ⟨⟨sim_if_ne d91_8 (by decide), gr_If (fun x => ¬ x = 0) 14 11⟩,
  List.forall_mem_cons.mpr ⟨⟨sim_ldc d91_11 kw348, gr_Push (.int (-1000001)) 13⟩,
  List.forall_mem_cons.mpr ⟨⟨sim_ireturn d91_13 rfl, gr_RetI⟩,
  List.forall_mem_cons.mpr ⟨⟨sim_aload_n d91_14 rfl, gr_LdA 0 15⟩,
  List.forall_mem_cons.mpr ⟨⟨sim_getF d91_15 gf106, gr_GetF (fun k => k = 10) 2 18⟩,
  List.forall_mem_cons.mpr ⟨⟨sim_iload_n d91_18 rfl, gr_LdI 1 19⟩,
  List.forall_mem_cons.mpr ⟨⟨sim_virtual d91_19 vk70, gr_CalV (fun k => if k = 3 then some 27 else none) 1 22⟩,
  List.forall_mem_cons.mpr ⟨⟨sim_if_eq d91_22 (by decide), gr_If (fun x => x = 0) 28 25⟩,
  List.forall_mem_cons.mpr ⟨⟨sim_ldc d91_25 kw646, gr_Push (.int (-1000002)) 27⟩,
  List.forall_mem_cons.mpr ⟨⟨sim_ireturn d91_27 rfl, gr_RetI⟩,
  List.forall_mem_cons.mpr ⟨⟨sim_aload_n d91_28 rfl, gr_LdA 0 29⟩,
  List.forall_mem_cons.mpr ⟨⟨sim_iload_n d91_29 rfl, gr_LdI 1 30⟩,
  List.forall_mem_cons.mpr ⟨⟨sim_aload_n d91_30 rfl, gr_LdA 0 31⟩,
  List.forall_mem_cons.mpr ⟨⟨sim_getF d91_31 gf95, gr_GetF (fun k => k = 10) 0 34⟩,
  List.forall_mem_cons.mpr ⟨⟨sim_iload_n d91_34 rfl, gr_LdI 2 35⟩,
  List.forall_mem_cons.mpr ⟨⟨sim_aaload d91_35, gr_ALdA 36⟩,
  List.forall_mem_cons.mpr ⟨⟨sim_iload_n d91_36 rfl, gr_LdI 3 37⟩,
  List.forall_mem_cons.mpr ⟨⟨sim_iload d91_37, gr_LdI 4 39⟩,
  List.forall_mem_cons.mpr ⟨⟨sim_virtual d91_39 vk69, gr_CalV (fun k => if k = 10 then some 114 else none) 4 42⟩,
  List.forall_mem_cons.mpr ⟨⟨sim_istore d91_42 (by decide), gr_StI 5 44⟩,
  List.forall_mem_cons.mpr ⟨⟨sim_iload d91_44, gr_LdI 5 46⟩,
  List.forall_mem_cons.mpr ⟨⟨sim_if_lt d91_46 (by decide), gr_If (fun x => x < 0) 61 49⟩,
  List.forall_mem_cons.mpr ⟨⟨sim_aload_n d91_49 rfl, gr_LdA 0 50⟩,
  List.forall_mem_cons.mpr ⟨⟨sim_iload_n d91_50 rfl, gr_LdI 1 51⟩,
  List.forall_mem_cons.mpr ⟨⟨sim_aload_n d91_51 rfl, gr_LdA 0 52⟩,
  List.forall_mem_cons.mpr ⟨⟨sim_getF d91_52 gf110, gr_GetF (fun k => k = 10) 4 55⟩,
  List.forall_mem_cons.mpr ⟨⟨sim_getL d91_55 gf111, gr_GetL (fun k => k = 8) 0 58⟩,
  List.forall_mem_cons.mpr ⟨⟨sim_virtual d91_58 vk71, gr_CalV (fun k => if k = 10 then some 115 else none) 2 61⟩,
  List.forall_mem_cons.mpr ⟨⟨sim_iload d91_61, gr_LdI 5 63⟩,
  List.forall_mem_cons.mpr ⟨⟨sim_ireturn d91_63 rfl, gr_RetI⟩, fun _ h => absurd h List.not_mem_nil⟩⟩⟩⟩⟩⟩⟩⟩⟩⟩⟩⟩⟩⟩⟩⟩⟩⟩⟩⟩⟩⟩⟩⟩⟩⟩⟩⟩⟩⟩⟩⟩⟩⟩⟩
noncomputable def pg91 : List (Nat × aP) := pg91_0
theorem ok91 : ∀ q ∈ pg91, Sim mT mt91 q.1 q.2 ∧ Grow q.2 := ok91_0
theorem d92_0 : decode mt92.2.1 0 = .ok (.aload_n 0, 1) := by decide +kernel
theorem d92_1 : decode mt92.2.1 1 = .ok (.getfield 25, 3) := by decide +kernel
theorem d92_4 : decode mt92.2.1 4 = .ok (.iload_n 1, 1) := by decide +kernel
theorem d92_5 : decode mt92.2.1 5 = .ok (.invokevirtual 190, 3) := by decide +kernel
theorem d92_8 : decode mt92.2.1 8 = .ok (.ifCond .ne 6, 3) := by decide +kernel
theorem d92_11 : decode mt92.2.1 11 = .ok (.ldc 76, 2) := by decide +kernel
theorem d92_13 : decode mt92.2.1 13 = .ok (.ireturn, 1) := by decide +kernel
theorem d92_14 : decode mt92.2.1 14 = .ok (.aload_n 0, 1) := by decide +kernel
theorem d92_15 : decode mt92.2.1 15 = .ok (.getfield 25, 3) := by decide +kernel
theorem d92_18 : decode mt92.2.1 18 = .ok (.iload_n 1, 1) := by decide +kernel
theorem d92_19 : decode mt92.2.1 19 = .ok (.invokevirtual 178, 3) := by decide +kernel
theorem d92_22 : decode mt92.2.1 22 = .ok (.ifCond .ne 6, 3) := by decide +kernel
theorem d92_25 : decode mt92.2.1 25 = .ok (.ldc 181, 2) := by decide +kernel
theorem d92_27 : decode mt92.2.1 27 = .ok (.ireturn, 1) := by decide +kernel
theorem d92_28 : decode mt92.2.1 28 = .ok (.aload_n 0, 1) := by decide +kernel
theorem d92_29 : decode mt92.2.1 29 = .ok (.getfield 25, 3) := by decide +kernel
theorem d92_32 : decode mt92.2.1 32 = .ok (.aload_n 0, 1) := by decide +kernel
theorem d92_33 : decode mt92.2.1 33 = .ok (.getfield 25, 3) := by decide +kernel
theorem d92_36 : decode mt92.2.1 36 = .ok (.getfield 193, 3) := by decide +kernel
theorem d92_39 : decode mt92.2.1 39 = .ok (.iload_n 1, 1) := by decide +kernel
theorem d92_40 : decode mt92.2.1 40 = .ok (.laload, 1) := by decide +kernel
theorem d92_41 : decode mt92.2.1 41 = .ok (.invokevirtual 197, 3) := by decide +kernel
theorem d92_44 : decode mt92.2.1 44 = .ok (.istore_n 2, 1) := by decide +kernel
theorem d92_45 : decode mt92.2.1 45 = .ok (.aload_n 0, 1) := by decide +kernel
theorem d92_46 : decode mt92.2.1 46 = .ok (.iload_n 1, 1) := by decide +kernel
theorem d92_47 : decode mt92.2.1 47 = .ok (.lconst 0, 1) := by decide +kernel
theorem d92_48 : decode mt92.2.1 48 = .ok (.invokevirtual 186, 3) := by decide +kernel
theorem d92_51 : decode mt92.2.1 51 = .ok (.iload_n 2, 1) := by decide +kernel
theorem d92_52 : decode mt92.2.1 52 = .ok (.ireturn, 1) := by decide +kernel
noncomputable def pg92_0 : List (Nat × aP) := [(0, oLdA 0 1),
  (1, oGetF (fun k => k = 10) 2 4),
  (4, oLdI 1 5),
  (5, oCalV (fun k => if k = 3 then some 26 else none) 1 8),
  (8, oIf (fun x => ¬ x = 0) 14 11),
  (11, oPush (.int (-1000001)) 13),
  (13, oRetI),
  (14, oLdA 0 15),
  (15, oGetF (fun k => k = 10) 2 18),
  (18, oLdI 1 19),
  (19, oCalV (fun k => if k = 3 then some 27 else none) 1 22),
  (22, oIf (fun x => ¬ x = 0) 28 25),
  (25, oPush (.int (-1000002)) 27),
  (27, oRetI),
  (28, oLdA 0 29),
  (29, oGetF (fun k => k = 10) 2 32),
  (32, oLdA 0 33),
  (33, oGetF (fun k => k = 10) 2 36),
  (36, oGetF (fun k => k = 3) 8 39),
  (39, oLdI 1 40),
  (40, oALdL 41),
  (41, oCalV (fun k => if k = 3 then some 36 else none) 1 44),
  (44, oStI 2 45),
  (45, oLdA 0 46),
  (46, oLdI 1 47),
  (47, oPush (.long 0) 48),
  (48, oCalV (fun k => if k = 10 then some 115 else none) 2 51),
  (51, oLdI 2 52),
  (52, oRetI)]
theorem ok92_0 : ∀ q ∈ pg92_0, Sim mT mt92 q.1 q.2 ∧ Grow q.2 :=
  List.forall_mem_cons.mpr ⟨⟨sim_aload_n d92_0 rfl, gr_LdA 0 1⟩,
  List.forall_mem_cons.mpr ⟨⟨sim_getF d92_1 gf106, gr_GetF (fun k => k = 10) 2 4⟩,
  List.forall_mem_cons.mpr ⟨⟨sim_iload_n d92_4 rfl, gr_LdI 1 5⟩,
  List.forall_mem_cons.mpr ⟨⟨sim_virtual d92_5 vk72, gr_CalV (fun k => if k = 3 then some 26 else none) 1 8⟩,
  List.forall_mem_cons.mpr ⟨⟨sim_if_ne d92_8 (by decide), gr_If (fun x => ¬ x = 0) 14 11⟩,
  List.forall_mem_cons.mpr ⟨⟨sim_ldc d92_11 kw348, gr_Push (.int (-1000001)) 13⟩,
  List.forall_mem_cons.mpr ⟨⟨sim_ireturn d92_13 rfl, gr_RetI⟩,
  List.forall_mem_cons.mpr ⟨⟨sim_aload_n d92_14 rfl, gr_LdA 0 15⟩,
  List.forall_mem_cons.mpr ⟨⟨sim_getF d92_15 gf106, gr_GetF (fun k => k = 10) 2 18⟩,
  List.forall_mem_cons.mpr ⟨⟨sim_iload_n d92_18 rfl, gr_LdI 1 19⟩,
  List.forall_mem_cons.mpr ⟨⟨sim_virtual d92_19 vk70, gr_CalV (fun k => if k = 3 then some 27 else none) 1 22⟩,
  List.forall_mem_cons.mpr ⟨⟨sim_if_ne d92_22 (by decide), gr_If (fun x => ¬ x = 0) 28 25⟩,
  List.forall_mem_cons.mpr ⟨⟨sim_ldc d92_25 kw646, gr_Push (.int (-1000002)) 27⟩,
  List.forall_mem_cons.mpr ⟨⟨sim_ireturn d92_27 rfl, gr_RetI⟩,
  List.forall_mem_cons.mpr ⟨⟨sim_aload_n d92_28 rfl, gr_LdA 0 29⟩,
  List.forall_mem_cons.mpr ⟨⟨sim_getF d92_29 gf106, gr_GetF (fun k => k = 10) 2 32⟩,
  List.forall_mem_cons.mpr ⟨⟨sim_aload_n d92_32 rfl, gr_LdA 0 33⟩,
  List.forall_mem_cons.mpr ⟨⟨sim_getF d92_33 gf106, gr_GetF (fun k => k = 10) 2 36⟩,
  List.forall_mem_cons.mpr ⟨⟨sim_getF d92_36 gf112, gr_GetF (fun k => k = 3) 8 39⟩,
  List.forall_mem_cons.mpr ⟨⟨sim_iload_n d92_39 rfl, gr_LdI 1 40⟩,
  List.forall_mem_cons.mpr ⟨⟨sim_laload d92_40, gr_ALdL 41⟩,
  List.forall_mem_cons.mpr ⟨⟨sim_virtual d92_41 vk73, gr_CalV (fun k => if k = 3 then some 36 else none) 1 44⟩,
  List.forall_mem_cons.mpr ⟨⟨sim_istore_n d92_44 rfl (by decide), gr_StI 2 45⟩,
  List.forall_mem_cons.mpr ⟨⟨sim_aload_n d92_45 rfl, gr_LdA 0 46⟩,
  List.forall_mem_cons.mpr ⟨⟨sim_iload_n d92_46 rfl, gr_LdI 1 47⟩,
  List.forall_mem_cons.mpr ⟨⟨sim_lconst d92_47 (by decide), gr_Push (.long 0) 48⟩,
  List.forall_mem_cons.mpr ⟨⟨sim_virtual d92_48 vk71, gr_CalV (fun k => if k = 10 then some 115 else none) 2 51⟩,
  List.forall_mem_cons.mpr ⟨⟨sim_iload_n d92_51 rfl, gr_LdI 2 52⟩,
  List.forall_mem_cons.mpr ⟨⟨sim_ireturn d92_52 rfl, gr_RetI⟩, fun _ h => absurd h List.not_mem_nil⟩⟩⟩⟩⟩⟩⟩⟩⟩⟩⟩⟩⟩⟩⟩⟩⟩⟩⟩⟩⟩⟩⟩⟩⟩⟩⟩⟩⟩
noncomputable def pg92 : List (Nat × aP) := pg92_0
theorem ok92 : ∀ q ∈ pg92, Sim mT mt92 q.1 q.2 ∧ Grow q.2 := ok92_0
theorem d93_0 : decode mt93.2.1 0 = .ok (.aload_n 0, 1) := by decide +kernel
theorem d93_1 : decode mt93.2.1 1 = .ok (.getfield 25, 3) := by decide +kernel
theorem d93_4 : decode mt93.2.1 4 = .ok (.iload_n 1, 1) := by decide +kernel
theorem d93_5 : decode mt93.2.1 5 = .ok (.invokevirtual 190, 3) := by decide +kernel
theorem d93_8 : decode mt93.2.1 8 = .ok (.ifCond .eq 12, 3) := by decide +kernel
theorem d93_11 : decode mt93.2.1 11 = .ok (.iload_n 2, 1) := by decide +kernel
theorem d93_12 : decode mt93.2.1 12 = .ok (.ifCond .lt 8, 3) := by decide +kernel
theorem d93_15 : decode mt93.2.1 15 = .ok (.iload_n 2, 1) := by decide +kernel
theorem d93_16 : decode mt93.2.1 16 = .ok (.iconst 3, 1) := by decide +kernel
theorem d93_17 : decode mt93.2.1 17 = .ok (.if_icmp .le 6, 3) := by decide +kernel
theorem d93_20 : decode mt93.2.1 20 = .ok (.ldc 76, 2) := by decide +kernel
theorem d93_22 : decode mt93.2.1 22 = .ok (.ireturn, 1) := by decide +kernel
theorem d93_23 : decode mt93.2.1 23 = .ok (.iload_n 2, 1) := by decide +kernel
theorem d93_24 : decode mt93.2.1 24 = .ok (.ifCond .ne 13, 3) := by decide +kernel
theorem d93_27 : decode mt93.2.1 27 = .ok (.aload_n 0, 1) := by decide +kernel
theorem d93_28 : decode mt93.2.1 28 = .ok (.getfield 25, 3) := by decide +kernel
theorem d93_31 : decode mt93.2.1 31 = .ok (.getfield 201, 3) := by decide +kernel
theorem d93_34 : decode mt93.2.1 34 = .ok (.iload_n 1, 1) := by decide +kernel
theorem d93_35 : decode mt93.2.1 35 = .ok (.iaload, 1) := by decide +kernel
theorem d93_36 : decode mt93.2.1 36 = .ok (.ireturn, 1) := by decide +kernel
theorem d93_37 : decode mt93.2.1 37 = .ok (.iload_n 2, 1) := by decide +kernel
theorem d93_38 : decode mt93.2.1 38 = .ok (.iconst 1, 1) := by decide +kernel
theorem d93_39 : decode mt93.2.1 39 = .ok (.if_icmp .ne 13, 3) := by decide +kernel
theorem d93_42 : decode mt93.2.1 42 = .ok (.aload_n 0, 1) := by decide +kernel
theorem d93_43 : decode mt93.2.1 43 = .ok (.getfield 25, 3) := by decide +kernel
theorem d93_46 : decode mt93.2.1 46 = .ok (.getfield 204, 3) := by decide +kernel
theorem d93_49 : decode mt93.2.1 49 = .ok (.iload_n 1, 1) := by decide +kernel
theorem d93_50 : decode mt93.2.1 50 = .ok (.iaload, 1) := by decide +kernel
theorem d93_51 : decode mt93.2.1 51 = .ok (.ireturn, 1) := by decide +kernel
theorem d93_52 : decode mt93.2.1 52 = .ok (.aload_n 0, 1) := by decide +kernel
theorem d93_53 : decode mt93.2.1 53 = .ok (.getfield 25, 3) := by decide +kernel
theorem d93_56 : decode mt93.2.1 56 = .ok (.iload_n 1, 1) := by decide +kernel
theorem d93_57 : decode mt93.2.1 57 = .ok (.invokevirtual 178, 3) := by decide +kernel
theorem d93_60 : decode mt93.2.1 60 = .ok (.ifCond .ne 6, 3) := by decide +kernel
theorem d93_63 : decode mt93.2.1 63 = .ok (.ldc 169, 2) := by decide +kernel
theorem d93_65 : decode mt93.2.1 65 = .ok (.ireturn, 1) := by decide +kernel
theorem d93_66 : decode mt93.2.1 66 = .ok (.iload_n 2, 1) := by decide +kernel
theorem d93_67 : decode mt93.2.1 67 = .ok (.iconst 2, 1) := by decide +kernel
theorem d93_68 : decode mt93.2.1 68 = .ok (.if_icmp .ne 22, 3) := by decide +kernel
theorem d93_71 : decode mt93.2.1 71 = .ok (.aload_n 0, 1) := by decide +kernel
theorem d93_72 : decode mt93.2.1 72 = .ok (.getfield 25, 3) := by decide +kernel
theorem d93_75 : decode mt93.2.1 75 = .ok (.aload_n 0, 1) := by decide +kernel
theorem d93_76 : decode mt93.2.1 76 = .ok (.getfield 25, 3) := by decide +kernel
theorem d93_79 : decode mt93.2.1 79 = .ok (.getfield 193, 3) := by decide +kernel
theorem d93_82 : decode mt93.2.1 82 = .ok (.iload_n 1, 1) := by decide +kernel
theorem d93_83 : decode mt93.2.1 83 = .ok (.laload, 1) := by decide +kernel
theorem d93_84 : decode mt93.2.1 84 = .ok (.invokevirtual 197, 3) := by decide +kernel
theorem d93_87 : decode mt93.2.1 87 = .ok (.goto 15, 3) := by decide +kernel
theorem d93_90 : decode mt93.2.1 90 = .ok (.aload_n 0, 1) := by decide +kernel
theorem d93_91 : decode mt93.2.1 91 = .ok (.getfield 25, 3) := by decide +kernel
theorem d93_94 : decode mt93.2.1 94 = .ok (.getfield 193, 3) := by decide +kernel
theorem d93_97 : decode mt93.2.1 97 = .ok (.iload_n 1, 1) := by decide +kernel
theorem d93_98 : decode mt93.2.1 98 = .ok (.laload, 1) := by decide +kernel
theorem d93_99 : decode mt93.2.1 99 = .ok (.invokestatic 207, 3) := by decide +kernel
theorem d93_102 : decode mt93.2.1 102 = .ok (.ireturn, 1) := by decide +kernel
noncomputable def pg93_0 : List (Nat × aP) := [(0, oLdA 0 1),
  (1, oGetF (fun k => k = 10) 2 4),
  (4, oLdI 1 5),
  (5, oCalV (fun k => if k = 3 then some 26 else none) 1 8),
  (8, oIf (fun x => x = 0) 20 11),
  (11, oLdI 2 12),
  (12, oIf (fun x => x < 0) 20 15),
  (15, oLdI 2 16),
  (16, oPush (.int 3) 17),
  (17, oIc (fun x y => x ≤ y) 23 20),
  (20, oPush (.int (-1000001)) 22),
  (22, oRetI),
  (23, oLdI 2 24),
  (24, oIf (fun x => ¬ x = 0) 37 27),
  (27, oLdA 0 28),
  (28, oGetF (fun k => k = 10) 2 31),
  (31, oGetF (fun k => k = 3) 6 34),
  (34, oLdI 1 35),
  (35, oALdI 36),
  (36, oRetI),
  (37, oLdI 2 38),
  (38, oPush (.int 1) 39),
  (39, oIc (fun x y => ¬ x = y) 52 42),
  (42, oLdA 0 43),
  (43, oGetF (fun k => k = 10) 2 46),
  (46, oGetF (fun k => k = 3) 7 49),
  (49, oLdI 1 50),
  (50, oALdI 51),
  (51, oRetI),
  (52, oLdA 0 53),
  (53, oGetF (fun k => k = 10) 2 56),
  (56, oLdI 1 57),
  (57, oCalV (fun k => if k = 3 then some 27 else none) 1 60),
  (60, oIf (fun x => ¬ x = 0) 66 63),
  (63, oPush (.int (-1000000)) 65),
  (65, oRetI),
  (66, oLdI 2 67),
  (67, oPush (.int 2) 68),
  (68, oIc (fun x y => ¬ x = y) 90 71),
  (71, oLdA 0 72)]
theorem ok93_0 : ∀ q ∈ pg93_0, Sim mT mt93 q.1 q.2 ∧ Grow q.2 :=
  List.forall_mem_cons.mpr ⟨⟨sim_aload_n d93_0 rfl, gr_LdA 0 1⟩,
  List.forall_mem_cons.mpr ⟨⟨sim_getF d93_1 gf106, gr_GetF (fun k => k = 10) 2 4⟩,
  List.forall_mem_cons.mpr ⟨⟨sim_iload_n d93_4 rfl, gr_LdI 1 5⟩,
  List.forall_mem_cons.mpr ⟨⟨sim_virtual d93_5 vk72, gr_CalV (fun k => if k = 3 then some 26 else none) 1 8⟩,
  List.forall_mem_cons.mpr ⟨⟨sim_if_eq d93_8 (by decide), gr_If (fun x => x = 0) 20 11⟩,
  List.forall_mem_cons.mpr ⟨⟨sim_iload_n d93_11 rfl, gr_LdI 2 12⟩,
  List.forall_mem_cons.mpr ⟨⟨sim_if_lt d93_12 (by decide), gr_If (fun x => x < 0) 20 15⟩,
  List.forall_mem_cons.mpr ⟨⟨sim_iload_n d93_15 rfl, gr_LdI 2 16⟩,
  List.forall_mem_cons.mpr ⟨⟨sim_iconst d93_16 (by decide), gr_Push (.int 3) 17⟩,
  List.forall_mem_cons.mpr ⟨⟨sim_icmp_le d93_17 (by decide), gr_Ic (fun x y => x ≤ y) 23 20⟩,
  List.forall_mem_cons.mpr ⟨⟨sim_ldc d93_20 kw348, gr_Push (.int (-1000001)) 22⟩,
  List.forall_mem_cons.mpr ⟨⟨sim_ireturn d93_22 rfl, gr_RetI⟩,
  List.forall_mem_cons.mpr ⟨⟨sim_iload_n d93_23 rfl, gr_LdI 2 24⟩,
  List.forall_mem_cons.mpr ⟨⟨sim_if_ne d93_24 (by decide), gr_If (fun x => ¬ x = 0) 37 27⟩,
  List.forall_mem_cons.mpr ⟨⟨sim_aload_n d93_27 rfl, gr_LdA 0 28⟩,
  List.forall_mem_cons.mpr ⟨⟨sim_getF d93_28 gf106, gr_GetF (fun k => k = 10) 2 31⟩,
  List.forall_mem_cons.mpr ⟨⟨sim_getF d93_31 gf113, gr_GetF (fun k => k = 3) 6 34⟩,
  List.forall_mem_cons.mpr ⟨⟨sim_iload_n d93_34 rfl, gr_LdI 1 35⟩,
  List.forall_mem_cons.mpr ⟨⟨sim_iaload d93_35, gr_ALdI 36⟩,
  List.forall_mem_cons.mpr ⟨⟨sim_ireturn d93_36 rfl, gr_RetI⟩,
  List.forall_mem_cons.mpr ⟨⟨sim_iload_n d93_37 rfl, gr_LdI 2 38⟩,
  List.forall_mem_cons.mpr ⟨⟨sim_iconst d93_38 (by decide), gr_Push (.int 1) 39⟩,
  List.forall_mem_cons.mpr ⟨⟨sim_icmp_ne d93_39 (by decide), gr_Ic (fun x y => ¬ x = y) 52 42⟩,
  List.forall_mem_cons.mpr ⟨⟨sim_aload_n d93_42 rfl, gr_LdA 0 43⟩,
  List.forall_mem_cons.mpr ⟨⟨sim_getF d93_43 gf106, gr_GetF (fun k => k = 10) 2 46⟩,
  List.forall_mem_cons.mpr ⟨⟨sim_getF d93_46 gf114, gr_GetF (fun k => k = 3) 7 49⟩,
  List.forall_mem_cons.mpr ⟨⟨sim_iload_n d93_49 rfl, gr_LdI 1 50⟩,
  List.forall_mem_cons.mpr ⟨⟨sim_iaload d93_50, gr_ALdI 51⟩,
  List.forall_mem_cons.mpr ⟨⟨sim_ireturn d93_51 rfl, gr_RetI⟩,
  List.forall_mem_cons.mpr ⟨⟨sim_aload_n d93_52 rfl, gr_LdA 0 53⟩,
  List.forall_mem_cons.mpr ⟨⟨sim_getF d93_53 gf106, gr_GetF (fun k => k = 10) 2 56⟩,
  List.forall_mem_cons.mpr ⟨⟨sim_iload_n d93_56 rfl, gr_LdI 1 57⟩,
  List.forall_mem_cons.mpr ⟨⟨sim_virtual d93_57 vk70, gr_CalV (fun k => if k = 3 then some 27 else none) 1 60⟩,
  List.forall_mem_cons.mpr ⟨⟨sim_if_ne d93_60 (by decide), gr_If (fun x => ¬ x = 0) 66 63⟩,
  List.forall_mem_cons.mpr ⟨⟨sim_ldc d93_63 kw590, gr_Push (.int (-1000000)) 65⟩,
  List.forall_mem_cons.mpr ⟨⟨sim_ireturn d93_65 rfl, gr_RetI⟩,
  List.forall_mem_cons.mpr ⟨⟨sim_iload_n d93_66 rfl, gr_LdI 2 67⟩,
  List.forall_mem_cons.mpr ⟨⟨sim_iconst d93_67 (by decide), gr_Push (.int 2) 68⟩,
  List.forall_mem_cons.mpr ⟨⟨sim_icmp_ne d93_68 (by decide), gr_Ic (fun x y => ¬ x = y) 90 71⟩,
  List.forall_mem_cons.mpr ⟨⟨sim_aload_n d93_71 rfl, gr_LdA 0 72⟩, fun _ h => absurd h List.not_mem_nil⟩⟩⟩⟩⟩⟩⟩⟩⟩⟩⟩⟩⟩⟩⟩⟩⟩⟩⟩⟩⟩⟩⟩⟩⟩⟩⟩⟩⟩⟩⟩⟩⟩⟩⟩⟩⟩⟩⟩⟩
noncomputable def pg93_1 : List (Nat × aP) := [(72, oGetF (fun k => k = 10) 2 75),
  (75, oLdA 0 76),
  (76, oGetF (fun k => k = 10) 2 79),
  (79, oGetF (fun k => k = 3) 8 82),
  (82, oLdI 1 83),
  (83, oALdL 84),
  (84, oCalV (fun k => if k = 3 then some 36 else none) 1 87),
  (87, oGo 102),
  (90, oLdA 0 91),
  (91, oGetF (fun k => k = 10) 2 94),
  (94, oGetF (fun k => k = 3) 8 97),
  (97, oLdI 1 98),
  (98, oALdL 99),
  (99, oCall 210 1 102),
  (102, oRetI)]
theorem ok93_1 : ∀ q ∈ pg93_1, Sim mT mt93 q.1 q.2 ∧ Grow q.2 :=
  List.forall_mem_cons.mpr ⟨⟨sim_getF d93_72 gf106, gr_GetF (fun k => k = 10) 2 75⟩,
  List.forall_mem_cons.mpr ⟨⟨sim_aload_n d93_75 rfl, gr_LdA 0 76⟩,
  List.forall_mem_cons.mpr ⟨⟨sim_getF d93_76 gf106, gr_GetF (fun k => k = 10) 2 79⟩,
  List.forall_mem_cons.mpr ⟨⟨sim_getF d93_79 gf112, gr_GetF (fun k => k = 3) 8 82⟩,
  List.forall_mem_cons.mpr ⟨⟨sim_iload_n d93_82 rfl, gr_LdI 1 83⟩,
  List.forall_mem_cons.mpr ⟨⟨sim_laload d93_83, gr_ALdL 84⟩,
  List.forall_mem_cons.mpr ⟨⟨sim_virtual d93_84 vk73, gr_CalV (fun k => if k = 3 then some 36 else none) 1 87⟩,
  List.forall_mem_cons.mpr ⟨⟨sim_goto d93_87 (by decide), gr_Go 102⟩,
  List.forall_mem_cons.mpr ⟨⟨sim_aload_n d93_90 rfl, gr_LdA 0 91⟩,
  List.forall_mem_cons.mpr ⟨⟨sim_getF d93_91 gf106, gr_GetF (fun k => k = 10) 2 94⟩,
  List.forall_mem_cons.mpr ⟨⟨sim_getF d93_94 gf112, gr_GetF (fun k => k = 3) 8 97⟩,
  List.forall_mem_cons.mpr ⟨⟨sim_iload_n d93_97 rfl, gr_LdI 1 98⟩,
  List.forall_mem_cons.mpr ⟨⟨sim_laload d93_98, gr_ALdL 99⟩,
  List.forall_mem_cons.mpr ⟨⟨sim_static (y := 210) d93_99 (Or.inl kw660) kw633 mo210, gr_Call 210 1 102⟩,
  List.forall_mem_cons.mpr ⟨⟨sim_ireturn d93_102 rfl, gr_RetI⟩, fun _ h => absurd h List.not_mem_nil⟩⟩⟩⟩⟩⟩⟩⟩⟩⟩⟩⟩⟩⟩⟩
noncomputable def pg93 : List (Nat × aP) := pg93_0 ++ (pg93_1)
theorem ok93 : ∀ q ∈ pg93, Sim mT mt93 q.1 q.2 ∧ Grow q.2 := List.forall_mem_append.mpr ⟨ok93_0, ok93_1⟩
theorem d94_0 : decode mt94.2.1 0 = .ok (.aload_n 0, 1) := by decide +kernel
theorem d94_1 : decode mt94.2.1 1 = .ok (.getfield 25, 3) := by decide +kernel
theorem d94_4 : decode mt94.2.1 4 = .ok (.iload_n 1, 1) := by decide +kernel
theorem d94_5 : decode mt94.2.1 5 = .ok (.invokevirtual 212, 3) := by decide +kernel
theorem d94_8 : decode mt94.2.1 8 = .ok (.ifCond .ne 6, 3) := by decide +kernel
theorem d94_11 : decode mt94.2.1 11 = .ok (.ldc 76, 2) := by decide +kernel
theorem d94_13 : decode mt94.2.1 13 = .ok (.ireturn, 1) := by decide +kernel
theorem d94_14 : decode mt94.2.1 14 = .ok (.aload_n 0, 1) := by decide +kernel
theorem d94_15 : decode mt94.2.1 15 = .ok (.getfield 25, 3) := by decide +kernel
theorem d94_18 : decode mt94.2.1 18 = .ok (.iload_n 1, 1) := by decide +kernel
theorem d94_19 : decode mt94.2.1 19 = .ok (.invokestatic 215, 3) := by decide +kernel
theorem d94_22 : decode mt94.2.1 22 = .ok (.invokevirtual 218, 3) := by decide +kernel
theorem d94_25 : decode mt94.2.1 25 = .ok (.ireturn, 1) := by decide +kernel
noncomputable def pg94_0 : List (Nat × aP) := [(0, oLdA 0 1),
  (1, oGetF (fun k => k = 10) 2 4),
  (4, oLdI 1 5),
  (5, oCalV (fun k => if k = 3 then some 29 else none) 1 8),
  (8, oIf (fun x => ¬ x = 0) 14 11),
  (11, oPush (.int (-1000001)) 13),
  (13, oRetI),
  (14, oLdA 0 15),
  (15, oGetF (fun k => k = 10) 2 18),
  (18, oLdI 1 19),
  (19, oCall 123 1 22),
  (22, oCalV (fun k => if k = 3 then some 37 else none) 1 25),
  (25, oRetI)]
theorem ok94_0 : ∀ q ∈ pg94_0, Sim mT mt94 q.1 q.2 ∧ Grow q.2 :=
  List.forall_mem_cons.mpr ⟨⟨sim_aload_n d94_0 rfl, gr_LdA 0 1⟩,
  List.forall_mem_cons.mpr ⟨⟨sim_getF d94_1 gf106, gr_GetF (fun k => k = 10) 2 4⟩,
  List.forall_mem_cons.mpr ⟨⟨sim_iload_n d94_4 rfl, gr_LdI 1 5⟩,
  List.forall_mem_cons.mpr ⟨⟨sim_virtual d94_5 vk74, gr_CalV (fun k => if k = 3 then some 29 else none) 1 8⟩,
  List.forall_mem_cons.mpr ⟨⟨sim_if_ne d94_8 (by decide), gr_If (fun x => ¬ x = 0) 14 11⟩,
  List.forall_mem_cons.mpr ⟨⟨sim_ldc d94_11 kw348, gr_Push (.int (-1000001)) 13⟩,
  List.forall_mem_cons.mpr ⟨⟨sim_ireturn d94_13 rfl, gr_RetI⟩,
  List.forall_mem_cons.mpr ⟨⟨sim_aload_n d94_14 rfl, gr_LdA 0 15⟩,
  List.forall_mem_cons.mpr ⟨⟨sim_getF d94_15 gf106, gr_GetF (fun k => k = 10) 2 18⟩,
  List.forall_mem_cons.mpr ⟨⟨sim_iload_n d94_18 rfl, gr_LdI 1 19⟩,
  List.forall_mem_cons.mpr ⟨⟨sim_static (y := 123) d94_19 (Or.inl kw669) kw670 mo123, gr_Call 123 1 22⟩,
  List.forall_mem_cons.mpr ⟨⟨sim_virtual d94_22 vk75, gr_CalV (fun k => if k = 3 then some 37 else none) 1 25⟩,
  List.forall_mem_cons.mpr ⟨⟨sim_ireturn d94_25 rfl, gr_RetI⟩, fun _ h => absurd h List.not_mem_nil⟩⟩⟩⟩⟩⟩⟩⟩⟩⟩⟩⟩⟩
noncomputable def pg94 : List (Nat × aP) := pg94_0
theorem ok94 : ∀ q ∈ pg94, Sim mT mt94 q.1 q.2 ∧ Grow q.2 := ok94_0
theorem d95_0 : decode mt95.2.1 0 = .ok (.aload_n 0, 1) := by decide +kernel
theorem d95_1 : decode mt95.2.1 1 = .ok (.getfield 25, 3) := by decide +kernel
theorem d95_4 : decode mt95.2.1 4 = .ok (.iload_n 1, 1) := by decide +kernel
theorem d95_5 : decode mt95.2.1 5 = .ok (.invokevirtual 160, 3) := by decide +kernel
theorem d95_8 : decode mt95.2.1 8 = .ok (.ifCond .eq 33, 3) := by decide +kernel
theorem d95_11 : decode mt95.2.1 11 = .ok (.aload_n 0, 1) := by decide +kernel
theorem d95_12 : decode mt95.2.1 12 = .ok (.getfield 25, 3) := by decide +kernel
theorem d95_15 : decode mt95.2.1 15 = .ok (.getfield 221, 3) := by decide +kernel
theorem d95_18 : decode mt95.2.1 18 = .ok (.iload_n 1, 1) := by decide +kernel
theorem d95_19 : decode mt95.2.1 19 = .ok (.invokestatic 224, 3) := by decide +kernel
theorem d95_22 : decode mt95.2.1 22 = .ok (.ifCond .ne 19, 3) := by decide +kernel
theorem d95_25 : decode mt95.2.1 25 = .ok (.iload_n 2, 1) := by decide +kernel
theorem d95_26 : decode mt95.2.1 26 = .ok (.ifCond .lt 15, 3) := by decide +kernel
theorem d95_29 : decode mt95.2.1 29 = .ok (.iload_n 2, 1) := by decide +kernel
theorem d95_30 : decode mt95.2.1 30 = .ok (.bipush 12, 2) := by decide +kernel
theorem d95_32 : decode mt95.2.1 32 = .ok (.if_icmp .gt 9, 3) := by decide +kernel
theorem d95_35 : decode mt95.2.1 35 = .ok (.iload_n 3, 1) := by decide +kernel
theorem d95_36 : decode mt95.2.1 36 = .ok (.bipush (-2), 2) := by decide +kernel
theorem d95_38 : decode mt95.2.1 38 = .ok (.if_icmp .ge 6, 3) := by decide +kernel
theorem d95_41 : decode mt95.2.1 41 = .ok (.ldc 76, 2) := by decide +kernel
theorem d95_43 : decode mt95.2.1 43 = .ok (.ireturn, 1) := by decide +kernel
theorem d95_44 : decode mt95.2.1 44 = .ok (.aload_n 0, 1) := by decide +kernel
theorem d95_45 : decode mt95.2.1 45 = .ok (.getfield 43, 3) := by decide +kernel
theorem d95_48 : decode mt95.2.1 48 = .ok (.aload_n 0, 1) := by decide +kernel
theorem d95_49 : decode mt95.2.1 49 = .ok (.getfield 25, 3) := by decide +kernel
theorem d95_52 : decode mt95.2.1 52 = .ok (.iload_n 1, 1) := by decide +kernel
theorem d95_53 : decode mt95.2.1 53 = .ok (.invokevirtual 228, 3) := by decide +kernel
theorem d95_56 : decode mt95.2.1 56 = .ok (.aload_n 0, 1) := by decide +kernel
theorem d95_57 : decode mt95.2.1 57 = .ok (.getfield 43, 3) := by decide +kernel
theorem d95_60 : decode mt95.2.1 60 = .ok (.iload_n 1, 1) := by decide +kernel
theorem d95_61 : decode mt95.2.1 61 = .ok (.iload_n 2, 1) := by decide +kernel
theorem d95_62 : decode mt95.2.1 62 = .ok (.invokevirtual 232, 3) := by decide +kernel
theorem d95_65 : decode mt95.2.1 65 = .ok (.istore 4, 2) := by decide +kernel
theorem d95_67 : decode mt95.2.1 67 = .ok (.aload_n 0, 1) := by decide +kernel
theorem d95_68 : decode mt95.2.1 68 = .ok (.getfield 43, 3) := by decide +kernel
theorem d95_71 : decode mt95.2.1 71 = .ok (.getfield 235, 3) := by decide +kernel
theorem d95_74 : decode mt95.2.1 74 = .ok (.iload 4, 2) := by decide +kernel
theorem d95_76 : decode mt95.2.1 76 = .ok (.iaload, 1) := by decide +kernel
theorem d95_77 : decode mt95.2.1 77 = .ok (.istore 5, 2) := by decide +kernel
theorem d95_79 : decode mt95.2.1 79 = .ok (.iload 5, 2) := by decide +kernel
theorem d95_81 : decode mt95.2.1 81 = .ok (.ifCond .eq 9, 3) := by decide +kernel
theorem d95_84 : decode mt95.2.1 84 = .ok (.iload_n 3, 1) := by decide +kernel
theorem d95_85 : decode mt95.2.1 85 = .ok (.iload 5, 2) := by decide +kernel
theorem d95_87 : decode mt95.2.1 87 = .ok (.if_icmp .lt 6, 3) := by decide +kernel
theorem d95_90 : decode mt95.2.1 90 = .ok (.ldc 169, 2) := by decide +kernel
theorem d95_92 : decode mt95.2.1 92 = .ok (.ireturn, 1) := by decide +kernel
theorem d95_93 : decode mt95.2.1 93 = .ok (.iload_n 3, 1) := by decide +kernel
theorem d95_94 : decode mt95.2.1 94 = .ok (.bipush (-2), 2) := by decide +kernel
theorem d95_96 : decode mt95.2.1 96 = .ok (.if_icmp .ne 14, 3) := by decide +kernel
theorem d95_99 : decode mt95.2.1 99 = .ok (.aload_n 0, 1) := by decide +kernel
theorem d95_100 : decode mt95.2.1 100 = .ok (.getfield 43, 3) := by decide +kernel
theorem d95_103 : decode mt95.2.1 103 = .ok (.getfield 238, 3) := by decide +kernel
theorem d95_106 : decode mt95.2.1 106 = .ok (.iload 4, 2) := by decide +kernel
theorem d95_108 : decode mt95.2.1 108 = .ok (.iaload, 1) := by decide +kernel
theorem d95_109 : decode mt95.2.1 109 = .ok (.ireturn, 1) := by decide +kernel
theorem d95_110 : decode mt95.2.1 110 = .ok (.iload_n 3, 1) := by decide +kernel
theorem d95_111 : decode mt95.2.1 111 = .ok (.iconst (-1), 1) := by decide +kernel
theorem d95_112 : decode mt95.2.1 112 = .ok (.if_icmp .ne 8, 3) := by decide +kernel
theorem d95_115 : decode mt95.2.1 115 = .ok (.iload 5, 2) := by decide +kernel
theorem d95_117 : decode mt95.2.1 117 = .ok (.goto 17, 3) := by decide +kernel
theorem d95_120 : decode mt95.2.1 120 = .ok (.aload_n 0, 1) := by decide +kernel
theorem d95_121 : decode mt95.2.1 121 = .ok (.getfield 43, 3) := by decide +kernel
theorem d95_124 : decode mt95.2.1 124 = .ok (.getfield 241, 3) := by decide +kernel
theorem d95_127 : decode mt95.2.1 127 = .ok (.iload 4, 2) := by decide +kernel
theorem d95_129 : decode mt95.2.1 129 = .ok (.laload, 1) := by decide +kernel
theorem d95_130 : decode mt95.2.1 130 = .ok (.iload_n 3, 1) := by decide +kernel
theorem d95_131 : decode mt95.2.1 131 = .ok (.invokestatic 244, 3) := by decide +kernel
theorem d95_134 : decode mt95.2.1 134 = .ok (.ireturn, 1) := by decide +kernel
noncomputable def pg95_0 : List (Nat × aP) := [(0, oLdA 0 1),
  (1, oGetF (fun k => k = 10) 2 4),
  (4, oLdI 1 5),
  (5, oCalV (fun k => if k = 3 then some 28 else none) 1 8),
  (8, oIf (fun x => x = 0) 41 11),
  (11, oLdA 0 12),
  (12, oGetF (fun k => k = 10) 2 15),
  (15, oGetL (fun k => k = 3) 4 18),
  (18, oLdI 1 19),
  (19, oCall 122 2 22),
  (22, oIf (fun x => ¬ x = 0) 41 25),
  (25, oLdI 2 26),
  (26, oIf (fun x => x < 0) 41 29),
  (29, oLdI 2 30),
  (30, oPush (.int 12) 32),
  (32, oIc (fun x y => y < x) 41 35),
  (35, oLdI 3 36),
  (36, oPush (.int (-2)) 38),
  (38, oIc (fun x y => y ≤ x) 44 41),
  (41, oPush (.int (-1000001)) 43),
  (43, oRetI),
  (44, oLdA 0 45),
  (45, oGetF (fun k => k = 10) 5 48),
  (48, oLdA 0 49),
  (49, oGetF (fun k => k = 10) 2 52),
  (52, oLdI 1 53),
  (53, oCalV (fun k => if k = 1 then some 14 else none) 2 56),
  (56, oLdA 0 57),
  (57, oGetF (fun k => k = 10) 5 60),
  (60, oLdI 1 61),
  (61, oLdI 2 62),
  (62, oCalV (fun k => if k = 1 then some 15 else none) 2 65),
  (65, oStI 4 67),
  (67, oLdA 0 68),
  (68, oGetF (fun k => k = 10) 5 71),
  (71, oGetF (fun k => k = 1) 4 74),
  (74, oLdI 4 76),
  (76, oALdI 77),
  (77, oStI 5 79),
  (79, oLdI 5 81)]
theorem ok95_0 : ∀ q ∈ pg95_0, Sim mT mt95 q.1 q.2 ∧ Grow q.2 :=
  List.forall_mem_cons.mpr ⟨⟨sim_aload_n d95_0 rfl, gr_LdA 0 1⟩,
  List.forall_mem_cons.mpr ⟨⟨sim_getF d95_1 gf106, gr_GetF (fun k => k = 10) 2 4⟩,
  List.forall_mem_cons.mpr ⟨⟨sim_iload_n d95_4 rfl, gr_LdI 1 5⟩,
  List.forall_mem_cons.mpr ⟨⟨sim_virtual d95_5 vk65, gr_CalV (fun k => if k = 3 then some 28 else none) 1 8⟩,
  List.forall_mem_cons.mpr ⟨⟨sim_if_eq d95_8 (by decide), gr_If (fun x => x = 0) 41 11⟩,
  List.forall_mem_cons.mpr ⟨⟨sim_aload_n d95_11 rfl, gr_LdA 0 12⟩,
  List.forall_mem_cons.mpr ⟨⟨sim_getF d95_12 gf106, gr_GetF (fun k => k = 10) 2 15⟩,
  List.forall_mem_cons.mpr ⟨⟨sim_getL d95_15 gf115, gr_GetL (fun k => k = 3) 4 18⟩,
  List.forall_mem_cons.mpr ⟨⟨sim_iload_n d95_18 rfl, gr_LdI 1 19⟩,
  List.forall_mem_cons.mpr ⟨⟨sim_static (y := 122) d95_19 (Or.inl kw681) kw534 mo122, gr_Call 122 2 22⟩,
  List.forall_mem_cons.mpr ⟨⟨sim_if_ne d95_22 (by decide), gr_If (fun x => ¬ x = 0) 41 25⟩,
  List.forall_mem_cons.mpr ⟨⟨sim_iload_n d95_25 rfl, gr_LdI 2 26⟩,
  List.forall_mem_cons.mpr ⟨⟨sim_if_lt d95_26 (by decide), gr_If (fun x => x < 0) 41 29⟩,
  List.forall_mem_cons.mpr ⟨⟨sim_iload_n d95_29 rfl, gr_LdI 2 30⟩,
  List.forall_mem_cons.mpr ⟨⟨sim_bipush d95_30 (by decide), gr_Push (.int 12) 32⟩,
  List.forall_mem_cons.mpr ⟨⟨sim_icmp_gt d95_32 (by decide), gr_Ic (fun x y => y < x) 41 35⟩,
  List.forall_mem_cons.mpr ⟨⟨sim_iload_n d95_35 rfl, gr_LdI 3 36⟩,
  List.forall_mem_cons.mpr ⟨⟨sim_bipush d95_36 (by decide), gr_Push (.int (-2)) 38⟩,
  List.forall_mem_cons.mpr ⟨⟨sim_icmp_ge d95_38 (by decide), gr_Ic (fun x y => y ≤ x) 44 41⟩,
  List.forall_mem_cons.mpr ⟨⟨sim_ldc d95_41 kw348, gr_Push (.int (-1000001)) 43⟩,
  List.forall_mem_cons.mpr ⟨⟨sim_ireturn d95_43 rfl, gr_RetI⟩,
  List.forall_mem_cons.mpr ⟨⟨sim_aload_n d95_44 rfl, gr_LdA 0 45⟩,
  List.forall_mem_cons.mpr ⟨⟨sim_getF d95_45 gf108, gr_GetF (fun k => k = 10) 5 48⟩,
  List.forall_mem_cons.mpr ⟨⟨sim_aload_n d95_48 rfl, gr_LdA 0 49⟩,
  List.forall_mem_cons.mpr ⟨⟨sim_getF d95_49 gf106, gr_GetF (fun k => k = 10) 2 52⟩,
  List.forall_mem_cons.mpr ⟨⟨sim_iload_n d95_52 rfl, gr_LdI 1 53⟩,
  List.forall_mem_cons.mpr ⟨⟨sim_virtual d95_53 vk76, gr_CalV (fun k => if k = 1 then some 14 else none) 2 56⟩,
  List.forall_mem_cons.mpr ⟨⟨sim_aload_n d95_56 rfl, gr_LdA 0 57⟩,
  List.forall_mem_cons.mpr ⟨⟨sim_getF d95_57 gf108, gr_GetF (fun k => k = 10) 5 60⟩,
  List.forall_mem_cons.mpr ⟨⟨sim_iload_n d95_60 rfl, gr_LdI 1 61⟩,
  List.forall_mem_cons.mpr ⟨⟨sim_iload_n d95_61 rfl, gr_LdI 2 62⟩,
  List.forall_mem_cons.mpr ⟨⟨sim_virtual d95_62 vk77, gr_CalV (fun k => if k = 1 then some 15 else none) 2 65⟩,
  List.forall_mem_cons.mpr ⟨⟨sim_istore d95_65 (by decide), gr_StI 4 67⟩,
  List.forall_mem_cons.mpr ⟨⟨sim_aload_n d95_67 rfl, gr_LdA 0 68⟩,
  List.forall_mem_cons.mpr ⟨⟨sim_getF d95_68 gf108, gr_GetF (fun k => k = 10) 5 71⟩,
  List.forall_mem_cons.mpr ⟨⟨sim_getF d95_71 gf116, gr_GetF (fun k => k = 1) 4 74⟩,
  List.forall_mem_cons.mpr ⟨⟨sim_iload d95_74, gr_LdI 4 76⟩,
  List.forall_mem_cons.mpr ⟨⟨sim_iaload d95_76, gr_ALdI 77⟩,
  List.forall_mem_cons.mpr ⟨⟨sim_istore d95_77 (by decide), gr_StI 5 79⟩,
  List.forall_mem_cons.mpr ⟨⟨sim_iload d95_79, gr_LdI 5 81⟩, fun _ h => absurd h List.not_mem_nil⟩⟩⟩⟩⟩⟩⟩⟩⟩⟩⟩⟩⟩⟩⟩⟩⟩⟩⟩⟩⟩⟩⟩⟩⟩⟩⟩⟩⟩⟩⟩⟩⟩⟩⟩⟩⟩⟩⟩⟩
noncomputable def pg95_1 : List (Nat × aP) := [(81, oIf (fun x => x = 0) 90 84),
  (84, oLdI 3 85),
  (85, oLdI 5 87),
  (87, oIc (fun x y => x < y) 93 90),
  (90, oPush (.int (-1000000)) 92),
  (92, oRetI),
  (93, oLdI 3 94),
  (94, oPush (.int (-2)) 96),
  (96, oIc (fun x y => ¬ x = y) 110 99),
  (99, oLdA 0 100),
  (100, oGetF (fun k => k = 10) 5 103),
  (103, oGetF (fun k => k = 1) 3 106),
  (106, oLdI 4 108),
  (108, oALdI 109),
  (109, oRetI),
  (110, oLdI 3 111),
  (111, oPush (.int (-1)) 112),
  (112, oIc (fun x y => ¬ x = y) 120 115),
  (115, oLdI 5 117),
  (117, oGo 134),
  (120, oLdA 0 121),
  (121, oGetF (fun k => k = 10) 5 124),
  (124, oGetF (fun k => k = 1) 5 127),
  (127, oLdI 4 129),
  (129, oALdL 130),
  (130, oLdI 3 131),
  (131, oCall 124 2 134),
  (134, oRetI)]
theorem ok95_1 : ∀ q ∈ pg95_1, Sim mT mt95 q.1 q.2 ∧ Grow q.2 :=
  List.forall_mem_cons.mpr ⟨⟨sim_if_eq d95_81 (by decide), gr_If (fun x => x = 0) 90 84⟩,
  List.forall_mem_cons.mpr ⟨⟨sim_iload_n d95_84 rfl, gr_LdI 3 85⟩,
  List.forall_mem_cons.mpr ⟨⟨sim_iload d95_85, gr_LdI 5 87⟩,
  List.forall_mem_cons.mpr ⟨⟨sim_icmp_lt d95_87 (by decide), gr_Ic (fun x y => x < y) 93 90⟩,
  List.forall_mem_cons.mpr ⟨⟨sim_ldc d95_90 kw590, gr_Push (.int (-1000000)) 92⟩,
  List.forall_mem_cons.mpr ⟨⟨sim_ireturn d95_92 rfl, gr_RetI⟩,
  List.forall_mem_cons.mpr ⟨⟨sim_iload_n d95_93 rfl, gr_LdI 3 94⟩,
  List.forall_mem_cons.mpr ⟨⟨sim_bipush d95_94 (by decide), gr_Push (.int (-2)) 96⟩,
  List.forall_mem_cons.mpr ⟨⟨sim_icmp_ne d95_96 (by decide), gr_Ic (fun x y => ¬ x = y) 110 99⟩,
  List.forall_mem_cons.mpr ⟨⟨sim_aload_n d95_99 rfl, gr_LdA 0 100⟩,
  List.forall_mem_cons.mpr ⟨⟨sim_getF d95_100 gf108, gr_GetF (fun k => k = 10) 5 103⟩,
  List.forall_mem_cons.mpr ⟨⟨sim_getF d95_103 gf117, gr_GetF (fun k => k = 1) 3 106⟩,
  List.forall_mem_cons.mpr ⟨⟨sim_iload d95_106, gr_LdI 4 108⟩,
  List.forall_mem_cons.mpr ⟨⟨sim_iaload d95_108, gr_ALdI 109⟩,
  List.forall_mem_cons.mpr ⟨⟨sim_ireturn d95_109 rfl, gr_RetI⟩,
  List.forall_mem_cons.mpr ⟨⟨sim_iload_n d95_110 rfl, gr_LdI 3 111⟩,
  List.forall_mem_cons.mpr ⟨⟨sim_iconst d95_111 (by decide), gr_Push (.int (-1)) 112⟩,
  List.forall_mem_cons.mpr ⟨⟨sim_icmp_ne d95_112 (by decide), gr_Ic (fun x y => ¬ x = y) 120 115⟩,
  List.forall_mem_cons.mpr ⟨⟨sim_iload d95_115, gr_LdI 5 117⟩,
  List.forall_mem_cons.mpr ⟨⟨sim_goto d95_117 (by decide), gr_Go 134⟩,
  List.forall_mem_cons.mpr ⟨⟨sim_aload_n d95_120 rfl, gr_LdA 0 121⟩,
  List.forall_mem_cons.mpr ⟨⟨sim_getF d95_121 gf108, gr_GetF (fun k => k = 10) 5 124⟩,
  List.forall_mem_cons.mpr ⟨⟨sim_getF d95_124 gf118, gr_GetF (fun k => k = 1) 5 127⟩,
  List.forall_mem_cons.mpr ⟨⟨sim_iload d95_127, gr_LdI 4 129⟩,
  List.forall_mem_cons.mpr ⟨⟨sim_laload d95_129, gr_ALdL 130⟩,
  List.forall_mem_cons.mpr ⟨⟨sim_iload_n d95_130 rfl, gr_LdI 3 131⟩,
  List.forall_mem_cons.mpr ⟨⟨sim_static (y := 124) d95_131 (Or.inl kw738) kw722 mo124, gr_Call 124 2 134⟩,
  List.forall_mem_cons.mpr ⟨⟨sim_ireturn d95_134 rfl, gr_RetI⟩, fun _ h => absurd h List.not_mem_nil⟩⟩⟩⟩⟩⟩⟩⟩⟩⟩⟩⟩⟩⟩⟩⟩⟩⟩⟩⟩⟩⟩⟩⟩⟩⟩⟩⟩
noncomputable def pg95 : List (Nat × aP) := pg95_0 ++ (pg95_1)
theorem ok95 : ∀ q ∈ pg95, Sim mT mt95 q.1 q.2 ∧ Grow q.2 := List.forall_mem_append.mpr ⟨ok95_0, ok95_1⟩
theorem d96_0 : decode mt96.2.1 0 = .ok (.iload_n 1, 1) := by decide +kernel
theorem d96_1 : decode mt96.2.1 1 = .ok (.iconst 1, 1) := by decide +kernel
theorem d96_2 : decode mt96.2.1 2 = .ok (.if_icmp .lt 16, 3) := by decide +kernel
theorem d96_5 : decode mt96.2.1 5 = .ok (.iload_n 1, 1) := by decide +kernel
theorem d96_6 : decode mt96.2.1 6 = .ok (.iconst 1, 1) := by decide +kernel
theorem d96_7 : decode mt96.2.1 7 = .ok (.aload_n 0, 1) := by decide +kernel
theorem d96_8 : decode mt96.2.1 8 = .ok (.getfield 25, 3) := by decide +kernel
theorem d96_11 : decode mt96.2.1 11 = .ok (.getfield 157, 3) := by decide +kernel
theorem d96_14 : decode mt96.2.1 14 = .ok (.ishl, 1) := by decide +kernel
theorem d96_15 : decode mt96.2.1 15 = .ok (.if_icmp .lt 6, 3) := by decide +kernel
theorem d96_18 : decode mt96.2.1 18 = .ok (.ldc 76, 2) := by decide +kernel
theorem d96_20 : decode mt96.2.1 20 = .ok (.ireturn, 1) := by decide +kernel
theorem d96_21 : decode mt96.2.1 21 = .ok (.aload_n 0, 1) := by decide +kernel
theorem d96_22 : decode mt96.2.1 22 = .ok (.getfield 43, 3) := by decide +kernel
theorem d96_25 : decode mt96.2.1 25 = .ok (.aload_n 0, 1) := by decide +kernel
theorem d96_26 : decode mt96.2.1 26 = .ok (.getfield 25, 3) := by decide +kernel
theorem d96_29 : decode mt96.2.1 29 = .ok (.aload_n 0, 1) := by decide +kernel
theorem d96_30 : decode mt96.2.1 30 = .ok (.getfield 25, 3) := by decide +kernel
theorem d96_33 : decode mt96.2.1 33 = .ok (.getfield 201, 3) := by decide +kernel
theorem d96_36 : decode mt96.2.1 36 = .ok (.aload_n 0, 1) := by decide +kernel
theorem d96_37 : decode mt96.2.1 37 = .ok (.iload_n 1, 1) := by decide +kernel
theorem d96_38 : decode mt96.2.1 38 = .ok (.invokevirtual 248, 3) := by decide +kernel
theorem d96_41 : decode mt96.2.1 41 = .ok (.iaload, 1) := by decide +kernel
theorem d96_42 : decode mt96.2.1 42 = .ok (.invokevirtual 228, 3) := by decide +kernel
theorem d96_45 : decode mt96.2.1 45 = .ok (.aload_n 0, 1) := by decide +kernel
theorem d96_46 : decode mt96.2.1 46 = .ok (.iload_n 1, 1) := by decide +kernel
theorem d96_47 : decode mt96.2.1 47 = .ok (.invokevirtual 251, 3) := by decide +kernel
theorem d96_50 : decode mt96.2.1 50 = .ok (.ireturn, 1) := by decide +kernel
noncomputable def pg96_0 : List (Nat × aP) := [(0, oLdI 1 1),
  (1, oPush (.int 1) 2),
  (2, oIc (fun x y => x < y) 18 5),
  (5, oLdI 1 6),
  (6, oPush (.int 1) 7),
  (7, oLdA 0 8),
  (8, oGetF (fun k => k = 10) 2 11),
  (11, oGetI (fun k => k = 3) 2 14),
  (14, oII (fun x y => x <<< (y &&& 31)) 15),
  (15, oIc (fun x y => x < y) 21 18),
  (18, oPush (.int (-1000001)) 20),
  (20, oRetI),
  (21, oLdA 0 22),
  (22, oGetF (fun k => k = 10) 5 25),
  (25, oLdA 0 26),
  (26, oGetF (fun k => k = 10) 2 29),
  (29, oLdA 0 30),
  (30, oGetF (fun k => k = 10) 2 33),
  (33, oGetF (fun k => k = 3) 6 36),
  (36, oLdA 0 37),
  (37, oLdI 1 38),
  (38, oCalV (fun k => if k = 10 then some 116 else none) 1 41),
  (41, oALdI 42),
  (42, oCalV (fun k => if k = 1 then some 14 else none) 2 45),
  (45, oLdA 0 46),
  (46, oLdI 1 47),
  (47, oCalV (fun k => if k = 10 then some 118 else none) 1 50),
  (50, oRetI)]
theorem ok96_0 : ∀ q ∈ pg96_0, Sim mT mt96 q.1 q.2 ∧ Grow q.2 :=
  List.forall_mem_cons.mpr ⟨⟨sim_iload_n d96_0 rfl, gr_LdI 1 1⟩,
  List.forall_mem_cons.mpr ⟨⟨sim_iconst d96_1 (by decide), gr_Push (.int 1) 2⟩,
  List.forall_mem_cons.mpr ⟨⟨sim_icmp_lt d96_2 (by decide), gr_Ic (fun x y => x < y) 18 5⟩,
  List.forall_mem_cons.mpr ⟨⟨sim_iload_n d96_5 rfl, gr_LdI 1 6⟩,
  List.forall_mem_cons.mpr ⟨⟨sim_iconst d96_6 (by decide), gr_Push (.int 1) 7⟩,
  List.forall_mem_cons.mpr ⟨⟨sim_aload_n d96_7 rfl, gr_LdA 0 8⟩,
  List.forall_mem_cons.mpr ⟨⟨sim_getF d96_8 gf106, gr_GetF (fun k => k = 10) 2 11⟩,
  List.forall_mem_cons.mpr ⟨⟨sim_getI d96_11 gf109, gr_GetI (fun k => k = 3) 2 14⟩,
  List.forall_mem_cons.mpr ⟨⟨sim_ishl d96_14, gr_II (fun x y => x <<< (y &&& 31)) 15⟩,
  List.forall_mem_cons.mpr ⟨⟨sim_icmp_lt d96_15 (by decide), gr_Ic (fun x y => x < y) 21 18⟩,
  List.forall_mem_cons.mpr ⟨⟨sim_ldc d96_18 kw348, gr_Push (.int (-1000001)) 20⟩,
  List.forall_mem_cons.mpr ⟨⟨sim_ireturn d96_20 rfl, gr_RetI⟩,
  List.forall_mem_cons.mpr ⟨⟨sim_aload_n d96_21 rfl, gr_LdA 0 22⟩,
  List.forall_mem_cons.mpr ⟨⟨sim_getF d96_22 gf108, gr_GetF (fun k => k = 10) 5 25⟩,
  List.forall_mem_cons.mpr ⟨⟨sim_aload_n d96_25 rfl, gr_LdA 0 26⟩,
  List.forall_mem_cons.mpr ⟨⟨sim_getF d96_26 gf106, gr_GetF (fun k => k = 10) 2 29⟩,
  List.forall_mem_cons.mpr ⟨⟨sim_aload_n d96_29 rfl, gr_LdA 0 30⟩,
  List.forall_mem_cons.mpr ⟨⟨sim_getF d96_30 gf106, gr_GetF (fun k => k = 10) 2 33⟩,
  List.forall_mem_cons.mpr ⟨⟨sim_getF d96_33 gf113, gr_GetF (fun k => k = 3) 6 36⟩,
  List.forall_mem_cons.mpr ⟨⟨sim_aload_n d96_36 rfl, gr_LdA 0 37⟩,
  List.forall_mem_cons.mpr ⟨⟨sim_iload_n d96_37 rfl, gr_LdI 1 38⟩,
  List.forall_mem_cons.mpr ⟨⟨sim_virtual d96_38 vk78, gr_CalV (fun k => if k = 10 then some 116 else none) 1 41⟩,
  List.forall_mem_cons.mpr ⟨⟨sim_iaload d96_41, gr_ALdI 42⟩,
  List.forall_mem_cons.mpr ⟨⟨sim_virtual d96_42 vk76, gr_CalV (fun k => if k = 1 then some 14 else none) 2 45⟩,
  List.forall_mem_cons.mpr ⟨⟨sim_aload_n d96_45 rfl, gr_LdA 0 46⟩,
  List.forall_mem_cons.mpr ⟨⟨sim_iload_n d96_46 rfl, gr_LdI 1 47⟩,
  List.forall_mem_cons.mpr ⟨⟨sim_virtual d96_47 vk79, gr_CalV (fun k => if k = 10 then some 118 else none) 1 50⟩,
  List.forall_mem_cons.mpr ⟨⟨sim_ireturn d96_50 rfl, gr_RetI⟩, fun _ h => absurd h List.not_mem_nil⟩⟩⟩⟩⟩⟩⟩⟩⟩⟩⟩⟩⟩⟩⟩⟩⟩⟩⟩⟩⟩⟩⟩⟩⟩⟩⟩⟩
noncomputable def pg96 : List (Nat × aP) := pg96_0
theorem ok96 : ∀ q ∈ pg96, Sim mT mt96 q.1 q.2 ∧ Grow q.2 := ok96_0
theorem d97_0 : decode mt97.2.1 0 = .ok (.aload_n 0, 1) := by decide +kernel
theorem d97_1 : decode mt97.2.1 1 = .ok (.getfield 25, 3) := by decide +kernel
theorem d97_4 : decode mt97.2.1 4 = .ok (.iload_n 1, 1) := by decide +kernel
theorem d97_5 : decode mt97.2.1 5 = .ok (.invokevirtual 190, 3) := by decide +kernel
theorem d97_8 : decode mt97.2.1 8 = .ok (.ifCond .eq 14, 3) := by decide +kernel
theorem d97_11 : decode mt97.2.1 11 = .ok (.aload_n 0, 1) := by decide +kernel
theorem d97_12 : decode mt97.2.1 12 = .ok (.getfield 25, 3) := by decide +kernel
theorem d97_15 : decode mt97.2.1 15 = .ok (.getfield 157, 3) := by decide +kernel
theorem d97_18 : decode mt97.2.1 18 = .ok (.iconst 3, 1) := by decide +kernel
theorem d97_19 : decode mt97.2.1 19 = .ok (.if_icmp .le 6, 3) := by decide +kernel
theorem d97_22 : decode mt97.2.1 22 = .ok (.ldc 76, 2) := by decide +kernel
theorem d97_24 : decode mt97.2.1 24 = .ok (.ireturn, 1) := by decide +kernel
theorem d97_25 : decode mt97.2.1 25 = .ok (.iconst 0, 1) := by decide +kernel
theorem d97_26 : decode mt97.2.1 26 = .ok (.istore_n 2, 1) := by decide +kernel
theorem d97_27 : decode mt97.2.1 27 = .ok (.iload_n 2, 1) := by decide +kernel
theorem d97_28 : decode mt97.2.1 28 = .ok (.aload_n 0, 1) := by decide +kernel
theorem d97_29 : decode mt97.2.1 29 = .ok (.getfield 25, 3) := by decide +kernel
theorem d97_32 : decode mt97.2.1 32 = .ok (.getfield 157, 3) := by decide +kernel
theorem d97_35 : decode mt97.2.1 35 = .ok (.if_icmp .ge 29, 3) := by decide +kernel
theorem d97_38 : decode mt97.2.1 38 = .ok (.aload_n 0, 1) := by decide +kernel
theorem d97_39 : decode mt97.2.1 39 = .ok (.getfield 43, 3) := by decide +kernel
theorem d97_42 : decode mt97.2.1 42 = .ok (.aload_n 0, 1) := by decide +kernel
theorem d97_43 : decode mt97.2.1 43 = .ok (.getfield 25, 3) := by decide +kernel
theorem d97_46 : decode mt97.2.1 46 = .ok (.aload_n 0, 1) := by decide +kernel
theorem d97_47 : decode mt97.2.1 47 = .ok (.getfield 25, 3) := by decide +kernel
theorem d97_50 : decode mt97.2.1 50 = .ok (.getfield 201, 3) := by decide +kernel
theorem d97_53 : decode mt97.2.1 53 = .ok (.iload_n 2, 1) := by decide +kernel
theorem d97_54 : decode mt97.2.1 54 = .ok (.iaload, 1) := by decide +kernel
theorem d97_55 : decode mt97.2.1 55 = .ok (.invokevirtual 228, 3) := by decide +kernel
theorem d97_58 : decode mt97.2.1 58 = .ok (.iinc 2 1, 3) := by decide +kernel
theorem d97_61 : decode mt97.2.1 61 = .ok (.goto (-34), 3) := by decide +kernel
theorem d97_64 : decode mt97.2.1 64 = .ok (.aload_n 0, 1) := by decide +kernel
theorem d97_65 : decode mt97.2.1 65 = .ok (.iload_n 1, 1) := by decide +kernel
theorem d97_66 : decode mt97.2.1 66 = .ok (.invokevirtual 254, 3) := by decide +kernel
theorem d97_69 : decode mt97.2.1 69 = .ok (.ireturn, 1) := by decide +kernel
noncomputable def pg97_0 : List (Nat × aP) := [(0, oLdA 0 1),
  (1, oGetF (fun k => k = 10) 2 4),
  (4, oLdI 1 5),
  (5, oCalV (fun k => if k = 3 then some 26 else none) 1 8),
  (8, oIf (fun x => x = 0) 22 11),
  (11, oLdA 0 12),
  (12, oGetF (fun k => k = 10) 2 15),
  (15, oGetI (fun k => k = 3) 2 18),
  (18, oPush (.int 3) 19),
  (19, oIc (fun x y => x ≤ y) 25 22),
  (22, oPush (.int (-1000001)) 24),
  (24, oRetI),
  (25, oPush (.int 0) 26),
  (26, oStI 2 27),
  (27, oLdI 2 28),
  (28, oLdA 0 29),
  (29, oGetF (fun k => k = 10) 2 32),
  (32, oGetI (fun k => k = 3) 2 35),
  (35, oIc (fun x y => y ≤ x) 64 38),
  (38, oLdA 0 39),
  (39, oGetF (fun k => k = 10) 5 42),
  (42, oLdA 0 43),
  (43, oGetF (fun k => k = 10) 2 46),
  (46, oLdA 0 47),
  (47, oGetF (fun k => k = 10) 2 50),
  (50, oGetF (fun k => k = 3) 6 53),
  (53, oLdI 2 54),
  (54, oALdI 55),
  (55, oCalV (fun k => if k = 1 then some 14 else none) 2 58),
  (58, oInc 2 1 61),
  (61, oGo 27),
  (64, oLdA 0 65),
  (65, oLdI 1 66),
  (66, oCalV (fun k => if k = 10 then some 119 else none) 1 69),
  (69, oRetI)]
theorem ok97_0 : ∀ q ∈ pg97_0, Sim mT mt97 q.1 q.2 ∧ Grow q.2 :=
  List.forall_mem_cons.mpr ⟨⟨sim_aload_n d97_0 rfl, gr_LdA 0 1⟩,
  List.forall_mem_cons.mpr ⟨⟨sim_getF d97_1 gf106, gr_GetF (fun k => k = 10) 2 4⟩,
  List.forall_mem_cons.mpr ⟨⟨sim_iload_n d97_4 rfl, gr_LdI 1 5⟩,
  List.forall_mem_cons.mpr ⟨⟨sim_virtual d97_5 vk72, gr_CalV (fun k => if k = 3 then some 26 else none) 1 8⟩,
  List.forall_mem_cons.mpr ⟨⟨sim_if_eq d97_8 (by decide), gr_If (fun x => x = 0) 22 11⟩,
  List.forall_mem_cons.mpr ⟨⟨sim_aload_n d97_11 rfl, gr_LdA 0 12⟩,
  List.forall_mem_cons.mpr ⟨⟨sim_getF d97_12 gf106, gr_GetF (fun k => k = 10) 2 15⟩,
  List.forall_mem_cons.mpr ⟨⟨sim_getI d97_15 gf109, gr_GetI (fun k => k = 3) 2 18⟩,
  List.forall_mem_cons.mpr ⟨⟨sim_iconst d97_18 (by decide), gr_Push (.int 3) 19⟩,
  List.forall_mem_cons.mpr ⟨⟨sim_icmp_le d97_19 (by decide), gr_Ic (fun x y => x ≤ y) 25 22⟩,
  List.forall_mem_cons.mpr ⟨⟨sim_ldc d97_22 kw348, gr_Push (.int (-1000001)) 24⟩,
  List.forall_mem_cons.mpr ⟨⟨sim_ireturn d97_24 rfl, gr_RetI⟩,
  List.forall_mem_cons.mpr ⟨⟨sim_iconst d97_25 (by decide), gr_Push (.int 0) 26⟩,
  List.forall_mem_cons.mpr ⟨⟨sim_istore_n d97_26 rfl (by decide), gr_StI 2 27⟩,
  List.forall_mem_cons.mpr ⟨⟨sim_iload_n d97_27 rfl, gr_LdI 2 28⟩,
  List.forall_mem_cons.mpr ⟨⟨sim_aload_n d97_28 rfl, gr_LdA 0 29⟩,
  List.forall_mem_cons.mpr ⟨⟨sim_getF d97_29 gf106, gr_GetF (fun k => k = 10) 2 32⟩,
  List.forall_mem_cons.mpr ⟨⟨sim_getI d97_32 gf109, gr_GetI (fun k => k = 3) 2 35⟩,
  List.forall_mem_cons.mpr ⟨⟨sim_icmp_ge d97_35 (by decide), gr_Ic (fun x y => y ≤ x) 64 38⟩,
  List.forall_mem_cons.mpr ⟨⟨sim_aload_n d97_38 rfl, gr_LdA 0 39⟩,
  List.forall_mem_cons.mpr ⟨⟨sim_getF d97_39 gf108, gr_GetF (fun k => k = 10) 5 42⟩,
  List.forall_mem_cons.mpr ⟨⟨sim_aload_n d97_42 rfl, gr_LdA 0 43⟩,
  List.forall_mem_cons.mpr ⟨⟨sim_getF d97_43 gf106, gr_GetF (fun k => k = 10) 2 46⟩,
  List.forall_mem_cons.mpr ⟨⟨sim_aload_n d97_46 rfl, gr_LdA 0 47⟩,
  List.forall_mem_cons.mpr ⟨⟨sim_getF d97_47 gf106, gr_GetF (fun k => k = 10) 2 50⟩,
  List.forall_mem_cons.mpr ⟨⟨sim_getF d97_50 gf113, gr_GetF (fun k => k = 3) 6 53⟩,
  List.forall_mem_cons.mpr ⟨⟨sim_iload_n d97_53 rfl, gr_LdI 2 54⟩,
  List.forall_mem_cons.mpr ⟨⟨sim_iaload d97_54, gr_ALdI 55⟩,
  List.forall_mem_cons.mpr ⟨⟨sim_virtual d97_55 vk76, gr_CalV (fun k => if k = 1 then some 14 else none) 2 58⟩,
  List.forall_mem_cons.mpr ⟨⟨sim_iinc d97_58 (by decide) (by decide), gr_Inc 2 1 61⟩,
  List.forall_mem_cons.mpr ⟨⟨sim_goto d97_61 (by decide), gr_Go 27⟩,
  List.forall_mem_cons.mpr ⟨⟨sim_aload_n d97_64 rfl, gr_LdA 0 65⟩,
  List.forall_mem_cons.mpr ⟨⟨sim_iload_n d97_65 rfl, gr_LdI 1 66⟩,
  List.forall_mem_cons.mpr ⟨⟨sim_virtual d97_66 vk80, gr_CalV (fun k => if k = 10 then some 119 else none) 1 69⟩,
  List.forall_mem_cons.mpr ⟨⟨sim_ireturn d97_69 rfl, gr_RetI⟩, fun _ h => absurd h List.not_mem_nil⟩⟩⟩⟩⟩⟩⟩⟩⟩⟩⟩⟩⟩⟩⟩⟩⟩⟩⟩⟩⟩⟩⟩⟩⟩⟩⟩⟩⟩⟩⟩⟩⟩⟩⟩
noncomputable def pg97 : List (Nat × aP) := pg97_0
theorem ok97 : ∀ q ∈ pg97, Sim mT mt97 q.1 q.2 ∧ Grow q.2 := ok97_0
