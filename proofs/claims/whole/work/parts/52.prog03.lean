theorem d98_0 : decode mt98.2.1 0 = .ok (.aload_n 0, 1) := by decide +kernel
theorem d98_1 : decode mt98.2.1 1 = .ok (.getfield 25, 3) := by decide +kernel
theorem d98_4 : decode mt98.2.1 4 = .ok (.iload_n 1, 1) := by decide +kernel
theorem d98_5 : decode mt98.2.1 5 = .ok (.invokevirtual 190, 3) := by decide +kernel
theorem d98_8 : decode mt98.2.1 8 = .ok (.ifCond .eq 39, 3) := by decide +kernel
theorem d98_11 : decode mt98.2.1 11 = .ok (.aload_n 0, 1) := by decide +kernel
theorem d98_12 : decode mt98.2.1 12 = .ok (.getfield 25, 3) := by decide +kernel
theorem d98_15 : decode mt98.2.1 15 = .ok (.iload_n 2, 1) := by decide +kernel
theorem d98_16 : decode mt98.2.1 16 = .ok (.invokevirtual 190, 3) := by decide +kernel
theorem d98_19 : decode mt98.2.1 19 = .ok (.ifCond .eq 28, 3) := by decide +kernel
theorem d98_22 : decode mt98.2.1 22 = .ok (.iload_n 1, 1) := by decide +kernel
theorem d98_23 : decode mt98.2.1 23 = .ok (.iload_n 2, 1) := by decide +kernel
theorem d98_24 : decode mt98.2.1 24 = .ok (.if_icmp .eq 23, 3) := by decide +kernel
theorem d98_27 : decode mt98.2.1 27 = .ok (.aload_n 0, 1) := by decide +kernel
theorem d98_28 : decode mt98.2.1 28 = .ok (.getfield 25, 3) := by decide +kernel
theorem d98_31 : decode mt98.2.1 31 = .ok (.iload_n 1, 1) := by decide +kernel
theorem d98_32 : decode mt98.2.1 32 = .ok (.invokevirtual 178, 3) := by decide +kernel
theorem d98_35 : decode mt98.2.1 35 = .ok (.ifCond .ne 12, 3) := by decide +kernel
theorem d98_38 : decode mt98.2.1 38 = .ok (.iload_n 3, 1) := by decide +kernel
theorem d98_39 : decode mt98.2.1 39 = .ok (.ifCond .lt 8, 3) := by decide +kernel
theorem d98_42 : decode mt98.2.1 42 = .ok (.iload_n 3, 1) := by decide +kernel
theorem d98_43 : decode mt98.2.1 43 = .ok (.iconst 1, 1) := by decide +kernel
theorem d98_44 : decode mt98.2.1 44 = .ok (.if_icmp .le 6, 3) := by decide +kernel
theorem d98_47 : decode mt98.2.1 47 = .ok (.ldc 76, 2) := by decide +kernel
theorem d98_49 : decode mt98.2.1 49 = .ok (.ireturn, 1) := by decide +kernel
theorem d98_50 : decode mt98.2.1 50 = .ok (.aload_n 0, 1) := by decide +kernel
theorem d98_51 : decode mt98.2.1 51 = .ok (.getfield 50, 3) := by decide +kernel
theorem d98_54 : decode mt98.2.1 54 = .ok (.aload_n 0, 1) := by decide +kernel
theorem d98_55 : decode mt98.2.1 55 = .ok (.getfield 25, 3) := by decide +kernel
theorem d98_58 : decode mt98.2.1 58 = .ok (.aload_n 0, 1) := by decide +kernel
theorem d98_59 : decode mt98.2.1 59 = .ok (.getfield 25, 3) := by decide +kernel
theorem d98_62 : decode mt98.2.1 62 = .ok (.getfield 201, 3) := by decide +kernel
theorem d98_65 : decode mt98.2.1 65 = .ok (.iload_n 1, 1) := by decide +kernel
theorem d98_66 : decode mt98.2.1 66 = .ok (.iaload, 1) := by decide +kernel
theorem d98_67 : decode mt98.2.1 67 = .ok (.invokevirtual 257, 3) := by decide +kernel
theorem d98_70 : decode mt98.2.1 70 = .ok (.aload_n 0, 1) := by decide +kernel
theorem d98_71 : decode mt98.2.1 71 = .ok (.getfield 54, 3) := by decide +kernel
theorem d98_74 : decode mt98.2.1 74 = .ok (.aload_n 0, 1) := by decide +kernel
theorem d98_75 : decode mt98.2.1 75 = .ok (.getfield 25, 3) := by decide +kernel
theorem d98_78 : decode mt98.2.1 78 = .ok (.aload_n 0, 1) := by decide +kernel
theorem d98_79 : decode mt98.2.1 79 = .ok (.getfield 25, 3) := by decide +kernel
theorem d98_82 : decode mt98.2.1 82 = .ok (.getfield 201, 3) := by decide +kernel
theorem d98_85 : decode mt98.2.1 85 = .ok (.iload_n 2, 1) := by decide +kernel
theorem d98_86 : decode mt98.2.1 86 = .ok (.iaload, 1) := by decide +kernel
theorem d98_87 : decode mt98.2.1 87 = .ok (.invokevirtual 257, 3) := by decide +kernel
theorem d98_90 : decode mt98.2.1 90 = .ok (.ldc 169, 2) := by decide +kernel
theorem d98_92 : decode mt98.2.1 92 = .ok (.istore 4, 2) := by decide +kernel
theorem d98_94 : decode mt98.2.1 94 = .ok (.ldc 169, 2) := by decide +kernel
theorem d98_96 : decode mt98.2.1 96 = .ok (.istore 5, 2) := by decide +kernel
theorem d98_98 : decode mt98.2.1 98 = .ok (.iconst 0, 1) := by decide +kernel
theorem d98_99 : decode mt98.2.1 99 = .ok (.istore 6, 2) := by decide +kernel
theorem d98_101 : decode mt98.2.1 101 = .ok (.iload 6, 2) := by decide +kernel
theorem d98_103 : decode mt98.2.1 103 = .ok (.aload_n 0, 1) := by decide +kernel
theorem d98_104 : decode mt98.2.1 104 = .ok (.getfield 50, 3) := by decide +kernel
theorem d98_107 : decode mt98.2.1 107 = .ok (.getfield 260, 3) := by decide +kernel
theorem d98_110 : decode mt98.2.1 110 = .ok (.if_icmp .ge 131, 3) := by decide +kernel
theorem d98_113 : decode mt98.2.1 113 = .ok (.aload_n 0, 1) := by decide +kernel
theorem d98_114 : decode mt98.2.1 114 = .ok (.getfield 50, 3) := by decide +kernel
theorem d98_117 : decode mt98.2.1 117 = .ok (.getfield 261, 3) := by decide +kernel
theorem d98_120 : decode mt98.2.1 120 = .ok (.iload 6, 2) := by decide +kernel
theorem d98_122 : decode mt98.2.1 122 = .ok (.laload, 1) := by decide +kernel
theorem d98_123 : decode mt98.2.1 123 = .ok (.lstore 7, 2) := by decide +kernel
theorem d98_125 : decode mt98.2.1 125 = .ok (.aload_n 0, 1) := by decide +kernel
theorem d98_126 : decode mt98.2.1 126 = .ok (.getfield 25, 3) := by decide +kernel
theorem d98_129 : decode mt98.2.1 129 = .ok (.lload 7, 2) := by decide +kernel
theorem d98_131 : decode mt98.2.1 131 = .ok (.lconst 0, 1) := by decide +kernel
theorem d98_132 : decode mt98.2.1 132 = .ok (.invokevirtual 262, 3) := by decide +kernel
theorem d98_135 : decode mt98.2.1 135 = .ok (.aload_n 0, 1) := by decide +kernel
theorem d98_136 : decode mt98.2.1 136 = .ok (.getfield 25, 3) := by decide +kernel
theorem d98_139 : decode mt98.2.1 139 = .ok (.getfield 204, 3) := by decide +kernel
theorem d98_142 : decode mt98.2.1 142 = .ok (.iload_n 1, 1) := by decide +kernel
theorem d98_143 : decode mt98.2.1 143 = .ok (.iaload, 1) := by decide +kernel
theorem d98_144 : decode mt98.2.1 144 = .ok (.if_icmp .gt 91, 3) := by decide +kernel
theorem d98_147 : decode mt98.2.1 147 = .ok (.aload_n 0, 1) := by decide +kernel
theorem d98_148 : decode mt98.2.1 148 = .ok (.getfield 54, 3) := by decide +kernel
theorem d98_151 : decode mt98.2.1 151 = .ok (.aload_n 0, 1) := by decide +kernel
theorem d98_152 : decode mt98.2.1 152 = .ok (.getfield 25, 3) := by decide +kernel
theorem d98_155 : decode mt98.2.1 155 = .ok (.lload 7, 2) := by decide +kernel
theorem d98_157 : decode mt98.2.1 157 = .ok (.aload_n 0, 1) := by decide +kernel
theorem d98_158 : decode mt98.2.1 158 = .ok (.getfield 25, 3) := by decide +kernel
theorem d98_161 : decode mt98.2.1 161 = .ok (.getfield 204, 3) := by decide +kernel
theorem d98_164 : decode mt98.2.1 164 = .ok (.iload_n 2, 1) := by decide +kernel
theorem d98_165 : decode mt98.2.1 165 = .ok (.iaload, 1) := by decide +kernel
theorem d98_166 : decode mt98.2.1 166 = .ok (.invokevirtual 266, 3) := by decide +kernel
theorem d98_169 : decode mt98.2.1 169 = .ok (.istore 9, 2) := by decide +kernel
theorem d98_171 : decode mt98.2.1 171 = .ok (.iload 4, 2) := by decide +kernel
theorem d98_173 : decode mt98.2.1 173 = .ok (.ldc 169, 2) := by decide +kernel
theorem d98_175 : decode mt98.2.1 175 = .ok (.if_icmp .eq 10, 3) := by decide +kernel
theorem d98_178 : decode mt98.2.1 178 = .ok (.iload 9, 2) := by decide +kernel
theorem d98_180 : decode mt98.2.1 180 = .ok (.iload 4, 2) := by decide +kernel
theorem d98_182 : decode mt98.2.1 182 = .ok (.if_icmp .ge 7, 3) := by decide +kernel
theorem d98_185 : decode mt98.2.1 185 = .ok (.iconst 1, 1) := by decide +kernel
theorem d98_186 : decode mt98.2.1 186 = .ok (.goto 4, 3) := by decide +kernel
theorem d98_189 : decode mt98.2.1 189 = .ok (.iconst 0, 1) := by decide +kernel
theorem d98_190 : decode mt98.2.1 190 = .ok (.istore 10, 2) := by decide +kernel
theorem d98_192 : decode mt98.2.1 192 = .ok (.iload 10, 2) := by decide +kernel
theorem d98_194 : decode mt98.2.1 194 = .ok (.ifCond .ne 25, 3) := by decide +kernel
theorem d98_197 : decode mt98.2.1 197 = .ok (.iload 9, 2) := by decide +kernel
theorem d98_199 : decode mt98.2.1 199 = .ok (.iload 4, 2) := by decide +kernel
theorem d98_201 : decode mt98.2.1 201 = .ok (.if_icmp .ne 34, 3) := by decide +kernel
theorem d98_204 : decode mt98.2.1 204 = .ok (.aload_n 0, 1) := by decide +kernel
theorem d98_205 : decode mt98.2.1 205 = .ok (.getfield 50, 3) := by decide +kernel
theorem d98_208 : decode mt98.2.1 208 = .ok (.getfield 270, 3) := by decide +kernel
theorem d98_211 : decode mt98.2.1 211 = .ok (.iload 6, 2) := by decide +kernel
theorem d98_213 : decode mt98.2.1 213 = .ok (.iaload, 1) := by decide +kernel
theorem d98_214 : decode mt98.2.1 214 = .ok (.iload 5, 2) := by decide +kernel
theorem d98_216 : decode mt98.2.1 216 = .ok (.if_icmp .le 19, 3) := by decide +kernel
theorem d98_219 : decode mt98.2.1 219 = .ok (.iload 9, 2) := by decide +kernel
theorem d98_221 : decode mt98.2.1 221 = .ok (.istore 4, 2) := by decide +kernel
theorem d98_223 : decode mt98.2.1 223 = .ok (.aload_n 0, 1) := by decide +kernel
theorem d98_224 : decode mt98.2.1 224 = .ok (.getfield 50, 3) := by decide +kernel
theorem d98_227 : decode mt98.2.1 227 = .ok (.getfield 270, 3) := by decide +kernel
theorem d98_230 : decode mt98.2.1 230 = .ok (.iload 6, 2) := by decide +kernel
theorem d98_232 : decode mt98.2.1 232 = .ok (.iaload, 1) := by decide +kernel
theorem d98_233 : decode mt98.2.1 233 = .ok (.istore 5, 2) := by decide +kernel
theorem d98_235 : decode mt98.2.1 235 = .ok (.iinc 6 1, 3) := by decide +kernel
theorem d98_238 : decode mt98.2.1 238 = .ok (.goto (-137), 3) := by decide +kernel
theorem d98_241 : decode mt98.2.1 241 = .ok (.iload_n 3, 1) := by decide +kernel
theorem d98_242 : decode mt98.2.1 242 = .ok (.ifCond .ne 8, 3) := by decide +kernel
theorem d98_245 : decode mt98.2.1 245 = .ok (.iload 4, 2) := by decide +kernel
theorem d98_247 : decode mt98.2.1 247 = .ok (.goto 5, 3) := by decide +kernel
theorem d98_250 : decode mt98.2.1 250 = .ok (.iload 5, 2) := by decide +kernel
theorem d98_252 : decode mt98.2.1 252 = .ok (.ireturn, 1) := by decide +kernel
noncomputable def pg98_0 : List (Nat × aP) := [(0, oLdA 0 1),
  (1, oGetF (fun k => k = 10) 2 4),
  (4, oLdI 1 5),
  (5, oCalV (fun k => if k = 3 then some 26 else none) 1 8),
  (8, oIf (fun x => x = 0) 47 11),
  (11, oLdA 0 12),
  (12, oGetF (fun k => k = 10) 2 15),
  (15, oLdI 2 16),
  (16, oCalV (fun k => if k = 3 then some 26 else none) 1 19),
  (19, oIf (fun x => x = 0) 47 22),
  (22, oLdI 1 23),
  (23, oLdI 2 24),
  (24, oIc (fun x y => x = y) 47 27),
  (27, oLdA 0 28),
  (28, oGetF (fun k => k = 10) 2 31),
  (31, oLdI 1 32),
  (32, oCalV (fun k => if k = 3 then some 27 else none) 1 35),
  (35, oIf (fun x => ¬ x = 0) 47 38),
  (38, oLdI 3 39),
  (39, oIf (fun x => x < 0) 47 42),
  (42, oLdI 3 43),
  (43, oPush (.int 1) 44),
  (44, oIc (fun x y => x ≤ y) 50 47),
  (47, oPush (.int (-1000001)) 49),
  (49, oRetI),
  (50, oLdA 0 51),
  (51, oGetF (fun k => k = 10) 6 54),
  (54, oLdA 0 55),
  (55, oGetF (fun k => k = 10) 2 58),
  (58, oLdA 0 59),
  (59, oGetF (fun k => k = 10) 2 62),
  (62, oGetF (fun k => k = 3) 6 65),
  (65, oLdI 1 66),
  (66, oALdI 67),
  (67, oCalV (fun k => if k = 5 then some 54 else none) 2 70),
  (70, oLdA 0 71),
  (71, oGetF (fun k => k = 10) 7 74),
  (74, oLdA 0 75),
  (75, oGetF (fun k => k = 10) 2 78),
  (78, oLdA 0 79)]
theorem ok98_0 : ∀ q ∈ pg98_0, Sim mT mt98 q.1 q.2 ∧ Grow q.2 :=
  List.forall_mem_cons.mpr ⟨⟨sim_aload_n d98_0 rfl, gr_LdA 0 1⟩,
  List.forall_mem_cons.mpr ⟨⟨sim_getF d98_1 gf106, gr_GetF (fun k => k = 10) 2 4⟩,
  List.forall_mem_cons.mpr ⟨⟨sim_iload_n d98_4 rfl, gr_LdI 1 5⟩,
  List.forall_mem_cons.mpr ⟨⟨sim_virtual d98_5 vk72, gr_CalV (fun k => if k = 3 then some 26 else none) 1 8⟩,
  List.forall_mem_cons.mpr ⟨⟨sim_if_eq d98_8 (by decide), gr_If (fun x => x = 0) 47 11⟩,
  List.forall_mem_cons.mpr ⟨⟨sim_aload_n d98_11 rfl, gr_LdA 0 12⟩,
  List.forall_mem_cons.mpr ⟨⟨sim_getF d98_12 gf106, gr_GetF (fun k => k = 10) 2 15⟩,
  List.forall_mem_cons.mpr ⟨⟨sim_iload_n d98_15 rfl, gr_LdI 2 16⟩,
  List.forall_mem_cons.mpr ⟨⟨sim_virtual d98_16 vk72, gr_CalV (fun k => if k = 3 then some 26 else none) 1 19⟩,
  List.forall_mem_cons.mpr ⟨⟨sim_if_eq d98_19 (by decide), gr_If (fun x => x = 0) 47 22⟩,
  List.forall_mem_cons.mpr ⟨⟨sim_iload_n d98_22 rfl, gr_LdI 1 23⟩,
  List.forall_mem_cons.mpr ⟨⟨sim_iload_n d98_23 rfl, gr_LdI 2 24⟩,
  List.forall_mem_cons.mpr ⟨⟨sim_icmp_eq d98_24 (by decide), gr_Ic (fun x y => x = y) 47 27⟩,
  List.forall_mem_cons.mpr ⟨⟨sim_aload_n d98_27 rfl, gr_LdA 0 28⟩,
  List.forall_mem_cons.mpr ⟨⟨sim_getF d98_28 gf106, gr_GetF (fun k => k = 10) 2 31⟩,
  List.forall_mem_cons.mpr ⟨⟨sim_iload_n d98_31 rfl, gr_LdI 1 32⟩,
  List.forall_mem_cons.mpr ⟨⟨sim_virtual d98_32 vk70, gr_CalV (fun k => if k = 3 then some 27 else none) 1 35⟩,
  List.forall_mem_cons.mpr ⟨⟨sim_if_ne d98_35 (by decide), gr_If (fun x => ¬ x = 0) 47 38⟩,
  List.forall_mem_cons.mpr ⟨⟨sim_iload_n d98_38 rfl, gr_LdI 3 39⟩,
  List.forall_mem_cons.mpr ⟨⟨sim_if_lt d98_39 (by decide), gr_If (fun x => x < 0) 47 42⟩,
  List.forall_mem_cons.mpr ⟨⟨sim_iload_n d98_42 rfl, gr_LdI 3 43⟩,
  List.forall_mem_cons.mpr ⟨⟨sim_iconst d98_43 (by decide), gr_Push (.int 1) 44⟩,
  List.forall_mem_cons.mpr ⟨⟨sim_icmp_le d98_44 (by decide), gr_Ic (fun x y => x ≤ y) 50 47⟩,
  List.forall_mem_cons.mpr ⟨⟨sim_ldc d98_47 kw348, gr_Push (.int (-1000001)) 49⟩,
  List.forall_mem_cons.mpr ⟨⟨sim_ireturn d98_49 rfl, gr_RetI⟩,
  List.forall_mem_cons.mpr ⟨⟨sim_aload_n d98_50 rfl, gr_LdA 0 51⟩,
  List.forall_mem_cons.mpr ⟨⟨sim_getF d98_51 gf119, gr_GetF (fun k => k = 10) 6 54⟩,
  List.forall_mem_cons.mpr ⟨⟨sim_aload_n d98_54 rfl, gr_LdA 0 55⟩,
  List.forall_mem_cons.mpr ⟨⟨sim_getF d98_55 gf106, gr_GetF (fun k => k = 10) 2 58⟩,
  List.forall_mem_cons.mpr ⟨⟨sim_aload_n d98_58 rfl, gr_LdA 0 59⟩,
  List.forall_mem_cons.mpr ⟨⟨sim_getF d98_59 gf106, gr_GetF (fun k => k = 10) 2 62⟩,
  List.forall_mem_cons.mpr ⟨⟨sim_getF d98_62 gf113, gr_GetF (fun k => k = 3) 6 65⟩,
  List.forall_mem_cons.mpr ⟨⟨sim_iload_n d98_65 rfl, gr_LdI 1 66⟩,
  List.forall_mem_cons.mpr ⟨⟨sim_iaload d98_66, gr_ALdI 67⟩,
  List.forall_mem_cons.mpr ⟨⟨sim_virtual d98_67 vk81, gr_CalV (fun k => if k = 5 then some 54 else none) 2 70⟩,
  List.forall_mem_cons.mpr ⟨⟨sim_aload_n d98_70 rfl, gr_LdA 0 71⟩,
  List.forall_mem_cons.mpr ⟨⟨sim_getF d98_71 gf120, gr_GetF (fun k => k = 10) 7 74⟩,
  List.forall_mem_cons.mpr ⟨⟨sim_aload_n d98_74 rfl, gr_LdA 0 75⟩,
  List.forall_mem_cons.mpr ⟨⟨sim_getF d98_75 gf106, gr_GetF (fun k => k = 10) 2 78⟩,
  List.forall_mem_cons.mpr ⟨⟨sim_aload_n d98_78 rfl, gr_LdA 0 79⟩, fun _ h => absurd h List.not_mem_nil⟩⟩⟩⟩⟩⟩⟩⟩⟩⟩⟩⟩⟩⟩⟩⟩⟩⟩⟩⟩⟩⟩⟩⟩⟩⟩⟩⟩⟩⟩⟩⟩⟩⟩⟩⟩⟩⟩⟩⟩
noncomputable def pg98_1 : List (Nat × aP) := [(79, oGetF (fun k => k = 10) 2 82),
  (82, oGetF (fun k => k = 3) 6 85),
  (85, oLdI 2 86),
  (86, oALdI 87),
  (87, oCalV (fun k => if k = 5 then some 54 else none) 2 90),
  (90, oPush (.int (-1000000)) 92),
  (92, oStI 4 94),
  (94, oPush (.int (-1000000)) 96),
  (96, oStI 5 98),
  (98, oPush (.int 0) 99),
  (99, oStI 6 101),
  (101, oLdI 6 103),
  (103, oLdA 0 104),
  (104, oGetF (fun k => k = 10) 6 107),
  (107, oGetI (fun k => k = 5) 5 110),
  (110, oIc (fun x y => y ≤ x) 241 113),
  (113, oLdA 0 114),
  (114, oGetF (fun k => k = 10) 6 117),
  (117, oGetF (fun k => k = 5) 3 120),
  (120, oLdI 6 122),
  (122, oALdL 123),
  (123, oStL 7 125),
  (125, oLdA 0 126),
  (126, oGetF (fun k => k = 10) 2 129),
  (129, oLdL 7 131),
  (131, oPush (.long 0) 132),
  (132, oCalV (fun k => if k = 3 then some 35 else none) 2 135),
  (135, oLdA 0 136),
  (136, oGetF (fun k => k = 10) 2 139),
  (139, oGetF (fun k => k = 3) 7 142),
  (142, oLdI 1 143),
  (143, oALdI 144),
  (144, oIc (fun x y => y < x) 235 147),
  (147, oLdA 0 148),
  (148, oGetF (fun k => k = 10) 7 151),
  (151, oLdA 0 152),
  (152, oGetF (fun k => k = 10) 2 155),
  (155, oLdL 7 157),
  (157, oLdA 0 158),
  (158, oGetF (fun k => k = 10) 2 161)]
theorem ok98_1 : ∀ q ∈ pg98_1, Sim mT mt98 q.1 q.2 ∧ Grow q.2 :=
  List.forall_mem_cons.mpr ⟨⟨sim_getF d98_79 gf106, gr_GetF (fun k => k = 10) 2 82⟩,
  List.forall_mem_cons.mpr ⟨⟨sim_getF d98_82 gf113, gr_GetF (fun k => k = 3) 6 85⟩,
  List.forall_mem_cons.mpr ⟨⟨sim_iload_n d98_85 rfl, gr_LdI 2 86⟩,
  List.forall_mem_cons.mpr ⟨⟨sim_iaload d98_86, gr_ALdI 87⟩,
  List.forall_mem_cons.mpr ⟨⟨sim_virtual d98_87 vk81, gr_CalV (fun k => if k = 5 then some 54 else none) 2 90⟩,
  List.forall_mem_cons.mpr ⟨⟨sim_ldc d98_90 kw590, gr_Push (.int (-1000000)) 92⟩,
  List.forall_mem_cons.mpr ⟨⟨sim_istore d98_92 (by decide), gr_StI 4 94⟩,
  List.forall_mem_cons.mpr ⟨⟨sim_ldc d98_94 kw590, gr_Push (.int (-1000000)) 96⟩,
  List.forall_mem_cons.mpr ⟨⟨sim_istore d98_96 (by decide), gr_StI 5 98⟩,
  List.forall_mem_cons.mpr ⟨⟨sim_iconst d98_98 (by decide), gr_Push (.int 0) 99⟩,
  List.forall_mem_cons.mpr ⟨⟨sim_istore d98_99 (by decide), gr_StI 6 101⟩,
  List.forall_mem_cons.mpr ⟨⟨sim_iload d98_101, gr_LdI 6 103⟩,
  List.forall_mem_cons.mpr ⟨⟨sim_aload_n d98_103 rfl, gr_LdA 0 104⟩,
  List.forall_mem_cons.mpr ⟨⟨sim_getF d98_104 gf119, gr_GetF (fun k => k = 10) 6 107⟩,
  List.forall_mem_cons.mpr ⟨⟨sim_getI d98_107 gf121, gr_GetI (fun k => k = 5) 5 110⟩,
  List.forall_mem_cons.mpr ⟨⟨sim_icmp_ge d98_110 (by decide), gr_Ic (fun x y => y ≤ x) 241 113⟩,
  List.forall_mem_cons.mpr ⟨⟨sim_aload_n d98_113 rfl, gr_LdA 0 114⟩,
  List.forall_mem_cons.mpr ⟨⟨sim_getF d98_114 gf119, gr_GetF (fun k => k = 10) 6 117⟩,
  List.forall_mem_cons.mpr ⟨⟨sim_getF d98_117 gf122, gr_GetF (fun k => k = 5) 3 120⟩,
  List.forall_mem_cons.mpr ⟨⟨sim_iload d98_120, gr_LdI 6 122⟩,
  List.forall_mem_cons.mpr ⟨⟨sim_laload d98_122, gr_ALdL 123⟩,
  List.forall_mem_cons.mpr ⟨⟨sim_lstore d98_123 (by decide), gr_StL 7 125⟩,
  List.forall_mem_cons.mpr ⟨⟨sim_aload_n d98_125 rfl, gr_LdA 0 126⟩,
  List.forall_mem_cons.mpr ⟨⟨sim_getF d98_126 gf106, gr_GetF (fun k => k = 10) 2 129⟩,
  List.forall_mem_cons.mpr ⟨⟨sim_lload d98_129, gr_LdL 7 131⟩,
  List.forall_mem_cons.mpr ⟨⟨sim_lconst d98_131 (by decide), gr_Push (.long 0) 132⟩,
  List.forall_mem_cons.mpr ⟨⟨sim_virtual d98_132 vk82, gr_CalV (fun k => if k = 3 then some 35 else none) 2 135⟩,
  List.forall_mem_cons.mpr ⟨⟨sim_aload_n d98_135 rfl, gr_LdA 0 136⟩,
  List.forall_mem_cons.mpr ⟨⟨sim_getF d98_136 gf106, gr_GetF (fun k => k = 10) 2 139⟩,
  List.forall_mem_cons.mpr ⟨⟨sim_getF d98_139 gf114, gr_GetF (fun k => k = 3) 7 142⟩,
  List.forall_mem_cons.mpr ⟨⟨sim_iload_n d98_142 rfl, gr_LdI 1 143⟩,
  List.forall_mem_cons.mpr ⟨⟨sim_iaload d98_143, gr_ALdI 144⟩,
  List.forall_mem_cons.mpr ⟨⟨sim_icmp_gt d98_144 (by decide), gr_Ic (fun x y => y < x) 235 147⟩,
  List.forall_mem_cons.mpr ⟨⟨sim_aload_n d98_147 rfl, gr_LdA 0 148⟩,
  List.forall_mem_cons.mpr ⟨⟨sim_getF d98_148 gf120, gr_GetF (fun k => k = 10) 7 151⟩,
  List.forall_mem_cons.mpr ⟨⟨sim_aload_n d98_151 rfl, gr_LdA 0 152⟩,
  List.forall_mem_cons.mpr ⟨⟨sim_getF d98_152 gf106, gr_GetF (fun k => k = 10) 2 155⟩,
  List.forall_mem_cons.mpr ⟨⟨sim_lload d98_155, gr_LdL 7 157⟩,
  List.forall_mem_cons.mpr ⟨⟨sim_aload_n d98_157 rfl, gr_LdA 0 158⟩,
  List.forall_mem_cons.mpr ⟨⟨sim_getF d98_158 gf106, gr_GetF (fun k => k = 10) 2 161⟩, fun _ h => absurd h List.not_mem_nil⟩⟩⟩⟩⟩⟩⟩⟩⟩⟩⟩⟩⟩⟩⟩⟩⟩⟩⟩⟩⟩⟩⟩⟩⟩⟩⟩⟩⟩⟩⟩⟩⟩⟩⟩⟩⟩⟩⟩⟩
noncomputable def pg98_2 : List (Nat × aP) := [(161, oGetF (fun k => k = 3) 7 164),
  (164, oLdI 2 165),
  (165, oALdI 166),
  (166, oCalV (fun k => if k = 5 then some 56 else none) 3 169),
  (169, oStI 9 171),
  (171, oLdI 4 173),
  (173, oPush (.int (-1000000)) 175),
  (175, oIc (fun x y => x = y) 185 178),
  (178, oLdI 9 180),
  (180, oLdI 4 182),
  (182, oIc (fun x y => y ≤ x) 189 185),
  (185, oPush (.int 1) 186),
  (186, oGo 190),
  (189, oPush (.int 0) 190),
  (190, oStI 10 192),
  (192, oLdI 10 194),
  (194, oIf (fun x => ¬ x = 0) 219 197),
  (197, oLdI 9 199),
  (199, oLdI 4 201),
  (201, oIc (fun x y => ¬ x = y) 235 204),
  (204, oLdA 0 205),
  (205, oGetF (fun k => k = 10) 6 208),
  (208, oGetF (fun k => k = 5) 4 211),
  (211, oLdI 6 213),
  (213, oALdI 214),
  (214, oLdI 5 216),
  (216, oIc (fun x y => x ≤ y) 235 219),
  (219, oLdI 9 221),
  (221, oStI 4 223),
  (223, oLdA 0 224),
  (224, oGetF (fun k => k = 10) 6 227),
  (227, oGetF (fun k => k = 5) 4 230),
  (230, oLdI 6 232),
  (232, oALdI 233),
  (233, oStI 5 235),
  (235, oInc 6 1 238),
  (238, oGo 101),
  (241, oLdI 3 242),
  (242, oIf (fun x => ¬ x = 0) 250 245),
  (245, oLdI 4 247)]
theorem ok98_2 : ∀ q ∈ pg98_2, Sim mT mt98 q.1 q.2 ∧ Grow q.2 :=
  List.forall_mem_cons.mpr ⟨⟨sim_getF d98_161 gf114, gr_GetF (fun k => k = 3) 7 164⟩,
  List.forall_mem_cons.mpr ⟨⟨sim_iload_n d98_164 rfl, gr_LdI 2 165⟩,
  List.forall_mem_cons.mpr ⟨⟨sim_iaload d98_165, gr_ALdI 166⟩,
  List.forall_mem_cons.mpr ⟨⟨sim_virtual d98_166 vk83, gr_CalV (fun k => if k = 5 then some 56 else none) 3 169⟩,
  List.forall_mem_cons.mpr ⟨⟨sim_istore d98_169 (by decide), gr_StI 9 171⟩,
  List.forall_mem_cons.mpr ⟨⟨sim_iload d98_171, gr_LdI 4 173⟩,
  List.forall_mem_cons.mpr ⟨⟨sim_ldc d98_173 kw590, gr_Push (.int (-1000000)) 175⟩,
  List.forall_mem_cons.mpr ⟨⟨sim_icmp_eq d98_175 (by decide), gr_Ic (fun x y => x = y) 185 178⟩,
  List.forall_mem_cons.mpr ⟨⟨sim_iload d98_178, gr_LdI 9 180⟩,
  List.forall_mem_cons.mpr ⟨⟨sim_iload d98_180, gr_LdI 4 182⟩,
  List.forall_mem_cons.mpr ⟨⟨sim_icmp_ge d98_182 (by decide), gr_Ic (fun x y => y ≤ x) 189 185⟩,
  List.forall_mem_cons.mpr ⟨⟨sim_iconst d98_185 (by decide), gr_Push (.int 1) 186⟩,
  List.forall_mem_cons.mpr ⟨⟨sim_goto d98_186 (by decide), gr_Go 190⟩,
  List.forall_mem_cons.mpr ⟨⟨sim_iconst d98_189 (by decide), gr_Push (.int 0) 190⟩,
  List.forall_mem_cons.mpr ⟨⟨sim_istore d98_190 (by decide), gr_StI 10 192⟩,
  List.forall_mem_cons.mpr ⟨⟨sim_iload d98_192, gr_LdI 10 194⟩,
  List.forall_mem_cons.mpr ⟨⟨sim_if_ne d98_194 (by decide), gr_If (fun x => ¬ x = 0) 219 197⟩,
  List.forall_mem_cons.mpr ⟨⟨sim_iload d98_197, gr_LdI 9 199⟩,
  List.forall_mem_cons.mpr ⟨⟨sim_iload d98_199, gr_LdI 4 201⟩,
  List.forall_mem_cons.mpr ⟨⟨sim_icmp_ne d98_201 (by decide), gr_Ic (fun x y => ¬ x = y) 235 204⟩,
  List.forall_mem_cons.mpr ⟨⟨sim_aload_n d98_204 rfl, gr_LdA 0 205⟩,
  List.forall_mem_cons.mpr ⟨⟨sim_getF d98_205 gf119, gr_GetF (fun k => k = 10) 6 208⟩,
  List.forall_mem_cons.mpr ⟨⟨sim_getF d98_208 gf123, gr_GetF (fun k => k = 5) 4 211⟩,
  List.forall_mem_cons.mpr ⟨⟨sim_iload d98_211, gr_LdI 6 213⟩,
  List.forall_mem_cons.mpr ⟨⟨sim_iaload d98_213, gr_ALdI 214⟩,
  List.forall_mem_cons.mpr ⟨⟨sim_iload d98_214, gr_LdI 5 216⟩,
  List.forall_mem_cons.mpr ⟨⟨sim_icmp_le d98_216 (by decide), gr_Ic (fun x y => x ≤ y) 235 219⟩,
  List.forall_mem_cons.mpr ⟨⟨sim_iload d98_219, gr_LdI 9 221⟩,
  List.forall_mem_cons.mpr ⟨⟨sim_istore d98_221 (by decide), gr_StI 4 223⟩,
  List.forall_mem_cons.mpr ⟨⟨sim_aload_n d98_223 rfl, gr_LdA 0 224⟩,
  List.forall_mem_cons.mpr ⟨⟨sim_getF d98_224 gf119, gr_GetF (fun k => k = 10) 6 227⟩,
  List.forall_mem_cons.mpr ⟨⟨sim_getF d98_227 gf123, gr_GetF (fun k => k = 5) 4 230⟩,
  List.forall_mem_cons.mpr ⟨⟨sim_iload d98_230, gr_LdI 6 232⟩,
  List.forall_mem_cons.mpr ⟨⟨sim_iaload d98_232, gr_ALdI 233⟩,
  List.forall_mem_cons.mpr ⟨⟨sim_istore d98_233 (by decide), gr_StI 5 235⟩,
  List.forall_mem_cons.mpr ⟨⟨sim_iinc d98_235 (by decide) (by decide), gr_Inc 6 1 238⟩,
  List.forall_mem_cons.mpr ⟨⟨sim_goto d98_238 (by decide), gr_Go 101⟩,
  List.forall_mem_cons.mpr ⟨⟨sim_iload_n d98_241 rfl, gr_LdI 3 242⟩,
  List.forall_mem_cons.mpr ⟨⟨sim_if_ne d98_242 (by decide), gr_If (fun x => ¬ x = 0) 250 245⟩,
  List.forall_mem_cons.mpr ⟨⟨sim_iload d98_245, gr_LdI 4 247⟩, fun _ h => absurd h List.not_mem_nil⟩⟩⟩⟩⟩⟩⟩⟩⟩⟩⟩⟩⟩⟩⟩⟩⟩⟩⟩⟩⟩⟩⟩⟩⟩⟩⟩⟩⟩⟩⟩⟩⟩⟩⟩⟩⟩⟩⟩⟩
noncomputable def pg98_3 : List (Nat × aP) := [(247, oGo 252),
  (250, oLdI 5 252),
  (252, oRetI)]
theorem ok98_3 : ∀ q ∈ pg98_3, Sim mT mt98 q.1 q.2 ∧ Grow q.2 :=
  List.forall_mem_cons.mpr ⟨⟨sim_goto d98_247 (by decide), gr_Go 252⟩,
  List.forall_mem_cons.mpr ⟨⟨sim_iload d98_250, gr_LdI 5 252⟩,
  List.forall_mem_cons.mpr ⟨⟨sim_ireturn d98_252 rfl, gr_RetI⟩, fun _ h => absurd h List.not_mem_nil⟩⟩⟩
noncomputable def pg98 : List (Nat × aP) := pg98_0 ++ (pg98_1 ++ (pg98_2 ++ (pg98_3)))
theorem ok98 : ∀ q ∈ pg98, Sim mT mt98 q.1 q.2 ∧ Grow q.2 := List.forall_mem_append.mpr ⟨ok98_0, List.forall_mem_append.mpr ⟨ok98_1, List.forall_mem_append.mpr ⟨ok98_2, ok98_3⟩⟩⟩
theorem d99_0 : decode mt99.2.1 0 = .ok (.aload_n 0, 1) := by decide +kernel
theorem d99_1 : decode mt99.2.1 1 = .ok (.getfield 25, 3) := by decide +kernel
theorem d99_4 : decode mt99.2.1 4 = .ok (.iload_n 1, 1) := by decide +kernel
theorem d99_5 : decode mt99.2.1 5 = .ok (.invokevirtual 190, 3) := by decide +kernel
theorem d99_8 : decode mt99.2.1 8 = .ok (.ifCond .eq 13, 3) := by decide +kernel
theorem d99_11 : decode mt99.2.1 11 = .ok (.iload_n 2, 1) := by decide +kernel
theorem d99_12 : decode mt99.2.1 12 = .ok (.ifCond .lt 9, 3) := by decide +kernel
theorem d99_15 : decode mt99.2.1 15 = .ok (.iload_n 2, 1) := by decide +kernel
theorem d99_16 : decode mt99.2.1 16 = .ok (.bipush 100, 2) := by decide +kernel
theorem d99_18 : decode mt99.2.1 18 = .ok (.if_icmp .le 6, 3) := by decide +kernel
theorem d99_21 : decode mt99.2.1 21 = .ok (.ldc 76, 2) := by decide +kernel
theorem d99_23 : decode mt99.2.1 23 = .ok (.ireturn, 1) := by decide +kernel
theorem d99_24 : decode mt99.2.1 24 = .ok (.aload_n 0, 1) := by decide +kernel
theorem d99_25 : decode mt99.2.1 25 = .ok (.getfield 25, 3) := by decide +kernel
theorem d99_28 : decode mt99.2.1 28 = .ok (.getfield 201, 3) := by decide +kernel
theorem d99_31 : decode mt99.2.1 31 = .ok (.iload_n 1, 1) := by decide +kernel
theorem d99_32 : decode mt99.2.1 32 = .ok (.iaload, 1) := by decide +kernel
theorem d99_33 : decode mt99.2.1 33 = .ok (.istore_n 3, 1) := by decide +kernel
theorem d99_34 : decode mt99.2.1 34 = .ok (.aload_n 0, 1) := by decide +kernel
theorem d99_35 : decode mt99.2.1 35 = .ok (.getfield 25, 3) := by decide +kernel
theorem d99_38 : decode mt99.2.1 38 = .ok (.getfield 204, 3) := by decide +kernel
theorem d99_41 : decode mt99.2.1 41 = .ok (.iload_n 1, 1) := by decide +kernel
theorem d99_42 : decode mt99.2.1 42 = .ok (.iaload, 1) := by decide +kernel
theorem d99_43 : decode mt99.2.1 43 = .ok (.istore 4, 2) := by decide +kernel
theorem d99_45 : decode mt99.2.1 45 = .ok (.aload_n 0, 1) := by decide +kernel
theorem d99_46 : decode mt99.2.1 46 = .ok (.getfield 43, 3) := by decide +kernel
theorem d99_49 : decode mt99.2.1 49 = .ok (.aload_n 0, 1) := by decide +kernel
theorem d99_50 : decode mt99.2.1 50 = .ok (.getfield 25, 3) := by decide +kernel
theorem d99_53 : decode mt99.2.1 53 = .ok (.iload_n 3, 1) := by decide +kernel
theorem d99_54 : decode mt99.2.1 54 = .ok (.invokevirtual 228, 3) := by decide +kernel
theorem d99_57 : decode mt99.2.1 57 = .ok (.aload_n 0, 1) := by decide +kernel
theorem d99_58 : decode mt99.2.1 58 = .ok (.getfield 43, 3) := by decide +kernel
theorem d99_61 : decode mt99.2.1 61 = .ok (.iload_n 3, 1) := by decide +kernel
theorem d99_62 : decode mt99.2.1 62 = .ok (.iload 4, 2) := by decide +kernel
theorem d99_64 : decode mt99.2.1 64 = .ok (.invokevirtual 271, 3) := by decide +kernel
theorem d99_67 : decode mt99.2.1 67 = .ok (.aload_n 0, 1) := by decide +kernel
theorem d99_68 : decode mt99.2.1 68 = .ok (.getfield 43, 3) := by decide +kernel
theorem d99_71 : decode mt99.2.1 71 = .ok (.iload_n 3, 1) := by decide +kernel
theorem d99_72 : decode mt99.2.1 72 = .ok (.iload 4, 2) := by decide +kernel
theorem d99_74 : decode mt99.2.1 74 = .ok (.bipush 100, 2) := by decide +kernel
theorem d99_76 : decode mt99.2.1 76 = .ok (.iload_n 2, 1) := by decide +kernel
theorem d99_77 : decode mt99.2.1 77 = .ok (.isub, 1) := by decide +kernel
theorem d99_78 : decode mt99.2.1 78 = .ok (.imul, 1) := by decide +kernel
theorem d99_79 : decode mt99.2.1 79 = .ok (.bipush 100, 2) := by decide +kernel
theorem d99_81 : decode mt99.2.1 81 = .ok (.idiv, 1) := by decide +kernel
theorem d99_82 : decode mt99.2.1 82 = .ok (.invokevirtual 271, 3) := by decide +kernel
theorem d99_85 : decode mt99.2.1 85 = .ok (.isub, 1) := by decide +kernel
theorem d99_86 : decode mt99.2.1 86 = .ok (.ireturn, 1) := by decide +kernel
noncomputable def pg99_0 : List (Nat × aP) := [(0, oLdA 0 1),
  (1, oGetF (fun k => k = 10) 2 4),
  (4, oLdI 1 5),
  (5, oCalV (fun k => if k = 3 then some 26 else none) 1 8),
  (8, oIf (fun x => x = 0) 21 11),
  (11, oLdI 2 12),
  (12, oIf (fun x => x < 0) 21 15),
  (15, oLdI 2 16),
  (16, oPush (.int 100) 18),
  (18, oIc (fun x y => x ≤ y) 24 21),
  (21, oPush (.int (-1000001)) 23),
  (23, oRetI),
  (24, oLdA 0 25),
  (25, oGetF (fun k => k = 10) 2 28),
  (28, oGetF (fun k => k = 3) 6 31),
  (31, oLdI 1 32),
  (32, oALdI 33),
  (33, oStI 3 34),
  (34, oLdA 0 35),
  (35, oGetF (fun k => k = 10) 2 38),
  (38, oGetF (fun k => k = 3) 7 41),
  (41, oLdI 1 42),
  (42, oALdI 43),
  (43, oStI 4 45),
  (45, oLdA 0 46),
  (46, oGetF (fun k => k = 10) 5 49),
  (49, oLdA 0 50),
  (50, oGetF (fun k => k = 10) 2 53),
  (53, oLdI 3 54),
  (54, oCalV (fun k => if k = 1 then some 14 else none) 2 57),
  (57, oLdA 0 58),
  (58, oGetF (fun k => k = 10) 5 61),
  (61, oLdI 3 62),
  (62, oLdI 4 64),
  (64, oCalV (fun k => if k = 1 then some 16 else none) 2 67),
  (67, oLdA 0 68),
  (68, oGetF (fun k => k = 10) 5 71),
  (71, oLdI 3 72),
  (72, oLdI 4 74),
  (74, oPush (.int 100) 76)]
theorem ok99_0 : ∀ q ∈ pg99_0, Sim mT mt99 q.1 q.2 ∧ Grow q.2 :=
  List.forall_mem_cons.mpr ⟨⟨sim_aload_n d99_0 rfl, gr_LdA 0 1⟩,
  List.forall_mem_cons.mpr ⟨⟨sim_getF d99_1 gf106, gr_GetF (fun k => k = 10) 2 4⟩,
  List.forall_mem_cons.mpr ⟨⟨sim_iload_n d99_4 rfl, gr_LdI 1 5⟩,
  List.forall_mem_cons.mpr ⟨⟨sim_virtual d99_5 vk72, gr_CalV (fun k => if k = 3 then some 26 else none) 1 8⟩,
  List.forall_mem_cons.mpr ⟨⟨sim_if_eq d99_8 (by decide), gr_If (fun x => x = 0) 21 11⟩,
  List.forall_mem_cons.mpr ⟨⟨sim_iload_n d99_11 rfl, gr_LdI 2 12⟩,
  List.forall_mem_cons.mpr ⟨⟨sim_if_lt d99_12 (by decide), gr_If (fun x => x < 0) 21 15⟩,
  List.forall_mem_cons.mpr ⟨⟨sim_iload_n d99_15 rfl, gr_LdI 2 16⟩,
  List.forall_mem_cons.mpr ⟨⟨sim_bipush d99_16 (by decide), gr_Push (.int 100) 18⟩,
  List.forall_mem_cons.mpr ⟨⟨sim_icmp_le d99_18 (by decide), gr_Ic (fun x y => x ≤ y) 24 21⟩,
  List.forall_mem_cons.mpr ⟨⟨sim_ldc d99_21 kw348, gr_Push (.int (-1000001)) 23⟩,
  List.forall_mem_cons.mpr ⟨⟨sim_ireturn d99_23 rfl, gr_RetI⟩,
  List.forall_mem_cons.mpr ⟨⟨sim_aload_n d99_24 rfl, gr_LdA 0 25⟩,
  List.forall_mem_cons.mpr ⟨⟨sim_getF d99_25 gf106, gr_GetF (fun k => k = 10) 2 28⟩,
  List.forall_mem_cons.mpr ⟨⟨sim_getF d99_28 gf113, gr_GetF (fun k => k = 3) 6 31⟩,
  List.forall_mem_cons.mpr ⟨⟨sim_iload_n d99_31 rfl, gr_LdI 1 32⟩,
  List.forall_mem_cons.mpr ⟨⟨sim_iaload d99_32, gr_ALdI 33⟩,
  List.forall_mem_cons.mpr ⟨⟨sim_istore_n d99_33 rfl (by decide), gr_StI 3 34⟩,
  List.forall_mem_cons.mpr ⟨⟨sim_aload_n d99_34 rfl, gr_LdA 0 35⟩,
  List.forall_mem_cons.mpr ⟨⟨sim_getF d99_35 gf106, gr_GetF (fun k => k = 10) 2 38⟩,
  List.forall_mem_cons.mpr ⟨⟨sim_getF d99_38 gf114, gr_GetF (fun k => k = 3) 7 41⟩,
  List.forall_mem_cons.mpr ⟨⟨sim_iload_n d99_41 rfl, gr_LdI 1 42⟩,
  List.forall_mem_cons.mpr ⟨⟨sim_iaload d99_42, gr_ALdI 43⟩,
  List.forall_mem_cons.mpr ⟨⟨sim_istore d99_43 (by decide), gr_StI 4 45⟩,
  List.forall_mem_cons.mpr ⟨⟨sim_aload_n d99_45 rfl, gr_LdA 0 46⟩,
  List.forall_mem_cons.mpr ⟨⟨sim_getF d99_46 gf108, gr_GetF (fun k => k = 10) 5 49⟩,
  List.forall_mem_cons.mpr ⟨⟨sim_aload_n d99_49 rfl, gr_LdA 0 50⟩,
  List.forall_mem_cons.mpr ⟨⟨sim_getF d99_50 gf106, gr_GetF (fun k => k = 10) 2 53⟩,
  List.forall_mem_cons.mpr ⟨⟨sim_iload_n d99_53 rfl, gr_LdI 3 54⟩,
  List.forall_mem_cons.mpr ⟨⟨sim_virtual d99_54 vk76, gr_CalV (fun k => if k = 1 then some 14 else none) 2 57⟩,
  List.forall_mem_cons.mpr ⟨⟨sim_aload_n d99_57 rfl, gr_LdA 0 58⟩,
  List.forall_mem_cons.mpr ⟨⟨sim_getF d99_58 gf108, gr_GetF (fun k => k = 10) 5 61⟩,
  List.forall_mem_cons.mpr ⟨⟨sim_iload_n d99_61 rfl, gr_LdI 3 62⟩,
  List.forall_mem_cons.mpr ⟨⟨sim_iload d99_62, gr_LdI 4 64⟩,
  List.forall_mem_cons.mpr ⟨⟨sim_virtual d99_64 vk84, gr_CalV (fun k => if k = 1 then some 16 else none) 2 67⟩,
  List.forall_mem_cons.mpr ⟨⟨sim_aload_n d99_67 rfl, gr_LdA 0 68⟩,
  List.forall_mem_cons.mpr ⟨⟨sim_getF d99_68 gf108, gr_GetF (fun k => k = 10) 5 71⟩,
  List.forall_mem_cons.mpr ⟨⟨sim_iload_n d99_71 rfl, gr_LdI 3 72⟩,
  List.forall_mem_cons.mpr ⟨⟨sim_iload d99_72, gr_LdI 4 74⟩,
  List.forall_mem_cons.mpr ⟨⟨sim_bipush d99_74 (by decide), gr_Push (.int 100) 76⟩, fun _ h => absurd h List.not_mem_nil⟩⟩⟩⟩⟩⟩⟩⟩⟩⟩⟩⟩⟩⟩⟩⟩⟩⟩⟩⟩⟩⟩⟩⟩⟩⟩⟩⟩⟩⟩⟩⟩⟩⟩⟩⟩⟩⟩⟩⟩
noncomputable def pg99_1 : List (Nat × aP) := [(76, oLdI 2 77),
  (77, oII (fun x y => x - y) 78),
  (78, oII (fun x y => x * y) 79),
  (79, oPush (.int 100) 81),
  (81, oIId (fun x y => x / y) 82),
  (82, oCalV (fun k => if k = 1 then some 16 else none) 2 85),
  (85, oII (fun x y => x - y) 86),
  (86, oRetI)]
theorem ok99_1 : ∀ q ∈ pg99_1, Sim mT mt99 q.1 q.2 ∧ Grow q.2 :=
  List.forall_mem_cons.mpr ⟨⟨sim_iload_n d99_76 rfl, gr_LdI 2 77⟩,
  List.forall_mem_cons.mpr ⟨⟨sim_isub d99_77, gr_II (fun x y => x - y) 78⟩,
  List.forall_mem_cons.mpr ⟨⟨sim_imul d99_78, gr_II (fun x y => x * y) 79⟩,
  List.forall_mem_cons.mpr ⟨⟨sim_bipush d99_79 (by decide), gr_Push (.int 100) 81⟩,
  List.forall_mem_cons.mpr ⟨⟨sim_idiv d99_81, gr_IId (fun x y => x / y) 82⟩,
  List.forall_mem_cons.mpr ⟨⟨sim_virtual d99_82 vk84, gr_CalV (fun k => if k = 1 then some 16 else none) 2 85⟩,
  List.forall_mem_cons.mpr ⟨⟨sim_isub d99_85, gr_II (fun x y => x - y) 86⟩,
  List.forall_mem_cons.mpr ⟨⟨sim_ireturn d99_86 rfl, gr_RetI⟩, fun _ h => absurd h List.not_mem_nil⟩⟩⟩⟩⟩⟩⟩⟩
noncomputable def pg99 : List (Nat × aP) := pg99_0 ++ (pg99_1)
theorem ok99 : ∀ q ∈ pg99, Sim mT mt99 q.1 q.2 ∧ Grow q.2 := List.forall_mem_append.mpr ⟨ok99_0, ok99_1⟩
theorem d100_0 : decode mt100.2.1 0 = .ok (.aload_n 0, 1) := by decide +kernel
theorem d100_1 : decode mt100.2.1 1 = .ok (.getfield 25, 3) := by decide +kernel
theorem d100_4 : decode mt100.2.1 4 = .ok (.iload_n 1, 1) := by decide +kernel
theorem d100_5 : decode mt100.2.1 5 = .ok (.invokevirtual 190, 3) := by decide +kernel
theorem d100_8 : decode mt100.2.1 8 = .ok (.ifCond .eq 32, 3) := by decide +kernel
theorem d100_11 : decode mt100.2.1 11 = .ok (.iload_n 2, 1) := by decide +kernel
theorem d100_12 : decode mt100.2.1 12 = .ok (.invokestatic 72, 3) := by decide +kernel
theorem d100_15 : decode mt100.2.1 15 = .ok (.ifCond .eq 25, 3) := by decide +kernel
theorem d100_18 : decode mt100.2.1 18 = .ok (.iload_n 3, 1) := by decide +kernel
theorem d100_19 : decode mt100.2.1 19 = .ok (.ifCond .lt 21, 3) := by decide +kernel
theorem d100_22 : decode mt100.2.1 22 = .ok (.iload_n 3, 1) := by decide +kernel
theorem d100_23 : decode mt100.2.1 23 = .ok (.bipush 6, 2) := by decide +kernel
theorem d100_25 : decode mt100.2.1 25 = .ok (.if_icmp .gt 15, 3) := by decide +kernel
theorem d100_28 : decode mt100.2.1 28 = .ok (.iload 4, 2) := by decide +kernel
theorem d100_30 : decode mt100.2.1 30 = .ok (.ifCond .lt 10, 3) := by decide +kernel
theorem d100_33 : decode mt100.2.1 33 = .ok (.iload 4, 2) := by decide +kernel
theorem d100_35 : decode mt100.2.1 35 = .ok (.bipush 6, 2) := by decide +kernel
theorem d100_37 : decode mt100.2.1 37 = .ok (.if_icmp .le 6, 3) := by decide +kernel
theorem d100_40 : decode mt100.2.1 40 = .ok (.ldc 76, 2) := by decide +kernel
theorem d100_42 : decode mt100.2.1 42 = .ok (.ireturn, 1) := by decide +kernel
theorem d100_43 : decode mt100.2.1 43 = .ok (.aload_n 0, 1) := by decide +kernel
theorem d100_44 : decode mt100.2.1 44 = .ok (.getfield 11, 3) := by decide +kernel
theorem d100_47 : decode mt100.2.1 47 = .ok (.iload_n 2, 1) := by decide +kernel
theorem d100_48 : decode mt100.2.1 48 = .ok (.aaload, 1) := by decide +kernel
theorem d100_49 : decode mt100.2.1 49 = .ok (.astore 5, 2) := by decide +kernel
theorem d100_51 : decode mt100.2.1 51 = .ok (.aload 5, 2) := by decide +kernel
theorem d100_53 : decode mt100.2.1 53 = .ok (.invokevirtual 88, 3) := by decide +kernel
theorem d100_56 : decode mt100.2.1 56 = .ok (.ifCond .eq 9, 3) := by decide +kernel
theorem d100_59 : decode mt100.2.1 59 = .ok (.aload_n 0, 1) := by decide +kernel
theorem d100_60 : decode mt100.2.1 60 = .ok (.iconst 1, 1) := by decide +kernel
theorem d100_61 : decode mt100.2.1 61 = .ok (.invokevirtual 77, 3) := by decide +kernel
theorem d100_64 : decode mt100.2.1 64 = .ok (.ireturn, 1) := by decide +kernel
theorem d100_65 : decode mt100.2.1 65 = .ok (.aload 5, 2) := by decide +kernel
theorem d100_67 : decode mt100.2.1 67 = .ok (.iconst 0, 1) := by decide +kernel
theorem d100_68 : decode mt100.2.1 68 = .ok (.iload_n 3, 1) := by decide +kernel
theorem d100_69 : decode mt100.2.1 69 = .ok (.iload 4, 2) := by decide +kernel
theorem d100_71 : decode mt100.2.1 71 = .ok (.iadd, 1) := by decide +kernel
theorem d100_72 : decode mt100.2.1 72 = .ok (.invokevirtual 92, 3) := by decide +kernel
theorem d100_75 : decode mt100.2.1 75 = .ok (.ifCond .ne 9, 3) := by decide +kernel
theorem d100_78 : decode mt100.2.1 78 = .ok (.aload_n 0, 1) := by decide +kernel
theorem d100_79 : decode mt100.2.1 79 = .ok (.iconst 2, 1) := by decide +kernel
theorem d100_80 : decode mt100.2.1 80 = .ok (.invokevirtual 77, 3) := by decide +kernel
theorem d100_83 : decode mt100.2.1 83 = .ok (.ireturn, 1) := by decide +kernel
theorem d100_84 : decode mt100.2.1 84 = .ok (.aload_n 0, 1) := by decide +kernel
theorem d100_85 : decode mt100.2.1 85 = .ok (.getfield 60, 3) := by decide +kernel
theorem d100_88 : decode mt100.2.1 88 = .ok (.aload_n 0, 1) := by decide +kernel
theorem d100_89 : decode mt100.2.1 89 = .ok (.getfield 25, 3) := by decide +kernel
theorem d100_92 : decode mt100.2.1 92 = .ok (.aload 5, 2) := by decide +kernel
theorem d100_94 : decode mt100.2.1 94 = .ok (.iload_n 3, 1) := by decide +kernel
theorem d100_95 : decode mt100.2.1 95 = .ok (.iload 4, 2) := by decide +kernel
theorem d100_97 : decode mt100.2.1 97 = .ok (.invokevirtual 274, 3) := by decide +kernel
theorem d100_100 : decode mt100.2.1 100 = .ok (.ifCond .ne 6, 3) := by decide +kernel
theorem d100_103 : decode mt100.2.1 103 = .ok (.ldc 76, 2) := by decide +kernel
theorem d100_105 : decode mt100.2.1 105 = .ok (.ireturn, 1) := by decide +kernel
theorem d100_106 : decode mt100.2.1 106 = .ok (.aload_n 0, 1) := by decide +kernel
theorem d100_107 : decode mt100.2.1 107 = .ok (.aload_n 0, 1) := by decide +kernel
theorem d100_108 : decode mt100.2.1 108 = .ok (.getfield 60, 3) := by decide +kernel
theorem d100_111 : decode mt100.2.1 111 = .ok (.aload_n 0, 1) := by decide +kernel
theorem d100_112 : decode mt100.2.1 112 = .ok (.getfield 25, 3) := by decide +kernel
theorem d100_115 : decode mt100.2.1 115 = .ok (.iload_n 1, 1) := by decide +kernel
theorem d100_116 : decode mt100.2.1 116 = .ok (.invokevirtual 278, 3) := by decide +kernel
theorem d100_119 : decode mt100.2.1 119 = .ok (.invokevirtual 85, 3) := by decide +kernel
theorem d100_122 : decode mt100.2.1 122 = .ok (.ireturn, 1) := by decide +kernel
noncomputable def pg100_0 : List (Nat × aP) := [(0, oLdA 0 1),
  (1, oGetF (fun k => k = 10) 2 4),
  (4, oLdI 1 5),
  (5, oCalV (fun k => if k = 3 then some 26 else none) 1 8),
  (8, oIf (fun x => x = 0) 40 11),
  (11, oLdI 2 12),
  (12, oCall 109 1 15),
  (15, oIf (fun x => x = 0) 40 18),
  (18, oLdI 3 19),
  (19, oIf (fun x => x < 0) 40 22),
  (22, oLdI 3 23),
  (23, oPush (.int 6) 25),
  (25, oIc (fun x y => y < x) 40 28),
  (28, oLdI 4 30),
  (30, oIf (fun x => x < 0) 40 33),
  (33, oLdI 4 35),
  (35, oPush (.int 6) 37),
  (37, oIc (fun x y => x ≤ y) 43 40),
  (40, oPush (.int (-1000001)) 42),
  (42, oRetI),
  (43, oLdA 0 44),
  (44, oGetF (fun k => k = 10) 0 47),
  (47, oLdI 2 48),
  (48, oALdA 49),
  (49, oStA 5 51),
  (51, oLdA 5 53),
  (53, oCalV (fun k => if k = 6 then some 58 else none) 0 56),
  (56, oIf (fun x => x = 0) 65 59),
  (59, oLdA 0 60),
  (60, oPush (.int 1) 61),
  (61, oCalV (fun k => if k = 10 then some 111 else none) 1 64),
  (64, oRetI),
  (65, oLdA 5 67),
  (67, oPush (.int 0) 68),
  (68, oLdI 3 69),
  (69, oLdI 4 71),
  (71, oII (fun x y => x + y) 72),
  (72, oCalV (fun k => if k = 6 then some 61 else none) 2 75),
  (75, oIf (fun x => ¬ x = 0) 84 78),
  (78, oLdA 0 79)]
theorem ok100_0 : ∀ q ∈ pg100_0, Sim mT mt100 q.1 q.2 ∧ Grow q.2 :=
  List.forall_mem_cons.mpr ⟨⟨sim_aload_n d100_0 rfl, gr_LdA 0 1⟩,
  List.forall_mem_cons.mpr ⟨⟨sim_getF d100_1 gf106, gr_GetF (fun k => k = 10) 2 4⟩,
  List.forall_mem_cons.mpr ⟨⟨sim_iload_n d100_4 rfl, gr_LdI 1 5⟩,
  List.forall_mem_cons.mpr ⟨⟨sim_virtual d100_5 vk72, gr_CalV (fun k => if k = 3 then some 26 else none) 1 8⟩,
  List.forall_mem_cons.mpr ⟨⟨sim_if_eq d100_8 (by decide), gr_If (fun x => x = 0) 40 11⟩,
  List.forall_mem_cons.mpr ⟨⟨sim_iload_n d100_11 rfl, gr_LdI 2 12⟩,
  List.forall_mem_cons.mpr ⟨⟨sim_static (y := 109) d100_12 (Or.inl kw345) kw346 mo109, gr_Call 109 1 15⟩,
  List.forall_mem_cons.mpr ⟨⟨sim_if_eq d100_15 (by decide), gr_If (fun x => x = 0) 40 18⟩,
  List.forall_mem_cons.mpr ⟨⟨sim_iload_n d100_18 rfl, gr_LdI 3 19⟩,
  List.forall_mem_cons.mpr ⟨⟨sim_if_lt d100_19 (by decide), gr_If (fun x => x < 0) 40 22⟩,
  List.forall_mem_cons.mpr ⟨⟨sim_iload_n d100_22 rfl, gr_LdI 3 23⟩,
  List.forall_mem_cons.mpr ⟨⟨sim_bipush d100_23 (by decide), gr_Push (.int 6) 25⟩,
  List.forall_mem_cons.mpr ⟨⟨sim_icmp_gt d100_25 (by decide), gr_Ic (fun x y => y < x) 40 28⟩,
  List.forall_mem_cons.mpr ⟨⟨sim_iload d100_28, gr_LdI 4 30⟩,
  List.forall_mem_cons.mpr ⟨⟨sim_if_lt d100_30 (by decide), gr_If (fun x => x < 0) 40 33⟩,
  List.forall_mem_cons.mpr ⟨⟨sim_iload d100_33, gr_LdI 4 35⟩,
  List.forall_mem_cons.mpr ⟨⟨sim_bipush d100_35 (by decide), gr_Push (.int 6) 37⟩,
  List.forall_mem_cons.mpr ⟨⟨sim_icmp_le d100_37 (by decide), gr_Ic (fun x y => x ≤ y) 43 40⟩,
  List.forall_mem_cons.mpr ⟨⟨sim_ldc d100_40 kw348, gr_Push (.int (-1000001)) 42⟩,
  List.forall_mem_cons.mpr ⟨⟨sim_ireturn d100_42 rfl, gr_RetI⟩,
  List.forall_mem_cons.mpr ⟨⟨sim_aload_n d100_43 rfl, gr_LdA 0 44⟩,
  List.forall_mem_cons.mpr ⟨⟨sim_getF d100_44 gf95, gr_GetF (fun k => k = 10) 0 47⟩,
  List.forall_mem_cons.mpr ⟨⟨sim_iload_n d100_47 rfl, gr_LdI 2 48⟩,
  List.forall_mem_cons.mpr ⟨⟨sim_aaload d100_48, gr_ALdA 49⟩,
  List.forall_mem_cons.mpr ⟨⟨sim_astore d100_49 (by decide), gr_StA 5 51⟩,
  List.forall_mem_cons.mpr ⟨⟨sim_aload d100_51, gr_LdA 5 53⟩,
  List.forall_mem_cons.mpr ⟨⟨sim_virtual d100_53 vk57, gr_CalV (fun k => if k = 6 then some 58 else none) 0 56⟩,
  List.forall_mem_cons.mpr ⟨⟨sim_if_eq d100_56 (by decide), gr_If (fun x => x = 0) 65 59⟩,
  List.forall_mem_cons.mpr ⟨⟨sim_aload_n d100_59 rfl, gr_LdA 0 60⟩,
  List.forall_mem_cons.mpr ⟨⟨sim_iconst d100_60 (by decide), gr_Push (.int 1) 61⟩,
  List.forall_mem_cons.mpr ⟨⟨sim_virtual d100_61 vk54, gr_CalV (fun k => if k = 10 then some 111 else none) 1 64⟩,
  List.forall_mem_cons.mpr ⟨⟨sim_ireturn d100_64 rfl, gr_RetI⟩,
  List.forall_mem_cons.mpr ⟨⟨sim_aload d100_65, gr_LdA 5 67⟩,
  List.forall_mem_cons.mpr ⟨⟨sim_iconst d100_67 (by decide), gr_Push (.int 0) 68⟩,
  List.forall_mem_cons.mpr ⟨⟨sim_iload_n d100_68 rfl, gr_LdI 3 69⟩,
  List.forall_mem_cons.mpr ⟨⟨sim_iload d100_69, gr_LdI 4 71⟩,
  List.forall_mem_cons.mpr ⟨⟨sim_iadd d100_71, gr_II (fun x y => x + y) 72⟩,
  List.forall_mem_cons.mpr ⟨⟨sim_virtual d100_72 vk58, gr_CalV (fun k => if k = 6 then some 61 else none) 2 75⟩,
  List.forall_mem_cons.mpr ⟨⟨sim_if_ne d100_75 (by decide), gr_If (fun x => ¬ x = 0) 84 78⟩,
  List.forall_mem_cons.mpr ⟨⟨sim_aload_n d100_78 rfl, gr_LdA 0 79⟩, fun _ h => absurd h List.not_mem_nil⟩⟩⟩⟩⟩⟩⟩⟩⟩⟩⟩⟩⟩⟩⟩⟩⟩⟩⟩⟩⟩⟩⟩⟩⟩⟩⟩⟩⟩⟩⟩⟩⟩⟩⟩⟩⟩⟩⟩⟩
noncomputable def pg100_1 : List (Nat × aP) := [(79, oPush (.int 2) 80),
  (80, oCalV (fun k => if k = 10 then some 111 else none) 1 83),
  (83, oRetI),
  (84, oLdA 0 85),
  (85, oGetF (fun k => k = 10) 8 88),
  (88, oLdA 0 89),
  (89, oGetF (fun k => k = 10) 2 92),
  (92, oLdA 5 94),
  (94, oLdI 3 95),
  (95, oLdI 4 97),
  (97, oCalV (fun k => if k = 2 then some 19 else none) 4 100),
  (100, oIf (fun x => ¬ x = 0) 106 103),
  (103, oPush (.int (-1000001)) 105),
  (105, oRetI),
  (106, oLdA 0 107),
  (107, oLdA 0 108),
  (108, oGetF (fun k => k = 10) 8 111),
  (111, oLdA 0 112),
  (112, oGetF (fun k => k = 10) 2 115),
  (115, oLdI 1 116),
  (116, oCalV (fun k => if k = 2 then some 20 else none) 2 119),
  (119, oCalV (fun k => if k = 10 then some 112 else none) 1 122),
  (122, oRetI)]
theorem ok100_1 : ∀ q ∈ pg100_1, Sim mT mt100 q.1 q.2 ∧ Grow q.2 :=
  List.forall_mem_cons.mpr ⟨⟨sim_iconst d100_79 (by decide), gr_Push (.int 2) 80⟩,
  List.forall_mem_cons.mpr ⟨⟨sim_virtual d100_80 vk54, gr_CalV (fun k => if k = 10 then some 111 else none) 1 83⟩,
  List.forall_mem_cons.mpr ⟨⟨sim_ireturn d100_83 rfl, gr_RetI⟩,
  List.forall_mem_cons.mpr ⟨⟨sim_aload_n d100_84 rfl, gr_LdA 0 85⟩,
  List.forall_mem_cons.mpr ⟨⟨sim_getF d100_85 gf124, gr_GetF (fun k => k = 10) 8 88⟩,
  List.forall_mem_cons.mpr ⟨⟨sim_aload_n d100_88 rfl, gr_LdA 0 89⟩,
  List.forall_mem_cons.mpr ⟨⟨sim_getF d100_89 gf106, gr_GetF (fun k => k = 10) 2 92⟩,
  List.forall_mem_cons.mpr ⟨⟨sim_aload d100_92, gr_LdA 5 94⟩,
  List.forall_mem_cons.mpr ⟨⟨sim_iload_n d100_94 rfl, gr_LdI 3 95⟩,
  List.forall_mem_cons.mpr ⟨⟨sim_iload d100_95, gr_LdI 4 97⟩,
  List.forall_mem_cons.mpr ⟨⟨sim_virtual d100_97 vk85, gr_CalV (fun k => if k = 2 then some 19 else none) 4 100⟩,
  List.forall_mem_cons.mpr ⟨⟨sim_if_ne d100_100 (by decide), gr_If (fun x => ¬ x = 0) 106 103⟩,
  List.forall_mem_cons.mpr ⟨⟨sim_ldc d100_103 kw348, gr_Push (.int (-1000001)) 105⟩,
  List.forall_mem_cons.mpr ⟨⟨sim_ireturn d100_105 rfl, gr_RetI⟩,
  List.forall_mem_cons.mpr ⟨⟨sim_aload_n d100_106 rfl, gr_LdA 0 107⟩,
  List.forall_mem_cons.mpr ⟨⟨sim_aload_n d100_107 rfl, gr_LdA 0 108⟩,
  List.forall_mem_cons.mpr ⟨⟨sim_getF d100_108 gf124, gr_GetF (fun k => k = 10) 8 111⟩,
  List.forall_mem_cons.mpr ⟨⟨sim_aload_n d100_111 rfl, gr_LdA 0 112⟩,
  List.forall_mem_cons.mpr ⟨⟨sim_getF d100_112 gf106, gr_GetF (fun k => k = 10) 2 115⟩,
  List.forall_mem_cons.mpr ⟨⟨sim_iload_n d100_115 rfl, gr_LdI 1 116⟩,
  List.forall_mem_cons.mpr ⟨⟨sim_virtual d100_116 vk86, gr_CalV (fun k => if k = 2 then some 20 else none) 2 119⟩,
  List.forall_mem_cons.mpr ⟨⟨sim_virtual d100_119 vk56, gr_CalV (fun k => if k = 10 then some 112 else none) 1 122⟩,
  List.forall_mem_cons.mpr ⟨⟨sim_ireturn d100_122 rfl, gr_RetI⟩, fun _ h => absurd h List.not_mem_nil⟩⟩⟩⟩⟩⟩⟩⟩⟩⟩⟩⟩⟩⟩⟩⟩⟩⟩⟩⟩⟩⟩⟩
noncomputable def pg100 : List (Nat × aP) := pg100_0 ++ (pg100_1)
theorem ok100 : ∀ q ∈ pg100, Sim mT mt100 q.1 q.2 ∧ Grow q.2 := List.forall_mem_append.mpr ⟨ok100_0, ok100_1⟩
theorem d101_0 : decode mt101.2.1 0 = .ok (.iload_n 1, 1) := by decide +kernel
theorem d101_1 : decode mt101.2.1 1 = .ok (.ifCond .lt 8, 3) := by decide +kernel
theorem d101_4 : decode mt101.2.1 4 = .ok (.iload_n 1, 1) := by decide +kernel
theorem d101_5 : decode mt101.2.1 5 = .ok (.iconst 2, 1) := by decide +kernel
theorem d101_6 : decode mt101.2.1 6 = .ok (.if_icmp .lt 6, 3) := by decide +kernel
theorem d101_9 : decode mt101.2.1 9 = .ok (.ldc 76, 2) := by decide +kernel
theorem d101_11 : decode mt101.2.1 11 = .ok (.ireturn, 1) := by decide +kernel
theorem d101_12 : decode mt101.2.1 12 = .ok (.aload_n 0, 1) := by decide +kernel
theorem d101_13 : decode mt101.2.1 13 = .ok (.getfield 25, 3) := by decide +kernel
theorem d101_16 : decode mt101.2.1 16 = .ok (.invokevirtual 282, 3) := by decide +kernel
theorem d101_19 : decode mt101.2.1 19 = .ok (.ifCond .ne 6, 3) := by decide +kernel
theorem d101_22 : decode mt101.2.1 22 = .ok (.ldc 181, 2) := by decide +kernel
theorem d101_24 : decode mt101.2.1 24 = .ok (.ireturn, 1) := by decide +kernel
theorem d101_25 : decode mt101.2.1 25 = .ok (.aload_n 0, 1) := by decide +kernel
theorem d101_26 : decode mt101.2.1 26 = .ok (.getfield 29, 3) := by decide +kernel
theorem d101_29 : decode mt101.2.1 29 = .ok (.iload_n 1, 1) := by decide +kernel
theorem d101_30 : decode mt101.2.1 30 = .ok (.aaload, 1) := by decide +kernel
theorem d101_31 : decode mt101.2.1 31 = .ok (.aload_n 0, 1) := by decide +kernel
theorem d101_32 : decode mt101.2.1 32 = .ok (.getfield 25, 3) := by decide +kernel
theorem d101_35 : decode mt101.2.1 35 = .ok (.invokevirtual 150, 3) := by decide +kernel
theorem d101_38 : decode mt101.2.1 38 = .ok (.iconst 1, 1) := by decide +kernel
theorem d101_39 : decode mt101.2.1 39 = .ok (.ireturn, 1) := by decide +kernel
noncomputable def pg101_0 : List (Nat × aP) := [(0, oLdI 1 1),
  (1, oIf (fun x => x < 0) 9 4),
  (4, oLdI 1 5),
  (5, oPush (.int 2) 6),
  (6, oIc (fun x y => x < y) 12 9),
  (9, oPush (.int (-1000001)) 11),
  (11, oRetI),
  (12, oLdA 0 13),
  (13, oGetF (fun k => k = 10) 2 16),
  (16, oCalV (fun k => if k = 3 then some 25 else none) 0 19),
  (19, oIf (fun x => ¬ x = 0) 25 22),
  (22, oPush (.int (-1000002)) 24),
  (24, oRetI),
  (25, oLdA 0 26),
  (26, oGetF (fun k => k = 10) 3 29),
  (29, oLdI 1 30),
  (30, oALdA 31),
  (31, oLdA 0 32),
  (32, oGetF (fun k => k = 10) 2 35),
  (35, oCalV (fun k => if k = 3 then some 24 else none) 1 38),
  (38, oPush (.int 1) 39),
  (39, oRetI)]
theorem ok101_0 : ∀ q ∈ pg101_0, Sim mT mt101 q.1 q.2 ∧ Grow q.2 :=
  List.forall_mem_cons.mpr ⟨⟨sim_iload_n d101_0 rfl, gr_LdI 1 1⟩,
  List.forall_mem_cons.mpr ⟨⟨sim_if_lt d101_1 (by decide), gr_If (fun x => x < 0) 9 4⟩,
  List.forall_mem_cons.mpr ⟨⟨sim_iload_n d101_4 rfl, gr_LdI 1 5⟩,
  List.forall_mem_cons.mpr ⟨⟨sim_iconst d101_5 (by decide), gr_Push (.int 2) 6⟩,
  List.forall_mem_cons.mpr ⟨⟨sim_icmp_lt d101_6 (by decide), gr_Ic (fun x y => x < y) 12 9⟩,
  List.forall_mem_cons.mpr ⟨⟨sim_ldc d101_9 kw348, gr_Push (.int (-1000001)) 11⟩,
  List.forall_mem_cons.mpr ⟨⟨sim_ireturn d101_11 rfl, gr_RetI⟩,
  List.forall_mem_cons.mpr ⟨⟨sim_aload_n d101_12 rfl, gr_LdA 0 13⟩,
  List.forall_mem_cons.mpr ⟨⟨sim_getF d101_13 gf106, gr_GetF (fun k => k = 10) 2 16⟩,
  List.forall_mem_cons.mpr ⟨⟨sim_virtual d101_16 vk87, gr_CalV (fun k => if k = 3 then some 25 else none) 0 19⟩,
  List.forall_mem_cons.mpr ⟨⟨sim_if_ne d101_19 (by decide), gr_If (fun x => ¬ x = 0) 25 22⟩,
  List.forall_mem_cons.mpr ⟨⟨sim_ldc d101_22 kw646, gr_Push (.int (-1000002)) 24⟩,
  List.forall_mem_cons.mpr ⟨⟨sim_ireturn d101_24 rfl, gr_RetI⟩,
  List.forall_mem_cons.mpr ⟨⟨sim_aload_n d101_25 rfl, gr_LdA 0 26⟩,
  List.forall_mem_cons.mpr ⟨⟨sim_getF d101_26 gf96, gr_GetF (fun k => k = 10) 3 29⟩,
  List.forall_mem_cons.mpr ⟨⟨sim_iload_n d101_29 rfl, gr_LdI 1 30⟩,
  List.forall_mem_cons.mpr ⟨⟨sim_aaload d101_30, gr_ALdA 31⟩,
  List.forall_mem_cons.mpr ⟨⟨sim_aload_n d101_31 rfl, gr_LdA 0 32⟩,
  List.forall_mem_cons.mpr ⟨⟨sim_getF d101_32 gf106, gr_GetF (fun k => k = 10) 2 35⟩,
  List.forall_mem_cons.mpr ⟨⟨sim_virtual d101_35 vk63, gr_CalV (fun k => if k = 3 then some 24 else none) 1 38⟩,
  List.forall_mem_cons.mpr ⟨⟨sim_iconst d101_38 (by decide), gr_Push (.int 1) 39⟩,
  List.forall_mem_cons.mpr ⟨⟨sim_ireturn d101_39 rfl, gr_RetI⟩, fun _ h => absurd h List.not_mem_nil⟩⟩⟩⟩⟩⟩⟩⟩⟩⟩⟩⟩⟩⟩⟩⟩⟩⟩⟩⟩⟩⟩
noncomputable def pg101 : List (Nat × aP) := pg101_0
theorem ok101 : ∀ q ∈ pg101, Sim mT mt101 q.1 q.2 ∧ Grow q.2 := ok101_0
theorem d102_0 : decode mt102.2.1 0 = .ok (.iload_n 1, 1) := by decide +kernel
theorem d102_1 : decode mt102.2.1 1 = .ok (.ifCond .lt 8, 3) := by decide +kernel
theorem d102_4 : decode mt102.2.1 4 = .ok (.iload_n 1, 1) := by decide +kernel
theorem d102_5 : decode mt102.2.1 5 = .ok (.iconst 2, 1) := by decide +kernel
theorem d102_6 : decode mt102.2.1 6 = .ok (.if_icmp .lt 6, 3) := by decide +kernel
theorem d102_9 : decode mt102.2.1 9 = .ok (.ldc 76, 2) := by decide +kernel
theorem d102_11 : decode mt102.2.1 11 = .ok (.ireturn, 1) := by decide +kernel
theorem d102_12 : decode mt102.2.1 12 = .ok (.aload_n 0, 1) := by decide +kernel
theorem d102_13 : decode mt102.2.1 13 = .ok (.getfield 29, 3) := by decide +kernel
theorem d102_16 : decode mt102.2.1 16 = .ok (.iload_n 1, 1) := by decide +kernel
theorem d102_17 : decode mt102.2.1 17 = .ok (.aaload, 1) := by decide +kernel
theorem d102_18 : decode mt102.2.1 18 = .ok (.invokevirtual 282, 3) := by decide +kernel
theorem d102_21 : decode mt102.2.1 21 = .ok (.ifCond .ne 6, 3) := by decide +kernel
theorem d102_24 : decode mt102.2.1 24 = .ok (.ldc 181, 2) := by decide +kernel
theorem d102_26 : decode mt102.2.1 26 = .ok (.ireturn, 1) := by decide +kernel
theorem d102_27 : decode mt102.2.1 27 = .ok (.aload_n 0, 1) := by decide +kernel
theorem d102_28 : decode mt102.2.1 28 = .ok (.getfield 25, 3) := by decide +kernel
theorem d102_31 : decode mt102.2.1 31 = .ok (.aload_n 0, 1) := by decide +kernel
theorem d102_32 : decode mt102.2.1 32 = .ok (.getfield 29, 3) := by decide +kernel
theorem d102_35 : decode mt102.2.1 35 = .ok (.iload_n 1, 1) := by decide +kernel
theorem d102_36 : decode mt102.2.1 36 = .ok (.aaload, 1) := by decide +kernel
theorem d102_37 : decode mt102.2.1 37 = .ok (.invokevirtual 150, 3) := by decide +kernel
theorem d102_40 : decode mt102.2.1 40 = .ok (.aload_n 0, 1) := by decide +kernel
theorem d102_41 : decode mt102.2.1 41 = .ok (.getfield 43, 3) := by decide +kernel
theorem d102_44 : decode mt102.2.1 44 = .ok (.invokevirtual 154, 3) := by decide +kernel
theorem d102_47 : decode mt102.2.1 47 = .ok (.iconst 1, 1) := by decide +kernel
theorem d102_48 : decode mt102.2.1 48 = .ok (.ireturn, 1) := by decide +kernel
noncomputable def pg102_0 : List (Nat × aP) := [(0, oLdI 1 1),
  (1, oIf (fun x => x < 0) 9 4),
  (4, oLdI 1 5),
  (5, oPush (.int 2) 6),
  (6, oIc (fun x y => x < y) 12 9),
  (9, oPush (.int (-1000001)) 11),
  (11, oRetI),
  (12, oLdA 0 13),
  (13, oGetF (fun k => k = 10) 3 16),
  (16, oLdI 1 17),
  (17, oALdA 18),
  (18, oCalV (fun k => if k = 3 then some 25 else none) 0 21),
  (21, oIf (fun x => ¬ x = 0) 27 24),
  (24, oPush (.int (-1000002)) 26),
  (26, oRetI),
  (27, oLdA 0 28),
  (28, oGetF (fun k => k = 10) 2 31),
  (31, oLdA 0 32),
  (32, oGetF (fun k => k = 10) 3 35),
  (35, oLdI 1 36),
  (36, oALdA 37),
  (37, oCalV (fun k => if k = 3 then some 24 else none) 1 40),
  (40, oLdA 0 41),
  (41, oGetF (fun k => k = 10) 5 44),
  (44, oCalV (fun k => if k = 1 then some 13 else none) 0 47),
  (47, oPush (.int 1) 48),
  (48, oRetI)]
theorem ok102_0 : ∀ q ∈ pg102_0, Sim mT mt102 q.1 q.2 ∧ Grow q.2 :=
  List.forall_mem_cons.mpr ⟨⟨sim_iload_n d102_0 rfl, gr_LdI 1 1⟩,
  List.forall_mem_cons.mpr ⟨⟨sim_if_lt d102_1 (by decide), gr_If (fun x => x < 0) 9 4⟩,
  List.forall_mem_cons.mpr ⟨⟨sim_iload_n d102_4 rfl, gr_LdI 1 5⟩,
  List.forall_mem_cons.mpr ⟨⟨sim_iconst d102_5 (by decide), gr_Push (.int 2) 6⟩,
  List.forall_mem_cons.mpr ⟨⟨sim_icmp_lt d102_6 (by decide), gr_Ic (fun x y => x < y) 12 9⟩,
  List.forall_mem_cons.mpr ⟨⟨sim_ldc d102_9 kw348, gr_Push (.int (-1000001)) 11⟩,
  List.forall_mem_cons.mpr ⟨⟨sim_ireturn d102_11 rfl, gr_RetI⟩,
  List.forall_mem_cons.mpr ⟨⟨sim_aload_n d102_12 rfl, gr_LdA 0 13⟩,
  List.forall_mem_cons.mpr ⟨⟨sim_getF d102_13 gf96, gr_GetF (fun k => k = 10) 3 16⟩,
  List.forall_mem_cons.mpr ⟨⟨sim_iload_n d102_16 rfl, gr_LdI 1 17⟩,
  List.forall_mem_cons.mpr ⟨⟨sim_aaload d102_17, gr_ALdA 18⟩,
  List.forall_mem_cons.mpr ⟨⟨sim_virtual d102_18 vk87, gr_CalV (fun k => if k = 3 then some 25 else none) 0 21⟩,
  List.forall_mem_cons.mpr ⟨⟨sim_if_ne d102_21 (by decide), gr_If (fun x => ¬ x = 0) 27 24⟩,
  List.forall_mem_cons.mpr ⟨⟨sim_ldc d102_24 kw646, gr_Push (.int (-1000002)) 26⟩,
  List.forall_mem_cons.mpr ⟨⟨sim_ireturn d102_26 rfl, gr_RetI⟩,
  List.forall_mem_cons.mpr ⟨⟨sim_aload_n d102_27 rfl, gr_LdA 0 28⟩,
  List.forall_mem_cons.mpr ⟨⟨sim_getF d102_28 gf106, gr_GetF (fun k => k = 10) 2 31⟩,
  List.forall_mem_cons.mpr ⟨⟨sim_aload_n d102_31 rfl, gr_LdA 0 32⟩,
  List.forall_mem_cons.mpr ⟨⟨sim_getF d102_32 gf96, gr_GetF (fun k => k = 10) 3 35⟩,
  List.forall_mem_cons.mpr ⟨⟨sim_iload_n d102_35 rfl, gr_LdI 1 36⟩,
  List.forall_mem_cons.mpr ⟨⟨sim_aaload d102_36, gr_ALdA 37⟩,
  List.forall_mem_cons.mpr ⟨⟨sim_virtual d102_37 vk63, gr_CalV (fun k => if k = 3 then some 24 else none) 1 40⟩,
  List.forall_mem_cons.mpr ⟨⟨sim_aload_n d102_40 rfl, gr_LdA 0 41⟩,
  List.forall_mem_cons.mpr ⟨⟨sim_getF d102_41 gf108, gr_GetF (fun k => k = 10) 5 44⟩,
  List.forall_mem_cons.mpr ⟨⟨sim_virtual d102_44 vk64, gr_CalV (fun k => if k = 1 then some 13 else none) 0 47⟩,
  List.forall_mem_cons.mpr ⟨⟨sim_iconst d102_47 (by decide), gr_Push (.int 1) 48⟩,
  List.forall_mem_cons.mpr ⟨⟨sim_ireturn d102_48 rfl, gr_RetI⟩, fun _ h => absurd h List.not_mem_nil⟩⟩⟩⟩⟩⟩⟩⟩⟩⟩⟩⟩⟩⟩⟩⟩⟩⟩⟩⟩⟩⟩⟩⟩⟩⟩⟩
noncomputable def pg102 : List (Nat × aP) := pg102_0
theorem ok102 : ∀ q ∈ pg102, Sim mT mt102 q.1 q.2 ∧ Grow q.2 := ok102_0
theorem d103_0 : decode mt103.2.1 0 = .ok (.aload_n 0, 1) := by decide +kernel
theorem d103_1 : decode mt103.2.1 1 = .ok (.getfield 25, 3) := by decide +kernel
theorem d103_4 : decode mt103.2.1 4 = .ok (.iload_n 1, 1) := by decide +kernel
theorem d103_5 : decode mt103.2.1 5 = .ok (.invokevirtual 212, 3) := by decide +kernel
theorem d103_8 : decode mt103.2.1 8 = .ok (.ifCond .eq 17, 3) := by decide +kernel
theorem d103_11 : decode mt103.2.1 11 = .ok (.aload_n 0, 1) := by decide +kernel
theorem d103_12 : decode mt103.2.1 12 = .ok (.getfield 25, 3) := by decide +kernel
theorem d103_15 : decode mt103.2.1 15 = .ok (.iload_n 1, 1) := by decide +kernel
theorem d103_16 : decode mt103.2.1 16 = .ok (.invokestatic 215, 3) := by decide +kernel
theorem d103_19 : decode mt103.2.1 19 = .ok (.invokevirtual 285, 3) := by decide +kernel
theorem d103_22 : decode mt103.2.1 22 = .ok (.goto 5, 3) := by decide +kernel
theorem d103_25 : decode mt103.2.1 25 = .ok (.ldc 76, 2) := by decide +kernel
theorem d103_27 : decode mt103.2.1 27 = .ok (.ireturn, 1) := by decide +kernel
noncomputable def pg103_0 : List (Nat × aP) := [(0, oLdA 0 1),
  (1, oGetF (fun k => k = 10) 2 4),
  (4, oLdI 1 5),
  (5, oCalV (fun k => if k = 3 then some 29 else none) 1 8),
  (8, oIf (fun x => x = 0) 25 11),
  (11, oLdA 0 12),
  (12, oGetF (fun k => k = 10) 2 15),
  (15, oLdI 1 16),
  (16, oCall 123 1 19),
  (19, oCalV (fun k => if k = 3 then some 39 else none) 1 22),
  (22, oGo 27),
  (25, oPush (.int (-1000001)) 27),
  (27, oRetI)]
theorem ok103_0 : ∀ q ∈ pg103_0, Sim mT mt103 q.1 q.2 ∧ Grow q.2 :=
  List.forall_mem_cons.mpr ⟨⟨sim_aload_n d103_0 rfl, gr_LdA 0 1⟩,
  List.forall_mem_cons.mpr ⟨⟨sim_getF d103_1 gf106, gr_GetF (fun k => k = 10) 2 4⟩,
  List.forall_mem_cons.mpr ⟨⟨sim_iload_n d103_4 rfl, gr_LdI 1 5⟩,
  List.forall_mem_cons.mpr ⟨⟨sim_virtual d103_5 vk74, gr_CalV (fun k => if k = 3 then some 29 else none) 1 8⟩,
  List.forall_mem_cons.mpr ⟨⟨sim_if_eq d103_8 (by decide), gr_If (fun x => x = 0) 25 11⟩,
  List.forall_mem_cons.mpr ⟨⟨sim_aload_n d103_11 rfl, gr_LdA 0 12⟩,
  List.forall_mem_cons.mpr ⟨⟨sim_getF d103_12 gf106, gr_GetF (fun k => k = 10) 2 15⟩,
  List.forall_mem_cons.mpr ⟨⟨sim_iload_n d103_15 rfl, gr_LdI 1 16⟩,
  List.forall_mem_cons.mpr ⟨⟨sim_static (y := 123) d103_16 (Or.inl kw669) kw670 mo123, gr_Call 123 1 19⟩,
  List.forall_mem_cons.mpr ⟨⟨sim_virtual d103_19 vk88, gr_CalV (fun k => if k = 3 then some 39 else none) 1 22⟩,
  List.forall_mem_cons.mpr ⟨⟨sim_goto d103_22 (by decide), gr_Go 27⟩,
  List.forall_mem_cons.mpr ⟨⟨sim_ldc d103_25 kw348, gr_Push (.int (-1000001)) 27⟩,
  List.forall_mem_cons.mpr ⟨⟨sim_ireturn d103_27 rfl, gr_RetI⟩, fun _ h => absurd h List.not_mem_nil⟩⟩⟩⟩⟩⟩⟩⟩⟩⟩⟩⟩⟩
noncomputable def pg103 : List (Nat × aP) := pg103_0
theorem ok103 : ∀ q ∈ pg103, Sim mT mt103 q.1 q.2 ∧ Grow q.2 := ok103_0
theorem d104_0 : decode mt104.2.1 0 = .ok (.aload_n 0, 1) := by decide +kernel
theorem d104_1 : decode mt104.2.1 1 = .ok (.getfield 25, 3) := by decide +kernel
theorem d104_4 : decode mt104.2.1 4 = .ok (.iload_n 1, 1) := by decide +kernel
theorem d104_5 : decode mt104.2.1 5 = .ok (.invokevirtual 212, 3) := by decide +kernel
theorem d104_8 : decode mt104.2.1 8 = .ok (.ifCond .eq 13, 3) := by decide +kernel
theorem d104_11 : decode mt104.2.1 11 = .ok (.iload_n 2, 1) := by decide +kernel
theorem d104_12 : decode mt104.2.1 12 = .ok (.ifCond .lt 9, 3) := by decide +kernel
theorem d104_15 : decode mt104.2.1 15 = .ok (.iload_n 2, 1) := by decide +kernel
theorem d104_16 : decode mt104.2.1 16 = .ok (.bipush 6, 2) := by decide +kernel
theorem d104_18 : decode mt104.2.1 18 = .ok (.if_icmp .lt 6, 3) := by decide +kernel
theorem d104_21 : decode mt104.2.1 21 = .ok (.ldc 76, 2) := by decide +kernel
theorem d104_23 : decode mt104.2.1 23 = .ok (.ireturn, 1) := by decide +kernel
theorem d104_24 : decode mt104.2.1 24 = .ok (.aload_n 0, 1) := by decide +kernel
theorem d104_25 : decode mt104.2.1 25 = .ok (.getfield 25, 3) := by decide +kernel
theorem d104_28 : decode mt104.2.1 28 = .ok (.iload_n 1, 1) := by decide +kernel
theorem d104_29 : decode mt104.2.1 29 = .ok (.invokestatic 215, 3) := by decide +kernel
theorem d104_32 : decode mt104.2.1 32 = .ok (.invokevirtual 285, 3) := by decide +kernel
theorem d104_35 : decode mt104.2.1 35 = .ok (.iload_n 2, 1) := by decide +kernel
theorem d104_36 : decode mt104.2.1 36 = .ok (.invokestatic 288, 3) := by decide +kernel
theorem d104_39 : decode mt104.2.1 39 = .ok (.ifCond .eq 11, 3) := by decide +kernel
theorem d104_42 : decode mt104.2.1 42 = .ok (.aload_n 0, 1) := by decide +kernel
theorem d104_43 : decode mt104.2.1 43 = .ok (.iload_n 1, 1) := by decide +kernel
theorem d104_44 : decode mt104.2.1 44 = .ok (.invokevirtual 85, 3) := by decide +kernel
theorem d104_47 : decode mt104.2.1 47 = .ok (.goto 8, 3) := by decide +kernel
theorem d104_50 : decode mt104.2.1 50 = .ok (.aload_n 0, 1) := by decide +kernel
theorem d104_51 : decode mt104.2.1 51 = .ok (.iconst 3, 1) := by decide +kernel
theorem d104_52 : decode mt104.2.1 52 = .ok (.invokevirtual 77, 3) := by decide +kernel
theorem d104_55 : decode mt104.2.1 55 = .ok (.ireturn, 1) := by decide +kernel
noncomputable def pg104_0 : List (Nat × aP) := [(0, oLdA 0 1),
  (1, oGetF (fun k => k = 10) 2 4),
  (4, oLdI 1 5),
  (5, oCalV (fun k => if k = 3 then some 29 else none) 1 8),
  (8, oIf (fun x => x = 0) 21 11),
  (11, oLdI 2 12),
  (12, oIf (fun x => x < 0) 21 15),
  (15, oLdI 2 16),
  (16, oPush (.int 6) 18),
  (18, oIc (fun x y => x < y) 24 21),
  (21, oPush (.int (-1000001)) 23),
  (23, oRetI),
  (24, oLdA 0 25),
  (25, oGetF (fun k => k = 10) 2 28),
  (28, oLdI 1 29),
  (29, oCall 123 1 32),
  (32, oCalV (fun k => if k = 3 then some 39 else none) 1 35),
  (35, oLdI 2 36),
  (36, oCall 128 2 39),
  (39, oIf (fun x => x = 0) 50 42),
  (42, oLdA 0 43),
  (43, oLdI 1 44),
  (44, oCalV (fun k => if k = 10 then some 112 else none) 1 47),
  (47, oGo 55),
  (50, oLdA 0 51),
  (51, oPush (.int 3) 52),
  (52, oCalV (fun k => if k = 10 then some 111 else none) 1 55),
  (55, oRetI)]
theorem ok104_0 : ∀ q ∈ pg104_0, Sim mT mt104 q.1 q.2 ∧ Grow q.2 :=
  List.forall_mem_cons.mpr ⟨⟨sim_aload_n d104_0 rfl, gr_LdA 0 1⟩,
  List.forall_mem_cons.mpr ⟨⟨sim_getF d104_1 gf106, gr_GetF (fun k => k = 10) 2 4⟩,
  List.forall_mem_cons.mpr ⟨⟨sim_iload_n d104_4 rfl, gr_LdI 1 5⟩,
  List.forall_mem_cons.mpr ⟨⟨sim_virtual d104_5 vk74, gr_CalV (fun k => if k = 3 then some 29 else none) 1 8⟩,
  List.forall_mem_cons.mpr ⟨⟨sim_if_eq d104_8 (by decide), gr_If (fun x => x = 0) 21 11⟩,
  List.forall_mem_cons.mpr ⟨⟨sim_iload_n d104_11 rfl, gr_LdI 2 12⟩,
  List.forall_mem_cons.mpr ⟨⟨sim_if_lt d104_12 (by decide), gr_If (fun x => x < 0) 21 15⟩,
  List.forall_mem_cons.mpr ⟨⟨sim_iload_n d104_15 rfl, gr_LdI 2 16⟩,
  List.forall_mem_cons.mpr ⟨⟨sim_bipush d104_16 (by decide), gr_Push (.int 6) 18⟩,
  List.forall_mem_cons.mpr ⟨⟨sim_icmp_lt d104_18 (by decide), gr_Ic (fun x y => x < y) 24 21⟩,
  List.forall_mem_cons.mpr ⟨⟨sim_ldc d104_21 kw348, gr_Push (.int (-1000001)) 23⟩,
  List.forall_mem_cons.mpr ⟨⟨sim_ireturn d104_23 rfl, gr_RetI⟩,
  List.forall_mem_cons.mpr ⟨⟨sim_aload_n d104_24 rfl, gr_LdA 0 25⟩,
  List.forall_mem_cons.mpr ⟨⟨sim_getF d104_25 gf106, gr_GetF (fun k => k = 10) 2 28⟩,
  List.forall_mem_cons.mpr ⟨⟨sim_iload_n d104_28 rfl, gr_LdI 1 29⟩,
  List.forall_mem_cons.mpr ⟨⟨sim_static (y := 123) d104_29 (Or.inl kw669) kw670 mo123, gr_Call 123 1 32⟩,
  List.forall_mem_cons.mpr ⟨⟨sim_virtual d104_32 vk88, gr_CalV (fun k => if k = 3 then some 39 else none) 1 35⟩,
  List.forall_mem_cons.mpr ⟨⟨sim_iload_n d104_35 rfl, gr_LdI 2 36⟩,
  List.forall_mem_cons.mpr ⟨⟨sim_static (y := 128) d104_36 (Or.inl kw843) kw844 mo128, gr_Call 128 2 39⟩,
  List.forall_mem_cons.mpr ⟨⟨sim_if_eq d104_39 (by decide), gr_If (fun x => x = 0) 50 42⟩,
  List.forall_mem_cons.mpr ⟨⟨sim_aload_n d104_42 rfl, gr_LdA 0 43⟩,
  List.forall_mem_cons.mpr ⟨⟨sim_iload_n d104_43 rfl, gr_LdI 1 44⟩,
  List.forall_mem_cons.mpr ⟨⟨sim_virtual d104_44 vk56, gr_CalV (fun k => if k = 10 then some 112 else none) 1 47⟩,
  List.forall_mem_cons.mpr ⟨⟨sim_goto d104_47 (by decide), gr_Go 55⟩,
  List.forall_mem_cons.mpr ⟨⟨sim_aload_n d104_50 rfl, gr_LdA 0 51⟩,
  List.forall_mem_cons.mpr ⟨⟨sim_iconst d104_51 (by decide), gr_Push (.int 3) 52⟩,
  List.forall_mem_cons.mpr ⟨⟨sim_virtual d104_52 vk54, gr_CalV (fun k => if k = 10 then some 111 else none) 1 55⟩,
  List.forall_mem_cons.mpr ⟨⟨sim_ireturn d104_55 rfl, gr_RetI⟩, fun _ h => absurd h List.not_mem_nil⟩⟩⟩⟩⟩⟩⟩⟩⟩⟩⟩⟩⟩⟩⟩⟩⟩⟩⟩⟩⟩⟩⟩⟩⟩⟩⟩⟩
noncomputable def pg104 : List (Nat × aP) := pg104_0
theorem ok104 : ∀ q ∈ pg104, Sim mT mt104 q.1 q.2 ∧ Grow q.2 := ok104_0
theorem d105_0 : decode mt105.2.1 0 = .ok (.aload_n 0, 1) := by decide +kernel
theorem d105_1 : decode mt105.2.1 1 = .ok (.getfield 25, 3) := by decide +kernel
theorem d105_4 : decode mt105.2.1 4 = .ok (.iload_n 1, 1) := by decide +kernel
theorem d105_5 : decode mt105.2.1 5 = .ok (.invokevirtual 212, 3) := by decide +kernel
theorem d105_8 : decode mt105.2.1 8 = .ok (.ifCond .eq 12, 3) := by decide +kernel
theorem d105_11 : decode mt105.2.1 11 = .ok (.iload_n 2, 1) := by decide +kernel
theorem d105_12 : decode mt105.2.1 12 = .ok (.ifCond .lt 8, 3) := by decide +kernel
theorem d105_15 : decode mt105.2.1 15 = .ok (.iload_n 2, 1) := by decide +kernel
theorem d105_16 : decode mt105.2.1 16 = .ok (.iconst 1, 1) := by decide +kernel
theorem d105_17 : decode mt105.2.1 17 = .ok (.if_icmp .le 6, 3) := by decide +kernel
theorem d105_20 : decode mt105.2.1 20 = .ok (.ldc 76, 2) := by decide +kernel
theorem d105_22 : decode mt105.2.1 22 = .ok (.ireturn, 1) := by decide +kernel
theorem d105_23 : decode mt105.2.1 23 = .ok (.aload_n 0, 1) := by decide +kernel
theorem d105_24 : decode mt105.2.1 24 = .ok (.getfield 67, 3) := by decide +kernel
theorem d105_27 : decode mt105.2.1 27 = .ok (.aload_n 0, 1) := by decide +kernel
theorem d105_28 : decode mt105.2.1 28 = .ok (.getfield 25, 3) := by decide +kernel
theorem d105_31 : decode mt105.2.1 31 = .ok (.iload_n 1, 1) := by decide +kernel
theorem d105_32 : decode mt105.2.1 32 = .ok (.invokevirtual 291, 3) := by decide +kernel
theorem d105_35 : decode mt105.2.1 35 = .ok (.iload_n 2, 1) := by decide +kernel
theorem d105_36 : decode mt105.2.1 36 = .ok (.ifCond .ne 13, 3) := by decide +kernel
theorem d105_39 : decode mt105.2.1 39 = .ok (.aload_n 0, 1) := by decide +kernel
theorem d105_40 : decode mt105.2.1 40 = .ok (.getfield 67, 3) := by decide +kernel
theorem d105_43 : decode mt105.2.1 43 = .ok (.invokevirtual 293, 3) := by decide +kernel
theorem d105_46 : decode mt105.2.1 46 = .ok (.goto 10, 3) := by decide +kernel
theorem d105_49 : decode mt105.2.1 49 = .ok (.aload_n 0, 1) := by decide +kernel
theorem d105_50 : decode mt105.2.1 50 = .ok (.getfield 67, 3) := by decide +kernel
theorem d105_53 : decode mt105.2.1 53 = .ok (.invokevirtual 297, 3) := by decide +kernel
theorem d105_56 : decode mt105.2.1 56 = .ok (.ireturn, 1) := by decide +kernel
noncomputable def pg105_0 : List (Nat × aP) := [(0, oLdA 0 1),
  (1, oGetF (fun k => k = 10) 2 4),
  (4, oLdI 1 5),
  (5, oCalV (fun k => if k = 3 then some 29 else none) 1 8),
  (8, oIf (fun x => x = 0) 20 11),
  (11, oLdI 2 12),
  (12, oIf (fun x => x < 0) 20 15),
  (15, oLdI 2 16),
  (16, oPush (.int 1) 17),
  (17, oIc (fun x y => x ≤ y) 23 20),
  (20, oPush (.int (-1000001)) 22),
  (22, oRetI),
  (23, oLdA 0 24),
  (24, oGetF (fun k => k = 10) 9 27),
  (27, oLdA 0 28),
  (28, oGetF (fun k => k = 10) 2 31),
  (31, oLdI 1 32),
  (32, oCalV (fun k => if k = 0 then some 1 else none) 2 35),
  (35, oLdI 2 36),
  (36, oIf (fun x => ¬ x = 0) 49 39),
  (39, oLdA 0 40),
  (40, oGetF (fun k => k = 10) 9 43),
  (43, oCalV (fun k => if k = 0 then some 3 else none) 0 46),
  (46, oGo 56),
  (49, oLdA 0 50),
  (50, oGetF (fun k => k = 10) 9 53),
  (53, oCalV (fun k => if k = 0 then some 9 else none) 0 56),
  (56, oRetI)]
theorem ok105_0 : ∀ q ∈ pg105_0, Sim mT mt105 q.1 q.2 ∧ Grow q.2 :=
  List.forall_mem_cons.mpr ⟨⟨sim_aload_n d105_0 rfl, gr_LdA 0 1⟩,
  List.forall_mem_cons.mpr ⟨⟨sim_getF d105_1 gf106, gr_GetF (fun k => k = 10) 2 4⟩,
  List.forall_mem_cons.mpr ⟨⟨sim_iload_n d105_4 rfl, gr_LdI 1 5⟩,
  List.forall_mem_cons.mpr ⟨⟨sim_virtual d105_5 vk74, gr_CalV (fun k => if k = 3 then some 29 else none) 1 8⟩,
  List.forall_mem_cons.mpr ⟨⟨sim_if_eq d105_8 (by decide), gr_If (fun x => x = 0) 20 11⟩,
  List.forall_mem_cons.mpr ⟨⟨sim_iload_n d105_11 rfl, gr_LdI 2 12⟩,
  List.forall_mem_cons.mpr ⟨⟨sim_if_lt d105_12 (by decide), gr_If (fun x => x < 0) 20 15⟩,
  List.forall_mem_cons.mpr ⟨⟨sim_iload_n d105_15 rfl, gr_LdI 2 16⟩,
  List.forall_mem_cons.mpr ⟨⟨sim_iconst d105_16 (by decide), gr_Push (.int 1) 17⟩,
  List.forall_mem_cons.mpr ⟨⟨sim_icmp_le d105_17 (by decide), gr_Ic (fun x y => x ≤ y) 23 20⟩,
  List.forall_mem_cons.mpr ⟨⟨sim_ldc d105_20 kw348, gr_Push (.int (-1000001)) 22⟩,
  List.forall_mem_cons.mpr ⟨⟨sim_ireturn d105_22 rfl, gr_RetI⟩,
  List.forall_mem_cons.mpr ⟨⟨sim_aload_n d105_23 rfl, gr_LdA 0 24⟩,
  List.forall_mem_cons.mpr ⟨⟨sim_getF d105_24 gf125, gr_GetF (fun k => k = 10) 9 27⟩,
  List.forall_mem_cons.mpr ⟨⟨sim_aload_n d105_27 rfl, gr_LdA 0 28⟩,
  List.forall_mem_cons.mpr ⟨⟨sim_getF d105_28 gf106, gr_GetF (fun k => k = 10) 2 31⟩,
  List.forall_mem_cons.mpr ⟨⟨sim_iload_n d105_31 rfl, gr_LdI 1 32⟩,
  List.forall_mem_cons.mpr ⟨⟨sim_virtual d105_32 vk89, gr_CalV (fun k => if k = 0 then some 1 else none) 2 35⟩,
  List.forall_mem_cons.mpr ⟨⟨sim_iload_n d105_35 rfl, gr_LdI 2 36⟩,
  List.forall_mem_cons.mpr ⟨⟨sim_if_ne d105_36 (by decide), gr_If (fun x => ¬ x = 0) 49 39⟩,
  List.forall_mem_cons.mpr ⟨⟨sim_aload_n d105_39 rfl, gr_LdA 0 40⟩,
  List.forall_mem_cons.mpr ⟨⟨sim_getF d105_40 gf125, gr_GetF (fun k => k = 10) 9 43⟩,
  List.forall_mem_cons.mpr ⟨⟨sim_virtual d105_43 vk90, gr_CalV (fun k => if k = 0 then some 3 else none) 0 46⟩,
  List.forall_mem_cons.mpr ⟨⟨sim_goto d105_46 (by decide), gr_Go 56⟩,
  List.forall_mem_cons.mpr ⟨⟨sim_aload_n d105_49 rfl, gr_LdA 0 50⟩,
  List.forall_mem_cons.mpr ⟨⟨sim_getF d105_50 gf125, gr_GetF (fun k => k = 10) 9 53⟩,
  List.forall_mem_cons.mpr ⟨⟨sim_virtual d105_53 vk91, gr_CalV (fun k => if k = 0 then some 9 else none) 0 56⟩,
  List.forall_mem_cons.mpr ⟨⟨sim_ireturn d105_56 rfl, gr_RetI⟩, fun _ h => absurd h List.not_mem_nil⟩⟩⟩⟩⟩⟩⟩⟩⟩⟩⟩⟩⟩⟩⟩⟩⟩⟩⟩⟩⟩⟩⟩⟩⟩⟩⟩⟩
noncomputable def pg105 : List (Nat × aP) := pg105_0
theorem ok105 : ∀ q ∈ pg105, Sim mT mt105 q.1 q.2 ∧ Grow q.2 := ok105_0
theorem d106_0 : decode mt106.2.1 0 = .ok (.iload_n 1, 1) := by decide +kernel
theorem d106_1 : decode mt106.2.1 1 = .ok (.ifCond .lt 26, 3) := by decide +kernel
theorem d106_4 : decode mt106.2.1 4 = .ok (.iload_n 1, 1) := by decide +kernel
theorem d106_5 : decode mt106.2.1 5 = .ok (.aload_n 0, 1) := by decide +kernel
theorem d106_6 : decode mt106.2.1 6 = .ok (.getfield 67, 3) := by decide +kernel
theorem d106_9 : decode mt106.2.1 9 = .ok (.getfield 300, 3) := by decide +kernel
theorem d106_12 : decode mt106.2.1 12 = .ok (.if_icmp .ge 15, 3) := by decide +kernel
theorem d106_15 : decode mt106.2.1 15 = .ok (.aload_n 0, 1) := by decide +kernel
theorem d106_16 : decode mt106.2.1 16 = .ok (.getfield 67, 3) := by decide +kernel
theorem d106_19 : decode mt106.2.1 19 = .ok (.getfield 303, 3) := by decide +kernel
theorem d106_22 : decode mt106.2.1 22 = .ok (.iload_n 1, 1) := by decide +kernel
theorem d106_23 : decode mt106.2.1 23 = .ok (.iaload, 1) := by decide +kernel
theorem d106_24 : decode mt106.2.1 24 = .ok (.goto 5, 3) := by decide +kernel
theorem d106_27 : decode mt106.2.1 27 = .ok (.ldc 169, 2) := by decide +kernel
theorem d106_29 : decode mt106.2.1 29 = .ok (.ireturn, 1) := by decide +kernel
noncomputable def pg106_0 : List (Nat × aP) := [(0, oLdI 1 1),
  (1, oIf (fun x => x < 0) 27 4),
  (4, oLdI 1 5),
  (5, oLdA 0 6),
  (6, oGetF (fun k => k = 10) 9 9),
  (9, oGetI (fun k => k = 0) 1 12),
  (12, oIc (fun x y => y ≤ x) 27 15),
  (15, oLdA 0 16),
  (16, oGetF (fun k => k = 10) 9 19),
  (19, oGetF (fun k => k = 0) 0 22),
  (22, oLdI 1 23),
  (23, oALdI 24),
  (24, oGo 29),
  (27, oPush (.int (-1000000)) 29),
  (29, oRetI)]
theorem ok106_0 : ∀ q ∈ pg106_0, Sim mT mt106 q.1 q.2 ∧ Grow q.2 :=
  List.forall_mem_cons.mpr ⟨⟨sim_iload_n d106_0 rfl, gr_LdI 1 1⟩,
  List.forall_mem_cons.mpr ⟨⟨sim_if_lt d106_1 (by decide), gr_If (fun x => x < 0) 27 4⟩,
  List.forall_mem_cons.mpr ⟨⟨sim_iload_n d106_4 rfl, gr_LdI 1 5⟩,
  List.forall_mem_cons.mpr ⟨⟨sim_aload_n d106_5 rfl, gr_LdA 0 6⟩,
  List.forall_mem_cons.mpr ⟨⟨sim_getF d106_6 gf125, gr_GetF (fun k => k = 10) 9 9⟩,
  List.forall_mem_cons.mpr ⟨⟨sim_getI d106_9 gf126, gr_GetI (fun k => k = 0) 1 12⟩,
  List.forall_mem_cons.mpr ⟨⟨sim_icmp_ge d106_12 (by decide), gr_Ic (fun x y => y ≤ x) 27 15⟩,
  List.forall_mem_cons.mpr ⟨⟨sim_aload_n d106_15 rfl, gr_LdA 0 16⟩,
  List.forall_mem_cons.mpr ⟨⟨sim_getF d106_16 gf125, gr_GetF (fun k => k = 10) 9 19⟩,
  List.forall_mem_cons.mpr ⟨⟨sim_getF d106_19 gf127, gr_GetF (fun k => k = 0) 0 22⟩,
  List.forall_mem_cons.mpr ⟨⟨sim_iload_n d106_22 rfl, gr_LdI 1 23⟩,
  List.forall_mem_cons.mpr ⟨⟨sim_iaload d106_23, gr_ALdI 24⟩,
  List.forall_mem_cons.mpr ⟨⟨sim_goto d106_24 (by decide), gr_Go 29⟩,
  List.forall_mem_cons.mpr ⟨⟨sim_ldc d106_27 kw590, gr_Push (.int (-1000000)) 29⟩,
  List.forall_mem_cons.mpr ⟨⟨sim_ireturn d106_29 rfl, gr_RetI⟩, fun _ h => absurd h List.not_mem_nil⟩⟩⟩⟩⟩⟩⟩⟩⟩⟩⟩⟩⟩⟩⟩
noncomputable def pg106 : List (Nat × aP) := pg106_0
theorem ok106 : ∀ q ∈ pg106, Sim mT mt106 q.1 q.2 ∧ Grow q.2 := ok106_0
theorem d107_0 : decode mt107.2.1 0 = .ok (.iload_n 1, 1) := by decide +kernel
theorem d107_1 : decode mt107.2.1 1 = .ok (.tableswitch 102 0 6 #[43, 48, 56, 64, 75, 83, 91], 43) := by decide +kernel
theorem d107_44 : decode mt107.2.1 44 = .ok (.aload_n 0, 1) := by decide +kernel
theorem d107_45 : decode mt107.2.1 45 = .ok (.invokevirtual 306, 3) := by decide +kernel
theorem d107_48 : decode mt107.2.1 48 = .ok (.ireturn, 1) := by decide +kernel
theorem d107_49 : decode mt107.2.1 49 = .ok (.aload_n 0, 1) := by decide +kernel
theorem d107_50 : decode mt107.2.1 50 = .ok (.getfield 25, 3) := by decide +kernel
theorem d107_53 : decode mt107.2.1 53 = .ok (.getfield 309, 3) := by decide +kernel
theorem d107_56 : decode mt107.2.1 56 = .ok (.ireturn, 1) := by decide +kernel
theorem d107_57 : decode mt107.2.1 57 = .ok (.aload_n 0, 1) := by decide +kernel
theorem d107_58 : decode mt107.2.1 58 = .ok (.getfield 25, 3) := by decide +kernel
theorem d107_61 : decode mt107.2.1 61 = .ok (.getfield 312, 3) := by decide +kernel
theorem d107_64 : decode mt107.2.1 64 = .ok (.ireturn, 1) := by decide +kernel
theorem d107_65 : decode mt107.2.1 65 = .ok (.aload_n 0, 1) := by decide +kernel
theorem d107_66 : decode mt107.2.1 66 = .ok (.getfield 25, 3) := by decide +kernel
theorem d107_69 : decode mt107.2.1 69 = .ok (.getfield 221, 3) := by decide +kernel
theorem d107_72 : decode mt107.2.1 72 = .ok (.invokestatic 207, 3) := by decide +kernel
theorem d107_75 : decode mt107.2.1 75 = .ok (.ireturn, 1) := by decide +kernel
theorem d107_76 : decode mt107.2.1 76 = .ok (.aload_n 0, 1) := by decide +kernel
theorem d107_77 : decode mt107.2.1 77 = .ok (.getfield 25, 3) := by decide +kernel
theorem d107_80 : decode mt107.2.1 80 = .ok (.getfield 157, 3) := by decide +kernel
theorem d107_83 : decode mt107.2.1 83 = .ok (.ireturn, 1) := by decide +kernel
theorem d107_84 : decode mt107.2.1 84 = .ok (.aload_n 0, 1) := by decide +kernel
theorem d107_85 : decode mt107.2.1 85 = .ok (.getfield 25, 3) := by decide +kernel
theorem d107_88 : decode mt107.2.1 88 = .ok (.invokevirtual 315, 3) := by decide +kernel
theorem d107_91 : decode mt107.2.1 91 = .ok (.ireturn, 1) := by decide +kernel
theorem d107_92 : decode mt107.2.1 92 = .ok (.aload_n 0, 1) := by decide +kernel
theorem d107_93 : decode mt107.2.1 93 = .ok (.getfield 18, 3) := by decide +kernel
theorem d107_96 : decode mt107.2.1 96 = .ok (.getfield 120, 3) := by decide +kernel
theorem d107_99 : decode mt107.2.1 99 = .ok (.getfield 124, 3) := by decide +kernel
theorem d107_102 : decode mt107.2.1 102 = .ok (.ireturn, 1) := by decide +kernel
theorem d107_103 : decode mt107.2.1 103 = .ok (.ldc 76, 2) := by decide +kernel
theorem d107_105 : decode mt107.2.1 105 = .ok (.ireturn, 1) := by decide +kernel
noncomputable def pg107_0 : List (Nat × aP) := [(0, oLdI 1 1),
  (1, oSw 0 6 [44, 49, 57, 65, 76, 84, 92] 103),
  (44, oLdA 0 45),
  (45, oCalV (fun k => if k = 10 then some 110 else none) 0 48),
  (48, oRetI),
  (49, oLdA 0 50),
  (50, oGetF (fun k => k = 10) 2 53),
  (53, oGetI (fun k => k = 3) 0 56),
  (56, oRetI),
  (57, oLdA 0 58),
  (58, oGetF (fun k => k = 10) 2 61),
  (61, oGetI (fun k => k = 3) 1 64),
  (64, oRetI),
  (65, oLdA 0 66),
  (66, oGetF (fun k => k = 10) 2 69),
  (69, oGetL (fun k => k = 3) 4 72),
  (72, oCall 210 1 75),
  (75, oRetI),
  (76, oLdA 0 77),
  (77, oGetF (fun k => k = 10) 2 80),
  (80, oGetI (fun k => k = 3) 2 83),
  (83, oRetI),
  (84, oLdA 0 85),
  (85, oGetF (fun k => k = 10) 2 88),
  (88, oCalV (fun k => if k = 3 then some 38 else none) 0 91),
  (91, oRetI),
  (92, oLdA 0 93),
  (93, oGetF (fun k => k = 10) 1 96),
  (96, oGetF (fun k => k = 4) 0 99),
  (99, oGetI (fun k => k = 7) 1 102),
  (102, oRetI),
  (103, oPush (.int (-1000001)) 105),
  (105, oRetI)]
theorem ok107_0 : ∀ q ∈ pg107_0, Sim mT mt107 q.1 q.2 ∧ Grow q.2 :=
  List.forall_mem_cons.mpr ⟨⟨sim_iload_n d107_0 rfl, gr_LdI 1 1⟩,
  List.forall_mem_cons.mpr ⟨⟨sim_tsw d107_1 (by decide) (tsw_ok (by decide +kernel)), gr_Sw 0 6 [44, 49, 57, 65, 76, 84, 92] 103⟩,
  List.forall_mem_cons.mpr ⟨⟨sim_aload_n d107_44 rfl, gr_LdA 0 45⟩,
  List.forall_mem_cons.mpr ⟨⟨sim_virtual d107_45 vk92, gr_CalV (fun k => if k = 10 then some 110 else none) 0 48⟩,
  List.forall_mem_cons.mpr ⟨⟨sim_ireturn d107_48 rfl, gr_RetI⟩,
  List.forall_mem_cons.mpr ⟨⟨sim_aload_n d107_49 rfl, gr_LdA 0 50⟩,
  List.forall_mem_cons.mpr ⟨⟨sim_getF d107_50 gf106, gr_GetF (fun k => k = 10) 2 53⟩,
  List.forall_mem_cons.mpr ⟨⟨sim_getI d107_53 gf128, gr_GetI (fun k => k = 3) 0 56⟩,
  List.forall_mem_cons.mpr ⟨⟨sim_ireturn d107_56 rfl, gr_RetI⟩,
  List.forall_mem_cons.mpr ⟨⟨sim_aload_n d107_57 rfl, gr_LdA 0 58⟩,
  List.forall_mem_cons.mpr ⟨⟨sim_getF d107_58 gf106, gr_GetF (fun k => k = 10) 2 61⟩,
  List.forall_mem_cons.mpr ⟨⟨sim_getI d107_61 gf129, gr_GetI (fun k => k = 3) 1 64⟩,
  List.forall_mem_cons.mpr ⟨⟨sim_ireturn d107_64 rfl, gr_RetI⟩,
  List.forall_mem_cons.mpr ⟨⟨sim_aload_n d107_65 rfl, gr_LdA 0 66⟩,
  List.forall_mem_cons.mpr ⟨⟨sim_getF d107_66 gf106, gr_GetF (fun k => k = 10) 2 69⟩,
  List.forall_mem_cons.mpr ⟨⟨sim_getL d107_69 gf115, gr_GetL (fun k => k = 3) 4 72⟩,
  List.forall_mem_cons.mpr ⟨⟨sim_static (y := 210) d107_72 (Or.inl kw660) kw633 mo210, gr_Call 210 1 75⟩,
  List.forall_mem_cons.mpr ⟨⟨sim_ireturn d107_75 rfl, gr_RetI⟩,
  List.forall_mem_cons.mpr ⟨⟨sim_aload_n d107_76 rfl, gr_LdA 0 77⟩,
  List.forall_mem_cons.mpr ⟨⟨sim_getF d107_77 gf106, gr_GetF (fun k => k = 10) 2 80⟩,
  List.forall_mem_cons.mpr ⟨⟨sim_getI d107_80 gf109, gr_GetI (fun k => k = 3) 2 83⟩,
  List.forall_mem_cons.mpr ⟨⟨sim_ireturn d107_83 rfl, gr_RetI⟩,
  List.forall_mem_cons.mpr ⟨⟨sim_aload_n d107_84 rfl, gr_LdA 0 85⟩,
  List.forall_mem_cons.mpr ⟨⟨sim_getF d107_85 gf106, gr_GetF (fun k => k = 10) 2 88⟩,
  List.forall_mem_cons.mpr ⟨⟨sim_virtual d107_88 vk93, gr_CalV (fun k => if k = 3 then some 38 else none) 0 91⟩,
  List.forall_mem_cons.mpr ⟨⟨sim_ireturn d107_91 rfl, gr_RetI⟩,
  List.forall_mem_cons.mpr ⟨⟨sim_aload_n d107_92 rfl, gr_LdA 0 93⟩,
  List.forall_mem_cons.mpr ⟨⟨sim_getF d107_93 gf100, gr_GetF (fun k => k = 10) 1 96⟩,
  List.forall_mem_cons.mpr ⟨⟨sim_getF d107_96 gf101, gr_GetF (fun k => k = 4) 0 99⟩,
  List.forall_mem_cons.mpr ⟨⟨sim_getI d107_99 gf102, gr_GetI (fun k => k = 7) 1 102⟩,
  List.forall_mem_cons.mpr ⟨⟨sim_ireturn d107_102 rfl, gr_RetI⟩,
  List.forall_mem_cons.mpr ⟨⟨sim_ldc d107_103 kw348, gr_Push (.int (-1000001)) 105⟩,
  List.forall_mem_cons.mpr ⟨⟨sim_ireturn d107_105 rfl, gr_RetI⟩, fun _ h => absurd h List.not_mem_nil⟩⟩⟩⟩⟩⟩⟩⟩⟩⟩⟩⟩⟩⟩⟩⟩⟩⟩⟩⟩⟩⟩⟩⟩⟩⟩⟩⟩⟩⟩⟩⟩⟩
noncomputable def pg107 : List (Nat × aP) := pg107_0
theorem ok107 : ∀ q ∈ pg107, Sim mT mt107 q.1 q.2 ∧ Grow q.2 := ok107_0
theorem d108_0 : decode mt108.2.1 0 = .ok (.aload_n 0, 1) := by decide +kernel
theorem d108_1 : decode mt108.2.1 1 = .ok (.getfield 318, 3) := by decide +kernel
theorem d108_4 : decode mt108.2.1 4 = .ok (.ireturn, 1) := by decide +kernel
noncomputable def pg108_0 : List (Nat × aP) := [(0, oLdA 0 1),
  (1, oGetI (fun k => k = 10) 10 4),
  (4, oRetI)]
theorem ok108_0 : ∀ q ∈ pg108_0, Sim mT mt108 q.1 q.2 ∧ Grow q.2 :=
  List.forall_mem_cons.mpr ⟨⟨sim_aload_n d108_0 rfl, gr_LdA 0 1⟩,
  List.forall_mem_cons.mpr ⟨⟨sim_getI d108_1 gf130, gr_GetI (fun k => k = 10) 10 4⟩,
  List.forall_mem_cons.mpr ⟨⟨sim_ireturn d108_4 rfl, gr_RetI⟩, fun _ h => absurd h List.not_mem_nil⟩⟩⟩
noncomputable def pg108 : List (Nat × aP) := pg108_0
theorem ok108 : ∀ q ∈ pg108, Sim mT mt108 q.1 q.2 ∧ Grow q.2 := ok108_0
theorem d109_0 : decode mt109.2.1 0 = .ok (.iload_n 0, 1) := by decide +kernel
theorem d109_1 : decode mt109.2.1 1 = .ok (.ifCond .lt 13, 3) := by decide +kernel
theorem d109_4 : decode mt109.2.1 4 = .ok (.iload_n 0, 1) := by decide +kernel
theorem d109_5 : decode mt109.2.1 5 = .ok (.bipush 8, 2) := by decide +kernel
theorem d109_7 : decode mt109.2.1 7 = .ok (.if_icmp .ge 7, 3) := by decide +kernel
theorem d109_10 : decode mt109.2.1 10 = .ok (.iconst 1, 1) := by decide +kernel
theorem d109_11 : decode mt109.2.1 11 = .ok (.goto 4, 3) := by decide +kernel
theorem d109_14 : decode mt109.2.1 14 = .ok (.iconst 0, 1) := by decide +kernel
theorem d109_15 : decode mt109.2.1 15 = .ok (.ireturn, 1) := by decide +kernel
noncomputable def pg109_0 : List (Nat × aP) := [(0, oLdI 0 1),
  (1, oIf (fun x => x < 0) 14 4),
  (4, oLdI 0 5),
  (5, oPush (.int 8) 7),
  (7, oIc (fun x y => y ≤ x) 14 10),
  (10, oPush (.int 1) 11),
  (11, oGo 15),
  (14, oPush (.int 0) 15),
  (15, oRetN .boolean)]
theorem ok109_0 : ∀ q ∈ pg109_0, Sim mT mt109 q.1 q.2 ∧ Grow q.2 :=
  List.forall_mem_cons.mpr ⟨⟨sim_iload_n d109_0 rfl, gr_LdI 0 1⟩,
  List.forall_mem_cons.mpr ⟨⟨sim_if_lt d109_1 (by decide), gr_If (fun x => x < 0) 14 4⟩,
  List.forall_mem_cons.mpr ⟨⟨sim_iload_n d109_4 rfl, gr_LdI 0 5⟩,
  List.forall_mem_cons.mpr ⟨⟨sim_bipush d109_5 (by decide), gr_Push (.int 8) 7⟩,
  List.forall_mem_cons.mpr ⟨⟨sim_icmp_ge d109_7 (by decide), gr_Ic (fun x y => y ≤ x) 14 10⟩,
  List.forall_mem_cons.mpr ⟨⟨sim_iconst d109_10 (by decide), gr_Push (.int 1) 11⟩,
  List.forall_mem_cons.mpr ⟨⟨sim_goto d109_11 (by decide), gr_Go 15⟩,
  List.forall_mem_cons.mpr ⟨⟨sim_iconst d109_14 (by decide), gr_Push (.int 0) 15⟩,
  List.forall_mem_cons.mpr ⟨⟨sim_nreturn d109_15 rfl (fun _ h => congrArg Value.int h), gr_RetN .boolean⟩, fun _ h => absurd h List.not_mem_nil⟩⟩⟩⟩⟩⟩⟩⟩⟩
noncomputable def pg109 : List (Nat × aP) := pg109_0
theorem ok109 : ∀ q ∈ pg109, Sim mT mt109 q.1 q.2 ∧ Grow q.2 := ok109_0
theorem d110_0 : decode mt110.2.1 0 = .ok (.iconst 0, 1) := by decide +kernel
theorem d110_1 : decode mt110.2.1 1 = .ok (.istore_n 1, 1) := by decide +kernel
theorem d110_2 : decode mt110.2.1 2 = .ok (.iconst 0, 1) := by decide +kernel
theorem d110_3 : decode mt110.2.1 3 = .ok (.istore_n 2, 1) := by decide +kernel
theorem d110_4 : decode mt110.2.1 4 = .ok (.iload_n 2, 1) := by decide +kernel
theorem d110_5 : decode mt110.2.1 5 = .ok (.bipush 8, 2) := by decide +kernel
theorem d110_7 : decode mt110.2.1 7 = .ok (.if_icmp .ge 24, 3) := by decide +kernel
theorem d110_10 : decode mt110.2.1 10 = .ok (.aload_n 0, 1) := by decide +kernel
theorem d110_11 : decode mt110.2.1 11 = .ok (.getfield 11, 3) := by decide +kernel
theorem d110_14 : decode mt110.2.1 14 = .ok (.iload_n 2, 1) := by decide +kernel
theorem d110_15 : decode mt110.2.1 15 = .ok (.aaload, 1) := by decide +kernel
theorem d110_16 : decode mt110.2.1 16 = .ok (.invokevirtual 88, 3) := by decide +kernel
theorem d110_19 : decode mt110.2.1 19 = .ok (.ifCond .ne 6, 3) := by decide +kernel
theorem d110_22 : decode mt110.2.1 22 = .ok (.iinc 1 1, 3) := by decide +kernel
theorem d110_25 : decode mt110.2.1 25 = .ok (.iinc 2 1, 3) := by decide +kernel
theorem d110_28 : decode mt110.2.1 28 = .ok (.goto (-24), 3) := by decide +kernel
theorem d110_31 : decode mt110.2.1 31 = .ok (.iload_n 1, 1) := by decide +kernel
theorem d110_32 : decode mt110.2.1 32 = .ok (.ireturn, 1) := by decide +kernel
noncomputable def pg110_0 : List (Nat × aP) := [(0, oPush (.int 0) 1),
  (1, oStI 1 2),
  (2, oPush (.int 0) 3),
  (3, oStI 2 4),
  (4, oLdI 2 5),
  (5, oPush (.int 8) 7),
  (7, oIc (fun x y => y ≤ x) 31 10),
  (10, oLdA 0 11),
  (11, oGetF (fun k => k = 10) 0 14),
  (14, oLdI 2 15),
  (15, oALdA 16),
  (16, oCalV (fun k => if k = 6 then some 58 else none) 0 19),
  (19, oIf (fun x => ¬ x = 0) 25 22),
  (22, oInc 1 1 25),
  (25, oInc 2 1 28),
  (28, oGo 4),
  (31, oLdI 1 32),
  (32, oRetI)]
theorem ok110_0 : ∀ q ∈ pg110_0, Sim mT mt110 q.1 q.2 ∧ Grow q.2 :=
  List.forall_mem_cons.mpr ⟨⟨sim_iconst d110_0 (by decide), gr_Push (.int 0) 1⟩,
  List.forall_mem_cons.mpr ⟨⟨sim_istore_n d110_1 rfl (by decide), gr_StI 1 2⟩,
  List.forall_mem_cons.mpr ⟨⟨sim_iconst d110_2 (by decide), gr_Push (.int 0) 3⟩,
  List.forall_mem_cons.mpr ⟨⟨sim_istore_n d110_3 rfl (by decide), gr_StI 2 4⟩,
  List.forall_mem_cons.mpr ⟨⟨sim_iload_n d110_4 rfl, gr_LdI 2 5⟩,
  List.forall_mem_cons.mpr ⟨⟨sim_bipush d110_5 (by decide), gr_Push (.int 8) 7⟩,
  List.forall_mem_cons.mpr ⟨⟨sim_icmp_ge d110_7 (by decide), gr_Ic (fun x y => y ≤ x) 31 10⟩,
  List.forall_mem_cons.mpr ⟨⟨sim_aload_n d110_10 rfl, gr_LdA 0 11⟩,
  List.forall_mem_cons.mpr ⟨⟨sim_getF d110_11 gf95, gr_GetF (fun k => k = 10) 0 14⟩,
  List.forall_mem_cons.mpr ⟨⟨sim_iload_n d110_14 rfl, gr_LdI 2 15⟩,
  List.forall_mem_cons.mpr ⟨⟨sim_aaload d110_15, gr_ALdA 16⟩,
  List.forall_mem_cons.mpr ⟨⟨sim_virtual d110_16 vk57, gr_CalV (fun k => if k = 6 then some 58 else none) 0 19⟩,
  List.forall_mem_cons.mpr ⟨⟨sim_if_ne d110_19 (by decide), gr_If (fun x => ¬ x = 0) 25 22⟩,
  List.forall_mem_cons.mpr ⟨⟨sim_iinc d110_22 (by decide) (by decide), gr_Inc 1 1 25⟩,
  List.forall_mem_cons.mpr ⟨⟨sim_iinc d110_25 (by decide) (by decide), gr_Inc 2 1 28⟩,
  List.forall_mem_cons.mpr ⟨⟨sim_goto d110_28 (by decide), gr_Go 4⟩,
  List.forall_mem_cons.mpr ⟨⟨sim_iload_n d110_31 rfl, gr_LdI 1 32⟩,
  List.forall_mem_cons.mpr ⟨⟨sim_ireturn d110_32 rfl, gr_RetI⟩, fun _ h => absurd h List.not_mem_nil⟩⟩⟩⟩⟩⟩⟩⟩⟩⟩⟩⟩⟩⟩⟩⟩⟩⟩
noncomputable def pg110 : List (Nat × aP) := pg110_0
theorem ok110 : ∀ q ∈ pg110, Sim mT mt110 q.1 q.2 ∧ Grow q.2 := ok110_0
theorem d111_0 : decode mt111.2.1 0 = .ok (.aload_n 0, 1) := by decide +kernel
theorem d111_1 : decode mt111.2.1 1 = .ok (.iload_n 1, 1) := by decide +kernel
theorem d111_2 : decode mt111.2.1 2 = .ok (.putfield 318, 3) := by decide +kernel
theorem d111_5 : decode mt111.2.1 5 = .ok (.ldc_w 321, 3) := by decide +kernel
theorem d111_8 : decode mt111.2.1 8 = .ok (.iload_n 1, 1) := by decide +kernel
theorem d111_9 : decode mt111.2.1 9 = .ok (.isub, 1) := by decide +kernel
theorem d111_10 : decode mt111.2.1 10 = .ok (.ireturn, 1) := by decide +kernel
noncomputable def pg111_0 : List (Nat × aP) := [(0, oLdA 0 1),
  (1, oLdI 1 2),
  (2, oPutI (fun k => k = 10) 10 5),
  (5, oPush (.int (-1000010)) 8),
  (8, oLdI 1 9),
  (9, oII (fun x y => x - y) 10),
  (10, oRetI)]
theorem ok111_0 : ∀ q ∈ pg111_0, Sim mT mt111 q.1 q.2 ∧ Grow q.2 :=
  List.forall_mem_cons.mpr ⟨⟨sim_aload_n d111_0 rfl, gr_LdA 0 1⟩,
  List.forall_mem_cons.mpr ⟨⟨sim_iload_n d111_1 rfl, gr_LdI 1 2⟩,
  List.forall_mem_cons.mpr ⟨⟨sim_putI d111_2 gf130w, gr_PutI (fun k => k = 10) 10 5⟩,
  List.forall_mem_cons.mpr ⟨⟨sim_ldcw d111_5 kw353, gr_Push (.int (-1000010)) 8⟩,
  List.forall_mem_cons.mpr ⟨⟨sim_iload_n d111_8 rfl, gr_LdI 1 9⟩,
  List.forall_mem_cons.mpr ⟨⟨sim_isub d111_9, gr_II (fun x y => x - y) 10⟩,
  List.forall_mem_cons.mpr ⟨⟨sim_ireturn d111_10 rfl, gr_RetI⟩, fun _ h => absurd h List.not_mem_nil⟩⟩⟩⟩⟩⟩⟩
noncomputable def pg111 : List (Nat × aP) := pg111_0
theorem ok111 : ∀ q ∈ pg111, Sim mT mt111 q.1 q.2 ∧ Grow q.2 := ok111_0
theorem d112_0 : decode mt112.2.1 0 = .ok (.aload_n 0, 1) := by decide +kernel
theorem d112_1 : decode mt112.2.1 1 = .ok (.iconst 0, 1) := by decide +kernel
theorem d112_2 : decode mt112.2.1 2 = .ok (.putfield 318, 3) := by decide +kernel
theorem d112_5 : decode mt112.2.1 5 = .ok (.iload_n 1, 1) := by decide +kernel
theorem d112_6 : decode mt112.2.1 6 = .ok (.ireturn, 1) := by decide +kernel
noncomputable def pg112_0 : List (Nat × aP) := [(0, oLdA 0 1),
  (1, oPush (.int 0) 2),
  (2, oPutI (fun k => k = 10) 10 5),
  (5, oLdI 1 6),
  (6, oRetI)]
theorem ok112_0 : ∀ q ∈ pg112_0, Sim mT mt112 q.1 q.2 ∧ Grow q.2 :=
  List.forall_mem_cons.mpr ⟨⟨sim_aload_n d112_0 rfl, gr_LdA 0 1⟩,
  List.forall_mem_cons.mpr ⟨⟨sim_iconst d112_1 (by decide), gr_Push (.int 0) 2⟩,
  List.forall_mem_cons.mpr ⟨⟨sim_putI d112_2 gf130w, gr_PutI (fun k => k = 10) 10 5⟩,
  List.forall_mem_cons.mpr ⟨⟨sim_iload_n d112_5 rfl, gr_LdI 1 6⟩,
  List.forall_mem_cons.mpr ⟨⟨sim_ireturn d112_6 rfl, gr_RetI⟩, fun _ h => absurd h List.not_mem_nil⟩⟩⟩⟩⟩
noncomputable def pg112 : List (Nat × aP) := pg112_0
theorem ok112 : ∀ q ∈ pg112, Sim mT mt112 q.1 q.2 ∧ Grow q.2 := ok112_0
theorem d113_0 : decode mt113.2.1 0 = .ok (.aload_n 0, 1) := by decide +kernel
theorem d113_1 : decode mt113.2.1 1 = .ok (.getfield 25, 3) := by decide +kernel
theorem d113_4 : decode mt113.2.1 4 = .ok (.iload_n 1, 1) := by decide +kernel
theorem d113_5 : decode mt113.2.1 5 = .ok (.invokevirtual 190, 3) := by decide +kernel
theorem d113_8 : decode mt113.2.1 8 = .ok (.ifCond .eq 24, 3) := by decide +kernel
theorem d113_11 : decode mt113.2.1 11 = .ok (.iload_n 2, 1) := by decide +kernel
theorem d113_12 : decode mt113.2.1 12 = .ok (.invokestatic 72, 3) := by decide +kernel
theorem d113_15 : decode mt113.2.1 15 = .ok (.ifCond .eq 17, 3) := by decide +kernel
theorem d113_18 : decode mt113.2.1 18 = .ok (.iload_n 3, 1) := by decide +kernel
theorem d113_19 : decode mt113.2.1 19 = .ok (.ifCond .lt 13, 3) := by decide +kernel
theorem d113_22 : decode mt113.2.1 22 = .ok (.iload_n 3, 1) := by decide +kernel
theorem d113_23 : decode mt113.2.1 23 = .ok (.bipush 20, 2) := by decide +kernel
theorem d113_25 : decode mt113.2.1 25 = .ok (.if_icmp .gt 7, 3) := by decide +kernel
theorem d113_28 : decode mt113.2.1 28 = .ok (.iconst 1, 1) := by decide +kernel
theorem d113_29 : decode mt113.2.1 29 = .ok (.goto 4, 3) := by decide +kernel
theorem d113_32 : decode mt113.2.1 32 = .ok (.iconst 0, 1) := by decide +kernel
theorem d113_33 : decode mt113.2.1 33 = .ok (.ireturn, 1) := by decide +kernel
noncomputable def pg113_0 : List (Nat × aP) := [(0, oLdA 0 1),
  (1, oGetF (fun k => k = 10) 2 4),
  (4, oLdI 1 5),
  (5, oCalV (fun k => if k = 3 then some 26 else none) 1 8),
  (8, oIf (fun x => x = 0) 32 11),
  (11, oLdI 2 12),
  (12, oCall 109 1 15),
  (15, oIf (fun x => x = 0) 32 18),
  (18, oLdI 3 19),
  (19, oIf (fun x => x < 0) 32 22),
  (22, oLdI 3 23),
  (23, oPush (.int 20) 25),
  (25, oIc (fun x y => y < x) 32 28),
  (28, oPush (.int 1) 29),
  (29, oGo 33),
  (32, oPush (.int 0) 33),
  (33, oRetN .boolean)]
theorem ok113_0 : ∀ q ∈ pg113_0, Sim mT mt113 q.1 q.2 ∧ Grow q.2 :=
  List.forall_mem_cons.mpr ⟨⟨sim_aload_n d113_0 rfl, gr_LdA 0 1⟩,
  List.forall_mem_cons.mpr ⟨⟨sim_getF d113_1 gf106, gr_GetF (fun k => k = 10) 2 4⟩,
  List.forall_mem_cons.mpr ⟨⟨sim_iload_n d113_4 rfl, gr_LdI 1 5⟩,
  List.forall_mem_cons.mpr ⟨⟨sim_virtual d113_5 vk72, gr_CalV (fun k => if k = 3 then some 26 else none) 1 8⟩,
  List.forall_mem_cons.mpr ⟨⟨sim_if_eq d113_8 (by decide), gr_If (fun x => x = 0) 32 11⟩,
  List.forall_mem_cons.mpr ⟨⟨sim_iload_n d113_11 rfl, gr_LdI 2 12⟩,
  List.forall_mem_cons.mpr ⟨⟨sim_static (y := 109) d113_12 (Or.inl kw345) kw346 mo109, gr_Call 109 1 15⟩,
  List.forall_mem_cons.mpr ⟨⟨sim_if_eq d113_15 (by decide), gr_If (fun x => x = 0) 32 18⟩,
  List.forall_mem_cons.mpr ⟨⟨sim_iload_n d113_18 rfl, gr_LdI 3 19⟩,
  List.forall_mem_cons.mpr ⟨⟨sim_if_lt d113_19 (by decide), gr_If (fun x => x < 0) 32 22⟩,
  List.forall_mem_cons.mpr ⟨⟨sim_iload_n d113_22 rfl, gr_LdI 3 23⟩,
  List.forall_mem_cons.mpr ⟨⟨sim_bipush d113_23 (by decide), gr_Push (.int 20) 25⟩,
  List.forall_mem_cons.mpr ⟨⟨sim_icmp_gt d113_25 (by decide), gr_Ic (fun x y => y < x) 32 28⟩,
  List.forall_mem_cons.mpr ⟨⟨sim_iconst d113_28 (by decide), gr_Push (.int 1) 29⟩,
  List.forall_mem_cons.mpr ⟨⟨sim_goto d113_29 (by decide), gr_Go 33⟩,
  List.forall_mem_cons.mpr ⟨⟨sim_iconst d113_32 (by decide), gr_Push (.int 0) 33⟩,
  List.forall_mem_cons.mpr ⟨⟨sim_nreturn d113_33 rfl (fun _ h => congrArg Value.int h), gr_RetN .boolean⟩, fun _ h => absurd h List.not_mem_nil⟩⟩⟩⟩⟩⟩⟩⟩⟩⟩⟩⟩⟩⟩⟩⟩⟩
noncomputable def pg113 : List (Nat × aP) := pg113_0
theorem ok113 : ∀ q ∈ pg113, Sim mT mt113 q.1 q.2 ∧ Grow q.2 := ok113_0
theorem d114_0 : decode mt114.2.1 0 = .ok (.aload_n 2, 1) := by decide +kernel
theorem d114_1 : decode mt114.2.1 1 = .ok (.invokevirtual 88, 3) := by decide +kernel
theorem d114_4 : decode mt114.2.1 4 = .ok (.ifCond .eq 9, 3) := by decide +kernel
theorem d114_7 : decode mt114.2.1 7 = .ok (.aload_n 0, 1) := by decide +kernel
theorem d114_8 : decode mt114.2.1 8 = .ok (.iconst 1, 1) := by decide +kernel
theorem d114_9 : decode mt114.2.1 9 = .ok (.invokevirtual 77, 3) := by decide +kernel
theorem d114_12 : decode mt114.2.1 12 = .ok (.ireturn, 1) := by decide +kernel
theorem d114_13 : decode mt114.2.1 13 = .ok (.aload_n 2, 1) := by decide +kernel
theorem d114_14 : decode mt114.2.1 14 = .ok (.iload_n 3, 1) := by decide +kernel
theorem d114_15 : decode mt114.2.1 15 = .ok (.iload 4, 2) := by decide +kernel
theorem d114_17 : decode mt114.2.1 17 = .ok (.invokevirtual 92, 3) := by decide +kernel
theorem d114_20 : decode mt114.2.1 20 = .ok (.ifCond .ne 9, 3) := by decide +kernel
theorem d114_23 : decode mt114.2.1 23 = .ok (.aload_n 0, 1) := by decide +kernel
theorem d114_24 : decode mt114.2.1 24 = .ok (.iconst 2, 1) := by decide +kernel
theorem d114_25 : decode mt114.2.1 25 = .ok (.invokevirtual 77, 3) := by decide +kernel
theorem d114_28 : decode mt114.2.1 28 = .ok (.ireturn, 1) := by decide +kernel
theorem d114_29 : decode mt114.2.1 29 = .ok (.iconst 0, 1) := by decide +kernel
theorem d114_30 : decode mt114.2.1 30 = .ok (.istore 5, 2) := by decide +kernel
theorem d114_32 : decode mt114.2.1 32 = .ok (.iload 5, 2) := by decide +kernel
theorem d114_34 : decode mt114.2.1 34 = .ok (.iload 4, 2) := by decide +kernel
theorem d114_36 : decode mt114.2.1 36 = .ok (.if_icmp .ge 34, 3) := by decide +kernel
theorem d114_39 : decode mt114.2.1 39 = .ok (.aload_n 2, 1) := by decide +kernel
theorem d114_40 : decode mt114.2.1 40 = .ok (.getfield 104, 3) := by decide +kernel
theorem d114_43 : decode mt114.2.1 43 = .ok (.iload_n 3, 1) := by decide +kernel
theorem d114_44 : decode mt114.2.1 44 = .ok (.iload 5, 2) := by decide +kernel
theorem d114_46 : decode mt114.2.1 46 = .ok (.iadd, 1) := by decide +kernel
theorem d114_47 : decode mt114.2.1 47 = .ok (.iaload, 1) := by decide +kernel
theorem d114_48 : decode mt114.2.1 48 = .ok (.istore 6, 2) := by decide +kernel
theorem d114_50 : decode mt114.2.1 50 = .ok (.iload 6, 2) := by decide +kernel
theorem d114_52 : decode mt114.2.1 52 = .ok (.ifCond .lt 9, 3) := by decide +kernel
theorem d114_55 : decode mt114.2.1 55 = .ok (.iload 6, 2) := by decide +kernel
theorem d114_57 : decode mt114.2.1 57 = .ok (.iconst 4, 1) := by decide +kernel
theorem d114_58 : decode mt114.2.1 58 = .ok (.if_icmp .lt 6, 3) := by decide +kernel
theorem d114_61 : decode mt114.2.1 61 = .ok (.ldc 76, 2) := by decide +kernel
theorem d114_63 : decode mt114.2.1 63 = .ok (.ireturn, 1) := by decide +kernel
theorem d114_64 : decode mt114.2.1 64 = .ok (.iinc 5 1, 3) := by decide +kernel
theorem d114_67 : decode mt114.2.1 67 = .ok (.goto (-35), 3) := by decide +kernel
theorem d114_70 : decode mt114.2.1 70 = .ok (.aload_n 0, 1) := by decide +kernel
theorem d114_71 : decode mt114.2.1 71 = .ok (.getfield 36, 3) := by decide +kernel
theorem d114_74 : decode mt114.2.1 74 = .ok (.aload_n 0, 1) := by decide +kernel
theorem d114_75 : decode mt114.2.1 75 = .ok (.getfield 25, 3) := by decide +kernel
theorem d114_78 : decode mt114.2.1 78 = .ok (.iload_n 1, 1) := by decide +kernel
theorem d114_79 : decode mt114.2.1 79 = .ok (.aload_n 2, 1) := by decide +kernel
theorem d114_80 : decode mt114.2.1 80 = .ok (.iload_n 3, 1) := by decide +kernel
theorem d114_81 : decode mt114.2.1 81 = .ok (.iload 4, 2) := by decide +kernel
theorem d114_83 : decode mt114.2.1 83 = .ok (.invokevirtual 322, 3) := by decide +kernel
theorem d114_86 : decode mt114.2.1 86 = .ok (.aload_n 0, 1) := by decide +kernel
theorem d114_87 : decode mt114.2.1 87 = .ok (.getfield 36, 3) := by decide +kernel
theorem d114_90 : decode mt114.2.1 90 = .ok (.getfield 326, 3) := by decide +kernel
theorem d114_93 : decode mt114.2.1 93 = .ok (.ifCond .eq 30, 3) := by decide +kernel
theorem d114_96 : decode mt114.2.1 96 = .ok (.aload_n 0, 1) := by decide +kernel
theorem d114_97 : decode mt114.2.1 97 = .ok (.ldc_w 327, 3) := by decide +kernel
theorem d114_100 : decode mt114.2.1 100 = .ok (.bipush 100, 2) := by decide +kernel
theorem d114_102 : decode mt114.2.1 102 = .ok (.aload_n 0, 1) := by decide +kernel
theorem d114_103 : decode mt114.2.1 103 = .ok (.getfield 36, 3) := by decide +kernel
theorem d114_106 : decode mt114.2.1 106 = .ok (.getfield 326, 3) := by decide +kernel
theorem d114_109 : decode mt114.2.1 109 = .ok (.imul, 1) := by decide +kernel
theorem d114_110 : decode mt114.2.1 110 = .ok (.isub, 1) := by decide +kernel
theorem d114_111 : decode mt114.2.1 111 = .ok (.aload_n 0, 1) := by decide +kernel
theorem d114_112 : decode mt114.2.1 112 = .ok (.getfield 36, 3) := by decide +kernel
theorem d114_115 : decode mt114.2.1 115 = .ok (.getfield 328, 3) := by decide +kernel
theorem d114_118 : decode mt114.2.1 118 = .ok (.isub, 1) := by decide +kernel
theorem d114_119 : decode mt114.2.1 119 = .ok (.invokevirtual 85, 3) := by decide +kernel
theorem d114_122 : decode mt114.2.1 122 = .ok (.ireturn, 1) := by decide +kernel
theorem d114_123 : decode mt114.2.1 123 = .ok (.aload_n 0, 1) := by decide +kernel
theorem d114_124 : decode mt114.2.1 124 = .ok (.aload_n 0, 1) := by decide +kernel
theorem d114_125 : decode mt114.2.1 125 = .ok (.getfield 25, 3) := by decide +kernel
theorem d114_128 : decode mt114.2.1 128 = .ok (.aload_n 0, 1) := by decide +kernel
theorem d114_129 : decode mt114.2.1 129 = .ok (.getfield 36, 3) := by decide +kernel
theorem d114_132 : decode mt114.2.1 132 = .ok (.getfield 182, 3) := by decide +kernel
theorem d114_135 : decode mt114.2.1 135 = .ok (.invokevirtual 197, 3) := by decide +kernel
theorem d114_138 : decode mt114.2.1 138 = .ok (.invokevirtual 85, 3) := by decide +kernel
theorem d114_141 : decode mt114.2.1 141 = .ok (.ireturn, 1) := by decide +kernel
noncomputable def pg114_0 : List (Nat × aP) := [(0, oLdA 2 1),
  (1, oCalV (fun k => if k = 6 then some 58 else none) 0 4),
  (4, oIf (fun x => x = 0) 13 7),
  (7, oLdA 0 8),
  (8, oPush (.int 1) 9),
  (9, oCalV (fun k => if k = 10 then some 111 else none) 1 12),
  (12, oRetI),
  (13, oLdA 2 14),
  (14, oLdI 3 15),
  (15, oLdI 4 17),
  (17, oCalV (fun k => if k = 6 then some 61 else none) 2 20),
  (20, oIf (fun x => ¬ x = 0) 29 23),
  (23, oLdA 0 24),
  (24, oPush (.int 2) 25),
  (25, oCalV (fun k => if k = 10 then some 111 else none) 1 28),
  (28, oRetI),
  (29, oPush (.int 0) 30),
  (30, oStI 5 32),
  (32, oLdI 5 34),
  (34, oLdI 4 36),
  (36, oIc (fun x y => y ≤ x) 70 39),
  (39, oLdA 2 40),
  (40, oGetF (fun k => k = 6) 0 43),
  (43, oLdI 3 44),
  (44, oLdI 5 46),
  (46, oII (fun x y => x + y) 47),
  (47, oALdI 48),
  (48, oStI 6 50),
  (50, oLdI 6 52),
  (52, oIf (fun x => x < 0) 61 55),
  (55, oLdI 6 57),
  (57, oPush (.int 4) 58),
  (58, oIc (fun x y => x < y) 64 61),
  (61, oPush (.int (-1000001)) 63),
  (63, oRetI),
  (64, oInc 5 1 67),
  (67, oGo 32),
  (70, oLdA 0 71),
  (71, oGetF (fun k => k = 10) 4 74),
  (74, oLdA 0 75)]
theorem ok114_0 : ∀ q ∈ pg114_0, Sim mT mt114 q.1 q.2 ∧ Grow q.2 :=
  List.forall_mem_cons.mpr ⟨⟨sim_aload_n d114_0 rfl, gr_LdA 2 1⟩,
  List.forall_mem_cons.mpr ⟨⟨sim_virtual d114_1 vk57, gr_CalV (fun k => if k = 6 then some 58 else none) 0 4⟩,
  List.forall_mem_cons.mpr ⟨⟨sim_if_eq d114_4 (by decide), gr_If (fun x => x = 0) 13 7⟩,
  List.forall_mem_cons.mpr ⟨⟨sim_aload_n d114_7 rfl, gr_LdA 0 8⟩,
  List.forall_mem_cons.mpr ⟨⟨sim_iconst d114_8 (by decide), gr_Push (.int 1) 9⟩,
  List.forall_mem_cons.mpr ⟨⟨sim_virtual d114_9 vk54, gr_CalV (fun k => if k = 10 then some 111 else none) 1 12⟩,
  List.forall_mem_cons.mpr ⟨⟨sim_ireturn d114_12 rfl, gr_RetI⟩,
  List.forall_mem_cons.mpr ⟨⟨sim_aload_n d114_13 rfl, gr_LdA 2 14⟩,
  List.forall_mem_cons.mpr ⟨⟨sim_iload_n d114_14 rfl, gr_LdI 3 15⟩,
  List.forall_mem_cons.mpr ⟨⟨sim_iload d114_15, gr_LdI 4 17⟩,
  List.forall_mem_cons.mpr ⟨⟨sim_virtual d114_17 vk58, gr_CalV (fun k => if k = 6 then some 61 else none) 2 20⟩,
  List.forall_mem_cons.mpr ⟨⟨sim_if_ne d114_20 (by decide), gr_If (fun x => ¬ x = 0) 29 23⟩,
  List.forall_mem_cons.mpr ⟨⟨sim_aload_n d114_23 rfl, gr_LdA 0 24⟩,
  List.forall_mem_cons.mpr ⟨⟨sim_iconst d114_24 (by decide), gr_Push (.int 2) 25⟩,
  List.forall_mem_cons.mpr ⟨⟨sim_virtual d114_25 vk54, gr_CalV (fun k => if k = 10 then some 111 else none) 1 28⟩,
  List.forall_mem_cons.mpr ⟨⟨sim_ireturn d114_28 rfl, gr_RetI⟩,
  List.forall_mem_cons.mpr ⟨⟨sim_iconst d114_29 (by decide), gr_Push (.int 0) 30⟩,
  List.forall_mem_cons.mpr ⟨⟨sim_istore d114_30 (by decide), gr_StI 5 32⟩,
  List.forall_mem_cons.mpr ⟨⟨sim_iload d114_32, gr_LdI 5 34⟩,
  List.forall_mem_cons.mpr ⟨⟨sim_iload d114_34, gr_LdI 4 36⟩,
  List.forall_mem_cons.mpr ⟨⟨sim_icmp_ge d114_36 (by decide), gr_Ic (fun x y => y ≤ x) 70 39⟩,
  List.forall_mem_cons.mpr ⟨⟨sim_aload_n d114_39 rfl, gr_LdA 2 40⟩,
  List.forall_mem_cons.mpr ⟨⟨sim_getF d114_40 gf98, gr_GetF (fun k => k = 6) 0 43⟩,
  List.forall_mem_cons.mpr ⟨⟨sim_iload_n d114_43 rfl, gr_LdI 3 44⟩,
  List.forall_mem_cons.mpr ⟨⟨sim_iload d114_44, gr_LdI 5 46⟩,
  List.forall_mem_cons.mpr ⟨⟨sim_iadd d114_46, gr_II (fun x y => x + y) 47⟩,
  List.forall_mem_cons.mpr ⟨⟨sim_iaload d114_47, gr_ALdI 48⟩,
  List.forall_mem_cons.mpr ⟨⟨sim_istore d114_48 (by decide), gr_StI 6 50⟩,
  List.forall_mem_cons.mpr ⟨⟨sim_iload d114_50, gr_LdI 6 52⟩,
  List.forall_mem_cons.mpr ⟨⟨sim_if_lt d114_52 (by decide), gr_If (fun x => x < 0) 61 55⟩,
  List.forall_mem_cons.mpr ⟨⟨sim_iload d114_55, gr_LdI 6 57⟩,
  List.forall_mem_cons.mpr ⟨⟨sim_iconst d114_57 (by decide), gr_Push (.int 4) 58⟩,
  List.forall_mem_cons.mpr ⟨⟨sim_icmp_lt d114_58 (by decide), gr_Ic (fun x y => x < y) 64 61⟩,
  List.forall_mem_cons.mpr ⟨⟨sim_ldc d114_61 kw348, gr_Push (.int (-1000001)) 63⟩,
  List.forall_mem_cons.mpr ⟨⟨sim_ireturn d114_63 rfl, gr_RetI⟩,
  List.forall_mem_cons.mpr ⟨⟨sim_iinc d114_64 (by decide) (by decide), gr_Inc 5 1 67⟩,
  List.forall_mem_cons.mpr ⟨⟨sim_goto d114_67 (by decide), gr_Go 32⟩,
  List.forall_mem_cons.mpr ⟨⟨sim_aload_n d114_70 rfl, gr_LdA 0 71⟩,
  List.forall_mem_cons.mpr ⟨⟨sim_getF d114_71 gf110, gr_GetF (fun k => k = 10) 4 74⟩,
  List.forall_mem_cons.mpr ⟨⟨sim_aload_n d114_74 rfl, gr_LdA 0 75⟩, fun _ h => absurd h List.not_mem_nil⟩⟩⟩⟩⟩⟩⟩⟩⟩⟩⟩⟩⟩⟩⟩⟩⟩⟩⟩⟩⟩⟩⟩⟩⟩⟩⟩⟩⟩⟩⟩⟩⟩⟩⟩⟩⟩⟩⟩⟩
noncomputable def pg114_1 : List (Nat × aP) := [(75, oGetF (fun k => k = 10) 2 78),
  (78, oLdI 1 79),
  (79, oLdA 2 80),
  (80, oLdI 3 81),
  (81, oLdI 4 83),
  (83, oCalV (fun k => if k = 8 then some 74 else none) 5 86),
  (86, oLdA 0 87),
  (87, oGetF (fun k => k = 10) 4 90),
  (90, oGetI (fun k => k = 8) 1 93),
  (93, oIf (fun x => x = 0) 123 96),
  (96, oLdA 0 97),
  (97, oPush (.int (-1000200)) 100),
  (100, oPush (.int 100) 102),
  (102, oLdA 0 103),
  (103, oGetF (fun k => k = 10) 4 106),
  (106, oGetI (fun k => k = 8) 1 109),
  (109, oII (fun x y => x * y) 110),
  (110, oII (fun x y => x - y) 111),
  (111, oLdA 0 112),
  (112, oGetF (fun k => k = 10) 4 115),
  (115, oGetI (fun k => k = 8) 2 118),
  (118, oII (fun x y => x - y) 119),
  (119, oCalV (fun k => if k = 10 then some 112 else none) 1 122),
  (122, oRetI),
  (123, oLdA 0 124),
  (124, oLdA 0 125),
  (125, oGetF (fun k => k = 10) 2 128),
  (128, oLdA 0 129),
  (129, oGetF (fun k => k = 10) 4 132),
  (132, oGetL (fun k => k = 8) 0 135),
  (135, oCalV (fun k => if k = 3 then some 36 else none) 1 138),
  (138, oCalV (fun k => if k = 10 then some 112 else none) 1 141),
  (141, oRetI)]
theorem ok114_1 : ∀ q ∈ pg114_1, Sim mT mt114 q.1 q.2 ∧ Grow q.2 :=
  List.forall_mem_cons.mpr ⟨⟨sim_getF d114_75 gf106, gr_GetF (fun k => k = 10) 2 78⟩,
  List.forall_mem_cons.mpr ⟨⟨sim_iload_n d114_78 rfl, gr_LdI 1 79⟩,
  List.forall_mem_cons.mpr ⟨⟨sim_aload_n d114_79 rfl, gr_LdA 2 80⟩,
  List.forall_mem_cons.mpr ⟨⟨sim_iload_n d114_80 rfl, gr_LdI 3 81⟩,
  List.forall_mem_cons.mpr ⟨⟨sim_iload d114_81, gr_LdI 4 83⟩,
  List.forall_mem_cons.mpr ⟨⟨sim_virtual d114_83 vk94, gr_CalV (fun k => if k = 8 then some 74 else none) 5 86⟩,
  List.forall_mem_cons.mpr ⟨⟨sim_aload_n d114_86 rfl, gr_LdA 0 87⟩,
  List.forall_mem_cons.mpr ⟨⟨sim_getF d114_87 gf110, gr_GetF (fun k => k = 10) 4 90⟩,
  List.forall_mem_cons.mpr ⟨⟨sim_getI d114_90 gf131, gr_GetI (fun k => k = 8) 1 93⟩,
  List.forall_mem_cons.mpr ⟨⟨sim_if_eq d114_93 (by decide), gr_If (fun x => x = 0) 123 96⟩,
  List.forall_mem_cons.mpr ⟨⟨sim_aload_n d114_96 rfl, gr_LdA 0 97⟩,
  List.forall_mem_cons.mpr ⟨⟨sim_ldcw d114_97 kw627, gr_Push (.int (-1000200)) 100⟩,
  List.forall_mem_cons.mpr ⟨⟨sim_bipush d114_100 (by decide), gr_Push (.int 100) 102⟩,
  List.forall_mem_cons.mpr ⟨⟨sim_aload_n d114_102 rfl, gr_LdA 0 103⟩,
  List.forall_mem_cons.mpr ⟨⟨sim_getF d114_103 gf110, gr_GetF (fun k => k = 10) 4 106⟩,
  List.forall_mem_cons.mpr ⟨⟨sim_getI d114_106 gf131, gr_GetI (fun k => k = 8) 1 109⟩,
  List.forall_mem_cons.mpr ⟨⟨sim_imul d114_109, gr_II (fun x y => x * y) 110⟩,
  List.forall_mem_cons.mpr ⟨⟨sim_isub d114_110, gr_II (fun x y => x - y) 111⟩,
  List.forall_mem_cons.mpr ⟨⟨sim_aload_n d114_111 rfl, gr_LdA 0 112⟩,
  List.forall_mem_cons.mpr ⟨⟨sim_getF d114_112 gf110, gr_GetF (fun k => k = 10) 4 115⟩,
  List.forall_mem_cons.mpr ⟨⟨sim_getI d114_115 gf132, gr_GetI (fun k => k = 8) 2 118⟩,
  List.forall_mem_cons.mpr ⟨⟨sim_isub d114_118, gr_II (fun x y => x - y) 119⟩,
  List.forall_mem_cons.mpr ⟨⟨sim_virtual d114_119 vk56, gr_CalV (fun k => if k = 10 then some 112 else none) 1 122⟩,
  List.forall_mem_cons.mpr ⟨⟨sim_ireturn d114_122 rfl, gr_RetI⟩,
  List.forall_mem_cons.mpr ⟨⟨sim_aload_n d114_123 rfl, gr_LdA 0 124⟩,
  List.forall_mem_cons.mpr ⟨⟨sim_aload_n d114_124 rfl, gr_LdA 0 125⟩,
  List.forall_mem_cons.mpr ⟨⟨sim_getF d114_125 gf106, gr_GetF (fun k => k = 10) 2 128⟩,
  List.forall_mem_cons.mpr ⟨⟨sim_aload_n d114_128 rfl, gr_LdA 0 129⟩,
  List.forall_mem_cons.mpr ⟨⟨sim_getF d114_129 gf110, gr_GetF (fun k => k = 10) 4 132⟩,
  List.forall_mem_cons.mpr ⟨⟨sim_getL d114_132 gf111, gr_GetL (fun k => k = 8) 0 135⟩,
  List.forall_mem_cons.mpr ⟨⟨sim_virtual d114_135 vk73, gr_CalV (fun k => if k = 3 then some 36 else none) 1 138⟩,
  List.forall_mem_cons.mpr ⟨⟨sim_virtual d114_138 vk56, gr_CalV (fun k => if k = 10 then some 112 else none) 1 141⟩,
  List.forall_mem_cons.mpr ⟨⟨sim_ireturn d114_141 rfl, gr_RetI⟩, fun _ h => absurd h List.not_mem_nil⟩⟩⟩⟩⟩⟩⟩⟩⟩⟩⟩⟩⟩⟩⟩⟩⟩⟩⟩⟩⟩⟩⟩⟩⟩⟩⟩⟩⟩⟩⟩⟩⟩
noncomputable def pg114 : List (Nat × aP) := pg114_0 ++ (pg114_1)
theorem ok114 : ∀ q ∈ pg114, Sim mT mt114 q.1 q.2 ∧ Grow q.2 := List.forall_mem_append.mpr ⟨ok114_0, ok114_1⟩
theorem d115_0 : decode mt115.2.1 0 = .ok (.aload_n 0, 1) := by decide +kernel
theorem d115_1 : decode mt115.2.1 1 = .ok (.getfield 25, 3) := by decide +kernel
theorem d115_4 : decode mt115.2.1 4 = .ok (.getfield 193, 3) := by decide +kernel
theorem d115_7 : decode mt115.2.1 7 = .ok (.iload_n 1, 1) := by decide +kernel
theorem d115_8 : decode mt115.2.1 8 = .ok (.lload_n 2, 1) := by decide +kernel
theorem d115_9 : decode mt115.2.1 9 = .ok (.lastore, 1) := by decide +kernel
theorem d115_10 : decode mt115.2.1 10 = .ok (.aload_n 0, 1) := by decide +kernel
theorem d115_11 : decode mt115.2.1 11 = .ok (.getfield 25, 3) := by decide +kernel
theorem d115_14 : decode mt115.2.1 14 = .ok (.invokevirtual 331, 3) := by decide +kernel
theorem d115_17 : decode mt115.2.1 17 = .ok (.aload_n 0, 1) := by decide +kernel
theorem d115_18 : decode mt115.2.1 18 = .ok (.getfield 43, 3) := by decide +kernel
theorem d115_21 : decode mt115.2.1 21 = .ok (.invokevirtual 154, 3) := by decide +kernel
theorem d115_24 : decode mt115.2.1 24 = .ok (.return_, 1) := by decide +kernel
noncomputable def pg115_0 : List (Nat × aP) := [(0, oLdA 0 1),
  (1, oGetF (fun k => k = 10) 2 4),
  (4, oGetF (fun k => k = 3) 8 7),
  (7, oLdI 1 8),
  (8, oLdL 2 9),
  (9, oAStL 10),
  (10, oLdA 0 11),
  (11, oGetF (fun k => k = 10) 2 14),
  (14, oCalV (fun k => if k = 3 then some 32 else none) 0 17),
  (17, oLdA 0 18),
  (18, oGetF (fun k => k = 10) 5 21),
  (21, oCalV (fun k => if k = 1 then some 13 else none) 0 24),
  (24, oRetV)]
theorem ok115_0 : ∀ q ∈ pg115_0, Sim mT mt115 q.1 q.2 ∧ Grow q.2 :=
  List.forall_mem_cons.mpr ⟨⟨sim_aload_n d115_0 rfl, gr_LdA 0 1⟩,
  List.forall_mem_cons.mpr ⟨⟨sim_getF d115_1 gf106, gr_GetF (fun k => k = 10) 2 4⟩,
  List.forall_mem_cons.mpr ⟨⟨sim_getF d115_4 gf112, gr_GetF (fun k => k = 3) 8 7⟩,
  List.forall_mem_cons.mpr ⟨⟨sim_iload_n d115_7 rfl, gr_LdI 1 8⟩,
  List.forall_mem_cons.mpr ⟨⟨sim_lload_n d115_8 rfl, gr_LdL 2 9⟩,
  List.forall_mem_cons.mpr ⟨⟨sim_lastore d115_9, gr_AStL 10⟩,
  List.forall_mem_cons.mpr ⟨⟨sim_aload_n d115_10 rfl, gr_LdA 0 11⟩,
  List.forall_mem_cons.mpr ⟨⟨sim_getF d115_11 gf106, gr_GetF (fun k => k = 10) 2 14⟩,
  List.forall_mem_cons.mpr ⟨⟨sim_virtual d115_14 vk95, gr_CalV (fun k => if k = 3 then some 32 else none) 0 17⟩,
  List.forall_mem_cons.mpr ⟨⟨sim_aload_n d115_17 rfl, gr_LdA 0 18⟩,
  List.forall_mem_cons.mpr ⟨⟨sim_getF d115_18 gf108, gr_GetF (fun k => k = 10) 5 21⟩,
  List.forall_mem_cons.mpr ⟨⟨sim_virtual d115_21 vk64, gr_CalV (fun k => if k = 1 then some 13 else none) 0 24⟩,
  List.forall_mem_cons.mpr ⟨⟨sim_return d115_24 rfl, gr_RetV⟩, fun _ h => absurd h List.not_mem_nil⟩⟩⟩⟩⟩⟩⟩⟩⟩⟩⟩⟩⟩
noncomputable def pg115 : List (Nat × aP) := pg115_0
theorem ok115 : ∀ q ∈ pg115, Sim mT mt115 q.1 q.2 ∧ Grow q.2 := ok115_0
theorem d116_0 : decode mt116.2.1 0 = .ok (.iconst 0, 1) := by decide +kernel
theorem d116_1 : decode mt116.2.1 1 = .ok (.istore_n 2, 1) := by decide +kernel
theorem d116_2 : decode mt116.2.1 2 = .ok (.aload_n 0, 1) := by decide +kernel
theorem d116_3 : decode mt116.2.1 3 = .ok (.getfield 25, 3) := by decide +kernel
theorem d116_6 : decode mt116.2.1 6 = .ok (.getfield 157, 3) := by decide +kernel
theorem d116_9 : decode mt116.2.1 9 = .ok (.iconst 1, 1) := by decide +kernel
theorem d116_10 : decode mt116.2.1 10 = .ok (.isub, 1) := by decide +kernel
theorem d116_11 : decode mt116.2.1 11 = .ok (.istore_n 3, 1) := by decide +kernel
theorem d116_12 : decode mt116.2.1 12 = .ok (.iload_n 3, 1) := by decide +kernel
theorem d116_13 : decode mt116.2.1 13 = .ok (.ifCond .lt 19, 3) := by decide +kernel
theorem d116_16 : decode mt116.2.1 16 = .ok (.iload_n 1, 1) := by decide +kernel
theorem d116_17 : decode mt116.2.1 17 = .ok (.iload_n 3, 1) := by decide +kernel
theorem d116_18 : decode mt116.2.1 18 = .ok (.ishr, 1) := by decide +kernel
theorem d116_19 : decode mt116.2.1 19 = .ok (.iconst 1, 1) := by decide +kernel
theorem d116_20 : decode mt116.2.1 20 = .ok (.iand, 1) := by decide +kernel
theorem d116_21 : decode mt116.2.1 21 = .ok (.ifCond .eq 5, 3) := by decide +kernel
theorem d116_24 : decode mt116.2.1 24 = .ok (.iload_n 3, 1) := by decide +kernel
theorem d116_25 : decode mt116.2.1 25 = .ok (.istore_n 2, 1) := by decide +kernel
theorem d116_26 : decode mt116.2.1 26 = .ok (.iinc 3 (-1), 3) := by decide +kernel
theorem d116_29 : decode mt116.2.1 29 = .ok (.goto (-17), 3) := by decide +kernel
theorem d116_32 : decode mt116.2.1 32 = .ok (.iload_n 2, 1) := by decide +kernel
theorem d116_33 : decode mt116.2.1 33 = .ok (.ireturn, 1) := by decide +kernel
noncomputable def pg116_0 : List (Nat × aP) := [(0, oPush (.int 0) 1),
  (1, oStI 2 2),
  (2, oLdA 0 3),
  (3, oGetF (fun k => k = 10) 2 6),
  (6, oGetI (fun k => k = 3) 2 9),
  (9, oPush (.int 1) 10),
  (10, oII (fun x y => x - y) 11),
  (11, oStI 3 12),
  (12, oLdI 3 13),
  (13, oIf (fun x => x < 0) 32 16),
  (16, oLdI 1 17),
  (17, oLdI 3 18),
  (18, oII (fun x y => x >>> (y &&& 31)) 19),
  (19, oPush (.int 1) 20),
  (20, oII (fun x y => x &&& y) 21),
  (21, oIf (fun x => x = 0) 26 24),
  (24, oLdI 3 25),
  (25, oStI 2 26),
  (26, oInc 3 (-1) 29),
  (29, oGo 12),
  (32, oLdI 2 33),
  (33, oRetI)]
theorem ok116_0 : ∀ q ∈ pg116_0, Sim mT mt116 q.1 q.2 ∧ Grow q.2 :=
  List.forall_mem_cons.mpr ⟨⟨sim_iconst d116_0 (by decide), gr_Push (.int 0) 1⟩,
  List.forall_mem_cons.mpr ⟨⟨sim_istore_n d116_1 rfl (by decide), gr_StI 2 2⟩,
  List.forall_mem_cons.mpr ⟨⟨sim_aload_n d116_2 rfl, gr_LdA 0 3⟩,
  List.forall_mem_cons.mpr ⟨⟨sim_getF d116_3 gf106, gr_GetF (fun k => k = 10) 2 6⟩,
  List.forall_mem_cons.mpr ⟨⟨sim_getI d116_6 gf109, gr_GetI (fun k => k = 3) 2 9⟩,
  List.forall_mem_cons.mpr ⟨⟨sim_iconst d116_9 (by decide), gr_Push (.int 1) 10⟩,
  List.forall_mem_cons.mpr ⟨⟨sim_isub d116_10, gr_II (fun x y => x - y) 11⟩,
  List.forall_mem_cons.mpr ⟨⟨sim_istore_n d116_11 rfl (by decide), gr_StI 3 12⟩,
  List.forall_mem_cons.mpr ⟨⟨sim_iload_n d116_12 rfl, gr_LdI 3 13⟩,
  List.forall_mem_cons.mpr ⟨⟨sim_if_lt d116_13 (by decide), gr_If (fun x => x < 0) 32 16⟩,
  List.forall_mem_cons.mpr ⟨⟨sim_iload_n d116_16 rfl, gr_LdI 1 17⟩,
  List.forall_mem_cons.mpr ⟨⟨sim_iload_n d116_17 rfl, gr_LdI 3 18⟩,
  List.forall_mem_cons.mpr ⟨⟨sim_ishr d116_18, gr_II (fun x y => x >>> (y &&& 31)) 19⟩,
  List.forall_mem_cons.mpr ⟨⟨sim_iconst d116_19 (by decide), gr_Push (.int 1) 20⟩,
  List.forall_mem_cons.mpr ⟨⟨sim_iand d116_20, gr_II (fun x y => x &&& y) 21⟩,
  List.forall_mem_cons.mpr ⟨⟨sim_if_eq d116_21 (by decide), gr_If (fun x => x = 0) 26 24⟩,
  List.forall_mem_cons.mpr ⟨⟨sim_iload_n d116_24 rfl, gr_LdI 3 25⟩,
  List.forall_mem_cons.mpr ⟨⟨sim_istore_n d116_25 rfl (by decide), gr_StI 2 26⟩,
  List.forall_mem_cons.mpr ⟨⟨sim_iinc d116_26 (by decide) (by decide), gr_Inc 3 (-1) 29⟩,
  List.forall_mem_cons.mpr ⟨⟨sim_goto d116_29 (by decide), gr_Go 12⟩,
  List.forall_mem_cons.mpr ⟨⟨sim_iload_n d116_32 rfl, gr_LdI 2 33⟩,
  List.forall_mem_cons.mpr ⟨⟨sim_ireturn d116_33 rfl, gr_RetI⟩, fun _ h => absurd h List.not_mem_nil⟩⟩⟩⟩⟩⟩⟩⟩⟩⟩⟩⟩⟩⟩⟩⟩⟩⟩⟩⟩⟩⟩
noncomputable def pg116 : List (Nat × aP) := pg116_0
theorem ok116 : ∀ q ∈ pg116, Sim mT mt116 q.1 q.2 ∧ Grow q.2 := ok116_0
theorem d117_0 : decode mt117.2.1 0 = .ok (.iconst 0, 1) := by decide +kernel
theorem d117_1 : decode mt117.2.1 1 = .ok (.istore_n 2, 1) := by decide +kernel
theorem d117_2 : decode mt117.2.1 2 = .ok (.iconst 0, 1) := by decide +kernel
theorem d117_3 : decode mt117.2.1 3 = .ok (.istore_n 3, 1) := by decide +kernel
theorem d117_4 : decode mt117.2.1 4 = .ok (.iload_n 3, 1) := by decide +kernel
theorem d117_5 : decode mt117.2.1 5 = .ok (.aload_n 0, 1) := by decide +kernel
theorem d117_6 : decode mt117.2.1 6 = .ok (.getfield 25, 3) := by decide +kernel
theorem d117_9 : decode mt117.2.1 9 = .ok (.getfield 157, 3) := by decide +kernel
theorem d117_12 : decode mt117.2.1 12 = .ok (.if_icmp .ge 29, 3) := by decide +kernel
theorem d117_15 : decode mt117.2.1 15 = .ok (.iload_n 1, 1) := by decide +kernel
theorem d117_16 : decode mt117.2.1 16 = .ok (.iload_n 3, 1) := by decide +kernel
theorem d117_17 : decode mt117.2.1 17 = .ok (.ishr, 1) := by decide +kernel
theorem d117_18 : decode mt117.2.1 18 = .ok (.iconst 1, 1) := by decide +kernel
theorem d117_19 : decode mt117.2.1 19 = .ok (.iand, 1) := by decide +kernel
theorem d117_20 : decode mt117.2.1 20 = .ok (.ifCond .eq 15, 3) := by decide +kernel
theorem d117_23 : decode mt117.2.1 23 = .ok (.iload_n 2, 1) := by decide +kernel
theorem d117_24 : decode mt117.2.1 24 = .ok (.aload_n 0, 1) := by decide +kernel
theorem d117_25 : decode mt117.2.1 25 = .ok (.getfield 25, 3) := by decide +kernel
theorem d117_28 : decode mt117.2.1 28 = .ok (.getfield 204, 3) := by decide +kernel
theorem d117_31 : decode mt117.2.1 31 = .ok (.iload_n 3, 1) := by decide +kernel
theorem d117_32 : decode mt117.2.1 32 = .ok (.iaload, 1) := by decide +kernel
theorem d117_33 : decode mt117.2.1 33 = .ok (.iadd, 1) := by decide +kernel
theorem d117_34 : decode mt117.2.1 34 = .ok (.istore_n 2, 1) := by decide +kernel
theorem d117_35 : decode mt117.2.1 35 = .ok (.iinc 3 1, 3) := by decide +kernel
theorem d117_38 : decode mt117.2.1 38 = .ok (.goto (-34), 3) := by decide +kernel
theorem d117_41 : decode mt117.2.1 41 = .ok (.iload_n 2, 1) := by decide +kernel
theorem d117_42 : decode mt117.2.1 42 = .ok (.bipush 12, 2) := by decide +kernel
theorem d117_44 : decode mt117.2.1 44 = .ok (.invokestatic 334, 3) := by decide +kernel
theorem d117_47 : decode mt117.2.1 47 = .ok (.ireturn, 1) := by decide +kernel
noncomputable def pg117_0 : List (Nat × aP) := [(0, oPush (.int 0) 1),
  (1, oStI 2 2),
  (2, oPush (.int 0) 3),
  (3, oStI 3 4),
  (4, oLdI 3 5),
  (5, oLdA 0 6),
  (6, oGetF (fun k => k = 10) 2 9),
  (9, oGetI (fun k => k = 3) 2 12),
  (12, oIc (fun x y => y ≤ x) 41 15),
  (15, oLdI 1 16),
  (16, oLdI 3 17),
  (17, oII (fun x y => x >>> (y &&& 31)) 18),
  (18, oPush (.int 1) 19),
  (19, oII (fun x y => x &&& y) 20),
  (20, oIf (fun x => x = 0) 35 23),
  (23, oLdI 2 24),
  (24, oLdA 0 25),
  (25, oGetF (fun k => k = 10) 2 28),
  (28, oGetF (fun k => k = 3) 7 31),
  (31, oLdI 3 32),
  (32, oALdI 33),
  (33, oII (fun x y => x + y) 34),
  (34, oStI 2 35),
  (35, oInc 3 1 38),
  (38, oGo 4),
  (41, oLdI 2 42),
  (42, oPush (.int 12) 44),
  (44, oM2 (fun x y => if y < x then y else x) 47),
  (47, oRetI)]
theorem ok117_0 : ∀ q ∈ pg117_0, Sim mT mt117 q.1 q.2 ∧ Grow q.2 :=
  List.forall_mem_cons.mpr ⟨⟨sim_iconst d117_0 (by decide), gr_Push (.int 0) 1⟩,
  List.forall_mem_cons.mpr ⟨⟨sim_istore_n d117_1 rfl (by decide), gr_StI 2 2⟩,
  List.forall_mem_cons.mpr ⟨⟨sim_iconst d117_2 (by decide), gr_Push (.int 0) 3⟩,
  List.forall_mem_cons.mpr ⟨⟨sim_istore_n d117_3 rfl (by decide), gr_StI 3 4⟩,
  List.forall_mem_cons.mpr ⟨⟨sim_iload_n d117_4 rfl, gr_LdI 3 5⟩,
  List.forall_mem_cons.mpr ⟨⟨sim_aload_n d117_5 rfl, gr_LdA 0 6⟩,
  List.forall_mem_cons.mpr ⟨⟨sim_getF d117_6 gf106, gr_GetF (fun k => k = 10) 2 9⟩,
  List.forall_mem_cons.mpr ⟨⟨sim_getI d117_9 gf109, gr_GetI (fun k => k = 3) 2 12⟩,
  List.forall_mem_cons.mpr ⟨⟨sim_icmp_ge d117_12 (by decide), gr_Ic (fun x y => y ≤ x) 41 15⟩,
  List.forall_mem_cons.mpr ⟨⟨sim_iload_n d117_15 rfl, gr_LdI 1 16⟩,
  List.forall_mem_cons.mpr ⟨⟨sim_iload_n d117_16 rfl, gr_LdI 3 17⟩,
  List.forall_mem_cons.mpr ⟨⟨sim_ishr d117_17, gr_II (fun x y => x >>> (y &&& 31)) 18⟩,
  List.forall_mem_cons.mpr ⟨⟨sim_iconst d117_18 (by decide), gr_Push (.int 1) 19⟩,
  List.forall_mem_cons.mpr ⟨⟨sim_iand d117_19, gr_II (fun x y => x &&& y) 20⟩,
  List.forall_mem_cons.mpr ⟨⟨sim_if_eq d117_20 (by decide), gr_If (fun x => x = 0) 35 23⟩,
  List.forall_mem_cons.mpr ⟨⟨sim_iload_n d117_23 rfl, gr_LdI 2 24⟩,
  List.forall_mem_cons.mpr ⟨⟨sim_aload_n d117_24 rfl, gr_LdA 0 25⟩,
  List.forall_mem_cons.mpr ⟨⟨sim_getF d117_25 gf106, gr_GetF (fun k => k = 10) 2 28⟩,
  List.forall_mem_cons.mpr ⟨⟨sim_getF d117_28 gf114, gr_GetF (fun k => k = 3) 7 31⟩,
  List.forall_mem_cons.mpr ⟨⟨sim_iload_n d117_31 rfl, gr_LdI 3 32⟩,
  List.forall_mem_cons.mpr ⟨⟨sim_iaload d117_32, gr_ALdI 33⟩,
  List.forall_mem_cons.mpr ⟨⟨sim_iadd d117_33, gr_II (fun x y => x + y) 34⟩,
  List.forall_mem_cons.mpr ⟨⟨sim_istore_n d117_34 rfl (by decide), gr_StI 2 35⟩,
  List.forall_mem_cons.mpr ⟨⟨sim_iinc d117_35 (by decide) (by decide), gr_Inc 3 1 38⟩,
  List.forall_mem_cons.mpr ⟨⟨sim_goto d117_38 (by decide), gr_Go 4⟩,
  List.forall_mem_cons.mpr ⟨⟨sim_iload_n d117_41 rfl, gr_LdI 2 42⟩,
  List.forall_mem_cons.mpr ⟨⟨sim_bipush d117_42 (by decide), gr_Push (.int 12) 44⟩,
  List.forall_mem_cons.mpr ⟨⟨sim_mmin d117_44 kw755 kw756 kw19 kw757, gr_M2 (fun x y => if y < x then y else x) 47⟩,
  List.forall_mem_cons.mpr ⟨⟨sim_ireturn d117_47 rfl, gr_RetI⟩, fun _ h => absurd h List.not_mem_nil⟩⟩⟩⟩⟩⟩⟩⟩⟩⟩⟩⟩⟩⟩⟩⟩⟩⟩⟩⟩⟩⟩⟩⟩⟩⟩⟩⟩⟩
noncomputable def pg117 : List (Nat × aP) := pg117_0
theorem ok117 : ∀ q ∈ pg117, Sim mT mt117 q.1 q.2 ∧ Grow q.2 := ok117_0
theorem d118_0 : decode mt118.2.1 0 = .ok (.iload_n 1, 1) := by decide +kernel
theorem d118_1 : decode mt118.2.1 1 = .ok (.ifCond .ne 7, 3) := by decide +kernel
theorem d118_4 : decode mt118.2.1 4 = .ok (.iconst 0, 1) := by decide +kernel
theorem d118_5 : decode mt118.2.1 5 = .ok (.goto 28, 3) := by decide +kernel
theorem d118_8 : decode mt118.2.1 8 = .ok (.aload_n 0, 1) := by decide +kernel
theorem d118_9 : decode mt118.2.1 9 = .ok (.getfield 43, 3) := by decide +kernel
theorem d118_12 : decode mt118.2.1 12 = .ok (.aload_n 0, 1) := by decide +kernel
theorem d118_13 : decode mt118.2.1 13 = .ok (.getfield 25, 3) := by decide +kernel
theorem d118_16 : decode mt118.2.1 16 = .ok (.getfield 201, 3) := by decide +kernel
theorem d118_19 : decode mt118.2.1 19 = .ok (.aload_n 0, 1) := by decide +kernel
theorem d118_20 : decode mt118.2.1 20 = .ok (.iload_n 1, 1) := by decide +kernel
theorem d118_21 : decode mt118.2.1 21 = .ok (.invokevirtual 248, 3) := by decide +kernel
theorem d118_24 : decode mt118.2.1 24 = .ok (.iaload, 1) := by decide +kernel
theorem d118_25 : decode mt118.2.1 25 = .ok (.aload_n 0, 1) := by decide +kernel
theorem d118_26 : decode mt118.2.1 26 = .ok (.iload_n 1, 1) := by decide +kernel
theorem d118_27 : decode mt118.2.1 27 = .ok (.invokevirtual 339, 3) := by decide +kernel
theorem d118_30 : decode mt118.2.1 30 = .ok (.invokevirtual 271, 3) := by decide +kernel
theorem d118_33 : decode mt118.2.1 33 = .ok (.ireturn, 1) := by decide +kernel
noncomputable def pg118_0 : List (Nat × aP) := [(0, oLdI 1 1),
  (1, oIf (fun x => ¬ x = 0) 8 4),
  (4, oPush (.int 0) 5),
  (5, oGo 33),
  (8, oLdA 0 9),
  (9, oGetF (fun k => k = 10) 5 12),
  (12, oLdA 0 13),
  (13, oGetF (fun k => k = 10) 2 16),
  (16, oGetF (fun k => k = 3) 6 19),
  (19, oLdA 0 20),
  (20, oLdI 1 21),
  (21, oCalV (fun k => if k = 10 then some 116 else none) 1 24),
  (24, oALdI 25),
  (25, oLdA 0 26),
  (26, oLdI 1 27),
  (27, oCalV (fun k => if k = 10 then some 117 else none) 1 30),
  (30, oCalV (fun k => if k = 1 then some 16 else none) 2 33),
  (33, oRetI)]
theorem ok118_0 : ∀ q ∈ pg118_0, Sim mT mt118 q.1 q.2 ∧ Grow q.2 :=
  List.forall_mem_cons.mpr ⟨⟨sim_iload_n d118_0 rfl, gr_LdI 1 1⟩,
  List.forall_mem_cons.mpr ⟨⟨sim_if_ne d118_1 (by decide), gr_If (fun x => ¬ x = 0) 8 4⟩,
  List.forall_mem_cons.mpr ⟨⟨sim_iconst d118_4 (by decide), gr_Push (.int 0) 5⟩,
  List.forall_mem_cons.mpr ⟨⟨sim_goto d118_5 (by decide), gr_Go 33⟩,
  List.forall_mem_cons.mpr ⟨⟨sim_aload_n d118_8 rfl, gr_LdA 0 9⟩,
  List.forall_mem_cons.mpr ⟨⟨sim_getF d118_9 gf108, gr_GetF (fun k => k = 10) 5 12⟩,
  List.forall_mem_cons.mpr ⟨⟨sim_aload_n d118_12 rfl, gr_LdA 0 13⟩,
  List.forall_mem_cons.mpr ⟨⟨sim_getF d118_13 gf106, gr_GetF (fun k => k = 10) 2 16⟩,
  List.forall_mem_cons.mpr ⟨⟨sim_getF d118_16 gf113, gr_GetF (fun k => k = 3) 6 19⟩,
  List.forall_mem_cons.mpr ⟨⟨sim_aload_n d118_19 rfl, gr_LdA 0 20⟩,
  List.forall_mem_cons.mpr ⟨⟨sim_iload_n d118_20 rfl, gr_LdI 1 21⟩,
  List.forall_mem_cons.mpr ⟨⟨sim_virtual d118_21 vk78, gr_CalV (fun k => if k = 10 then some 116 else none) 1 24⟩,
  List.forall_mem_cons.mpr ⟨⟨sim_iaload d118_24, gr_ALdI 25⟩,
  List.forall_mem_cons.mpr ⟨⟨sim_aload_n d118_25 rfl, gr_LdA 0 26⟩,
  List.forall_mem_cons.mpr ⟨⟨sim_iload_n d118_26 rfl, gr_LdI 1 27⟩,
  List.forall_mem_cons.mpr ⟨⟨sim_virtual d118_27 vk96, gr_CalV (fun k => if k = 10 then some 117 else none) 1 30⟩,
  List.forall_mem_cons.mpr ⟨⟨sim_virtual d118_30 vk84, gr_CalV (fun k => if k = 1 then some 16 else none) 2 33⟩,
  List.forall_mem_cons.mpr ⟨⟨sim_ireturn d118_33 rfl, gr_RetI⟩, fun _ h => absurd h List.not_mem_nil⟩⟩⟩⟩⟩⟩⟩⟩⟩⟩⟩⟩⟩⟩⟩⟩⟩⟩
noncomputable def pg118 : List (Nat × aP) := pg118_0
theorem ok118 : ∀ q ∈ pg118, Sim mT mt118 q.1 q.2 ∧ Grow q.2 := ok118_0
theorem d119_0 : decode mt119.2.1 0 = .ok (.aload_n 0, 1) := by decide +kernel
theorem d119_1 : decode mt119.2.1 1 = .ok (.iconst 1, 1) := by decide +kernel
theorem d119_2 : decode mt119.2.1 2 = .ok (.aload_n 0, 1) := by decide +kernel
theorem d119_3 : decode mt119.2.1 3 = .ok (.getfield 25, 3) := by decide +kernel
theorem d119_6 : decode mt119.2.1 6 = .ok (.getfield 157, 3) := by decide +kernel
theorem d119_9 : decode mt119.2.1 9 = .ok (.ishl, 1) := by decide +kernel
theorem d119_10 : decode mt119.2.1 10 = .ok (.iconst 1, 1) := by decide +kernel
theorem d119_11 : decode mt119.2.1 11 = .ok (.isub, 1) := by decide +kernel
theorem d119_12 : decode mt119.2.1 12 = .ok (.invokevirtual 251, 3) := by decide +kernel
theorem d119_15 : decode mt119.2.1 15 = .ok (.istore_n 2, 1) := by decide +kernel
theorem d119_16 : decode mt119.2.1 16 = .ok (.iconst 0, 1) := by decide +kernel
theorem d119_17 : decode mt119.2.1 17 = .ok (.istore_n 3, 1) := by decide +kernel
theorem d119_18 : decode mt119.2.1 18 = .ok (.iconst 0, 1) := by decide +kernel
theorem d119_19 : decode mt119.2.1 19 = .ok (.istore 4, 2) := by decide +kernel
theorem d119_21 : decode mt119.2.1 21 = .ok (.iconst 0, 1) := by decide +kernel
theorem d119_22 : decode mt119.2.1 22 = .ok (.istore 5, 2) := by decide +kernel
theorem d119_24 : decode mt119.2.1 24 = .ok (.iload 5, 2) := by decide +kernel
theorem d119_26 : decode mt119.2.1 26 = .ok (.iconst 3, 1) := by decide +kernel
theorem d119_27 : decode mt119.2.1 27 = .ok (.if_icmp .ge 48, 3) := by decide +kernel
theorem d119_30 : decode mt119.2.1 30 = .ok (.aload_n 0, 1) := by decide +kernel
theorem d119_31 : decode mt119.2.1 31 = .ok (.iload 5, 2) := by decide +kernel
theorem d119_33 : decode mt119.2.1 33 = .ok (.invokevirtual 342, 3) := by decide +kernel
theorem d119_36 : decode mt119.2.1 36 = .ok (.istore 6, 2) := by decide +kernel
theorem d119_38 : decode mt119.2.1 38 = .ok (.aload_n 0, 1) := by decide +kernel
theorem d119_39 : decode mt119.2.1 39 = .ok (.iload 5, 2) := by decide +kernel
theorem d119_41 : decode mt119.2.1 41 = .ok (.iload_n 2, 1) := by decide +kernel
theorem d119_42 : decode mt119.2.1 42 = .ok (.invokevirtual 345, 3) := by decide +kernel
theorem d119_45 : decode mt119.2.1 45 = .ok (.istore 7, 2) := by decide +kernel
theorem d119_47 : decode mt119.2.1 47 = .ok (.iload 6, 2) := by decide +kernel
theorem d119_49 : decode mt119.2.1 49 = .ok (.iload 7, 2) := by decide +kernel
theorem d119_51 : decode mt119.2.1 51 = .ok (.if_icmp .le 6, 3) := by decide +kernel
theorem d119_54 : decode mt119.2.1 54 = .ok (.ldc 169, 2) := by decide +kernel
theorem d119_56 : decode mt119.2.1 56 = .ok (.ireturn, 1) := by decide +kernel
theorem d119_57 : decode mt119.2.1 57 = .ok (.iload_n 3, 1) := by decide +kernel
theorem d119_58 : decode mt119.2.1 58 = .ok (.iload 6, 2) := by decide +kernel
theorem d119_60 : decode mt119.2.1 60 = .ok (.iadd, 1) := by decide +kernel
theorem d119_61 : decode mt119.2.1 61 = .ok (.istore_n 3, 1) := by decide +kernel
theorem d119_62 : decode mt119.2.1 62 = .ok (.iload 4, 2) := by decide +kernel
theorem d119_64 : decode mt119.2.1 64 = .ok (.iload 7, 2) := by decide +kernel
theorem d119_66 : decode mt119.2.1 66 = .ok (.iadd, 1) := by decide +kernel
theorem d119_67 : decode mt119.2.1 67 = .ok (.istore 4, 2) := by decide +kernel
theorem d119_69 : decode mt119.2.1 69 = .ok (.iinc 5 1, 3) := by decide +kernel
theorem d119_72 : decode mt119.2.1 72 = .ok (.goto (-48), 3) := by decide +kernel
theorem d119_75 : decode mt119.2.1 75 = .ok (.iload_n 3, 1) := by decide +kernel
theorem d119_76 : decode mt119.2.1 76 = .ok (.iload_n 2, 1) := by decide +kernel
theorem d119_77 : decode mt119.2.1 77 = .ok (.if_icmp .gt 9, 3) := by decide +kernel
theorem d119_80 : decode mt119.2.1 80 = .ok (.iload 4, 2) := by decide +kernel
theorem d119_82 : decode mt119.2.1 82 = .ok (.iload_n 2, 1) := by decide +kernel
theorem d119_83 : decode mt119.2.1 83 = .ok (.if_icmp .ge 6, 3) := by decide +kernel
theorem d119_86 : decode mt119.2.1 86 = .ok (.ldc 169, 2) := by decide +kernel
theorem d119_88 : decode mt119.2.1 88 = .ok (.ireturn, 1) := by decide +kernel
theorem d119_89 : decode mt119.2.1 89 = .ok (.aload_n 0, 1) := by decide +kernel
theorem d119_90 : decode mt119.2.1 90 = .ok (.iconst 0, 1) := by decide +kernel
theorem d119_91 : decode mt119.2.1 91 = .ok (.invokevirtual 342, 3) := by decide +kernel
theorem d119_94 : decode mt119.2.1 94 = .ok (.iload_n 2, 1) := by decide +kernel
theorem d119_95 : decode mt119.2.1 95 = .ok (.aload_n 0, 1) := by decide +kernel
theorem d119_96 : decode mt119.2.1 96 = .ok (.iconst 1, 1) := by decide +kernel
theorem d119_97 : decode mt119.2.1 97 = .ok (.iload_n 2, 1) := by decide +kernel
theorem d119_98 : decode mt119.2.1 98 = .ok (.invokevirtual 345, 3) := by decide +kernel
theorem d119_101 : decode mt119.2.1 101 = .ok (.isub, 1) := by decide +kernel
theorem d119_102 : decode mt119.2.1 102 = .ok (.aload_n 0, 1) := by decide +kernel
theorem d119_103 : decode mt119.2.1 103 = .ok (.iconst 2, 1) := by decide +kernel
theorem d119_104 : decode mt119.2.1 104 = .ok (.iload_n 2, 1) := by decide +kernel
theorem d119_105 : decode mt119.2.1 105 = .ok (.invokevirtual 345, 3) := by decide +kernel
theorem d119_108 : decode mt119.2.1 108 = .ok (.isub, 1) := by decide +kernel
theorem d119_109 : decode mt119.2.1 109 = .ok (.invokestatic 348, 3) := by decide +kernel
theorem d119_112 : decode mt119.2.1 112 = .ok (.istore 5, 2) := by decide +kernel
theorem d119_114 : decode mt119.2.1 114 = .ok (.aload_n 0, 1) := by decide +kernel
theorem d119_115 : decode mt119.2.1 115 = .ok (.iconst 1, 1) := by decide +kernel
theorem d119_116 : decode mt119.2.1 116 = .ok (.invokevirtual 342, 3) := by decide +kernel
theorem d119_119 : decode mt119.2.1 119 = .ok (.iload_n 2, 1) := by decide +kernel
theorem d119_120 : decode mt119.2.1 120 = .ok (.iload 5, 2) := by decide +kernel
theorem d119_122 : decode mt119.2.1 122 = .ok (.isub, 1) := by decide +kernel
theorem d119_123 : decode mt119.2.1 123 = .ok (.aload_n 0, 1) := by decide +kernel
theorem d119_124 : decode mt119.2.1 124 = .ok (.iconst 2, 1) := by decide +kernel
theorem d119_125 : decode mt119.2.1 125 = .ok (.iload_n 2, 1) := by decide +kernel
theorem d119_126 : decode mt119.2.1 126 = .ok (.invokevirtual 345, 3) := by decide +kernel
theorem d119_129 : decode mt119.2.1 129 = .ok (.isub, 1) := by decide +kernel
theorem d119_130 : decode mt119.2.1 130 = .ok (.invokestatic 348, 3) := by decide +kernel
theorem d119_133 : decode mt119.2.1 133 = .ok (.istore 6, 2) := by decide +kernel
theorem d119_135 : decode mt119.2.1 135 = .ok (.iload_n 1, 1) := by decide +kernel
theorem d119_136 : decode mt119.2.1 136 = .ok (.ifCond .ne 6, 3) := by decide +kernel
theorem d119_139 : decode mt119.2.1 139 = .ok (.iload 5, 2) := by decide +kernel
theorem d119_141 : decode mt119.2.1 141 = .ok (.ireturn, 1) := by decide +kernel
theorem d119_142 : decode mt119.2.1 142 = .ok (.iload_n 1, 1) := by decide +kernel
theorem d119_143 : decode mt119.2.1 143 = .ok (.iconst 1, 1) := by decide +kernel
theorem d119_144 : decode mt119.2.1 144 = .ok (.if_icmp .ne 8, 3) := by decide +kernel
theorem d119_147 : decode mt119.2.1 147 = .ok (.iload 6, 2) := by decide +kernel
theorem d119_149 : decode mt119.2.1 149 = .ok (.goto 10, 3) := by decide +kernel
theorem d119_152 : decode mt119.2.1 152 = .ok (.iload_n 2, 1) := by decide +kernel
theorem d119_153 : decode mt119.2.1 153 = .ok (.iload 5, 2) := by decide +kernel
theorem d119_155 : decode mt119.2.1 155 = .ok (.isub, 1) := by decide +kernel
theorem d119_156 : decode mt119.2.1 156 = .ok (.iload 6, 2) := by decide +kernel
theorem d119_158 : decode mt119.2.1 158 = .ok (.isub, 1) := by decide +kernel
theorem d119_159 : decode mt119.2.1 159 = .ok (.ireturn, 1) := by decide +kernel
noncomputable def pg119_0 : List (Nat × aP) := [(0, oLdA 0 1),
  (1, oPush (.int 1) 2),
  (2, oLdA 0 3),
  (3, oGetF (fun k => k = 10) 2 6),
  (6, oGetI (fun k => k = 3) 2 9),
  (9, oII (fun x y => x <<< (y &&& 31)) 10),
  (10, oPush (.int 1) 11),
  (11, oII (fun x y => x - y) 12),
  (12, oCalV (fun k => if k = 10 then some 118 else none) 1 15),
  (15, oStI 2 16),
  (16, oPush (.int 0) 17),
  (17, oStI 3 18),
  (18, oPush (.int 0) 19),
  (19, oStI 4 21),
  (21, oPush (.int 0) 22),
  (22, oStI 5 24),
  (24, oLdI 5 26),
  (26, oPush (.int 3) 27),
  (27, oIc (fun x y => y ≤ x) 75 30),
  (30, oLdA 0 31),
  (31, oLdI 5 33),
  (33, oCalV (fun k => if k = 10 then some 120 else none) 1 36),
  (36, oStI 6 38),
  (38, oLdA 0 39),
  (39, oLdI 5 41),
  (41, oLdI 2 42),
  (42, oCalV (fun k => if k = 10 then some 121 else none) 2 45),
  (45, oStI 7 47),
  (47, oLdI 6 49),
  (49, oLdI 7 51),
  (51, oIc (fun x y => x ≤ y) 57 54),
  (54, oPush (.int (-1000000)) 56),
  (56, oRetI),
  (57, oLdI 3 58),
  (58, oLdI 6 60),
  (60, oII (fun x y => x + y) 61),
  (61, oStI 3 62),
  (62, oLdI 4 64),
  (64, oLdI 7 66),
  (66, oII (fun x y => x + y) 67)]
theorem ok119_0 : ∀ q ∈ pg119_0, Sim mT mt119 q.1 q.2 ∧ Grow q.2 :=
  List.forall_mem_cons.mpr ⟨⟨sim_aload_n d119_0 rfl, gr_LdA 0 1⟩,
  List.forall_mem_cons.mpr ⟨⟨sim_iconst d119_1 (by decide), gr_Push (.int 1) 2⟩,
  List.forall_mem_cons.mpr ⟨⟨sim_aload_n d119_2 rfl, gr_LdA 0 3⟩,
  List.forall_mem_cons.mpr ⟨⟨sim_getF d119_3 gf106, gr_GetF (fun k => k = 10) 2 6⟩,
  List.forall_mem_cons.mpr ⟨⟨sim_getI d119_6 gf109, gr_GetI (fun k => k = 3) 2 9⟩,
  List.forall_mem_cons.mpr ⟨⟨sim_ishl d119_9, gr_II (fun x y => x <<< (y &&& 31)) 10⟩,
  List.forall_mem_cons.mpr ⟨⟨sim_iconst d119_10 (by decide), gr_Push (.int 1) 11⟩,
  List.forall_mem_cons.mpr ⟨⟨sim_isub d119_11, gr_II (fun x y => x - y) 12⟩,
  List.forall_mem_cons.mpr ⟨⟨sim_virtual d119_12 vk79, gr_CalV (fun k => if k = 10 then some 118 else none) 1 15⟩,
  List.forall_mem_cons.mpr ⟨⟨sim_istore_n d119_15 rfl (by decide), gr_StI 2 16⟩,
  List.forall_mem_cons.mpr ⟨⟨sim_iconst d119_16 (by decide), gr_Push (.int 0) 17⟩,
  List.forall_mem_cons.mpr ⟨⟨sim_istore_n d119_17 rfl (by decide), gr_StI 3 18⟩,
  List.forall_mem_cons.mpr ⟨⟨sim_iconst d119_18 (by decide), gr_Push (.int 0) 19⟩,
  List.forall_mem_cons.mpr ⟨⟨sim_istore d119_19 (by decide), gr_StI 4 21⟩,
  List.forall_mem_cons.mpr ⟨⟨sim_iconst d119_21 (by decide), gr_Push (.int 0) 22⟩,
  List.forall_mem_cons.mpr ⟨⟨sim_istore d119_22 (by decide), gr_StI 5 24⟩,
  List.forall_mem_cons.mpr ⟨⟨sim_iload d119_24, gr_LdI 5 26⟩,
  List.forall_mem_cons.mpr ⟨⟨sim_iconst d119_26 (by decide), gr_Push (.int 3) 27⟩,
  List.forall_mem_cons.mpr ⟨⟨sim_icmp_ge d119_27 (by decide), gr_Ic (fun x y => y ≤ x) 75 30⟩,
  List.forall_mem_cons.mpr ⟨⟨sim_aload_n d119_30 rfl, gr_LdA 0 31⟩,
  List.forall_mem_cons.mpr ⟨⟨sim_iload d119_31, gr_LdI 5 33⟩,
  List.forall_mem_cons.mpr ⟨⟨sim_virtual d119_33 vk97, gr_CalV (fun k => if k = 10 then some 120 else none) 1 36⟩,
  List.forall_mem_cons.mpr ⟨⟨sim_istore d119_36 (by decide), gr_StI 6 38⟩,
  List.forall_mem_cons.mpr ⟨⟨sim_aload_n d119_38 rfl, gr_LdA 0 39⟩,
  List.forall_mem_cons.mpr ⟨⟨sim_iload d119_39, gr_LdI 5 41⟩,
  List.forall_mem_cons.mpr ⟨⟨sim_iload_n d119_41 rfl, gr_LdI 2 42⟩,
  List.forall_mem_cons.mpr ⟨⟨sim_virtual d119_42 vk98, gr_CalV (fun k => if k = 10 then some 121 else none) 2 45⟩,
  List.forall_mem_cons.mpr ⟨⟨sim_istore d119_45 (by decide), gr_StI 7 47⟩,
  List.forall_mem_cons.mpr ⟨⟨sim_iload d119_47, gr_LdI 6 49⟩,
  List.forall_mem_cons.mpr ⟨⟨sim_iload d119_49, gr_LdI 7 51⟩,
  List.forall_mem_cons.mpr ⟨⟨sim_icmp_le d119_51 (by decide), gr_Ic (fun x y => x ≤ y) 57 54⟩,
  List.forall_mem_cons.mpr ⟨⟨sim_ldc d119_54 kw590, gr_Push (.int (-1000000)) 56⟩,
  List.forall_mem_cons.mpr ⟨⟨sim_ireturn d119_56 rfl, gr_RetI⟩,
  List.forall_mem_cons.mpr ⟨⟨sim_iload_n d119_57 rfl, gr_LdI 3 58⟩,
  List.forall_mem_cons.mpr ⟨⟨sim_iload d119_58, gr_LdI 6 60⟩,
  List.forall_mem_cons.mpr ⟨⟨sim_iadd d119_60, gr_II (fun x y => x + y) 61⟩,
  List.forall_mem_cons.mpr ⟨⟨sim_istore_n d119_61 rfl (by decide), gr_StI 3 62⟩,
  List.forall_mem_cons.mpr ⟨⟨sim_iload d119_62, gr_LdI 4 64⟩,
  List.forall_mem_cons.mpr ⟨⟨sim_iload d119_64, gr_LdI 7 66⟩,
  List.forall_mem_cons.mpr ⟨⟨sim_iadd d119_66, gr_II (fun x y => x + y) 67⟩, fun _ h => absurd h List.not_mem_nil⟩⟩⟩⟩⟩⟩⟩⟩⟩⟩⟩⟩⟩⟩⟩⟩⟩⟩⟩⟩⟩⟩⟩⟩⟩⟩⟩⟩⟩⟩⟩⟩⟩⟩⟩⟩⟩⟩⟩⟩
noncomputable def pg119_1 : List (Nat × aP) := [(67, oStI 4 69),
  (69, oInc 5 1 72),
  (72, oGo 24),
  (75, oLdI 3 76),
  (76, oLdI 2 77),
  (77, oIc (fun x y => y < x) 86 80),
  (80, oLdI 4 82),
  (82, oLdI 2 83),
  (83, oIc (fun x y => y ≤ x) 89 86),
  (86, oPush (.int (-1000000)) 88),
  (88, oRetI),
  (89, oLdA 0 90),
  (90, oPush (.int 0) 91),
  (91, oCalV (fun k => if k = 10 then some 120 else none) 1 94),
  (94, oLdI 2 95),
  (95, oLdA 0 96),
  (96, oPush (.int 1) 97),
  (97, oLdI 2 98),
  (98, oCalV (fun k => if k = 10 then some 121 else none) 2 101),
  (101, oII (fun x y => x - y) 102),
  (102, oLdA 0 103),
  (103, oPush (.int 2) 104),
  (104, oLdI 2 105),
  (105, oCalV (fun k => if k = 10 then some 121 else none) 2 108),
  (108, oII (fun x y => x - y) 109),
  (109, oM2 (fun x y => if x < y then y else x) 112),
  (112, oStI 5 114),
  (114, oLdA 0 115),
  (115, oPush (.int 1) 116),
  (116, oCalV (fun k => if k = 10 then some 120 else none) 1 119),
  (119, oLdI 2 120),
  (120, oLdI 5 122),
  (122, oII (fun x y => x - y) 123),
  (123, oLdA 0 124),
  (124, oPush (.int 2) 125),
  (125, oLdI 2 126),
  (126, oCalV (fun k => if k = 10 then some 121 else none) 2 129),
  (129, oII (fun x y => x - y) 130),
  (130, oM2 (fun x y => if x < y then y else x) 133),
  (133, oStI 6 135)]
theorem ok119_1 : ∀ q ∈ pg119_1, Sim mT mt119 q.1 q.2 ∧ Grow q.2 :=
  List.forall_mem_cons.mpr ⟨⟨sim_istore d119_67 (by decide), gr_StI 4 69⟩,
  List.forall_mem_cons.mpr ⟨⟨sim_iinc d119_69 (by decide) (by decide), gr_Inc 5 1 72⟩,
  List.forall_mem_cons.mpr ⟨⟨sim_goto d119_72 (by decide), gr_Go 24⟩,
  List.forall_mem_cons.mpr ⟨⟨sim_iload_n d119_75 rfl, gr_LdI 3 76⟩,
  List.forall_mem_cons.mpr ⟨⟨sim_iload_n d119_76 rfl, gr_LdI 2 77⟩,
  List.forall_mem_cons.mpr ⟨⟨sim_icmp_gt d119_77 (by decide), gr_Ic (fun x y => y < x) 86 80⟩,
  List.forall_mem_cons.mpr ⟨⟨sim_iload d119_80, gr_LdI 4 82⟩,
  List.forall_mem_cons.mpr ⟨⟨sim_iload_n d119_82 rfl, gr_LdI 2 83⟩,
  List.forall_mem_cons.mpr ⟨⟨sim_icmp_ge d119_83 (by decide), gr_Ic (fun x y => y ≤ x) 89 86⟩,
  List.forall_mem_cons.mpr ⟨⟨sim_ldc d119_86 kw590, gr_Push (.int (-1000000)) 88⟩,
  List.forall_mem_cons.mpr ⟨⟨sim_ireturn d119_88 rfl, gr_RetI⟩,
  List.forall_mem_cons.mpr ⟨⟨sim_aload_n d119_89 rfl, gr_LdA 0 90⟩,
  List.forall_mem_cons.mpr ⟨⟨sim_iconst d119_90 (by decide), gr_Push (.int 0) 91⟩,
  List.forall_mem_cons.mpr ⟨⟨sim_virtual d119_91 vk97, gr_CalV (fun k => if k = 10 then some 120 else none) 1 94⟩,
  List.forall_mem_cons.mpr ⟨⟨sim_iload_n d119_94 rfl, gr_LdI 2 95⟩,
  List.forall_mem_cons.mpr ⟨⟨sim_aload_n d119_95 rfl, gr_LdA 0 96⟩,
  List.forall_mem_cons.mpr ⟨⟨sim_iconst d119_96 (by decide), gr_Push (.int 1) 97⟩,
  List.forall_mem_cons.mpr ⟨⟨sim_iload_n d119_97 rfl, gr_LdI 2 98⟩,
  List.forall_mem_cons.mpr ⟨⟨sim_virtual d119_98 vk98, gr_CalV (fun k => if k = 10 then some 121 else none) 2 101⟩,
  List.forall_mem_cons.mpr ⟨⟨sim_isub d119_101, gr_II (fun x y => x - y) 102⟩,
  List.forall_mem_cons.mpr ⟨⟨sim_aload_n d119_102 rfl, gr_LdA 0 103⟩,
  List.forall_mem_cons.mpr ⟨⟨sim_iconst d119_103 (by decide), gr_Push (.int 2) 104⟩,
  List.forall_mem_cons.mpr ⟨⟨sim_iload_n d119_104 rfl, gr_LdI 2 105⟩,
  List.forall_mem_cons.mpr ⟨⟨sim_virtual d119_105 vk98, gr_CalV (fun k => if k = 10 then some 121 else none) 2 108⟩,
  List.forall_mem_cons.mpr ⟨⟨sim_isub d119_108, gr_II (fun x y => x - y) 109⟩,
  List.forall_mem_cons.mpr ⟨⟨sim_mmax d119_109 kw779 kw780 kw19 kw781, gr_M2 (fun x y => if x < y then y else x) 112⟩,
  List.forall_mem_cons.mpr ⟨⟨sim_istore d119_112 (by decide), gr_StI 5 114⟩,
  List.forall_mem_cons.mpr ⟨⟨sim_aload_n d119_114 rfl, gr_LdA 0 115⟩,
  List.forall_mem_cons.mpr ⟨⟨sim_iconst d119_115 (by decide), gr_Push (.int 1) 116⟩,
  List.forall_mem_cons.mpr ⟨⟨sim_virtual d119_116 vk97, gr_CalV (fun k => if k = 10 then some 120 else none) 1 119⟩,
  List.forall_mem_cons.mpr ⟨⟨sim_iload_n d119_119 rfl, gr_LdI 2 120⟩,
  List.forall_mem_cons.mpr ⟨⟨sim_iload d119_120, gr_LdI 5 122⟩,
  List.forall_mem_cons.mpr ⟨⟨sim_isub d119_122, gr_II (fun x y => x - y) 123⟩,
  List.forall_mem_cons.mpr ⟨⟨sim_aload_n d119_123 rfl, gr_LdA 0 124⟩,
  List.forall_mem_cons.mpr ⟨⟨sim_iconst d119_124 (by decide), gr_Push (.int 2) 125⟩,
  List.forall_mem_cons.mpr ⟨⟨sim_iload_n d119_125 rfl, gr_LdI 2 126⟩,
  List.forall_mem_cons.mpr ⟨⟨sim_virtual d119_126 vk98, gr_CalV (fun k => if k = 10 then some 121 else none) 2 129⟩,
  List.forall_mem_cons.mpr ⟨⟨sim_isub d119_129, gr_II (fun x y => x - y) 130⟩,
  List.forall_mem_cons.mpr ⟨⟨sim_mmax d119_130 kw779 kw780 kw19 kw781, gr_M2 (fun x y => if x < y then y else x) 133⟩,
  List.forall_mem_cons.mpr ⟨⟨sim_istore d119_133 (by decide), gr_StI 6 135⟩, fun _ h => absurd h List.not_mem_nil⟩⟩⟩⟩⟩⟩⟩⟩⟩⟩⟩⟩⟩⟩⟩⟩⟩⟩⟩⟩⟩⟩⟩⟩⟩⟩⟩⟩⟩⟩⟩⟩⟩⟩⟩⟩⟩⟩⟩⟩
noncomputable def pg119_2 : List (Nat × aP) := [(135, oLdI 1 136),
  (136, oIf (fun x => ¬ x = 0) 142 139),
  (139, oLdI 5 141),
  (141, oRetI),
  (142, oLdI 1 143),
  (143, oPush (.int 1) 144),
  (144, oIc (fun x y => ¬ x = y) 152 147),
  (147, oLdI 6 149),
  (149, oGo 159),
  (152, oLdI 2 153),
  (153, oLdI 5 155),
  (155, oII (fun x y => x - y) 156),
  (156, oLdI 6 158),
  (158, oII (fun x y => x - y) 159),
  (159, oRetI)]
theorem ok119_2 : ∀ q ∈ pg119_2, Sim mT mt119 q.1 q.2 ∧ Grow q.2 :=
  List.forall_mem_cons.mpr ⟨⟨sim_iload_n d119_135 rfl, gr_LdI 1 136⟩,
  List.forall_mem_cons.mpr ⟨⟨sim_if_ne d119_136 (by decide), gr_If (fun x => ¬ x = 0) 142 139⟩,
  List.forall_mem_cons.mpr ⟨⟨sim_iload d119_139, gr_LdI 5 141⟩,
  List.forall_mem_cons.mpr ⟨⟨sim_ireturn d119_141 rfl, gr_RetI⟩,
  List.forall_mem_cons.mpr ⟨⟨sim_iload_n d119_142 rfl, gr_LdI 1 143⟩,
  List.forall_mem_cons.mpr ⟨⟨sim_iconst d119_143 (by decide), gr_Push (.int 1) 144⟩,
  List.forall_mem_cons.mpr ⟨⟨sim_icmp_ne d119_144 (by decide), gr_Ic (fun x y => ¬ x = y) 152 147⟩,
  List.forall_mem_cons.mpr ⟨⟨sim_iload d119_147, gr_LdI 6 149⟩,
  List.forall_mem_cons.mpr ⟨⟨sim_goto d119_149 (by decide), gr_Go 159⟩,
  List.forall_mem_cons.mpr ⟨⟨sim_iload_n d119_152 rfl, gr_LdI 2 153⟩,
  List.forall_mem_cons.mpr ⟨⟨sim_iload d119_153, gr_LdI 5 155⟩,
  List.forall_mem_cons.mpr ⟨⟨sim_isub d119_155, gr_II (fun x y => x - y) 156⟩,
  List.forall_mem_cons.mpr ⟨⟨sim_iload d119_156, gr_LdI 6 158⟩,
  List.forall_mem_cons.mpr ⟨⟨sim_isub d119_158, gr_II (fun x y => x - y) 159⟩,
  List.forall_mem_cons.mpr ⟨⟨sim_ireturn d119_159 rfl, gr_RetI⟩, fun _ h => absurd h List.not_mem_nil⟩⟩⟩⟩⟩⟩⟩⟩⟩⟩⟩⟩⟩⟩⟩
noncomputable def pg119 : List (Nat × aP) := pg119_0 ++ (pg119_1 ++ (pg119_2))
theorem ok119 : ∀ q ∈ pg119, Sim mT mt119 q.1 q.2 ∧ Grow q.2 := List.forall_mem_append.mpr ⟨ok119_0, List.forall_mem_append.mpr ⟨ok119_1, ok119_2⟩⟩
theorem d120_0 : decode mt120.2.1 0 = .ok (.iload_n 1, 1) := by decide +kernel
theorem d120_1 : decode mt120.2.1 1 = .ok (.aload_n 0, 1) := by decide +kernel
theorem d120_2 : decode mt120.2.1 2 = .ok (.getfield 25, 3) := by decide +kernel
theorem d120_5 : decode mt120.2.1 5 = .ok (.getfield 157, 3) := by decide +kernel
theorem d120_8 : decode mt120.2.1 8 = .ok (.if_icmp .ge 13, 3) := by decide +kernel
theorem d120_11 : decode mt120.2.1 11 = .ok (.aload_n 0, 1) := by decide +kernel
theorem d120_12 : decode mt120.2.1 12 = .ok (.iconst 1, 1) := by decide +kernel
theorem d120_13 : decode mt120.2.1 13 = .ok (.iload_n 1, 1) := by decide +kernel
theorem d120_14 : decode mt120.2.1 14 = .ok (.ishl, 1) := by decide +kernel
theorem d120_15 : decode mt120.2.1 15 = .ok (.invokevirtual 251, 3) := by decide +kernel
theorem d120_18 : decode mt120.2.1 18 = .ok (.goto 4, 3) := by decide +kernel
theorem d120_21 : decode mt120.2.1 21 = .ok (.iconst 0, 1) := by decide +kernel
theorem d120_22 : decode mt120.2.1 22 = .ok (.ireturn, 1) := by decide +kernel
noncomputable def pg120_0 : List (Nat × aP) := [(0, oLdI 1 1),
  (1, oLdA 0 2),
  (2, oGetF (fun k => k = 10) 2 5),
  (5, oGetI (fun k => k = 3) 2 8),
  (8, oIc (fun x y => y ≤ x) 21 11),
  (11, oLdA 0 12),
  (12, oPush (.int 1) 13),
  (13, oLdI 1 14),
  (14, oII (fun x y => x <<< (y &&& 31)) 15),
  (15, oCalV (fun k => if k = 10 then some 118 else none) 1 18),
  (18, oGo 22),
  (21, oPush (.int 0) 22),
  (22, oRetI)]
theorem ok120_0 : ∀ q ∈ pg120_0, Sim mT mt120 q.1 q.2 ∧ Grow q.2 :=
  List.forall_mem_cons.mpr ⟨⟨sim_iload_n d120_0 rfl, gr_LdI 1 1⟩,
  List.forall_mem_cons.mpr ⟨⟨sim_aload_n d120_1 rfl, gr_LdA 0 2⟩,
  List.forall_mem_cons.mpr ⟨⟨sim_getF d120_2 gf106, gr_GetF (fun k => k = 10) 2 5⟩,
  List.forall_mem_cons.mpr ⟨⟨sim_getI d120_5 gf109, gr_GetI (fun k => k = 3) 2 8⟩,
  List.forall_mem_cons.mpr ⟨⟨sim_icmp_ge d120_8 (by decide), gr_Ic (fun x y => y ≤ x) 21 11⟩,
  List.forall_mem_cons.mpr ⟨⟨sim_aload_n d120_11 rfl, gr_LdA 0 12⟩,
  List.forall_mem_cons.mpr ⟨⟨sim_iconst d120_12 (by decide), gr_Push (.int 1) 13⟩,
  List.forall_mem_cons.mpr ⟨⟨sim_iload_n d120_13 rfl, gr_LdI 1 14⟩,
  List.forall_mem_cons.mpr ⟨⟨sim_ishl d120_14, gr_II (fun x y => x <<< (y &&& 31)) 15⟩,
  List.forall_mem_cons.mpr ⟨⟨sim_virtual d120_15 vk79, gr_CalV (fun k => if k = 10 then some 118 else none) 1 18⟩,
  List.forall_mem_cons.mpr ⟨⟨sim_goto d120_18 (by decide), gr_Go 22⟩,
  List.forall_mem_cons.mpr ⟨⟨sim_iconst d120_21 (by decide), gr_Push (.int 0) 22⟩,
  List.forall_mem_cons.mpr ⟨⟨sim_ireturn d120_22 rfl, gr_RetI⟩, fun _ h => absurd h List.not_mem_nil⟩⟩⟩⟩⟩⟩⟩⟩⟩⟩⟩⟩⟩
noncomputable def pg120 : List (Nat × aP) := pg120_0
theorem ok120 : ∀ q ∈ pg120, Sim mT mt120 q.1 q.2 ∧ Grow q.2 := ok120_0
theorem d121_0 : decode mt121.2.1 0 = .ok (.iconst 1, 1) := by decide +kernel
theorem d121_1 : decode mt121.2.1 1 = .ok (.aload_n 0, 1) := by decide +kernel
theorem d121_2 : decode mt121.2.1 2 = .ok (.getfield 25, 3) := by decide +kernel
theorem d121_5 : decode mt121.2.1 5 = .ok (.getfield 157, 3) := by decide +kernel
theorem d121_8 : decode mt121.2.1 8 = .ok (.ishl, 1) := by decide +kernel
theorem d121_9 : decode mt121.2.1 9 = .ok (.iconst 1, 1) := by decide +kernel
theorem d121_10 : decode mt121.2.1 10 = .ok (.isub, 1) := by decide +kernel
theorem d121_11 : decode mt121.2.1 11 = .ok (.iconst 1, 1) := by decide +kernel
theorem d121_12 : decode mt121.2.1 12 = .ok (.iload_n 1, 1) := by decide +kernel
theorem d121_13 : decode mt121.2.1 13 = .ok (.ishl, 1) := by decide +kernel
theorem d121_14 : decode mt121.2.1 14 = .ok (.iconst (-1), 1) := by decide +kernel
theorem d121_15 : decode mt121.2.1 15 = .ok (.ixor, 1) := by decide +kernel
theorem d121_16 : decode mt121.2.1 16 = .ok (.iand, 1) := by decide +kernel
theorem d121_17 : decode mt121.2.1 17 = .ok (.istore_n 3, 1) := by decide +kernel
theorem d121_18 : decode mt121.2.1 18 = .ok (.iload_n 1, 1) := by decide +kernel
theorem d121_19 : decode mt121.2.1 19 = .ok (.aload_n 0, 1) := by decide +kernel
theorem d121_20 : decode mt121.2.1 20 = .ok (.getfield 25, 3) := by decide +kernel
theorem d121_23 : decode mt121.2.1 23 = .ok (.getfield 157, 3) := by decide +kernel
theorem d121_26 : decode mt121.2.1 26 = .ok (.if_icmp .ge 13, 3) := by decide +kernel
theorem d121_29 : decode mt121.2.1 29 = .ok (.iload_n 2, 1) := by decide +kernel
theorem d121_30 : decode mt121.2.1 30 = .ok (.aload_n 0, 1) := by decide +kernel
theorem d121_31 : decode mt121.2.1 31 = .ok (.iload_n 3, 1) := by decide +kernel
theorem d121_32 : decode mt121.2.1 32 = .ok (.invokevirtual 251, 3) := by decide +kernel
theorem d121_35 : decode mt121.2.1 35 = .ok (.isub, 1) := by decide +kernel
theorem d121_36 : decode mt121.2.1 36 = .ok (.goto 4, 3) := by decide +kernel
theorem d121_39 : decode mt121.2.1 39 = .ok (.iconst 0, 1) := by decide +kernel
theorem d121_40 : decode mt121.2.1 40 = .ok (.ireturn, 1) := by decide +kernel
noncomputable def pg121_0 : List (Nat × aP) := [(0, oPush (.int 1) 1),
  (1, oLdA 0 2),
  (2, oGetF (fun k => k = 10) 2 5),
  (5, oGetI (fun k => k = 3) 2 8),
  (8, oII (fun x y => x <<< (y &&& 31)) 9),
  (9, oPush (.int 1) 10),
  (10, oII (fun x y => x - y) 11),
  (11, oPush (.int 1) 12),
  (12, oLdI 1 13),
  (13, oII (fun x y => x <<< (y &&& 31)) 14),
  (14, oPush (.int (-1)) 15),
  (15, oII (fun x y => x ^^^ y) 16),
  (16, oII (fun x y => x &&& y) 17),
  (17, oStI 3 18),
  (18, oLdI 1 19),
  (19, oLdA 0 20),
  (20, oGetF (fun k => k = 10) 2 23),
  (23, oGetI (fun k => k = 3) 2 26),
  (26, oIc (fun x y => y ≤ x) 39 29),
  (29, oLdI 2 30),
  (30, oLdA 0 31),
  (31, oLdI 3 32),
  (32, oCalV (fun k => if k = 10 then some 118 else none) 1 35),
  (35, oII (fun x y => x - y) 36),
  (36, oGo 40),
  (39, oPush (.int 0) 40),
  (40, oRetI)]
theorem ok121_0 : ∀ q ∈ pg121_0, Sim mT mt121 q.1 q.2 ∧ Grow q.2 :=
  List.forall_mem_cons.mpr ⟨⟨sim_iconst d121_0 (by decide), gr_Push (.int 1) 1⟩,
  List.forall_mem_cons.mpr ⟨⟨sim_aload_n d121_1 rfl, gr_LdA 0 2⟩,
  List.forall_mem_cons.mpr ⟨⟨sim_getF d121_2 gf106, gr_GetF (fun k => k = 10) 2 5⟩,
  List.forall_mem_cons.mpr ⟨⟨sim_getI d121_5 gf109, gr_GetI (fun k => k = 3) 2 8⟩,
  List.forall_mem_cons.mpr ⟨⟨sim_ishl d121_8, gr_II (fun x y => x <<< (y &&& 31)) 9⟩,
  List.forall_mem_cons.mpr ⟨⟨sim_iconst d121_9 (by decide), gr_Push (.int 1) 10⟩,
  List.forall_mem_cons.mpr ⟨⟨sim_isub d121_10, gr_II (fun x y => x - y) 11⟩,
  List.forall_mem_cons.mpr ⟨⟨sim_iconst d121_11 (by decide), gr_Push (.int 1) 12⟩,
  List.forall_mem_cons.mpr ⟨⟨sim_iload_n d121_12 rfl, gr_LdI 1 13⟩,
  List.forall_mem_cons.mpr ⟨⟨sim_ishl d121_13, gr_II (fun x y => x <<< (y &&& 31)) 14⟩,
  List.forall_mem_cons.mpr ⟨⟨sim_iconst d121_14 (by decide), gr_Push (.int (-1)) 15⟩,
  List.forall_mem_cons.mpr ⟨⟨sim_ixor d121_15, gr_II (fun x y => x ^^^ y) 16⟩,
  List.forall_mem_cons.mpr ⟨⟨sim_iand d121_16, gr_II (fun x y => x &&& y) 17⟩,
  List.forall_mem_cons.mpr ⟨⟨sim_istore_n d121_17 rfl (by decide), gr_StI 3 18⟩,
  List.forall_mem_cons.mpr ⟨⟨sim_iload_n d121_18 rfl, gr_LdI 1 19⟩,
  List.forall_mem_cons.mpr ⟨⟨sim_aload_n d121_19 rfl, gr_LdA 0 20⟩,
  List.forall_mem_cons.mpr ⟨⟨sim_getF d121_20 gf106, gr_GetF (fun k => k = 10) 2 23⟩,
  List.forall_mem_cons.mpr ⟨⟨sim_getI d121_23 gf109, gr_GetI (fun k => k = 3) 2 26⟩,
  List.forall_mem_cons.mpr ⟨⟨sim_icmp_ge d121_26 (by decide), gr_Ic (fun x y => y ≤ x) 39 29⟩,
  List.forall_mem_cons.mpr ⟨⟨sim_iload_n d121_29 rfl, gr_LdI 2 30⟩,
  List.forall_mem_cons.mpr ⟨⟨sim_aload_n d121_30 rfl, gr_LdA 0 31⟩,
  List.forall_mem_cons.mpr ⟨⟨sim_iload_n d121_31 rfl, gr_LdI 3 32⟩,
  List.forall_mem_cons.mpr ⟨⟨sim_virtual d121_32 vk79, gr_CalV (fun k => if k = 10 then some 118 else none) 1 35⟩,
  List.forall_mem_cons.mpr ⟨⟨sim_isub d121_35, gr_II (fun x y => x - y) 36⟩,
  List.forall_mem_cons.mpr ⟨⟨sim_goto d121_36 (by decide), gr_Go 40⟩,
  List.forall_mem_cons.mpr ⟨⟨sim_iconst d121_39 (by decide), gr_Push (.int 0) 40⟩,
  List.forall_mem_cons.mpr ⟨⟨sim_ireturn d121_40 rfl, gr_RetI⟩, fun _ h => absurd h List.not_mem_nil⟩⟩⟩⟩⟩⟩⟩⟩⟩⟩⟩⟩⟩⟩⟩⟩⟩⟩⟩⟩⟩⟩⟩⟩⟩⟩⟩
noncomputable def pg121 : List (Nat × aP) := pg121_0
theorem ok121 : ∀ q ∈ pg121, Sim mT mt121 q.1 q.2 ∧ Grow q.2 := ok121_0
theorem d122_0 : decode mt122.2.1 0 = .ok (.lload_n 0, 1) := by decide +kernel
theorem d122_1 : decode mt122.2.1 1 = .ok (.iload_n 2, 1) := by decide +kernel
theorem d122_2 : decode mt122.2.1 2 = .ok (.lushr, 1) := by decide +kernel
theorem d122_3 : decode mt122.2.1 3 = .ok (.lconst 1, 1) := by decide +kernel
theorem d122_4 : decode mt122.2.1 4 = .ok (.land, 1) := by decide +kernel
theorem d122_5 : decode mt122.2.1 5 = .ok (.lconst 0, 1) := by decide +kernel
theorem d122_6 : decode mt122.2.1 6 = .ok (.lcmp, 1) := by decide +kernel
theorem d122_7 : decode mt122.2.1 7 = .ok (.ifCond .eq 7, 3) := by decide +kernel
theorem d122_10 : decode mt122.2.1 10 = .ok (.iconst 1, 1) := by decide +kernel
theorem d122_11 : decode mt122.2.1 11 = .ok (.goto 4, 3) := by decide +kernel
theorem d122_14 : decode mt122.2.1 14 = .ok (.iconst 0, 1) := by decide +kernel
theorem d122_15 : decode mt122.2.1 15 = .ok (.ireturn, 1) := by decide +kernel
noncomputable def pg122_0 : List (Nat × aP) := [(0, oLdL 0 1),
  (1, oLdI 2 2),
  (2, oLSh (fun x y => (x.toUInt64 >>> (y.toInt64.toUInt64 &&& Int64.toUInt64 63)).toInt64) 3),
  (3, oPush (.long 1) 4),
  (4, oLL (fun x y => x &&& y) 5),
  (5, oPush (.long 0) 6),
  (6, oLcmp 7),
  (7, oIf (fun x => x = 0) 14 10),
  (10, oPush (.int 1) 11),
  (11, oGo 15),
  (14, oPush (.int 0) 15),
  (15, oRetN .boolean)]
theorem ok122_0 : ∀ q ∈ pg122_0, Sim mT mt122 q.1 q.2 ∧ Grow q.2 :=
  List.forall_mem_cons.mpr ⟨⟨sim_lload_n d122_0 rfl, gr_LdL 0 1⟩,
  List.forall_mem_cons.mpr ⟨⟨sim_iload_n d122_1 rfl, gr_LdI 2 2⟩,
  List.forall_mem_cons.mpr ⟨⟨sim_lushr d122_2, gr_LSh (fun x y => (x.toUInt64 >>> (y.toInt64.toUInt64 &&& Int64.toUInt64 63)).toInt64) 3⟩,
  List.forall_mem_cons.mpr ⟨⟨sim_lconst d122_3 (by decide), gr_Push (.long 1) 4⟩,
  List.forall_mem_cons.mpr ⟨⟨sim_land d122_4, gr_LL (fun x y => x &&& y) 5⟩,
  List.forall_mem_cons.mpr ⟨⟨sim_lconst d122_5 (by decide), gr_Push (.long 0) 6⟩,
  List.forall_mem_cons.mpr ⟨⟨sim_lcmp d122_6, gr_Lcmp 7⟩,
  List.forall_mem_cons.mpr ⟨⟨sim_if_eq d122_7 (by decide), gr_If (fun x => x = 0) 14 10⟩,
  List.forall_mem_cons.mpr ⟨⟨sim_iconst d122_10 (by decide), gr_Push (.int 1) 11⟩,
  List.forall_mem_cons.mpr ⟨⟨sim_goto d122_11 (by decide), gr_Go 15⟩,
  List.forall_mem_cons.mpr ⟨⟨sim_iconst d122_14 (by decide), gr_Push (.int 0) 15⟩,
  List.forall_mem_cons.mpr ⟨⟨sim_nreturn d122_15 rfl (fun _ h => congrArg Value.int h), gr_RetN .boolean⟩, fun _ h => absurd h List.not_mem_nil⟩⟩⟩⟩⟩⟩⟩⟩⟩⟩⟩⟩
noncomputable def pg122 : List (Nat × aP) := pg122_0
theorem ok122 : ∀ q ∈ pg122, Sim mT mt122 q.1 q.2 ∧ Grow q.2 := ok122_0
theorem d123_0 : decode mt123.2.1 0 = .ok (.iload_n 0, 1) := by decide +kernel
theorem d123_1 : decode mt123.2.1 1 = .ok (.bipush 7, 2) := by decide +kernel
theorem d123_3 : decode mt123.2.1 3 = .ok (.irem, 1) := by decide +kernel
theorem d123_4 : decode mt123.2.1 4 = .ok (.bipush 8, 2) := by decide +kernel
theorem d123_6 : decode mt123.2.1 6 = .ok (.iload_n 0, 1) := by decide +kernel
theorem d123_7 : decode mt123.2.1 7 = .ok (.bipush 7, 2) := by decide +kernel
theorem d123_9 : decode mt123.2.1 9 = .ok (.idiv, 1) := by decide +kernel
theorem d123_10 : decode mt123.2.1 10 = .ok (.imul, 1) := by decide +kernel
theorem d123_11 : decode mt123.2.1 11 = .ok (.iadd, 1) := by decide +kernel
theorem d123_12 : decode mt123.2.1 12 = .ok (.ireturn, 1) := by decide +kernel
noncomputable def pg123_0 : List (Nat × aP) := [(0, oLdI 0 1),
  (1, oPush (.int 7) 3),
  (3, oIId (fun x y => x - x / y * y) 4),
  (4, oPush (.int 8) 6),
  (6, oLdI 0 7),
  (7, oPush (.int 7) 9),
  (9, oIId (fun x y => x / y) 10),
  (10, oII (fun x y => x * y) 11),
  (11, oII (fun x y => x + y) 12),
  (12, oRetI)]
theorem ok123_0 : ∀ q ∈ pg123_0, Sim mT mt123 q.1 q.2 ∧ Grow q.2 :=
  List.forall_mem_cons.mpr ⟨⟨sim_iload_n d123_0 rfl, gr_LdI 0 1⟩,
  List.forall_mem_cons.mpr ⟨⟨sim_bipush d123_1 (by decide), gr_Push (.int 7) 3⟩,
  List.forall_mem_cons.mpr ⟨⟨sim_irem d123_3, gr_IId (fun x y => x - x / y * y) 4⟩,
  List.forall_mem_cons.mpr ⟨⟨sim_bipush d123_4 (by decide), gr_Push (.int 8) 6⟩,
  List.forall_mem_cons.mpr ⟨⟨sim_iload_n d123_6 rfl, gr_LdI 0 7⟩,
  List.forall_mem_cons.mpr ⟨⟨sim_bipush d123_7 (by decide), gr_Push (.int 7) 9⟩,
  List.forall_mem_cons.mpr ⟨⟨sim_idiv d123_9, gr_IId (fun x y => x / y) 10⟩,
  List.forall_mem_cons.mpr ⟨⟨sim_imul d123_10, gr_II (fun x y => x * y) 11⟩,
  List.forall_mem_cons.mpr ⟨⟨sim_iadd d123_11, gr_II (fun x y => x + y) 12⟩,
  List.forall_mem_cons.mpr ⟨⟨sim_ireturn d123_12 rfl, gr_RetI⟩, fun _ h => absurd h List.not_mem_nil⟩⟩⟩⟩⟩⟩⟩⟩⟩⟩
noncomputable def pg123 : List (Nat × aP) := pg123_0
theorem ok123 : ∀ q ∈ pg123, Sim mT mt123 q.1 q.2 ∧ Grow q.2 := ok123_0
theorem d124_0 : decode mt124.2.1 0 = .ok (.lload_n 0, 1) := by decide +kernel
theorem d124_1 : decode mt124.2.1 1 = .ok (.iconst 2, 1) := by decide +kernel
theorem d124_2 : decode mt124.2.1 2 = .ok (.iload_n 2, 1) := by decide +kernel
theorem d124_3 : decode mt124.2.1 3 = .ok (.imul, 1) := by decide +kernel
theorem d124_4 : decode mt124.2.1 4 = .ok (.lushr, 1) := by decide +kernel
theorem d124_5 : decode mt124.2.1 5 = .ok (.ldc2_w 351, 3) := by decide +kernel
theorem d124_8 : decode mt124.2.1 8 = .ok (.land, 1) := by decide +kernel
theorem d124_9 : decode mt124.2.1 9 = .ok (.l2i, 1) := by decide +kernel
theorem d124_10 : decode mt124.2.1 10 = .ok (.ireturn, 1) := by decide +kernel
noncomputable def pg124_0 : List (Nat × aP) := [(0, oLdL 0 1),
  (1, oPush (.int 2) 2),
  (2, oLdI 2 3),
  (3, oII (fun x y => x * y) 4),
  (4, oLSh (fun x y => (x.toUInt64 >>> (y.toInt64.toUInt64 &&& Int64.toUInt64 63)).toInt64) 5),
  (5, oPush (.long 3) 8),
  (8, oLL (fun x y => x &&& y) 9),
  (9, oLI (fun x => x.toInt32) 10),
  (10, oRetI)]
theorem ok124_0 : ∀ q ∈ pg124_0, Sim mT mt124 q.1 q.2 ∧ Grow q.2 :=
  List.forall_mem_cons.mpr ⟨⟨sim_lload_n d124_0 rfl, gr_LdL 0 1⟩,
  List.forall_mem_cons.mpr ⟨⟨sim_iconst d124_1 (by decide), gr_Push (.int 2) 2⟩,
  List.forall_mem_cons.mpr ⟨⟨sim_iload_n d124_2 rfl, gr_LdI 2 3⟩,
  List.forall_mem_cons.mpr ⟨⟨sim_imul d124_3, gr_II (fun x y => x * y) 4⟩,
  List.forall_mem_cons.mpr ⟨⟨sim_lushr d124_4, gr_LSh (fun x y => (x.toUInt64 >>> (y.toInt64.toUInt64 &&& Int64.toUInt64 63)).toInt64) 5⟩,
  List.forall_mem_cons.mpr ⟨⟨sim_ldc2 d124_5 kw724, gr_Push (.long 3) 8⟩,
  List.forall_mem_cons.mpr ⟨⟨sim_land d124_8, gr_LL (fun x y => x &&& y) 9⟩,
  List.forall_mem_cons.mpr ⟨⟨sim_l2i d124_9, gr_LI (fun x => x.toInt32) 10⟩,
  List.forall_mem_cons.mpr ⟨⟨sim_ireturn d124_10 rfl, gr_RetI⟩, fun _ h => absurd h List.not_mem_nil⟩⟩⟩⟩⟩⟩⟩⟩⟩
noncomputable def pg124 : List (Nat × aP) := pg124_0
theorem ok124 : ∀ q ∈ pg124, Sim mT mt124 q.1 q.2 ∧ Grow q.2 := ok124_0
theorem d125_0 : decode mt125.2.1 0 = .ok (.lload_n 0, 1) := by decide +kernel
theorem d125_1 : decode mt125.2.1 1 = .ok (.lload_n 0, 1) := by decide +kernel
theorem d125_2 : decode mt125.2.1 2 = .ok (.bipush 8, 2) := by decide +kernel
theorem d125_4 : decode mt125.2.1 4 = .ok (.lshl, 1) := by decide +kernel
theorem d125_5 : decode mt125.2.1 5 = .ok (.lxor, 1) := by decide +kernel
theorem d125_6 : decode mt125.2.1 6 = .ok (.lreturn, 1) := by decide +kernel
noncomputable def pg125_0 : List (Nat × aP) := [(0, oLdL 0 1),
  (1, oLdL 0 2),
  (2, oPush (.int 8) 4),
  (4, oLSh (fun x y => x <<< (y.toInt64 &&& 63)) 5),
  (5, oLL (fun x y => x ^^^ y) 6),
  (6, oRetL)]
theorem ok125_0 : ∀ q ∈ pg125_0, Sim mT mt125 q.1 q.2 ∧ Grow q.2 :=
  List.forall_mem_cons.mpr ⟨⟨sim_lload_n d125_0 rfl, gr_LdL 0 1⟩,
  List.forall_mem_cons.mpr ⟨⟨sim_lload_n d125_1 rfl, gr_LdL 0 2⟩,
  List.forall_mem_cons.mpr ⟨⟨sim_bipush d125_2 (by decide), gr_Push (.int 8) 4⟩,
  List.forall_mem_cons.mpr ⟨⟨sim_lshl d125_4, gr_LSh (fun x y => x <<< (y.toInt64 &&& 63)) 5⟩,
  List.forall_mem_cons.mpr ⟨⟨sim_lxor d125_5, gr_LL (fun x y => x ^^^ y) 6⟩,
  List.forall_mem_cons.mpr ⟨⟨sim_lreturn d125_6 rfl, gr_RetL⟩, fun _ h => absurd h List.not_mem_nil⟩⟩⟩⟩⟩⟩
noncomputable def pg125 : List (Nat × aP) := pg125_0
theorem ok125 : ∀ q ∈ pg125, Sim mT mt125 q.1 q.2 ∧ Grow q.2 := ok125_0
theorem d126_0 : decode mt126.2.1 0 = .ok (.lload_n 0, 1) := by decide +kernel
theorem d126_1 : decode mt126.2.1 1 = .ok (.lload_n 0, 1) := by decide +kernel
theorem d126_2 : decode mt126.2.1 2 = .ok (.iconst 1, 1) := by decide +kernel
theorem d126_3 : decode mt126.2.1 3 = .ok (.lshl, 1) := by decide +kernel
theorem d126_4 : decode mt126.2.1 4 = .ok (.lxor, 1) := by decide +kernel
theorem d126_5 : decode mt126.2.1 5 = .ok (.lreturn, 1) := by decide +kernel
noncomputable def pg126_0 : List (Nat × aP) := [(0, oLdL 0 1),
  (1, oLdL 0 2),
  (2, oPush (.int 1) 3),
  (3, oLSh (fun x y => x <<< (y.toInt64 &&& 63)) 4),
  (4, oLL (fun x y => x ^^^ y) 5),
  (5, oRetL)]
theorem ok126_0 : ∀ q ∈ pg126_0, Sim mT mt126 q.1 q.2 ∧ Grow q.2 :=
  List.forall_mem_cons.mpr ⟨⟨sim_lload_n d126_0 rfl, gr_LdL 0 1⟩,
  List.forall_mem_cons.mpr ⟨⟨sim_lload_n d126_1 rfl, gr_LdL 0 2⟩,
  List.forall_mem_cons.mpr ⟨⟨sim_iconst d126_2 (by decide), gr_Push (.int 1) 3⟩,
  List.forall_mem_cons.mpr ⟨⟨sim_lshl d126_3, gr_LSh (fun x y => x <<< (y.toInt64 &&& 63)) 4⟩,
  List.forall_mem_cons.mpr ⟨⟨sim_lxor d126_4, gr_LL (fun x y => x ^^^ y) 5⟩,
  List.forall_mem_cons.mpr ⟨⟨sim_lreturn d126_5 rfl, gr_RetL⟩, fun _ h => absurd h List.not_mem_nil⟩⟩⟩⟩⟩⟩
noncomputable def pg126 : List (Nat × aP) := pg126_0
theorem ok126 : ∀ q ∈ pg126, Sim mT mt126 q.1 q.2 ∧ Grow q.2 := ok126_0
theorem d127_0 : decode mt127.2.1 0 = .ok (.iload_n 1, 1) := by decide +kernel
theorem d127_1 : decode mt127.2.1 1 = .ok (.ifCond .eq 8, 3) := by decide +kernel
theorem d127_4 : decode mt127.2.1 4 = .ok (.iload_n 1, 1) := by decide +kernel
theorem d127_5 : decode mt127.2.1 5 = .ok (.iconst 2, 1) := by decide +kernel
theorem d127_6 : decode mt127.2.1 6 = .ok (.if_icmp .ne 5, 3) := by decide +kernel
theorem d127_9 : decode mt127.2.1 9 = .ok (.lconst 0, 1) := by decide +kernel
theorem d127_10 : decode mt127.2.1 10 = .ok (.lreturn, 1) := by decide +kernel
theorem d127_11 : decode mt127.2.1 11 = .ok (.iload_n 1, 1) := by decide +kernel
theorem d127_12 : decode mt127.2.1 12 = .ok (.iconst 1, 1) := by decide +kernel
theorem d127_13 : decode mt127.2.1 13 = .ok (.if_icmp .ne 7, 3) := by decide +kernel
theorem d127_16 : decode mt127.2.1 16 = .ok (.iload_n 0, 1) := by decide +kernel
theorem d127_17 : decode mt127.2.1 17 = .ok (.goto 6, 3) := by decide +kernel
theorem d127_20 : decode mt127.2.1 20 = .ok (.iload_n 0, 1) := by decide +kernel
theorem d127_21 : decode mt127.2.1 21 = .ok (.iconst 1, 1) := by decide +kernel
theorem d127_22 : decode mt127.2.1 22 = .ok (.isub, 1) := by decide +kernel
theorem d127_23 : decode mt127.2.1 23 = .ok (.istore_n 2, 1) := by decide +kernel
theorem d127_24 : decode mt127.2.1 24 = .ok (.ldc2_w 353, 3) := by decide +kernel
theorem d127_27 : decode mt127.2.1 27 = .ok (.iload_n 2, 1) := by decide +kernel
theorem d127_28 : decode mt127.2.1 28 = .ok (.bipush 7, 2) := by decide +kernel
theorem d127_30 : decode mt127.2.1 30 = .ok (.iand, 1) := by decide +kernel
theorem d127_31 : decode mt127.2.1 31 = .ok (.lshl, 1) := by decide +kernel
theorem d127_32 : decode mt127.2.1 32 = .ok (.lconst 1, 1) := by decide +kernel
theorem d127_33 : decode mt127.2.1 33 = .ok (.iload_n 2, 1) := by decide +kernel
theorem d127_34 : decode mt127.2.1 34 = .ok (.bipush 56, 2) := by decide +kernel
theorem d127_36 : decode mt127.2.1 36 = .ok (.iand, 1) := by decide +kernel
theorem d127_37 : decode mt127.2.1 37 = .ok (.lshl, 1) := by decide +kernel
theorem d127_38 : decode mt127.2.1 38 = .ok (.lconst 1, 1) := by decide +kernel
theorem d127_39 : decode mt127.2.1 39 = .ok (.lsub, 1) := by decide +kernel
theorem d127_40 : decode mt127.2.1 40 = .ok (.land, 1) := by decide +kernel
theorem d127_41 : decode mt127.2.1 41 = .ok (.lreturn, 1) := by decide +kernel
noncomputable def pg127_0 : List (Nat × aP) := [(0, oLdI 1 1),
  (1, oIf (fun x => x = 0) 9 4),
  (4, oLdI 1 5),
  (5, oPush (.int 2) 6),
  (6, oIc (fun x y => ¬ x = y) 11 9),
  (9, oPush (.long 0) 10),
  (10, oRetL),
  (11, oLdI 1 12),
  (12, oPush (.int 1) 13),
  (13, oIc (fun x y => ¬ x = y) 20 16),
  (16, oLdI 0 17),
  (17, oGo 23),
  (20, oLdI 0 21),
  (21, oPush (.int 1) 22),
  (22, oII (fun x y => x - y) 23),
  (23, oStI 2 24),
  (24, oPush (.long 72340172838076673) 27),
  (27, oLdI 2 28),
  (28, oPush (.int 7) 30),
  (30, oII (fun x y => x &&& y) 31),
  (31, oLSh (fun x y => x <<< (y.toInt64 &&& 63)) 32),
  (32, oPush (.long 1) 33),
  (33, oLdI 2 34),
  (34, oPush (.int 56) 36),
  (36, oII (fun x y => x &&& y) 37),
  (37, oLSh (fun x y => x <<< (y.toInt64 &&& 63)) 38),
  (38, oPush (.long 1) 39),
  (39, oLL (fun x y => x - y) 40),
  (40, oLL (fun x y => x &&& y) 41),
  (41, oRetL)]
theorem ok127_0 : ∀ q ∈ pg127_0, Sim mT mt127 q.1 q.2 ∧ Grow q.2 :=
  List.forall_mem_cons.mpr ⟨⟨sim_iload_n d127_0 rfl, gr_LdI 1 1⟩,
  List.forall_mem_cons.mpr ⟨⟨sim_if_eq d127_1 (by decide), gr_If (fun x => x = 0) 9 4⟩,
  List.forall_mem_cons.mpr ⟨⟨sim_iload_n d127_4 rfl, gr_LdI 1 5⟩,
  List.forall_mem_cons.mpr ⟨⟨sim_iconst d127_5 (by decide), gr_Push (.int 2) 6⟩,
  List.forall_mem_cons.mpr ⟨⟨sim_icmp_ne d127_6 (by decide), gr_Ic (fun x y => ¬ x = y) 11 9⟩,
  List.forall_mem_cons.mpr ⟨⟨sim_lconst d127_9 (by decide), gr_Push (.long 0) 10⟩,
  List.forall_mem_cons.mpr ⟨⟨sim_lreturn d127_10 rfl, gr_RetL⟩,
  List.forall_mem_cons.mpr ⟨⟨sim_iload_n d127_11 rfl, gr_LdI 1 12⟩,
  List.forall_mem_cons.mpr ⟨⟨sim_iconst d127_12 (by decide), gr_Push (.int 1) 13⟩,
  List.forall_mem_cons.mpr ⟨⟨sim_icmp_ne d127_13 (by decide), gr_Ic (fun x y => ¬ x = y) 20 16⟩,
  List.forall_mem_cons.mpr ⟨⟨sim_iload_n d127_16 rfl, gr_LdI 0 17⟩,
  List.forall_mem_cons.mpr ⟨⟨sim_goto d127_17 (by decide), gr_Go 23⟩,
  List.forall_mem_cons.mpr ⟨⟨sim_iload_n d127_20 rfl, gr_LdI 0 21⟩,
  List.forall_mem_cons.mpr ⟨⟨sim_iconst d127_21 (by decide), gr_Push (.int 1) 22⟩,
  List.forall_mem_cons.mpr ⟨⟨sim_isub d127_22, gr_II (fun x y => x - y) 23⟩,
  List.forall_mem_cons.mpr ⟨⟨sim_istore_n d127_23 rfl (by decide), gr_StI 2 24⟩,
  List.forall_mem_cons.mpr ⟨⟨sim_ldc2 d127_24 kw622, gr_Push (.long 72340172838076673) 27⟩,
  List.forall_mem_cons.mpr ⟨⟨sim_iload_n d127_27 rfl, gr_LdI 2 28⟩,
  List.forall_mem_cons.mpr ⟨⟨sim_bipush d127_28 (by decide), gr_Push (.int 7) 30⟩,
  List.forall_mem_cons.mpr ⟨⟨sim_iand d127_30, gr_II (fun x y => x &&& y) 31⟩,
  List.forall_mem_cons.mpr ⟨⟨sim_lshl d127_31, gr_LSh (fun x y => x <<< (y.toInt64 &&& 63)) 32⟩,
  List.forall_mem_cons.mpr ⟨⟨sim_lconst d127_32 (by decide), gr_Push (.long 1) 33⟩,
  List.forall_mem_cons.mpr ⟨⟨sim_iload_n d127_33 rfl, gr_LdI 2 34⟩,
  List.forall_mem_cons.mpr ⟨⟨sim_bipush d127_34 (by decide), gr_Push (.int 56) 36⟩,
  List.forall_mem_cons.mpr ⟨⟨sim_iand d127_36, gr_II (fun x y => x &&& y) 37⟩,
  List.forall_mem_cons.mpr ⟨⟨sim_lshl d127_37, gr_LSh (fun x y => x <<< (y.toInt64 &&& 63)) 38⟩,
  List.forall_mem_cons.mpr ⟨⟨sim_lconst d127_38 (by decide), gr_Push (.long 1) 39⟩,
  List.forall_mem_cons.mpr ⟨⟨sim_lsub d127_39, gr_LL (fun x y => x - y) 40⟩,
  List.forall_mem_cons.mpr ⟨⟨sim_land d127_40, gr_LL (fun x y => x &&& y) 41⟩,
  List.forall_mem_cons.mpr ⟨⟨sim_lreturn d127_41 rfl, gr_RetL⟩, fun _ h => absurd h List.not_mem_nil⟩⟩⟩⟩⟩⟩⟩⟩⟩⟩⟩⟩⟩⟩⟩⟩⟩⟩⟩⟩⟩⟩⟩⟩⟩⟩⟩⟩⟩⟩
noncomputable def pg127 : List (Nat × aP) := pg127_0
theorem ok127 : ∀ q ∈ pg127, Sim mT mt127 q.1 q.2 ∧ Grow q.2 := ok127_0
theorem d128_0 : decode mt128.2.1 0 = .ok (.iload_n 0, 1) := by decide +kernel
theorem d128_1 : decode mt128.2.1 1 = .ok (.istore_n 2, 1) := by decide +kernel
theorem d128_2 : decode mt128.2.1 2 = .ok (.iconst 0, 1) := by decide +kernel
theorem d128_3 : decode mt128.2.1 3 = .ok (.istore_n 3, 1) := by decide +kernel
theorem d128_4 : decode mt128.2.1 4 = .ok (.iload_n 3, 1) := by decide +kernel
theorem d128_5 : decode mt128.2.1 5 = .ok (.bipush 6, 2) := by decide +kernel
theorem d128_7 : decode mt128.2.1 7 = .ok (.if_icmp .ge 25, 3) := by decide +kernel
theorem d128_10 : decode mt128.2.1 10 = .ok (.iload_n 2, 1) := by decide +kernel
theorem d128_11 : decode mt128.2.1 11 = .ok (.ifCond .eq 21, 3) := by decide +kernel
theorem d128_14 : decode mt128.2.1 14 = .ok (.iload_n 2, 1) := by decide +kernel
theorem d128_15 : decode mt128.2.1 15 = .ok (.iload_n 1, 1) := by decide +kernel
theorem d128_16 : decode mt128.2.1 16 = .ok (.if_icmp .ne 5, 3) := by decide +kernel
theorem d128_19 : decode mt128.2.1 19 = .ok (.iconst 1, 1) := by decide +kernel
theorem d128_20 : decode mt128.2.1 20 = .ok (.ireturn, 1) := by decide +kernel
theorem d128_21 : decode mt128.2.1 21 = .ok (.iload_n 2, 1) := by decide +kernel
theorem d128_22 : decode mt128.2.1 22 = .ok (.invokestatic 355, 3) := by decide +kernel
theorem d128_25 : decode mt128.2.1 25 = .ok (.istore_n 2, 1) := by decide +kernel
theorem d128_26 : decode mt128.2.1 26 = .ok (.iinc 3 1, 3) := by decide +kernel
theorem d128_29 : decode mt128.2.1 29 = .ok (.goto (-25), 3) := by decide +kernel
theorem d128_32 : decode mt128.2.1 32 = .ok (.iload_n 1, 1) := by decide +kernel
theorem d128_33 : decode mt128.2.1 33 = .ok (.ifCond .ne 7, 3) := by decide +kernel
theorem d128_36 : decode mt128.2.1 36 = .ok (.iconst 1, 1) := by decide +kernel
theorem d128_37 : decode mt128.2.1 37 = .ok (.goto 4, 3) := by decide +kernel
theorem d128_40 : decode mt128.2.1 40 = .ok (.iconst 0, 1) := by decide +kernel
theorem d128_41 : decode mt128.2.1 41 = .ok (.ireturn, 1) := by decide +kernel
noncomputable def pg128_0 : List (Nat × aP) := [(0, oLdI 0 1),
  (1, oStI 2 2),
  (2, oPush (.int 0) 3),
  (3, oStI 3 4),
  (4, oLdI 3 5),
  (5, oPush (.int 6) 7),
  (7, oIc (fun x y => y ≤ x) 32 10),
  (10, oLdI 2 11),
  (11, oIf (fun x => x = 0) 32 14),
  (14, oLdI 2 15),
  (15, oLdI 1 16),
  (16, oIc (fun x y => ¬ x = y) 21 19),
  (19, oPush (.int 1) 20),
  (20, oRetN .boolean),
  (21, oLdI 2 22),
  (22, oCall 129 1 25),
  (25, oStI 2 26),
  (26, oInc 3 1 29),
  (29, oGo 4),
  (32, oLdI 1 33),
  (33, oIf (fun x => ¬ x = 0) 40 36),
  (36, oPush (.int 1) 37),
  (37, oGo 41),
  (40, oPush (.int 0) 41),
  (41, oRetN .boolean)]
theorem ok128_0 : ∀ q ∈ pg128_0, Sim mT mt128 q.1 q.2 ∧ Grow q.2 :=
  List.forall_mem_cons.mpr ⟨⟨sim_iload_n d128_0 rfl, gr_LdI 0 1⟩,
  List.forall_mem_cons.mpr ⟨⟨sim_istore_n d128_1 rfl (by decide), gr_StI 2 2⟩,
  List.forall_mem_cons.mpr ⟨⟨sim_iconst d128_2 (by decide), gr_Push (.int 0) 3⟩,
  List.forall_mem_cons.mpr ⟨⟨sim_istore_n d128_3 rfl (by decide), gr_StI 3 4⟩,
  List.forall_mem_cons.mpr ⟨⟨sim_iload_n d128_4 rfl, gr_LdI 3 5⟩,
  List.forall_mem_cons.mpr ⟨⟨sim_bipush d128_5 (by decide), gr_Push (.int 6) 7⟩,
  List.forall_mem_cons.mpr ⟨⟨sim_icmp_ge d128_7 (by decide), gr_Ic (fun x y => y ≤ x) 32 10⟩,
  List.forall_mem_cons.mpr ⟨⟨sim_iload_n d128_10 rfl, gr_LdI 2 11⟩,
  List.forall_mem_cons.mpr ⟨⟨sim_if_eq d128_11 (by decide), gr_If (fun x => x = 0) 32 14⟩,
  List.forall_mem_cons.mpr ⟨⟨sim_iload_n d128_14 rfl, gr_LdI 2 15⟩,
  List.forall_mem_cons.mpr ⟨⟨sim_iload_n d128_15 rfl, gr_LdI 1 16⟩,
  List.forall_mem_cons.mpr ⟨⟨sim_icmp_ne d128_16 (by decide), gr_Ic (fun x y => ¬ x = y) 21 19⟩,
  List.forall_mem_cons.mpr ⟨⟨sim_iconst d128_19 (by decide), gr_Push (.int 1) 20⟩,
  List.forall_mem_cons.mpr ⟨⟨sim_nreturn d128_20 rfl (fun _ h => congrArg Value.int h), gr_RetN .boolean⟩,
  List.forall_mem_cons.mpr ⟨⟨sim_iload_n d128_21 rfl, gr_LdI 2 22⟩,
  List.forall_mem_cons.mpr ⟨⟨sim_static (y := 129) d128_22 (Or.inl kw846) kw847 mo129, gr_Call 129 1 25⟩,
  List.forall_mem_cons.mpr ⟨⟨sim_istore_n d128_25 rfl (by decide), gr_StI 2 26⟩,
  List.forall_mem_cons.mpr ⟨⟨sim_iinc d128_26 (by decide) (by decide), gr_Inc 3 1 29⟩,
  List.forall_mem_cons.mpr ⟨⟨sim_goto d128_29 (by decide), gr_Go 4⟩,
  List.forall_mem_cons.mpr ⟨⟨sim_iload_n d128_32 rfl, gr_LdI 1 33⟩,
  List.forall_mem_cons.mpr ⟨⟨sim_if_ne d128_33 (by decide), gr_If (fun x => ¬ x = 0) 40 36⟩,
  List.forall_mem_cons.mpr ⟨⟨sim_iconst d128_36 (by decide), gr_Push (.int 1) 37⟩,
  List.forall_mem_cons.mpr ⟨⟨sim_goto d128_37 (by decide), gr_Go 41⟩,
  List.forall_mem_cons.mpr ⟨⟨sim_iconst d128_40 (by decide), gr_Push (.int 0) 41⟩,
  List.forall_mem_cons.mpr ⟨⟨sim_nreturn d128_41 rfl (fun _ h => congrArg Value.int h), gr_RetN .boolean⟩, fun _ h => absurd h List.not_mem_nil⟩⟩⟩⟩⟩⟩⟩⟩⟩⟩⟩⟩⟩⟩⟩⟩⟩⟩⟩⟩⟩⟩⟩⟩⟩
noncomputable def pg128 : List (Nat × aP) := pg128_0
theorem ok128 : ∀ q ∈ pg128, Sim mT mt128 q.1 q.2 ∧ Grow q.2 := ok128_0
theorem d129_0 : decode mt129.2.1 0 = .ok (.iload_n 0, 1) := by decide +kernel
theorem d129_1 : decode mt129.2.1 1 = .ok (.tableswitch 31 3 5 #[29, 29, 27], 27) := by decide +kernel
theorem d129_28 : decode mt129.2.1 28 = .ok (.iconst 3, 1) := by decide +kernel
theorem d129_29 : decode mt129.2.1 29 = .ok (.ireturn, 1) := by decide +kernel
theorem d129_30 : decode mt129.2.1 30 = .ok (.iconst 1, 1) := by decide +kernel
theorem d129_31 : decode mt129.2.1 31 = .ok (.ireturn, 1) := by decide +kernel
theorem d129_32 : decode mt129.2.1 32 = .ok (.iconst 0, 1) := by decide +kernel
theorem d129_33 : decode mt129.2.1 33 = .ok (.ireturn, 1) := by decide +kernel
noncomputable def pg129_0 : List (Nat × aP) := [(0, oLdI 0 1),
  (1, oSw 3 5 [30, 30, 28] 32),
  (28, oPush (.int 3) 29),
  (29, oRetI),
  (30, oPush (.int 1) 31),
  (31, oRetI),
  (32, oPush (.int 0) 33),
  (33, oRetI)]
theorem ok129_0 : ∀ q ∈ pg129_0, Sim mT mt129 q.1 q.2 ∧ Grow q.2 :=
  List.forall_mem_cons.mpr ⟨⟨sim_iload_n d129_0 rfl, gr_LdI 0 1⟩,
  List.forall_mem_cons.mpr ⟨⟨sim_tsw d129_1 (by decide) (tsw_ok (by decide +kernel)), gr_Sw 3 5 [30, 30, 28] 32⟩,
  List.forall_mem_cons.mpr ⟨⟨sim_iconst d129_28 (by decide), gr_Push (.int 3) 29⟩,
  List.forall_mem_cons.mpr ⟨⟨sim_ireturn d129_29 rfl, gr_RetI⟩,
  List.forall_mem_cons.mpr ⟨⟨sim_iconst d129_30 (by decide), gr_Push (.int 1) 31⟩,
  List.forall_mem_cons.mpr ⟨⟨sim_ireturn d129_31 rfl, gr_RetI⟩,
  List.forall_mem_cons.mpr ⟨⟨sim_iconst d129_32 (by decide), gr_Push (.int 0) 33⟩,
  List.forall_mem_cons.mpr ⟨⟨sim_ireturn d129_33 rfl, gr_RetI⟩, fun _ h => absurd h List.not_mem_nil⟩⟩⟩⟩⟩⟩⟩⟩
noncomputable def pg129 : List (Nat × aP) := pg129_0
theorem ok129 : ∀ q ∈ pg129, Sim mT mt129 q.1 q.2 ∧ Grow q.2 := ok129_0
theorem d130_0 : decode mt130.2.1 0 = .ok (.aload_n 0, 1) := by decide +kernel
theorem d130_1 : decode mt130.2.1 1 = .ok (.invokespecial 1, 3) := by decide +kernel
theorem d130_4 : decode mt130.2.1 4 = .ok (.aload_n 0, 1) := by decide +kernel
theorem d130_5 : decode mt130.2.1 5 = .ok (.bipush 8, 2) := by decide +kernel
theorem d130_7 : decode mt130.2.1 7 = .ok (.newarray .int, 2) := by decide +kernel
theorem d130_9 : decode mt130.2.1 9 = .ok (.dup, 1) := by decide +kernel
theorem d130_10 : decode mt130.2.1 10 = .ok (.iconst 0, 1) := by decide +kernel
theorem d130_11 : decode mt130.2.1 11 = .ok (.iconst (-1), 1) := by decide +kernel
theorem d130_12 : decode mt130.2.1 12 = .ok (.iastore, 1) := by decide +kernel
theorem d130_13 : decode mt130.2.1 13 = .ok (.dup, 1) := by decide +kernel
theorem d130_14 : decode mt130.2.1 14 = .ok (.iconst 1, 1) := by decide +kernel
theorem d130_15 : decode mt130.2.1 15 = .ok (.iconst (-1), 1) := by decide +kernel
theorem d130_16 : decode mt130.2.1 16 = .ok (.iastore, 1) := by decide +kernel
theorem d130_17 : decode mt130.2.1 17 = .ok (.dup, 1) := by decide +kernel
theorem d130_18 : decode mt130.2.1 18 = .ok (.iconst 2, 1) := by decide +kernel
theorem d130_19 : decode mt130.2.1 19 = .ok (.iconst (-1), 1) := by decide +kernel
theorem d130_20 : decode mt130.2.1 20 = .ok (.iastore, 1) := by decide +kernel
theorem d130_21 : decode mt130.2.1 21 = .ok (.dup, 1) := by decide +kernel
theorem d130_22 : decode mt130.2.1 22 = .ok (.iconst 3, 1) := by decide +kernel
theorem d130_23 : decode mt130.2.1 23 = .ok (.iconst (-1), 1) := by decide +kernel
theorem d130_24 : decode mt130.2.1 24 = .ok (.iastore, 1) := by decide +kernel
theorem d130_25 : decode mt130.2.1 25 = .ok (.dup, 1) := by decide +kernel
theorem d130_26 : decode mt130.2.1 26 = .ok (.iconst 4, 1) := by decide +kernel
theorem d130_27 : decode mt130.2.1 27 = .ok (.iconst (-1), 1) := by decide +kernel
theorem d130_28 : decode mt130.2.1 28 = .ok (.iastore, 1) := by decide +kernel
theorem d130_29 : decode mt130.2.1 29 = .ok (.dup, 1) := by decide +kernel
theorem d130_30 : decode mt130.2.1 30 = .ok (.iconst 5, 1) := by decide +kernel
theorem d130_31 : decode mt130.2.1 31 = .ok (.iconst (-1), 1) := by decide +kernel
theorem d130_32 : decode mt130.2.1 32 = .ok (.iastore, 1) := by decide +kernel
theorem d130_33 : decode mt130.2.1 33 = .ok (.dup, 1) := by decide +kernel
theorem d130_34 : decode mt130.2.1 34 = .ok (.bipush 6, 2) := by decide +kernel
theorem d130_36 : decode mt130.2.1 36 = .ok (.iconst (-1), 1) := by decide +kernel
theorem d130_37 : decode mt130.2.1 37 = .ok (.iastore, 1) := by decide +kernel
theorem d130_38 : decode mt130.2.1 38 = .ok (.dup, 1) := by decide +kernel
theorem d130_39 : decode mt130.2.1 39 = .ok (.bipush 7, 2) := by decide +kernel
theorem d130_41 : decode mt130.2.1 41 = .ok (.iconst (-1), 1) := by decide +kernel
theorem d130_42 : decode mt130.2.1 42 = .ok (.iastore, 1) := by decide +kernel
theorem d130_43 : decode mt130.2.1 43 = .ok (.putfield 7, 3) := by decide +kernel
theorem d130_46 : decode mt130.2.1 46 = .ok (.aload_n 0, 1) := by decide +kernel
theorem d130_47 : decode mt130.2.1 47 = .ok (.bipush 8, 2) := by decide +kernel
theorem d130_49 : decode mt130.2.1 49 = .ok (.newarray .int, 2) := by decide +kernel
theorem d130_51 : decode mt130.2.1 51 = .ok (.putfield 13, 3) := by decide +kernel
theorem d130_54 : decode mt130.2.1 54 = .ok (.aload_n 0, 1) := by decide +kernel
theorem d130_55 : decode mt130.2.1 55 = .ok (.sipush 320, 3) := by decide +kernel
theorem d130_58 : decode mt130.2.1 58 = .ok (.newarray .int, 2) := by decide +kernel
theorem d130_60 : decode mt130.2.1 60 = .ok (.putfield 16, 3) := by decide +kernel
theorem d130_63 : decode mt130.2.1 63 = .ok (.aload_n 0, 1) := by decide +kernel
theorem d130_64 : decode mt130.2.1 64 = .ok (.sipush 194, 3) := by decide +kernel
theorem d130_67 : decode mt130.2.1 67 = .ok (.newarray .int, 2) := by decide +kernel
theorem d130_69 : decode mt130.2.1 69 = .ok (.putfield 19, 3) := by decide +kernel
theorem d130_72 : decode mt130.2.1 72 = .ok (.aload_n 0, 1) := by decide +kernel
theorem d130_73 : decode mt130.2.1 73 = .ok (.sipush 194, 3) := by decide +kernel
theorem d130_76 : decode mt130.2.1 76 = .ok (.newarray .int, 2) := by decide +kernel
theorem d130_78 : decode mt130.2.1 78 = .ok (.putfield 22, 3) := by decide +kernel
theorem d130_81 : decode mt130.2.1 81 = .ok (.aload_n 0, 1) := by decide +kernel
theorem d130_82 : decode mt130.2.1 82 = .ok (.sipush 300, 3) := by decide +kernel
theorem d130_85 : decode mt130.2.1 85 = .ok (.newarray .int, 2) := by decide +kernel
theorem d130_87 : decode mt130.2.1 87 = .ok (.putfield 25, 3) := by decide +kernel
theorem d130_90 : decode mt130.2.1 90 = .ok (.aload_n 0, 1) := by decide +kernel
theorem d130_91 : decode mt130.2.1 91 = .ok (.sipush 224, 3) := by decide +kernel
theorem d130_94 : decode mt130.2.1 94 = .ok (.newarray .boolean, 2) := by decide +kernel
theorem d130_96 : decode mt130.2.1 96 = .ok (.putfield 28, 3) := by decide +kernel
theorem d130_99 : decode mt130.2.1 99 = .ok (.aload_n 0, 1) := by decide +kernel
theorem d130_100 : decode mt130.2.1 100 = .ok (.bipush 42, 2) := by decide +kernel
theorem d130_102 : decode mt130.2.1 102 = .ok (.newarray .int, 2) := by decide +kernel
theorem d130_104 : decode mt130.2.1 104 = .ok (.putfield 32, 3) := by decide +kernel
theorem d130_107 : decode mt130.2.1 107 = .ok (.aload_n 0, 1) := by decide +kernel
theorem d130_108 : decode mt130.2.1 108 = .ok (.bipush 21, 2) := by decide +kernel
theorem d130_110 : decode mt130.2.1 110 = .ok (.newarray .int, 2) := by decide +kernel
theorem d130_112 : decode mt130.2.1 112 = .ok (.putfield 35, 3) := by decide +kernel
theorem d130_115 : decode mt130.2.1 115 = .ok (.aload_n 0, 1) := by decide +kernel
theorem d130_116 : decode mt130.2.1 116 = .ok (.bipush 24, 2) := by decide +kernel
theorem d130_118 : decode mt130.2.1 118 = .ok (.newarray .int, 2) := by decide +kernel
theorem d130_120 : decode mt130.2.1 120 = .ok (.putfield 38, 3) := by decide +kernel
theorem d130_123 : decode mt130.2.1 123 = .ok (.aload_n 0, 1) := by decide +kernel
theorem d130_124 : decode mt130.2.1 124 = .ok (.bipush 26, 2) := by decide +kernel
theorem d130_126 : decode mt130.2.1 126 = .ok (.newarray .int, 2) := by decide +kernel
theorem d130_128 : decode mt130.2.1 128 = .ok (.putfield 41, 3) := by decide +kernel
theorem d130_131 : decode mt130.2.1 131 = .ok (.aload_n 0, 1) := by decide +kernel
theorem d130_132 : decode mt130.2.1 132 = .ok (.bipush 26, 2) := by decide +kernel
theorem d130_134 : decode mt130.2.1 134 = .ok (.newarray .int, 2) := by decide +kernel
theorem d130_136 : decode mt130.2.1 136 = .ok (.putfield 44, 3) := by decide +kernel
theorem d130_139 : decode mt130.2.1 139 = .ok (.aload_n 0, 1) := by decide +kernel
theorem d130_140 : decode mt130.2.1 140 = .ok (.iconst 2, 1) := by decide +kernel
theorem d130_141 : decode mt130.2.1 141 = .ok (.newarray .int, 2) := by decide +kernel
theorem d130_143 : decode mt130.2.1 143 = .ok (.putfield 47, 3) := by decide +kernel
theorem d130_146 : decode mt130.2.1 146 = .ok (.aload_n 0, 1) := by decide +kernel
theorem d130_147 : decode mt130.2.1 147 = .ok (.iconst 2, 1) := by decide +kernel
theorem d130_148 : decode mt130.2.1 148 = .ok (.newarray .int, 2) := by decide +kernel
theorem d130_150 : decode mt130.2.1 150 = .ok (.putfield 50, 3) := by decide +kernel
theorem d130_153 : decode mt130.2.1 153 = .ok (.aload_n 0, 1) := by decide +kernel
theorem d130_154 : decode mt130.2.1 154 = .ok (.iconst 2, 1) := by decide +kernel
theorem d130_155 : decode mt130.2.1 155 = .ok (.newarray .int, 2) := by decide +kernel
theorem d130_157 : decode mt130.2.1 157 = .ok (.putfield 53, 3) := by decide +kernel
theorem d130_160 : decode mt130.2.1 160 = .ok (.aload_n 0, 1) := by decide +kernel
theorem d130_161 : decode mt130.2.1 161 = .ok (.iconst 2, 1) := by decide +kernel
theorem d130_162 : decode mt130.2.1 162 = .ok (.newarray .int, 2) := by decide +kernel
theorem d130_164 : decode mt130.2.1 164 = .ok (.putfield 56, 3) := by decide +kernel
theorem d130_167 : decode mt130.2.1 167 = .ok (.aload_n 0, 1) := by decide +kernel
theorem d130_168 : decode mt130.2.1 168 = .ok (.bipush 12, 2) := by decide +kernel
theorem d130_170 : decode mt130.2.1 170 = .ok (.newarray .int, 2) := by decide +kernel
theorem d130_172 : decode mt130.2.1 172 = .ok (.putfield 59, 3) := by decide +kernel
theorem d130_175 : decode mt130.2.1 175 = .ok (.aload_n 0, 1) := by decide +kernel
theorem d130_176 : decode mt130.2.1 176 = .ok (.bipush 8, 2) := by decide +kernel
theorem d130_178 : decode mt130.2.1 178 = .ok (.newarray .int, 2) := by decide +kernel
theorem d130_180 : decode mt130.2.1 180 = .ok (.putfield 62, 3) := by decide +kernel
theorem d130_183 : decode mt130.2.1 183 = .ok (.aload_n 0, 1) := by decide +kernel
theorem d130_184 : decode mt130.2.1 184 = .ok (.iconst 2, 1) := by decide +kernel
theorem d130_185 : decode mt130.2.1 185 = .ok (.newarray .boolean, 2) := by decide +kernel
theorem d130_187 : decode mt130.2.1 187 = .ok (.putfield 65, 3) := by decide +kernel
theorem d130_190 : decode mt130.2.1 190 = .ok (.aload_n 0, 1) := by decide +kernel
theorem d130_191 : decode mt130.2.1 191 = .ok (.sipush 388, 3) := by decide +kernel
theorem d130_194 : decode mt130.2.1 194 = .ok (.newarray .int, 2) := by decide +kernel
theorem d130_196 : decode mt130.2.1 196 = .ok (.putfield 68, 3) := by decide +kernel
theorem d130_199 : decode mt130.2.1 199 = .ok (.aload_n 0, 1) := by decide +kernel
theorem d130_200 : decode mt130.2.1 200 = .ok (.bipush 16, 2) := by decide +kernel
theorem d130_202 : decode mt130.2.1 202 = .ok (.newarray .int, 2) := by decide +kernel
theorem d130_204 : decode mt130.2.1 204 = .ok (.putfield 71, 3) := by decide +kernel
theorem d130_207 : decode mt130.2.1 207 = .ok (.return_, 1) := by decide +kernel
noncomputable def pg130_0 : List (Nat × aP) := [(0, oLdA 0 1),
  (1, oObj 4),
  (4, oLdA 0 5),
  (5, oPush (.int 8) 7),
  (7, oNewA (100 + 0) 9),
  (9, oDup 10),
  (10, oPush (.int 0) 11),
  (11, oPush (.int (-1)) 12),
  (12, oAStI 13),
  (13, oDup 14),
  (14, oPush (.int 1) 15),
  (15, oPush (.int (-1)) 16),
  (16, oAStI 17),
  (17, oDup 18),
  (18, oPush (.int 2) 19),
  (19, oPush (.int (-1)) 20),
  (20, oAStI 21),
  (21, oDup 22),
  (22, oPush (.int 3) 23),
  (23, oPush (.int (-1)) 24),
  (24, oAStI 25),
  (25, oDup 26),
  (26, oPush (.int 4) 27),
  (27, oPush (.int (-1)) 28),
  (28, oAStI 29),
  (29, oDup 30),
  (30, oPush (.int 5) 31),
  (31, oPush (.int (-1)) 32),
  (32, oAStI 33),
  (33, oDup 34),
  (34, oPush (.int 6) 36),
  (36, oPush (.int (-1)) 37),
  (37, oAStI 38),
  (38, oDup 39),
  (39, oPush (.int 7) 41),
  (41, oPush (.int (-1)) 42),
  (42, oAStI 43),
  (43, oPutF (fun k => k = 11) 2 46),
  (46, oLdA 0 47),
  (47, oPush (.int 8) 49)]
theorem ok130_0 : ∀ q ∈ pg130_0, Sim mT mt130 q.1 q.2 ∧ Grow q.2 :=
  List.forall_mem_cons.mpr ⟨⟨sim_aload_n d130_0 rfl, gr_LdA 0 1⟩,
  List.forall_mem_cons.mpr ⟨⟨sim_obj d130_1 kw916 kw26 kw27, gr_Obj 4⟩,
  List.forall_mem_cons.mpr ⟨⟨sim_aload_n d130_4 rfl, gr_LdA 0 5⟩,
  List.forall_mem_cons.mpr ⟨⟨sim_bipush d130_5 (by decide), gr_Push (.int 8) 7⟩,
  List.forall_mem_cons.mpr ⟨⟨sim_newarray (t := 0) d130_7 kw130 (Or.inl ⟨rfl, rfl⟩), gr_NewA (100 + 0) 9⟩,
  List.forall_mem_cons.mpr ⟨⟨sim_dup d130_9, gr_Dup 10⟩,
  List.forall_mem_cons.mpr ⟨⟨sim_iconst d130_10 (by decide), gr_Push (.int 0) 11⟩,
  List.forall_mem_cons.mpr ⟨⟨sim_iconst d130_11 (by decide), gr_Push (.int (-1)) 12⟩,
  List.forall_mem_cons.mpr ⟨⟨sim_iastore d130_12, gr_AStI 13⟩,
  List.forall_mem_cons.mpr ⟨⟨sim_dup d130_13, gr_Dup 14⟩,
  List.forall_mem_cons.mpr ⟨⟨sim_iconst d130_14 (by decide), gr_Push (.int 1) 15⟩,
  List.forall_mem_cons.mpr ⟨⟨sim_iconst d130_15 (by decide), gr_Push (.int (-1)) 16⟩,
  List.forall_mem_cons.mpr ⟨⟨sim_iastore d130_16, gr_AStI 17⟩,
  List.forall_mem_cons.mpr ⟨⟨sim_dup d130_17, gr_Dup 18⟩,
  List.forall_mem_cons.mpr ⟨⟨sim_iconst d130_18 (by decide), gr_Push (.int 2) 19⟩,
  List.forall_mem_cons.mpr ⟨⟨sim_iconst d130_19 (by decide), gr_Push (.int (-1)) 20⟩,
  List.forall_mem_cons.mpr ⟨⟨sim_iastore d130_20, gr_AStI 21⟩,
  List.forall_mem_cons.mpr ⟨⟨sim_dup d130_21, gr_Dup 22⟩,
  List.forall_mem_cons.mpr ⟨⟨sim_iconst d130_22 (by decide), gr_Push (.int 3) 23⟩,
  List.forall_mem_cons.mpr ⟨⟨sim_iconst d130_23 (by decide), gr_Push (.int (-1)) 24⟩,
  List.forall_mem_cons.mpr ⟨⟨sim_iastore d130_24, gr_AStI 25⟩,
  List.forall_mem_cons.mpr ⟨⟨sim_dup d130_25, gr_Dup 26⟩,
  List.forall_mem_cons.mpr ⟨⟨sim_iconst d130_26 (by decide), gr_Push (.int 4) 27⟩,
  List.forall_mem_cons.mpr ⟨⟨sim_iconst d130_27 (by decide), gr_Push (.int (-1)) 28⟩,
  List.forall_mem_cons.mpr ⟨⟨sim_iastore d130_28, gr_AStI 29⟩,
  List.forall_mem_cons.mpr ⟨⟨sim_dup d130_29, gr_Dup 30⟩,
  List.forall_mem_cons.mpr ⟨⟨sim_iconst d130_30 (by decide), gr_Push (.int 5) 31⟩,
  List.forall_mem_cons.mpr ⟨⟨sim_iconst d130_31 (by decide), gr_Push (.int (-1)) 32⟩,
  List.forall_mem_cons.mpr ⟨⟨sim_iastore d130_32, gr_AStI 33⟩,
  List.forall_mem_cons.mpr ⟨⟨sim_dup d130_33, gr_Dup 34⟩,
  List.forall_mem_cons.mpr ⟨⟨sim_bipush d130_34 (by decide), gr_Push (.int 6) 36⟩,
  List.forall_mem_cons.mpr ⟨⟨sim_iconst d130_36 (by decide), gr_Push (.int (-1)) 37⟩,
  List.forall_mem_cons.mpr ⟨⟨sim_iastore d130_37, gr_AStI 38⟩,
  List.forall_mem_cons.mpr ⟨⟨sim_dup d130_38, gr_Dup 39⟩,
  List.forall_mem_cons.mpr ⟨⟨sim_bipush d130_39 (by decide), gr_Push (.int 7) 41⟩,
  List.forall_mem_cons.mpr ⟨⟨sim_iconst d130_41 (by decide), gr_Push (.int (-1)) 42⟩,
  List.forall_mem_cons.mpr ⟨⟨sim_iastore d130_42, gr_AStI 43⟩,
  List.forall_mem_cons.mpr ⟨⟨sim_putF d130_43 gf133f rfl, gr_PutF (fun k => k = 11) 2 46⟩,
  List.forall_mem_cons.mpr ⟨⟨sim_aload_n d130_46 rfl, gr_LdA 0 47⟩,
  List.forall_mem_cons.mpr ⟨⟨sim_bipush d130_47 (by decide), gr_Push (.int 8) 49⟩, fun _ h => absurd h List.not_mem_nil⟩⟩⟩⟩⟩⟩⟩⟩⟩⟩⟩⟩⟩⟩⟩⟩⟩⟩⟩⟩⟩⟩⟩⟩⟩⟩⟩⟩⟩⟩⟩⟩⟩⟩⟩⟩⟩⟩⟩⟩
noncomputable def pg130_1 : List (Nat × aP) := [(49, oNewA (100 + 0) 51),
  (51, oPutF (fun k => k = 11) 3 54),
  (54, oLdA 0 55),
  (55, oPush (.int 320) 58),
  (58, oNewA (100 + 0) 60),
  (60, oPutF (fun k => k = 11) 4 63),
  (63, oLdA 0 64),
  (64, oPush (.int 194) 67),
  (67, oNewA (100 + 0) 69),
  (69, oPutF (fun k => k = 11) 5 72),
  (72, oLdA 0 73),
  (73, oPush (.int 194) 76),
  (76, oNewA (100 + 0) 78),
  (78, oPutF (fun k => k = 11) 6 81),
  (81, oLdA 0 82),
  (82, oPush (.int 300) 85),
  (85, oNewA (100 + 0) 87),
  (87, oPutF (fun k => k = 11) 8 90),
  (90, oLdA 0 91),
  (91, oPush (.int 224) 94),
  (94, oNewA (100 + 2) 96),
  (96, oPutF (fun k => k = 11) 18 99),
  (99, oLdA 0 100),
  (100, oPush (.int 42) 102),
  (102, oNewA (100 + 0) 104),
  (104, oPutF (fun k => k = 11) 19 107),
  (107, oLdA 0 108),
  (108, oPush (.int 21) 110),
  (110, oNewA (100 + 0) 112),
  (112, oPutF (fun k => k = 11) 21 115),
  (115, oLdA 0 116),
  (116, oPush (.int 24) 118),
  (118, oNewA (100 + 0) 120),
  (120, oPutF (fun k => k = 11) 22 123),
  (123, oLdA 0 124),
  (124, oPush (.int 26) 126),
  (126, oNewA (100 + 0) 128),
  (128, oPutF (fun k => k = 11) 23 131),
  (131, oLdA 0 132),
  (132, oPush (.int 26) 134)]
theorem ok130_1 : ∀ q ∈ pg130_1, Sim mT mt130 q.1 q.2 ∧ Grow q.2 :=
  List.forall_mem_cons.mpr ⟨⟨sim_newarray (t := 0) d130_49 kw130 (Or.inl ⟨rfl, rfl⟩), gr_NewA (100 + 0) 51⟩,
  List.forall_mem_cons.mpr ⟨⟨sim_putF d130_51 gf134f rfl, gr_PutF (fun k => k = 11) 3 54⟩,
  List.forall_mem_cons.mpr ⟨⟨sim_aload_n d130_54 rfl, gr_LdA 0 55⟩,
  List.forall_mem_cons.mpr ⟨⟨sim_sipush d130_55 (by decide), gr_Push (.int 320) 58⟩,
  List.forall_mem_cons.mpr ⟨⟨sim_newarray (t := 0) d130_58 kw130 (Or.inl ⟨rfl, rfl⟩), gr_NewA (100 + 0) 60⟩,
  List.forall_mem_cons.mpr ⟨⟨sim_putF d130_60 gf135f rfl, gr_PutF (fun k => k = 11) 4 63⟩,
  List.forall_mem_cons.mpr ⟨⟨sim_aload_n d130_63 rfl, gr_LdA 0 64⟩,
  List.forall_mem_cons.mpr ⟨⟨sim_sipush d130_64 (by decide), gr_Push (.int 194) 67⟩,
  List.forall_mem_cons.mpr ⟨⟨sim_newarray (t := 0) d130_67 kw130 (Or.inl ⟨rfl, rfl⟩), gr_NewA (100 + 0) 69⟩,
  List.forall_mem_cons.mpr ⟨⟨sim_putF d130_69 gf136f rfl, gr_PutF (fun k => k = 11) 5 72⟩,
  List.forall_mem_cons.mpr ⟨⟨sim_aload_n d130_72 rfl, gr_LdA 0 73⟩,
  List.forall_mem_cons.mpr ⟨⟨sim_sipush d130_73 (by decide), gr_Push (.int 194) 76⟩,
  List.forall_mem_cons.mpr ⟨⟨sim_newarray (t := 0) d130_76 kw130 (Or.inl ⟨rfl, rfl⟩), gr_NewA (100 + 0) 78⟩,
  List.forall_mem_cons.mpr ⟨⟨sim_putF d130_78 gf137f rfl, gr_PutF (fun k => k = 11) 6 81⟩,
  List.forall_mem_cons.mpr ⟨⟨sim_aload_n d130_81 rfl, gr_LdA 0 82⟩,
  List.forall_mem_cons.mpr ⟨⟨sim_sipush d130_82 (by decide), gr_Push (.int 300) 85⟩,
  List.forall_mem_cons.mpr ⟨⟨sim_newarray (t := 0) d130_85 kw130 (Or.inl ⟨rfl, rfl⟩), gr_NewA (100 + 0) 87⟩,
  List.forall_mem_cons.mpr ⟨⟨sim_putF d130_87 gf138f rfl, gr_PutF (fun k => k = 11) 8 90⟩,
  List.forall_mem_cons.mpr ⟨⟨sim_aload_n d130_90 rfl, gr_LdA 0 91⟩,
  List.forall_mem_cons.mpr ⟨⟨sim_sipush d130_91 (by decide), gr_Push (.int 224) 94⟩,
  List.forall_mem_cons.mpr ⟨⟨sim_newarray (t := 2) d130_94 kw1029 (Or.inr (Or.inr (Or.inl ⟨rfl, rfl⟩))), gr_NewA (100 + 2) 96⟩,
  List.forall_mem_cons.mpr ⟨⟨sim_putF d130_96 gf139f rfl, gr_PutF (fun k => k = 11) 18 99⟩,
  List.forall_mem_cons.mpr ⟨⟨sim_aload_n d130_99 rfl, gr_LdA 0 100⟩,
  List.forall_mem_cons.mpr ⟨⟨sim_bipush d130_100 (by decide), gr_Push (.int 42) 102⟩,
  List.forall_mem_cons.mpr ⟨⟨sim_newarray (t := 0) d130_102 kw130 (Or.inl ⟨rfl, rfl⟩), gr_NewA (100 + 0) 104⟩,
  List.forall_mem_cons.mpr ⟨⟨sim_putF d130_104 gf140f rfl, gr_PutF (fun k => k = 11) 19 107⟩,
  List.forall_mem_cons.mpr ⟨⟨sim_aload_n d130_107 rfl, gr_LdA 0 108⟩,
  List.forall_mem_cons.mpr ⟨⟨sim_bipush d130_108 (by decide), gr_Push (.int 21) 110⟩,
  List.forall_mem_cons.mpr ⟨⟨sim_newarray (t := 0) d130_110 kw130 (Or.inl ⟨rfl, rfl⟩), gr_NewA (100 + 0) 112⟩,
  List.forall_mem_cons.mpr ⟨⟨sim_putF d130_112 gf141f rfl, gr_PutF (fun k => k = 11) 21 115⟩,
  List.forall_mem_cons.mpr ⟨⟨sim_aload_n d130_115 rfl, gr_LdA 0 116⟩,
  List.forall_mem_cons.mpr ⟨⟨sim_bipush d130_116 (by decide), gr_Push (.int 24) 118⟩,
  List.forall_mem_cons.mpr ⟨⟨sim_newarray (t := 0) d130_118 kw130 (Or.inl ⟨rfl, rfl⟩), gr_NewA (100 + 0) 120⟩,
  List.forall_mem_cons.mpr ⟨⟨sim_putF d130_120 gf142f rfl, gr_PutF (fun k => k = 11) 22 123⟩,
  List.forall_mem_cons.mpr ⟨⟨sim_aload_n d130_123 rfl, gr_LdA 0 124⟩,
  List.forall_mem_cons.mpr ⟨⟨sim_bipush d130_124 (by decide), gr_Push (.int 26) 126⟩,
  List.forall_mem_cons.mpr ⟨⟨sim_newarray (t := 0) d130_126 kw130 (Or.inl ⟨rfl, rfl⟩), gr_NewA (100 + 0) 128⟩,
  List.forall_mem_cons.mpr ⟨⟨sim_putF d130_128 gf143f rfl, gr_PutF (fun k => k = 11) 23 131⟩,
  List.forall_mem_cons.mpr ⟨⟨sim_aload_n d130_131 rfl, gr_LdA 0 132⟩,
  List.forall_mem_cons.mpr ⟨⟨sim_bipush d130_132 (by decide), gr_Push (.int 26) 134⟩, fun _ h => absurd h List.not_mem_nil⟩⟩⟩⟩⟩⟩⟩⟩⟩⟩⟩⟩⟩⟩⟩⟩⟩⟩⟩⟩⟩⟩⟩⟩⟩⟩⟩⟩⟩⟩⟩⟩⟩⟩⟩⟩⟩⟩⟩⟩
noncomputable def pg130_2 : List (Nat × aP) := [(134, oNewA (100 + 0) 136),
  (136, oPutF (fun k => k = 11) 24 139),
  (139, oLdA 0 140),
  (140, oPush (.int 2) 141),
  (141, oNewA (100 + 0) 143),
  (143, oPutF (fun k => k = 11) 25 146),
  (146, oLdA 0 147),
  (147, oPush (.int 2) 148),
  (148, oNewA (100 + 0) 150),
  (150, oPutF (fun k => k = 11) 26 153),
  (153, oLdA 0 154),
  (154, oPush (.int 2) 155),
  (155, oNewA (100 + 0) 157),
  (157, oPutF (fun k => k = 11) 27 160),
  (160, oLdA 0 161),
  (161, oPush (.int 2) 162),
  (162, oNewA (100 + 0) 164),
  (164, oPutF (fun k => k = 11) 28 167),
  (167, oLdA 0 168),
  (168, oPush (.int 12) 170),
  (170, oNewA (100 + 0) 172),
  (172, oPutF (fun k => k = 11) 30 175),
  (175, oLdA 0 176),
  (176, oPush (.int 8) 178),
  (178, oNewA (100 + 0) 180),
  (180, oPutF (fun k => k = 11) 32 183),
  (183, oLdA 0 184),
  (184, oPush (.int 2) 185),
  (185, oNewA (100 + 2) 187),
  (187, oPutF (fun k => k = 11) 33 190),
  (190, oLdA 0 191),
  (191, oPush (.int 388) 194),
  (194, oNewA (100 + 0) 196),
  (196, oPutF (fun k => k = 11) 34 199),
  (199, oLdA 0 200),
  (200, oPush (.int 16) 202),
  (202, oNewA (100 + 0) 204),
  (204, oPutF (fun k => k = 11) 35 207),
  (207, oRetV)]
theorem ok130_2 : ∀ q ∈ pg130_2, Sim mT mt130 q.1 q.2 ∧ Grow q.2 :=
  List.forall_mem_cons.mpr ⟨⟨sim_newarray (t := 0) d130_134 kw130 (Or.inl ⟨rfl, rfl⟩), gr_NewA (100 + 0) 136⟩,
  List.forall_mem_cons.mpr ⟨⟨sim_putF d130_136 gf144f rfl, gr_PutF (fun k => k = 11) 24 139⟩,
  List.forall_mem_cons.mpr ⟨⟨sim_aload_n d130_139 rfl, gr_LdA 0 140⟩,
  List.forall_mem_cons.mpr ⟨⟨sim_iconst d130_140 (by decide), gr_Push (.int 2) 141⟩,
  List.forall_mem_cons.mpr ⟨⟨sim_newarray (t := 0) d130_141 kw130 (Or.inl ⟨rfl, rfl⟩), gr_NewA (100 + 0) 143⟩,
  List.forall_mem_cons.mpr ⟨⟨sim_putF d130_143 gf145f rfl, gr_PutF (fun k => k = 11) 25 146⟩,
  List.forall_mem_cons.mpr ⟨⟨sim_aload_n d130_146 rfl, gr_LdA 0 147⟩,
  List.forall_mem_cons.mpr ⟨⟨sim_iconst d130_147 (by decide), gr_Push (.int 2) 148⟩,
  List.forall_mem_cons.mpr ⟨⟨sim_newarray (t := 0) d130_148 kw130 (Or.inl ⟨rfl, rfl⟩), gr_NewA (100 + 0) 150⟩,
  List.forall_mem_cons.mpr ⟨⟨sim_putF d130_150 gf146f rfl, gr_PutF (fun k => k = 11) 26 153⟩,
  List.forall_mem_cons.mpr ⟨⟨sim_aload_n d130_153 rfl, gr_LdA 0 154⟩,
  List.forall_mem_cons.mpr ⟨⟨sim_iconst d130_154 (by decide), gr_Push (.int 2) 155⟩,
  List.forall_mem_cons.mpr ⟨⟨sim_newarray (t := 0) d130_155 kw130 (Or.inl ⟨rfl, rfl⟩), gr_NewA (100 + 0) 157⟩,
  List.forall_mem_cons.mpr ⟨⟨sim_putF d130_157 gf147f rfl, gr_PutF (fun k => k = 11) 27 160⟩,
  List.forall_mem_cons.mpr ⟨⟨sim_aload_n d130_160 rfl, gr_LdA 0 161⟩,
  List.forall_mem_cons.mpr ⟨⟨sim_iconst d130_161 (by decide), gr_Push (.int 2) 162⟩,
  List.forall_mem_cons.mpr ⟨⟨sim_newarray (t := 0) d130_162 kw130 (Or.inl ⟨rfl, rfl⟩), gr_NewA (100 + 0) 164⟩,
  List.forall_mem_cons.mpr ⟨⟨sim_putF d130_164 gf148f rfl, gr_PutF (fun k => k = 11) 28 167⟩,
  List.forall_mem_cons.mpr ⟨⟨sim_aload_n d130_167 rfl, gr_LdA 0 168⟩,
  List.forall_mem_cons.mpr ⟨⟨sim_bipush d130_168 (by decide), gr_Push (.int 12) 170⟩,
  List.forall_mem_cons.mpr ⟨⟨sim_newarray (t := 0) d130_170 kw130 (Or.inl ⟨rfl, rfl⟩), gr_NewA (100 + 0) 172⟩,
  List.forall_mem_cons.mpr ⟨⟨sim_putF d130_172 gf149f rfl, gr_PutF (fun k => k = 11) 30 175⟩,
  List.forall_mem_cons.mpr ⟨⟨sim_aload_n d130_175 rfl, gr_LdA 0 176⟩,
  List.forall_mem_cons.mpr ⟨⟨sim_bipush d130_176 (by decide), gr_Push (.int 8) 178⟩,
  List.forall_mem_cons.mpr ⟨⟨sim_newarray (t := 0) d130_178 kw130 (Or.inl ⟨rfl, rfl⟩), gr_NewA (100 + 0) 180⟩,
  List.forall_mem_cons.mpr ⟨⟨sim_putF d130_180 gf150f rfl, gr_PutF (fun k => k = 11) 32 183⟩,
  List.forall_mem_cons.mpr ⟨⟨sim_aload_n d130_183 rfl, gr_LdA 0 184⟩,
  List.forall_mem_cons.mpr ⟨⟨sim_iconst d130_184 (by decide), gr_Push (.int 2) 185⟩,
  List.forall_mem_cons.mpr ⟨⟨sim_newarray (t := 2) d130_185 kw1029 (Or.inr (Or.inr (Or.inl ⟨rfl, rfl⟩))), gr_NewA (100 + 2) 187⟩,
  List.forall_mem_cons.mpr ⟨⟨sim_putF d130_187 gf151f rfl, gr_PutF (fun k => k = 11) 33 190⟩,
  List.forall_mem_cons.mpr ⟨⟨sim_aload_n d130_190 rfl, gr_LdA 0 191⟩,
  List.forall_mem_cons.mpr ⟨⟨sim_sipush d130_191 (by decide), gr_Push (.int 388) 194⟩,
  List.forall_mem_cons.mpr ⟨⟨sim_newarray (t := 0) d130_194 kw130 (Or.inl ⟨rfl, rfl⟩), gr_NewA (100 + 0) 196⟩,
  List.forall_mem_cons.mpr ⟨⟨sim_putF d130_196 gf152f rfl, gr_PutF (fun k => k = 11) 34 199⟩,
  List.forall_mem_cons.mpr ⟨⟨sim_aload_n d130_199 rfl, gr_LdA 0 200⟩,
  List.forall_mem_cons.mpr ⟨⟨sim_bipush d130_200 (by decide), gr_Push (.int 16) 202⟩,
  List.forall_mem_cons.mpr ⟨⟨sim_newarray (t := 0) d130_202 kw130 (Or.inl ⟨rfl, rfl⟩), gr_NewA (100 + 0) 204⟩,
  List.forall_mem_cons.mpr ⟨⟨sim_putF d130_204 gf153f rfl, gr_PutF (fun k => k = 11) 35 207⟩,
  List.forall_mem_cons.mpr ⟨⟨sim_return d130_207 rfl, gr_RetV⟩, fun _ h => absurd h List.not_mem_nil⟩⟩⟩⟩⟩⟩⟩⟩⟩⟩⟩⟩⟩⟩⟩⟩⟩⟩⟩⟩⟩⟩⟩⟩⟩⟩⟩⟩⟩⟩⟩⟩⟩⟩⟩⟩⟩⟩⟩
noncomputable def pg130 : List (Nat × aP) := pg130_0 ++ (pg130_1 ++ (pg130_2))
theorem ok130 : ∀ q ∈ pg130, Sim mT mt130 q.1 q.2 ∧ Grow q.2 := List.forall_mem_append.mpr ⟨ok130_0, List.forall_mem_append.mpr ⟨ok130_1, ok130_2⟩⟩
