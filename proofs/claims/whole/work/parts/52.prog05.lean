theorem d155_0 : decode mt155.2.1 0 = .ok (.aload_n 0, 1) := by decide +kernel
theorem d155_1 : decode mt155.2.1 1 = .ok (.invokevirtual 172, 3) := by decide +kernel
theorem d155_4 : decode mt155.2.1 4 = .ok (.lload_n 1, 1) := by decide +kernel
theorem d155_5 : decode mt155.2.1 5 = .ok (.lcmp, 1) := by decide +kernel
theorem d155_6 : decode mt155.2.1 6 = .ok (.ifCond .eq 8, 3) := by decide +kernel
theorem d155_9 : decode mt155.2.1 9 = .ok (.aload_n 0, 1) := by decide +kernel
theorem d155_10 : decode mt155.2.1 10 = .ok (.iconst 1, 1) := by decide +kernel
theorem d155_11 : decode mt155.2.1 11 = .ok (.invokevirtual 141, 3) := by decide +kernel
theorem d155_14 : decode mt155.2.1 14 = .ok (.return_, 1) := by decide +kernel
noncomputable def pg155_0 : List (Nat × aP) := [(0, oLdA 0 1),
  (1, oCalV (fun k => if k = 11 then some 146 else none) 0 4),
  (4, oLdL 1 5),
  (5, oLcmp 6),
  (6, oIf (fun x => x = 0) 14 9),
  (9, oLdA 0 10),
  (10, oPush (.int 1) 11),
  (11, oCalV (fun k => if k = 11 then some 144 else none) 1 14),
  (14, oRetV)]
theorem ok155_0 : ∀ q ∈ pg155_0, Sim mT mt155 q.1 q.2 ∧ Grow q.2 :=
  List.forall_mem_cons.mpr ⟨⟨sim_aload_n d155_0 rfl, gr_LdA 0 1⟩,
  List.forall_mem_cons.mpr ⟨⟨sim_virtual d155_1 vk109, gr_CalV (fun k => if k = 11 then some 146 else none) 0 4⟩,
  List.forall_mem_cons.mpr ⟨⟨sim_lload_n d155_4 rfl, gr_LdL 1 5⟩,
  List.forall_mem_cons.mpr ⟨⟨sim_lcmp d155_5, gr_Lcmp 6⟩,
  List.forall_mem_cons.mpr ⟨⟨sim_if_eq d155_6 (by decide), gr_If (fun x => x = 0) 14 9⟩,
  List.forall_mem_cons.mpr ⟨⟨sim_aload_n d155_9 rfl, gr_LdA 0 10⟩,
  List.forall_mem_cons.mpr ⟨⟨sim_iconst d155_10 (by decide), gr_Push (.int 1) 11⟩,
  List.forall_mem_cons.mpr ⟨⟨sim_virtual d155_11 vk102, gr_CalV (fun k => if k = 11 then some 144 else none) 1 14⟩,
  List.forall_mem_cons.mpr ⟨⟨sim_return d155_14 rfl, gr_RetV⟩, fun _ h => absurd h List.not_mem_nil⟩⟩⟩⟩⟩⟩⟩⟩⟩
noncomputable def pg155 : List (Nat × aP) := pg155_0
theorem ok155 : ∀ q ∈ pg155, Sim mT mt155 q.1 q.2 ∧ Grow q.2 := ok155_0
theorem d156_0 : decode mt156.2.1 0 = .ok (.aload_n 0, 1) := by decide +kernel
theorem d156_1 : decode mt156.2.1 1 = .ok (.iconst 0, 1) := by decide +kernel
theorem d156_2 : decode mt156.2.1 2 = .ok (.putfield 74, 3) := by decide +kernel
theorem d156_5 : decode mt156.2.1 5 = .ok (.aload_n 0, 1) := by decide +kernel
theorem d156_6 : decode mt156.2.1 6 = .ok (.invokevirtual 176, 3) := by decide +kernel
theorem d156_9 : decode mt156.2.1 9 = .ok (.iconst 0, 1) := by decide +kernel
theorem d156_10 : decode mt156.2.1 10 = .ok (.istore_n 1, 1) := by decide +kernel
theorem d156_11 : decode mt156.2.1 11 = .ok (.iload_n 1, 1) := by decide +kernel
theorem d156_12 : decode mt156.2.1 12 = .ok (.sipush 194, 3) := by decide +kernel
theorem d156_15 : decode mt156.2.1 15 = .ok (.if_icmp .ge 36, 3) := by decide +kernel
theorem d156_18 : decode mt156.2.1 18 = .ok (.aload_n 0, 1) := by decide +kernel
theorem d156_19 : decode mt156.2.1 19 = .ok (.getfield 22, 3) := by decide +kernel
theorem d156_22 : decode mt156.2.1 22 = .ok (.iload_n 1, 1) := by decide +kernel
theorem d156_23 : decode mt156.2.1 23 = .ok (.iload_n 1, 1) := by decide +kernel
theorem d156_24 : decode mt156.2.1 24 = .ok (.bipush 110, 2) := by decide +kernel
theorem d156_26 : decode mt156.2.1 26 = .ok (.if_icmp .lt 17, 3) := by decide +kernel
theorem d156_29 : decode mt156.2.1 29 = .ok (.iload_n 1, 1) := by decide +kernel
theorem d156_30 : decode mt156.2.1 30 = .ok (.bipush 110, 2) := by decide +kernel
theorem d156_32 : decode mt156.2.1 32 = .ok (.isub, 1) := by decide +kernel
theorem d156_33 : decode mt156.2.1 33 = .ok (.bipush 21, 2) := by decide +kernel
theorem d156_35 : decode mt156.2.1 35 = .ok (.irem, 1) := by decide +kernel
theorem d156_36 : decode mt156.2.1 36 = .ok (.ifCond .ne 7, 3) := by decide +kernel
theorem d156_39 : decode mt156.2.1 39 = .ok (.iconst (-1), 1) := by decide +kernel
theorem d156_40 : decode mt156.2.1 40 = .ok (.goto 4, 3) := by decide +kernel
theorem d156_43 : decode mt156.2.1 43 = .ok (.iconst 0, 1) := by decide +kernel
theorem d156_44 : decode mt156.2.1 44 = .ok (.iastore, 1) := by decide +kernel
theorem d156_45 : decode mt156.2.1 45 = .ok (.iinc 1 1, 3) := by decide +kernel
theorem d156_48 : decode mt156.2.1 48 = .ok (.goto (-37), 3) := by decide +kernel
theorem d156_51 : decode mt156.2.1 51 = .ok (.aload_n 0, 1) := by decide +kernel
theorem d156_52 : decode mt156.2.1 52 = .ok (.ldc2_w 179, 3) := by decide +kernel
theorem d156_55 : decode mt156.2.1 55 = .ok (.invokevirtual 181, 3) := by decide +kernel
theorem d156_58 : decode mt156.2.1 58 = .ok (.aload_n 0, 1) := by decide +kernel
theorem d156_59 : decode mt156.2.1 59 = .ok (.invokevirtual 172, 3) := by decide +kernel
theorem d156_62 : decode mt156.2.1 62 = .ok (.ldc2_w 179, 3) := by decide +kernel
theorem d156_65 : decode mt156.2.1 65 = .ok (.lcmp, 1) := by decide +kernel
theorem d156_66 : decode mt156.2.1 66 = .ok (.ifCond .ne 10, 3) := by decide +kernel
theorem d156_69 : decode mt156.2.1 69 = .ok (.aload_n 0, 1) := by decide +kernel
theorem d156_70 : decode mt156.2.1 70 = .ok (.invokevirtual 185, 3) := by decide +kernel
theorem d156_73 : decode mt156.2.1 73 = .ok (.goto (-15), 3) := by decide +kernel
theorem d156_76 : decode mt156.2.1 76 = .ok (.aload_n 0, 1) := by decide +kernel
theorem d156_77 : decode mt156.2.1 77 = .ok (.invokevirtual 172, 3) := by decide +kernel
theorem d156_80 : decode mt156.2.1 80 = .ok (.ldc2_w 188, 3) := by decide +kernel
theorem d156_83 : decode mt156.2.1 83 = .ok (.lcmp, 1) := by decide +kernel
theorem d156_84 : decode mt156.2.1 84 = .ok (.ifCond .ne 10, 3) := by decide +kernel
theorem d156_87 : decode mt156.2.1 87 = .ok (.aload_n 0, 1) := by decide +kernel
theorem d156_88 : decode mt156.2.1 88 = .ok (.invokevirtual 190, 3) := by decide +kernel
theorem d156_91 : decode mt156.2.1 91 = .ok (.goto (-15), 3) := by decide +kernel
theorem d156_94 : decode mt156.2.1 94 = .ok (.aload_n 0, 1) := by decide +kernel
theorem d156_95 : decode mt156.2.1 95 = .ok (.ldc2_w 193, 3) := by decide +kernel
theorem d156_98 : decode mt156.2.1 98 = .ok (.invokevirtual 181, 3) := by decide +kernel
theorem d156_101 : decode mt156.2.1 101 = .ok (.aload_n 0, 1) := by decide +kernel
theorem d156_102 : decode mt156.2.1 102 = .ok (.invokevirtual 172, 3) := by decide +kernel
theorem d156_105 : decode mt156.2.1 105 = .ok (.ldc2_w 193, 3) := by decide +kernel
theorem d156_108 : decode mt156.2.1 108 = .ok (.lcmp, 1) := by decide +kernel
theorem d156_109 : decode mt156.2.1 109 = .ok (.ifCond .ne 10, 3) := by decide +kernel
theorem d156_112 : decode mt156.2.1 112 = .ok (.aload_n 0, 1) := by decide +kernel
theorem d156_113 : decode mt156.2.1 113 = .ok (.invokevirtual 195, 3) := by decide +kernel
theorem d156_116 : decode mt156.2.1 116 = .ok (.goto (-15), 3) := by decide +kernel
theorem d156_119 : decode mt156.2.1 119 = .ok (.aload_n 0, 1) := by decide +kernel
theorem d156_120 : decode mt156.2.1 120 = .ok (.getfield 132, 3) := by decide +kernel
theorem d156_123 : decode mt156.2.1 123 = .ok (.ifCond .ne 16, 3) := by decide +kernel
theorem d156_126 : decode mt156.2.1 126 = .ok (.aload_n 0, 1) := by decide +kernel
theorem d156_127 : decode mt156.2.1 127 = .ok (.getfield 120, 3) := by decide +kernel
theorem d156_130 : decode mt156.2.1 130 = .ok (.iconst 1, 1) := by decide +kernel
theorem d156_131 : decode mt156.2.1 131 = .ok (.if_icmp .eq 8, 3) := by decide +kernel
theorem d156_134 : decode mt156.2.1 134 = .ok (.aload_n 0, 1) := by decide +kernel
theorem d156_135 : decode mt156.2.1 135 = .ok (.iconst 1, 1) := by decide +kernel
theorem d156_136 : decode mt156.2.1 136 = .ok (.invokevirtual 141, 3) := by decide +kernel
theorem d156_139 : decode mt156.2.1 139 = .ok (.aload_n 0, 1) := by decide +kernel
theorem d156_140 : decode mt156.2.1 140 = .ok (.getfield 132, 3) := by decide +kernel
theorem d156_143 : decode mt156.2.1 143 = .ok (.ifCond .le 19, 3) := by decide +kernel
theorem d156_146 : decode mt156.2.1 146 = .ok (.aload_n 0, 1) := by decide +kernel
theorem d156_147 : decode mt156.2.1 147 = .ok (.aload_n 0, 1) := by decide +kernel
theorem d156_148 : decode mt156.2.1 148 = .ok (.getfield 132, 3) := by decide +kernel
theorem d156_151 : decode mt156.2.1 151 = .ok (.putfield 198, 3) := by decide +kernel
theorem d156_154 : decode mt156.2.1 154 = .ok (.ldc 201, 2) := by decide +kernel
theorem d156_156 : decode mt156.2.1 156 = .ok (.aload_n 0, 1) := by decide +kernel
theorem d156_157 : decode mt156.2.1 157 = .ok (.getfield 138, 3) := by decide +kernel
theorem d156_160 : decode mt156.2.1 160 = .ok (.isub, 1) := by decide +kernel
theorem d156_161 : decode mt156.2.1 161 = .ok (.ireturn, 1) := by decide +kernel
theorem d156_162 : decode mt156.2.1 162 = .ok (.aload_n 0, 1) := by decide +kernel
theorem d156_163 : decode mt156.2.1 163 = .ok (.iconst 1, 1) := by decide +kernel
theorem d156_164 : decode mt156.2.1 164 = .ok (.putfield 202, 3) := by decide +kernel
theorem d156_167 : decode mt156.2.1 167 = .ok (.iconst 0, 1) := by decide +kernel
theorem d156_168 : decode mt156.2.1 168 = .ok (.istore_n 1, 1) := by decide +kernel
theorem d156_169 : decode mt156.2.1 169 = .ok (.iload_n 1, 1) := by decide +kernel
theorem d156_170 : decode mt156.2.1 170 = .ok (.sipush 194, 3) := by decide +kernel
theorem d156_173 : decode mt156.2.1 173 = .ok (.if_icmp .ge 21, 3) := by decide +kernel
theorem d156_176 : decode mt156.2.1 176 = .ok (.aload_n 0, 1) := by decide +kernel
theorem d156_177 : decode mt156.2.1 177 = .ok (.getfield 19, 3) := by decide +kernel
theorem d156_180 : decode mt156.2.1 180 = .ok (.iload_n 1, 1) := by decide +kernel
theorem d156_181 : decode mt156.2.1 181 = .ok (.aload_n 0, 1) := by decide +kernel
theorem d156_182 : decode mt156.2.1 182 = .ok (.getfield 22, 3) := by decide +kernel
theorem d156_185 : decode mt156.2.1 185 = .ok (.iload_n 1, 1) := by decide +kernel
theorem d156_186 : decode mt156.2.1 186 = .ok (.iaload, 1) := by decide +kernel
theorem d156_187 : decode mt156.2.1 187 = .ok (.iastore, 1) := by decide +kernel
theorem d156_188 : decode mt156.2.1 188 = .ok (.iinc 1 1, 3) := by decide +kernel
theorem d156_191 : decode mt156.2.1 191 = .ok (.goto (-22), 3) := by decide +kernel
theorem d156_194 : decode mt156.2.1 194 = .ok (.aload_n 0, 1) := by decide +kernel
theorem d156_195 : decode mt156.2.1 195 = .ok (.invokevirtual 206, 3) := by decide +kernel
theorem d156_198 : decode mt156.2.1 198 = .ok (.aload_n 0, 1) := by decide +kernel
theorem d156_199 : decode mt156.2.1 199 = .ok (.getfield 19, 3) := by decide +kernel
theorem d156_202 : decode mt156.2.1 202 = .ok (.iconst 3, 1) := by decide +kernel
theorem d156_203 : decode mt156.2.1 203 = .ok (.iaload, 1) := by decide +kernel
theorem d156_204 : decode mt156.2.1 204 = .ok (.ireturn, 1) := by decide +kernel
noncomputable def pg156_0 : List (Nat × aP) := [(0, oLdA 0 1),
  (1, oPush (.int 0) 2),
  (2, oPutI (fun k => k = 11) 0 5),
  (5, oLdA 0 6),
  (6, oCalV (fun k => if k = 11 then some 143 else none) 0 9),
  (9, oPush (.int 0) 10),
  (10, oStI 1 11),
  (11, oLdI 1 12),
  (12, oPush (.int 194) 15),
  (15, oIc (fun x y => y ≤ x) 51 18),
  (18, oLdA 0 19),
  (19, oGetF (fun k => k = 11) 6 22),
  (22, oLdI 1 23),
  (23, oLdI 1 24),
  (24, oPush (.int 110) 26),
  (26, oIc (fun x y => x < y) 43 29),
  (29, oLdI 1 30),
  (30, oPush (.int 110) 32),
  (32, oII (fun x y => x - y) 33),
  (33, oPush (.int 21) 35),
  (35, oIId (fun x y => x - x / y * y) 36),
  (36, oIf (fun x => ¬ x = 0) 43 39),
  (39, oPush (.int (-1)) 40),
  (40, oGo 44),
  (43, oPush (.int 0) 44),
  (44, oAStI 45),
  (45, oInc 1 1 48),
  (48, oGo 11),
  (51, oLdA 0 52),
  (52, oPush (.long 7499639) 55),
  (55, oCalV (fun k => if k = 11 then some 155 else none) 1 58),
  (58, oLdA 0 59),
  (59, oCalV (fun k => if k = 11 then some 146 else none) 0 62),
  (62, oPush (.long 7499639) 65),
  (65, oLcmp 66),
  (66, oIf (fun x => ¬ x = 0) 76 69),
  (69, oLdA 0 70),
  (70, oCalV (fun k => if k = 11 then some 152 else none) 0 73),
  (73, oGo 58),
  (76, oLdA 0 77)]
theorem ok156_0 : ∀ q ∈ pg156_0, Sim mT mt156 q.1 q.2 ∧ Grow q.2 :=
  List.forall_mem_cons.mpr ⟨⟨sim_aload_n d156_0 rfl, gr_LdA 0 1⟩,
  List.forall_mem_cons.mpr ⟨⟨sim_iconst d156_1 (by decide), gr_Push (.int 0) 2⟩,
  List.forall_mem_cons.mpr ⟨⟨sim_putI d156_2 gf155w, gr_PutI (fun k => k = 11) 0 5⟩,
  List.forall_mem_cons.mpr ⟨⟨sim_aload_n d156_5 rfl, gr_LdA 0 6⟩,
  List.forall_mem_cons.mpr ⟨⟨sim_virtual d156_6 vk110, gr_CalV (fun k => if k = 11 then some 143 else none) 0 9⟩,
  List.forall_mem_cons.mpr ⟨⟨sim_iconst d156_9 (by decide), gr_Push (.int 0) 10⟩,
  List.forall_mem_cons.mpr ⟨⟨sim_istore_n d156_10 rfl (by decide), gr_StI 1 11⟩,
  List.forall_mem_cons.mpr ⟨⟨sim_iload_n d156_11 rfl, gr_LdI 1 12⟩,
  List.forall_mem_cons.mpr ⟨⟨sim_sipush d156_12 (by decide), gr_Push (.int 194) 15⟩,
  List.forall_mem_cons.mpr ⟨⟨sim_icmp_ge d156_15 (by decide), gr_Ic (fun x y => y ≤ x) 51 18⟩,
  List.forall_mem_cons.mpr ⟨⟨sim_aload_n d156_18 rfl, gr_LdA 0 19⟩,
  List.forall_mem_cons.mpr ⟨⟨sim_getF d156_19 gf168, gr_GetF (fun k => k = 11) 6 22⟩,
  List.forall_mem_cons.mpr ⟨⟨sim_iload_n d156_22 rfl, gr_LdI 1 23⟩,
  List.forall_mem_cons.mpr ⟨⟨sim_iload_n d156_23 rfl, gr_LdI 1 24⟩,
  List.forall_mem_cons.mpr ⟨⟨sim_bipush d156_24 (by decide), gr_Push (.int 110) 26⟩,
  List.forall_mem_cons.mpr ⟨⟨sim_icmp_lt d156_26 (by decide), gr_Ic (fun x y => x < y) 43 29⟩,
  List.forall_mem_cons.mpr ⟨⟨sim_iload_n d156_29 rfl, gr_LdI 1 30⟩,
  List.forall_mem_cons.mpr ⟨⟨sim_bipush d156_30 (by decide), gr_Push (.int 110) 32⟩,
  List.forall_mem_cons.mpr ⟨⟨sim_isub d156_32, gr_II (fun x y => x - y) 33⟩,
  List.forall_mem_cons.mpr ⟨⟨sim_bipush d156_33 (by decide), gr_Push (.int 21) 35⟩,
  List.forall_mem_cons.mpr ⟨⟨sim_irem d156_35, gr_IId (fun x y => x - x / y * y) 36⟩,
  List.forall_mem_cons.mpr ⟨⟨sim_if_ne d156_36 (by decide), gr_If (fun x => ¬ x = 0) 43 39⟩,
  List.forall_mem_cons.mpr ⟨⟨sim_iconst d156_39 (by decide), gr_Push (.int (-1)) 40⟩,
  List.forall_mem_cons.mpr ⟨⟨sim_goto d156_40 (by decide), gr_Go 44⟩,
  List.forall_mem_cons.mpr ⟨⟨sim_iconst d156_43 (by decide), gr_Push (.int 0) 44⟩,
  List.forall_mem_cons.mpr ⟨⟨sim_iastore d156_44, gr_AStI 45⟩,
  List.forall_mem_cons.mpr ⟨⟨sim_iinc d156_45 (by decide) (by decide), gr_Inc 1 1 48⟩,
  List.forall_mem_cons.mpr ⟨⟨sim_goto d156_48 (by decide), gr_Go 11⟩,
  List.forall_mem_cons.mpr ⟨⟨sim_aload_n d156_51 rfl, gr_LdA 0 52⟩,
  List.forall_mem_cons.mpr ⟨⟨sim_ldc2 d156_52 kw1090, gr_Push (.long 7499639) 55⟩,
  List.forall_mem_cons.mpr ⟨⟨sim_virtual d156_55 vk111, gr_CalV (fun k => if k = 11 then some 155 else none) 1 58⟩,
  List.forall_mem_cons.mpr ⟨⟨sim_aload_n d156_58 rfl, gr_LdA 0 59⟩,
  List.forall_mem_cons.mpr ⟨⟨sim_virtual d156_59 vk109, gr_CalV (fun k => if k = 11 then some 146 else none) 0 62⟩,
  List.forall_mem_cons.mpr ⟨⟨sim_ldc2 d156_62 kw1090, gr_Push (.long 7499639) 65⟩,
  List.forall_mem_cons.mpr ⟨⟨sim_lcmp d156_65, gr_Lcmp 66⟩,
  List.forall_mem_cons.mpr ⟨⟨sim_if_ne d156_66 (by decide), gr_If (fun x => ¬ x = 0) 76 69⟩,
  List.forall_mem_cons.mpr ⟨⟨sim_aload_n d156_69 rfl, gr_LdA 0 70⟩,
  List.forall_mem_cons.mpr ⟨⟨sim_virtual d156_70 vk112, gr_CalV (fun k => if k = 11 then some 152 else none) 0 73⟩,
  List.forall_mem_cons.mpr ⟨⟨sim_goto d156_73 (by decide), gr_Go 58⟩,
  List.forall_mem_cons.mpr ⟨⟨sim_aload_n d156_76 rfl, gr_LdA 0 77⟩, fun _ h => absurd h List.not_mem_nil⟩⟩⟩⟩⟩⟩⟩⟩⟩⟩⟩⟩⟩⟩⟩⟩⟩⟩⟩⟩⟩⟩⟩⟩⟩⟩⟩⟩⟩⟩⟩⟩⟩⟩⟩⟩⟩⟩⟩⟩
noncomputable def pg156_1 : List (Nat × aP) := [(77, oCalV (fun k => if k = 11 then some 146 else none) 0 80),
  (80, oPush (.long 495874698853) 83),
  (83, oLcmp 84),
  (84, oIf (fun x => ¬ x = 0) 94 87),
  (87, oLdA 0 88),
  (88, oCalV (fun k => if k = 11 then some 153 else none) 0 91),
  (91, oGo 76),
  (94, oLdA 0 95),
  (95, oPush (.long 7168366) 98),
  (98, oCalV (fun k => if k = 11 then some 155 else none) 1 101),
  (101, oLdA 0 102),
  (102, oCalV (fun k => if k = 11 then some 146 else none) 0 105),
  (105, oPush (.long 7168366) 108),
  (108, oLcmp 109),
  (109, oIf (fun x => ¬ x = 0) 119 112),
  (112, oLdA 0 113),
  (113, oCalV (fun k => if k = 11 then some 154 else none) 0 116),
  (116, oGo 101),
  (119, oLdA 0 120),
  (120, oGetI (fun k => k = 11) 16 123),
  (123, oIf (fun x => ¬ x = 0) 139 126),
  (126, oLdA 0 127),
  (127, oGetI (fun k => k = 11) 13 130),
  (130, oPush (.int 1) 131),
  (131, oIc (fun x y => x = y) 139 134),
  (134, oLdA 0 135),
  (135, oPush (.int 1) 136),
  (136, oCalV (fun k => if k = 11 then some 144 else none) 1 139),
  (139, oLdA 0 140),
  (140, oGetI (fun k => k = 11) 16 143),
  (143, oIf (fun x => x ≤ 0) 162 146),
  (146, oLdA 0 147),
  (147, oLdA 0 148),
  (148, oGetI (fun k => k = 11) 16 151),
  (151, oPutI (fun k => k = 11) 10 154),
  (154, oPush (.int (-1000100)) 156),
  (156, oLdA 0 157),
  (157, oGetI (fun k => k = 11) 17 160),
  (160, oII (fun x y => x - y) 161),
  (161, oRetI)]
theorem ok156_1 : ∀ q ∈ pg156_1, Sim mT mt156 q.1 q.2 ∧ Grow q.2 :=
  List.forall_mem_cons.mpr ⟨⟨sim_virtual d156_77 vk109, gr_CalV (fun k => if k = 11 then some 146 else none) 0 80⟩,
  List.forall_mem_cons.mpr ⟨⟨sim_ldc2 d156_80 kw1125, gr_Push (.long 495874698853) 83⟩,
  List.forall_mem_cons.mpr ⟨⟨sim_lcmp d156_83, gr_Lcmp 84⟩,
  List.forall_mem_cons.mpr ⟨⟨sim_if_ne d156_84 (by decide), gr_If (fun x => ¬ x = 0) 94 87⟩,
  List.forall_mem_cons.mpr ⟨⟨sim_aload_n d156_87 rfl, gr_LdA 0 88⟩,
  List.forall_mem_cons.mpr ⟨⟨sim_virtual d156_88 vk113, gr_CalV (fun k => if k = 11 then some 153 else none) 0 91⟩,
  List.forall_mem_cons.mpr ⟨⟨sim_goto d156_91 (by decide), gr_Go 76⟩,
  List.forall_mem_cons.mpr ⟨⟨sim_aload_n d156_94 rfl, gr_LdA 0 95⟩,
  List.forall_mem_cons.mpr ⟨⟨sim_ldc2 d156_95 kw1138, gr_Push (.long 7168366) 98⟩,
  List.forall_mem_cons.mpr ⟨⟨sim_virtual d156_98 vk111, gr_CalV (fun k => if k = 11 then some 155 else none) 1 101⟩,
  List.forall_mem_cons.mpr ⟨⟨sim_aload_n d156_101 rfl, gr_LdA 0 102⟩,
  List.forall_mem_cons.mpr ⟨⟨sim_virtual d156_102 vk109, gr_CalV (fun k => if k = 11 then some 146 else none) 0 105⟩,
  List.forall_mem_cons.mpr ⟨⟨sim_ldc2 d156_105 kw1138, gr_Push (.long 7168366) 108⟩,
  List.forall_mem_cons.mpr ⟨⟨sim_lcmp d156_108, gr_Lcmp 109⟩,
  List.forall_mem_cons.mpr ⟨⟨sim_if_ne d156_109 (by decide), gr_If (fun x => ¬ x = 0) 119 112⟩,
  List.forall_mem_cons.mpr ⟨⟨sim_aload_n d156_112 rfl, gr_LdA 0 113⟩,
  List.forall_mem_cons.mpr ⟨⟨sim_virtual d156_113 vk114, gr_CalV (fun k => if k = 11 then some 154 else none) 0 116⟩,
  List.forall_mem_cons.mpr ⟨⟨sim_goto d156_116 (by decide), gr_Go 101⟩,
  List.forall_mem_cons.mpr ⟨⟨sim_aload_n d156_119 rfl, gr_LdA 0 120⟩,
  List.forall_mem_cons.mpr ⟨⟨sim_getI d156_120 gf166, gr_GetI (fun k => k = 11) 16 123⟩,
  List.forall_mem_cons.mpr ⟨⟨sim_if_ne d156_123 (by decide), gr_If (fun x => ¬ x = 0) 139 126⟩,
  List.forall_mem_cons.mpr ⟨⟨sim_aload_n d156_126 rfl, gr_LdA 0 127⟩,
  List.forall_mem_cons.mpr ⟨⟨sim_getI d156_127 gf164, gr_GetI (fun k => k = 11) 13 130⟩,
  List.forall_mem_cons.mpr ⟨⟨sim_iconst d156_130 (by decide), gr_Push (.int 1) 131⟩,
  List.forall_mem_cons.mpr ⟨⟨sim_icmp_eq d156_131 (by decide), gr_Ic (fun x y => x = y) 139 134⟩,
  List.forall_mem_cons.mpr ⟨⟨sim_aload_n d156_134 rfl, gr_LdA 0 135⟩,
  List.forall_mem_cons.mpr ⟨⟨sim_iconst d156_135 (by decide), gr_Push (.int 1) 136⟩,
  List.forall_mem_cons.mpr ⟨⟨sim_virtual d156_136 vk102, gr_CalV (fun k => if k = 11 then some 144 else none) 1 139⟩,
  List.forall_mem_cons.mpr ⟨⟨sim_aload_n d156_139 rfl, gr_LdA 0 140⟩,
  List.forall_mem_cons.mpr ⟨⟨sim_getI d156_140 gf166, gr_GetI (fun k => k = 11) 16 143⟩,
  List.forall_mem_cons.mpr ⟨⟨sim_if_le d156_143 (by decide), gr_If (fun x => x ≤ 0) 162 146⟩,
  List.forall_mem_cons.mpr ⟨⟨sim_aload_n d156_146 rfl, gr_LdA 0 147⟩,
  List.forall_mem_cons.mpr ⟨⟨sim_aload_n d156_147 rfl, gr_LdA 0 148⟩,
  List.forall_mem_cons.mpr ⟨⟨sim_getI d156_148 gf166, gr_GetI (fun k => k = 11) 16 151⟩,
  List.forall_mem_cons.mpr ⟨⟨sim_putI d156_151 gf169w, gr_PutI (fun k => k = 11) 10 154⟩,
  List.forall_mem_cons.mpr ⟨⟨sim_ldc d156_154 kw1143, gr_Push (.int (-1000100)) 156⟩,
  List.forall_mem_cons.mpr ⟨⟨sim_aload_n d156_156 rfl, gr_LdA 0 157⟩,
  List.forall_mem_cons.mpr ⟨⟨sim_getI d156_157 gf167, gr_GetI (fun k => k = 11) 17 160⟩,
  List.forall_mem_cons.mpr ⟨⟨sim_isub d156_160, gr_II (fun x y => x - y) 161⟩,
  List.forall_mem_cons.mpr ⟨⟨sim_ireturn d156_161 rfl, gr_RetI⟩, fun _ h => absurd h List.not_mem_nil⟩⟩⟩⟩⟩⟩⟩⟩⟩⟩⟩⟩⟩⟩⟩⟩⟩⟩⟩⟩⟩⟩⟩⟩⟩⟩⟩⟩⟩⟩⟩⟩⟩⟩⟩⟩⟩⟩⟩⟩
noncomputable def pg156_2 : List (Nat × aP) := [(162, oLdA 0 163),
  (163, oPush (.int 1) 164),
  (164, oPutZ (fun k => k = 11) 7 167),
  (167, oPush (.int 0) 168),
  (168, oStI 1 169),
  (169, oLdI 1 170),
  (170, oPush (.int 194) 173),
  (173, oIc (fun x y => y ≤ x) 194 176),
  (176, oLdA 0 177),
  (177, oGetF (fun k => k = 11) 5 180),
  (180, oLdI 1 181),
  (181, oLdA 0 182),
  (182, oGetF (fun k => k = 11) 6 185),
  (185, oLdI 1 186),
  (186, oALdI 187),
  (187, oAStI 188),
  (188, oInc 1 1 191),
  (191, oGo 169),
  (194, oLdA 0 195),
  (195, oCalV (fun k => if k = 11 then some 164 else none) 0 198),
  (198, oLdA 0 199),
  (199, oGetF (fun k => k = 11) 5 202),
  (202, oPush (.int 3) 203),
  (203, oALdI 204),
  (204, oRetI)]
theorem ok156_2 : ∀ q ∈ pg156_2, Sim mT mt156 q.1 q.2 ∧ Grow q.2 :=
  List.forall_mem_cons.mpr ⟨⟨sim_aload_n d156_162 rfl, gr_LdA 0 163⟩,
  List.forall_mem_cons.mpr ⟨⟨sim_iconst d156_163 (by decide), gr_Push (.int 1) 164⟩,
  List.forall_mem_cons.mpr ⟨⟨sim_putZ d156_164 gf170w, gr_PutZ (fun k => k = 11) 7 167⟩,
  List.forall_mem_cons.mpr ⟨⟨sim_iconst d156_167 (by decide), gr_Push (.int 0) 168⟩,
  List.forall_mem_cons.mpr ⟨⟨sim_istore_n d156_168 rfl (by decide), gr_StI 1 169⟩,
  List.forall_mem_cons.mpr ⟨⟨sim_iload_n d156_169 rfl, gr_LdI 1 170⟩,
  List.forall_mem_cons.mpr ⟨⟨sim_sipush d156_170 (by decide), gr_Push (.int 194) 173⟩,
  List.forall_mem_cons.mpr ⟨⟨sim_icmp_ge d156_173 (by decide), gr_Ic (fun x y => y ≤ x) 194 176⟩,
  List.forall_mem_cons.mpr ⟨⟨sim_aload_n d156_176 rfl, gr_LdA 0 177⟩,
  List.forall_mem_cons.mpr ⟨⟨sim_getF d156_177 gf171, gr_GetF (fun k => k = 11) 5 180⟩,
  List.forall_mem_cons.mpr ⟨⟨sim_iload_n d156_180 rfl, gr_LdI 1 181⟩,
  List.forall_mem_cons.mpr ⟨⟨sim_aload_n d156_181 rfl, gr_LdA 0 182⟩,
  List.forall_mem_cons.mpr ⟨⟨sim_getF d156_182 gf168, gr_GetF (fun k => k = 11) 6 185⟩,
  List.forall_mem_cons.mpr ⟨⟨sim_iload_n d156_185 rfl, gr_LdI 1 186⟩,
  List.forall_mem_cons.mpr ⟨⟨sim_iaload d156_186, gr_ALdI 187⟩,
  List.forall_mem_cons.mpr ⟨⟨sim_iastore d156_187, gr_AStI 188⟩,
  List.forall_mem_cons.mpr ⟨⟨sim_iinc d156_188 (by decide) (by decide), gr_Inc 1 1 191⟩,
  List.forall_mem_cons.mpr ⟨⟨sim_goto d156_191 (by decide), gr_Go 169⟩,
  List.forall_mem_cons.mpr ⟨⟨sim_aload_n d156_194 rfl, gr_LdA 0 195⟩,
  List.forall_mem_cons.mpr ⟨⟨sim_virtual d156_195 vk115, gr_CalV (fun k => if k = 11 then some 164 else none) 0 198⟩,
  List.forall_mem_cons.mpr ⟨⟨sim_aload_n d156_198 rfl, gr_LdA 0 199⟩,
  List.forall_mem_cons.mpr ⟨⟨sim_getF d156_199 gf171, gr_GetF (fun k => k = 11) 5 202⟩,
  List.forall_mem_cons.mpr ⟨⟨sim_iconst d156_202 (by decide), gr_Push (.int 3) 203⟩,
  List.forall_mem_cons.mpr ⟨⟨sim_iaload d156_203, gr_ALdI 204⟩,
  List.forall_mem_cons.mpr ⟨⟨sim_ireturn d156_204 rfl, gr_RetI⟩, fun _ h => absurd h List.not_mem_nil⟩⟩⟩⟩⟩⟩⟩⟩⟩⟩⟩⟩⟩⟩⟩⟩⟩⟩⟩⟩⟩⟩⟩⟩⟩
noncomputable def pg156 : List (Nat × aP) := pg156_0 ++ (pg156_1 ++ (pg156_2))
theorem ok156 : ∀ q ∈ pg156, Sim mT mt156 q.1 q.2 ∧ Grow q.2 := List.forall_mem_append.mpr ⟨ok156_0, List.forall_mem_append.mpr ⟨ok156_1, ok156_2⟩⟩
theorem d157_0 : decode mt157.2.1 0 = .ok (.aload_n 0, 1) := by decide +kernel
theorem d157_1 : decode mt157.2.1 1 = .ok (.iconst 0, 1) := by decide +kernel
theorem d157_2 : decode mt157.2.1 2 = .ok (.putfield 74, 3) := by decide +kernel
theorem d157_5 : decode mt157.2.1 5 = .ok (.aload_n 0, 1) := by decide +kernel
theorem d157_6 : decode mt157.2.1 6 = .ok (.getfield 198, 3) := by decide +kernel
theorem d157_9 : decode mt157.2.1 9 = .ok (.ireturn, 1) := by decide +kernel
noncomputable def pg157_0 : List (Nat × aP) := [(0, oLdA 0 1),
  (1, oPush (.int 0) 2),
  (2, oPutI (fun k => k = 11) 0 5),
  (5, oLdA 0 6),
  (6, oGetI (fun k => k = 11) 10 9),
  (9, oRetI)]
theorem ok157_0 : ∀ q ∈ pg157_0, Sim mT mt157 q.1 q.2 ∧ Grow q.2 :=
  List.forall_mem_cons.mpr ⟨⟨sim_aload_n d157_0 rfl, gr_LdA 0 1⟩,
  List.forall_mem_cons.mpr ⟨⟨sim_iconst d157_1 (by decide), gr_Push (.int 0) 2⟩,
  List.forall_mem_cons.mpr ⟨⟨sim_putI d157_2 gf155w, gr_PutI (fun k => k = 11) 0 5⟩,
  List.forall_mem_cons.mpr ⟨⟨sim_aload_n d157_5 rfl, gr_LdA 0 6⟩,
  List.forall_mem_cons.mpr ⟨⟨sim_getI d157_6 gf169, gr_GetI (fun k => k = 11) 10 9⟩,
  List.forall_mem_cons.mpr ⟨⟨sim_ireturn d157_9 rfl, gr_RetI⟩, fun _ h => absurd h List.not_mem_nil⟩⟩⟩⟩⟩⟩
noncomputable def pg157 : List (Nat × aP) := pg157_0
theorem ok157 : ∀ q ∈ pg157, Sim mT mt157 q.1 q.2 ∧ Grow q.2 := ok157_0
theorem d158_0 : decode mt158.2.1 0 = .ok (.iload_n 1, 1) := by decide +kernel
theorem d158_1 : decode mt158.2.1 1 = .ok (.ifCond .lt 52, 3) := by decide +kernel
theorem d158_4 : decode mt158.2.1 4 = .ok (.iload_n 1, 1) := by decide +kernel
theorem d158_5 : decode mt158.2.1 5 = .ok (.bipush 8, 2) := by decide +kernel
theorem d158_7 : decode mt158.2.1 7 = .ok (.irem, 1) := by decide +kernel
theorem d158_8 : decode mt158.2.1 8 = .ok (.i2l, 1) := by decide +kernel
theorem d158_9 : decode mt158.2.1 9 = .ok (.lconst 0, 1) := by decide +kernel
theorem d158_10 : decode mt158.2.1 10 = .ok (.aload_n 0, 1) := by decide +kernel
theorem d158_11 : decode mt158.2.1 11 = .ok (.getfield 19, 3) := by decide +kernel
theorem d158_14 : decode mt158.2.1 14 = .ok (.iconst 0, 1) := by decide +kernel
theorem d158_15 : decode mt158.2.1 15 = .ok (.iaload, 1) := by decide +kernel
theorem d158_16 : decode mt158.2.1 16 = .ok (.i2l, 1) := by decide +kernel
theorem d158_17 : decode mt158.2.1 17 = .ok (.invokestatic 84, 3) := by decide +kernel
theorem d158_20 : decode mt158.2.1 20 = .ok (.ifCond .eq 33, 3) := by decide +kernel
theorem d158_23 : decode mt158.2.1 23 = .ok (.iload_n 1, 1) := by decide +kernel
theorem d158_24 : decode mt158.2.1 24 = .ok (.bipush 8, 2) := by decide +kernel
theorem d158_26 : decode mt158.2.1 26 = .ok (.idiv, 1) := by decide +kernel
theorem d158_27 : decode mt158.2.1 27 = .ok (.i2l, 1) := by decide +kernel
theorem d158_28 : decode mt158.2.1 28 = .ok (.lconst 0, 1) := by decide +kernel
theorem d158_29 : decode mt158.2.1 29 = .ok (.aload_n 0, 1) := by decide +kernel
theorem d158_30 : decode mt158.2.1 30 = .ok (.getfield 19, 3) := by decide +kernel
theorem d158_33 : decode mt158.2.1 33 = .ok (.iconst 1, 1) := by decide +kernel
theorem d158_34 : decode mt158.2.1 34 = .ok (.iaload, 1) := by decide +kernel
theorem d158_35 : decode mt158.2.1 35 = .ok (.i2l, 1) := by decide +kernel
theorem d158_36 : decode mt158.2.1 36 = .ok (.invokestatic 84, 3) := by decide +kernel
theorem d158_39 : decode mt158.2.1 39 = .ok (.ifCond .eq 14, 3) := by decide +kernel
theorem d158_42 : decode mt158.2.1 42 = .ok (.aload_n 0, 1) := by decide +kernel
theorem d158_43 : decode mt158.2.1 43 = .ok (.getfield 202, 3) := by decide +kernel
theorem d158_46 : decode mt158.2.1 46 = .ok (.ifCond .eq 7, 3) := by decide +kernel
theorem d158_49 : decode mt158.2.1 49 = .ok (.iconst 1, 1) := by decide +kernel
theorem d158_50 : decode mt158.2.1 50 = .ok (.goto 4, 3) := by decide +kernel
theorem d158_53 : decode mt158.2.1 53 = .ok (.iconst 0, 1) := by decide +kernel
theorem d158_54 : decode mt158.2.1 54 = .ok (.ireturn, 1) := by decide +kernel
noncomputable def pg158_0 : List (Nat × aP) := [(0, oLdI 1 1),
  (1, oIf (fun x => x < 0) 53 4),
  (4, oLdI 1 5),
  (5, oPush (.int 8) 7),
  (7, oIId (fun x y => x - x / y * y) 8),
  (8, oIL (fun x => x.toInt64) 9),
  (9, oPush (.long 0) 10),
  (10, oLdA 0 11),
  (11, oGetF (fun k => k = 11) 5 14),
  (14, oPush (.int 0) 15),
  (15, oALdI 16),
  (16, oIL (fun x => x.toInt64) 17),
  (17, oCall 131 3 20),
  (20, oIf (fun x => x = 0) 53 23),
  (23, oLdI 1 24),
  (24, oPush (.int 8) 26),
  (26, oIId (fun x y => x / y) 27),
  (27, oIL (fun x => x.toInt64) 28),
  (28, oPush (.long 0) 29),
  (29, oLdA 0 30),
  (30, oGetF (fun k => k = 11) 5 33),
  (33, oPush (.int 1) 34),
  (34, oALdI 35),
  (35, oIL (fun x => x.toInt64) 36),
  (36, oCall 131 3 39),
  (39, oIf (fun x => x = 0) 53 42),
  (42, oLdA 0 43),
  (43, oGetI (fun k => k = 11) 7 46),
  (46, oIf (fun x => x = 0) 53 49),
  (49, oPush (.int 1) 50),
  (50, oGo 54),
  (53, oPush (.int 0) 54),
  (54, oRetN .boolean)]
theorem ok158_0 : ∀ q ∈ pg158_0, Sim mT mt158 q.1 q.2 ∧ Grow q.2 :=
  List.forall_mem_cons.mpr ⟨⟨sim_iload_n d158_0 rfl, gr_LdI 1 1⟩,
  List.forall_mem_cons.mpr ⟨⟨sim_if_lt d158_1 (by decide), gr_If (fun x => x < 0) 53 4⟩,
  List.forall_mem_cons.mpr ⟨⟨sim_iload_n d158_4 rfl, gr_LdI 1 5⟩,
  List.forall_mem_cons.mpr ⟨⟨sim_bipush d158_5 (by decide), gr_Push (.int 8) 7⟩,
  List.forall_mem_cons.mpr ⟨⟨sim_irem d158_7, gr_IId (fun x y => x - x / y * y) 8⟩,
  List.forall_mem_cons.mpr ⟨⟨sim_i2l d158_8, gr_IL (fun x => x.toInt64) 9⟩,
  List.forall_mem_cons.mpr ⟨⟨sim_lconst d158_9 (by decide), gr_Push (.long 0) 10⟩,
  List.forall_mem_cons.mpr ⟨⟨sim_aload_n d158_10 rfl, gr_LdA 0 11⟩,
  List.forall_mem_cons.mpr ⟨⟨sim_getF d158_11 gf171, gr_GetF (fun k => k = 11) 5 14⟩,
  List.forall_mem_cons.mpr ⟨⟨sim_iconst d158_14 (by decide), gr_Push (.int 0) 15⟩,
  List.forall_mem_cons.mpr ⟨⟨sim_iaload d158_15, gr_ALdI 16⟩,
  List.forall_mem_cons.mpr ⟨⟨sim_i2l d158_16, gr_IL (fun x => x.toInt64) 17⟩,
  List.forall_mem_cons.mpr ⟨⟨sim_static (y := 131) d158_17 (Or.inl kw1038) kw1039 mo131, gr_Call 131 3 20⟩,
  List.forall_mem_cons.mpr ⟨⟨sim_if_eq d158_20 (by decide), gr_If (fun x => x = 0) 53 23⟩,
  List.forall_mem_cons.mpr ⟨⟨sim_iload_n d158_23 rfl, gr_LdI 1 24⟩,
  List.forall_mem_cons.mpr ⟨⟨sim_bipush d158_24 (by decide), gr_Push (.int 8) 26⟩,
  List.forall_mem_cons.mpr ⟨⟨sim_idiv d158_26, gr_IId (fun x y => x / y) 27⟩,
  List.forall_mem_cons.mpr ⟨⟨sim_i2l d158_27, gr_IL (fun x => x.toInt64) 28⟩,
  List.forall_mem_cons.mpr ⟨⟨sim_lconst d158_28 (by decide), gr_Push (.long 0) 29⟩,
  List.forall_mem_cons.mpr ⟨⟨sim_aload_n d158_29 rfl, gr_LdA 0 30⟩,
  List.forall_mem_cons.mpr ⟨⟨sim_getF d158_30 gf171, gr_GetF (fun k => k = 11) 5 33⟩,
  List.forall_mem_cons.mpr ⟨⟨sim_iconst d158_33 (by decide), gr_Push (.int 1) 34⟩,
  List.forall_mem_cons.mpr ⟨⟨sim_iaload d158_34, gr_ALdI 35⟩,
  List.forall_mem_cons.mpr ⟨⟨sim_i2l d158_35, gr_IL (fun x => x.toInt64) 36⟩,
  List.forall_mem_cons.mpr ⟨⟨sim_static (y := 131) d158_36 (Or.inl kw1038) kw1039 mo131, gr_Call 131 3 39⟩,
  List.forall_mem_cons.mpr ⟨⟨sim_if_eq d158_39 (by decide), gr_If (fun x => x = 0) 53 42⟩,
  List.forall_mem_cons.mpr ⟨⟨sim_aload_n d158_42 rfl, gr_LdA 0 43⟩,
  List.forall_mem_cons.mpr ⟨⟨sim_getI d158_43 gf170, gr_GetI (fun k => k = 11) 7 46⟩,
  List.forall_mem_cons.mpr ⟨⟨sim_if_eq d158_46 (by decide), gr_If (fun x => x = 0) 53 49⟩,
  List.forall_mem_cons.mpr ⟨⟨sim_iconst d158_49 (by decide), gr_Push (.int 1) 50⟩,
  List.forall_mem_cons.mpr ⟨⟨sim_goto d158_50 (by decide), gr_Go 54⟩,
  List.forall_mem_cons.mpr ⟨⟨sim_iconst d158_53 (by decide), gr_Push (.int 0) 54⟩,
  List.forall_mem_cons.mpr ⟨⟨sim_nreturn d158_54 rfl (fun _ h => congrArg Value.int h), gr_RetN .boolean⟩, fun _ h => absurd h List.not_mem_nil⟩⟩⟩⟩⟩⟩⟩⟩⟩⟩⟩⟩⟩⟩⟩⟩⟩⟩⟩⟩⟩⟩⟩⟩⟩⟩⟩⟩⟩⟩⟩⟩⟩
noncomputable def pg158 : List (Nat × aP) := pg158_0
theorem ok158 : ∀ q ∈ pg158, Sim mT mt158 q.1 q.2 ∧ Grow q.2 := ok158_0
theorem d159_0 : decode mt159.2.1 0 = .ok (.iload_n 1, 1) := by decide +kernel
theorem d159_1 : decode mt159.2.1 1 = .ok (.ifCond .lt 49, 3) := by decide +kernel
theorem d159_4 : decode mt159.2.1 4 = .ok (.iload_n 1, 1) := by decide +kernel
theorem d159_5 : decode mt159.2.1 5 = .ok (.bipush 7, 2) := by decide +kernel
theorem d159_7 : decode mt159.2.1 7 = .ok (.irem, 1) := by decide +kernel
theorem d159_8 : decode mt159.2.1 8 = .ok (.i2l, 1) := by decide +kernel
theorem d159_9 : decode mt159.2.1 9 = .ok (.lconst 0, 1) := by decide +kernel
theorem d159_10 : decode mt159.2.1 10 = .ok (.aload_n 0, 1) := by decide +kernel
theorem d159_11 : decode mt159.2.1 11 = .ok (.getfield 19, 3) := by decide +kernel
theorem d159_14 : decode mt159.2.1 14 = .ok (.iconst 0, 1) := by decide +kernel
theorem d159_15 : decode mt159.2.1 15 = .ok (.iaload, 1) := by decide +kernel
theorem d159_16 : decode mt159.2.1 16 = .ok (.iconst 1, 1) := by decide +kernel
theorem d159_17 : decode mt159.2.1 17 = .ok (.isub, 1) := by decide +kernel
theorem d159_18 : decode mt159.2.1 18 = .ok (.i2l, 1) := by decide +kernel
theorem d159_19 : decode mt159.2.1 19 = .ok (.invokestatic 84, 3) := by decide +kernel
theorem d159_22 : decode mt159.2.1 22 = .ok (.ifCond .eq 28, 3) := by decide +kernel
theorem d159_25 : decode mt159.2.1 25 = .ok (.iload_n 1, 1) := by decide +kernel
theorem d159_26 : decode mt159.2.1 26 = .ok (.bipush 7, 2) := by decide +kernel
theorem d159_28 : decode mt159.2.1 28 = .ok (.idiv, 1) := by decide +kernel
theorem d159_29 : decode mt159.2.1 29 = .ok (.i2l, 1) := by decide +kernel
theorem d159_30 : decode mt159.2.1 30 = .ok (.lconst 0, 1) := by decide +kernel
theorem d159_31 : decode mt159.2.1 31 = .ok (.aload_n 0, 1) := by decide +kernel
theorem d159_32 : decode mt159.2.1 32 = .ok (.getfield 19, 3) := by decide +kernel
theorem d159_35 : decode mt159.2.1 35 = .ok (.iconst 1, 1) := by decide +kernel
theorem d159_36 : decode mt159.2.1 36 = .ok (.iaload, 1) := by decide +kernel
theorem d159_37 : decode mt159.2.1 37 = .ok (.iconst 1, 1) := by decide +kernel
theorem d159_38 : decode mt159.2.1 38 = .ok (.isub, 1) := by decide +kernel
theorem d159_39 : decode mt159.2.1 39 = .ok (.i2l, 1) := by decide +kernel
theorem d159_40 : decode mt159.2.1 40 = .ok (.invokestatic 84, 3) := by decide +kernel
theorem d159_43 : decode mt159.2.1 43 = .ok (.ifCond .eq 7, 3) := by decide +kernel
theorem d159_46 : decode mt159.2.1 46 = .ok (.iconst 1, 1) := by decide +kernel
theorem d159_47 : decode mt159.2.1 47 = .ok (.goto 4, 3) := by decide +kernel
theorem d159_50 : decode mt159.2.1 50 = .ok (.iconst 0, 1) := by decide +kernel
theorem d159_51 : decode mt159.2.1 51 = .ok (.ireturn, 1) := by decide +kernel
noncomputable def pg159_0 : List (Nat × aP) := [(0, oLdI 1 1),
  (1, oIf (fun x => x < 0) 50 4),
  (4, oLdI 1 5),
  (5, oPush (.int 7) 7),
  (7, oIId (fun x y => x - x / y * y) 8),
  (8, oIL (fun x => x.toInt64) 9),
  (9, oPush (.long 0) 10),
  (10, oLdA 0 11),
  (11, oGetF (fun k => k = 11) 5 14),
  (14, oPush (.int 0) 15),
  (15, oALdI 16),
  (16, oPush (.int 1) 17),
  (17, oII (fun x y => x - y) 18),
  (18, oIL (fun x => x.toInt64) 19),
  (19, oCall 131 3 22),
  (22, oIf (fun x => x = 0) 50 25),
  (25, oLdI 1 26),
  (26, oPush (.int 7) 28),
  (28, oIId (fun x y => x / y) 29),
  (29, oIL (fun x => x.toInt64) 30),
  (30, oPush (.long 0) 31),
  (31, oLdA 0 32),
  (32, oGetF (fun k => k = 11) 5 35),
  (35, oPush (.int 1) 36),
  (36, oALdI 37),
  (37, oPush (.int 1) 38),
  (38, oII (fun x y => x - y) 39),
  (39, oIL (fun x => x.toInt64) 40),
  (40, oCall 131 3 43),
  (43, oIf (fun x => x = 0) 50 46),
  (46, oPush (.int 1) 47),
  (47, oGo 51),
  (50, oPush (.int 0) 51),
  (51, oRetN .boolean)]
theorem ok159_0 : ∀ q ∈ pg159_0, Sim mT mt159 q.1 q.2 ∧ Grow q.2 :=
  List.forall_mem_cons.mpr ⟨⟨sim_iload_n d159_0 rfl, gr_LdI 1 1⟩,
  List.forall_mem_cons.mpr ⟨⟨sim_if_lt d159_1 (by decide), gr_If (fun x => x < 0) 50 4⟩,
  List.forall_mem_cons.mpr ⟨⟨sim_iload_n d159_4 rfl, gr_LdI 1 5⟩,
  List.forall_mem_cons.mpr ⟨⟨sim_bipush d159_5 (by decide), gr_Push (.int 7) 7⟩,
  List.forall_mem_cons.mpr ⟨⟨sim_irem d159_7, gr_IId (fun x y => x - x / y * y) 8⟩,
  List.forall_mem_cons.mpr ⟨⟨sim_i2l d159_8, gr_IL (fun x => x.toInt64) 9⟩,
  List.forall_mem_cons.mpr ⟨⟨sim_lconst d159_9 (by decide), gr_Push (.long 0) 10⟩,
  List.forall_mem_cons.mpr ⟨⟨sim_aload_n d159_10 rfl, gr_LdA 0 11⟩,
  List.forall_mem_cons.mpr ⟨⟨sim_getF d159_11 gf171, gr_GetF (fun k => k = 11) 5 14⟩,
  List.forall_mem_cons.mpr ⟨⟨sim_iconst d159_14 (by decide), gr_Push (.int 0) 15⟩,
  List.forall_mem_cons.mpr ⟨⟨sim_iaload d159_15, gr_ALdI 16⟩,
  List.forall_mem_cons.mpr ⟨⟨sim_iconst d159_16 (by decide), gr_Push (.int 1) 17⟩,
  List.forall_mem_cons.mpr ⟨⟨sim_isub d159_17, gr_II (fun x y => x - y) 18⟩,
  List.forall_mem_cons.mpr ⟨⟨sim_i2l d159_18, gr_IL (fun x => x.toInt64) 19⟩,
  List.forall_mem_cons.mpr ⟨⟨sim_static (y := 131) d159_19 (Or.inl kw1038) kw1039 mo131, gr_Call 131 3 22⟩,
  List.forall_mem_cons.mpr ⟨⟨sim_if_eq d159_22 (by decide), gr_If (fun x => x = 0) 50 25⟩,
  List.forall_mem_cons.mpr ⟨⟨sim_iload_n d159_25 rfl, gr_LdI 1 26⟩,
  List.forall_mem_cons.mpr ⟨⟨sim_bipush d159_26 (by decide), gr_Push (.int 7) 28⟩,
  List.forall_mem_cons.mpr ⟨⟨sim_idiv d159_28, gr_IId (fun x y => x / y) 29⟩,
  List.forall_mem_cons.mpr ⟨⟨sim_i2l d159_29, gr_IL (fun x => x.toInt64) 30⟩,
  List.forall_mem_cons.mpr ⟨⟨sim_lconst d159_30 (by decide), gr_Push (.long 0) 31⟩,
  List.forall_mem_cons.mpr ⟨⟨sim_aload_n d159_31 rfl, gr_LdA 0 32⟩,
  List.forall_mem_cons.mpr ⟨⟨sim_getF d159_32 gf171, gr_GetF (fun k => k = 11) 5 35⟩,
  List.forall_mem_cons.mpr ⟨⟨sim_iconst d159_35 (by decide), gr_Push (.int 1) 36⟩,
  List.forall_mem_cons.mpr ⟨⟨sim_iaload d159_36, gr_ALdI 37⟩,
  List.forall_mem_cons.mpr ⟨⟨sim_iconst d159_37 (by decide), gr_Push (.int 1) 38⟩,
  List.forall_mem_cons.mpr ⟨⟨sim_isub d159_38, gr_II (fun x y => x - y) 39⟩,
  List.forall_mem_cons.mpr ⟨⟨sim_i2l d159_39, gr_IL (fun x => x.toInt64) 40⟩,
  List.forall_mem_cons.mpr ⟨⟨sim_static (y := 131) d159_40 (Or.inl kw1038) kw1039 mo131, gr_Call 131 3 43⟩,
  List.forall_mem_cons.mpr ⟨⟨sim_if_eq d159_43 (by decide), gr_If (fun x => x = 0) 50 46⟩,
  List.forall_mem_cons.mpr ⟨⟨sim_iconst d159_46 (by decide), gr_Push (.int 1) 47⟩,
  List.forall_mem_cons.mpr ⟨⟨sim_goto d159_47 (by decide), gr_Go 51⟩,
  List.forall_mem_cons.mpr ⟨⟨sim_iconst d159_50 (by decide), gr_Push (.int 0) 51⟩,
  List.forall_mem_cons.mpr ⟨⟨sim_nreturn d159_51 rfl (fun _ h => congrArg Value.int h), gr_RetN .boolean⟩, fun _ h => absurd h List.not_mem_nil⟩⟩⟩⟩⟩⟩⟩⟩⟩⟩⟩⟩⟩⟩⟩⟩⟩⟩⟩⟩⟩⟩⟩⟩⟩⟩⟩⟩⟩⟩⟩⟩⟩⟩
noncomputable def pg159 : List (Nat × aP) := pg159_0
theorem ok159 : ∀ q ∈ pg159, Sim mT mt159 q.1 q.2 ∧ Grow q.2 := ok159_0
theorem d160_0 : decode mt160.2.1 0 = .ok (.iload_n 1, 1) := by decide +kernel
theorem d160_1 : decode mt160.2.1 1 = .ok (.i2l, 1) := by decide +kernel
theorem d160_2 : decode mt160.2.1 2 = .ok (.lconst 0, 1) := by decide +kernel
theorem d160_3 : decode mt160.2.1 3 = .ok (.aload_n 0, 1) := by decide +kernel
theorem d160_4 : decode mt160.2.1 4 = .ok (.getfield 19, 3) := by decide +kernel
theorem d160_7 : decode mt160.2.1 7 = .ok (.iconst 3, 1) := by decide +kernel
theorem d160_8 : decode mt160.2.1 8 = .ok (.iaload, 1) := by decide +kernel
theorem d160_9 : decode mt160.2.1 9 = .ok (.iconst 1, 1) := by decide +kernel
theorem d160_10 : decode mt160.2.1 10 = .ok (.isub, 1) := by decide +kernel
theorem d160_11 : decode mt160.2.1 11 = .ok (.i2l, 1) := by decide +kernel
theorem d160_12 : decode mt160.2.1 12 = .ok (.invokestatic 84, 3) := by decide +kernel
theorem d160_15 : decode mt160.2.1 15 = .ok (.ireturn, 1) := by decide +kernel
noncomputable def pg160_0 : List (Nat × aP) := [(0, oLdI 1 1),
  (1, oIL (fun x => x.toInt64) 2),
  (2, oPush (.long 0) 3),
  (3, oLdA 0 4),
  (4, oGetF (fun k => k = 11) 5 7),
  (7, oPush (.int 3) 8),
  (8, oALdI 9),
  (9, oPush (.int 1) 10),
  (10, oII (fun x y => x - y) 11),
  (11, oIL (fun x => x.toInt64) 12),
  (12, oCall 131 3 15),
  (15, oRetN .boolean)]
theorem ok160_0 : ∀ q ∈ pg160_0, Sim mT mt160 q.1 q.2 ∧ Grow q.2 :=
  List.forall_mem_cons.mpr ⟨⟨sim_iload_n d160_0 rfl, gr_LdI 1 1⟩,
  List.forall_mem_cons.mpr ⟨⟨sim_i2l d160_1, gr_IL (fun x => x.toInt64) 2⟩,
  List.forall_mem_cons.mpr ⟨⟨sim_lconst d160_2 (by decide), gr_Push (.long 0) 3⟩,
  List.forall_mem_cons.mpr ⟨⟨sim_aload_n d160_3 rfl, gr_LdA 0 4⟩,
  List.forall_mem_cons.mpr ⟨⟨sim_getF d160_4 gf171, gr_GetF (fun k => k = 11) 5 7⟩,
  List.forall_mem_cons.mpr ⟨⟨sim_iconst d160_7 (by decide), gr_Push (.int 3) 8⟩,
  List.forall_mem_cons.mpr ⟨⟨sim_iaload d160_8, gr_ALdI 9⟩,
  List.forall_mem_cons.mpr ⟨⟨sim_iconst d160_9 (by decide), gr_Push (.int 1) 10⟩,
  List.forall_mem_cons.mpr ⟨⟨sim_isub d160_10, gr_II (fun x y => x - y) 11⟩,
  List.forall_mem_cons.mpr ⟨⟨sim_i2l d160_11, gr_IL (fun x => x.toInt64) 12⟩,
  List.forall_mem_cons.mpr ⟨⟨sim_static (y := 131) d160_12 (Or.inl kw1038) kw1039 mo131, gr_Call 131 3 15⟩,
  List.forall_mem_cons.mpr ⟨⟨sim_nreturn d160_15 rfl (fun _ h => congrArg Value.int h), gr_RetN .boolean⟩, fun _ h => absurd h List.not_mem_nil⟩⟩⟩⟩⟩⟩⟩⟩⟩⟩⟩⟩
noncomputable def pg160 : List (Nat × aP) := pg160_0
theorem ok160 : ∀ q ∈ pg160, Sim mT mt160 q.1 q.2 ∧ Grow q.2 := ok160_0
theorem d161_0 : decode mt161.2.1 0 = .ok (.iload_n 1, 1) := by decide +kernel
theorem d161_1 : decode mt161.2.1 1 = .ok (.bipush 8, 2) := by decide +kernel
theorem d161_3 : decode mt161.2.1 3 = .ok (.irem, 1) := by decide +kernel
theorem d161_4 : decode mt161.2.1 4 = .ok (.iload_n 2, 1) := by decide +kernel
theorem d161_5 : decode mt161.2.1 5 = .ok (.iconst 1, 1) := by decide +kernel
theorem d161_6 : decode mt161.2.1 6 = .ok (.if_icmp .ne 7, 3) := by decide +kernel
theorem d161_9 : decode mt161.2.1 9 = .ok (.iconst 1, 1) := by decide +kernel
theorem d161_10 : decode mt161.2.1 10 = .ok (.goto 13, 3) := by decide +kernel
theorem d161_13 : decode mt161.2.1 13 = .ok (.iload_n 2, 1) := by decide +kernel
theorem d161_14 : decode mt161.2.1 14 = .ok (.iconst 3, 1) := by decide +kernel
theorem d161_15 : decode mt161.2.1 15 = .ok (.if_icmp .ne 7, 3) := by decide +kernel
theorem d161_18 : decode mt161.2.1 18 = .ok (.iconst (-1), 1) := by decide +kernel
theorem d161_19 : decode mt161.2.1 19 = .ok (.goto 4, 3) := by decide +kernel
theorem d161_22 : decode mt161.2.1 22 = .ok (.iconst 0, 1) := by decide +kernel
theorem d161_23 : decode mt161.2.1 23 = .ok (.iadd, 1) := by decide +kernel
theorem d161_24 : decode mt161.2.1 24 = .ok (.istore_n 3, 1) := by decide +kernel
theorem d161_25 : decode mt161.2.1 25 = .ok (.iload_n 1, 1) := by decide +kernel
theorem d161_26 : decode mt161.2.1 26 = .ok (.bipush 8, 2) := by decide +kernel
theorem d161_28 : decode mt161.2.1 28 = .ok (.idiv, 1) := by decide +kernel
theorem d161_29 : decode mt161.2.1 29 = .ok (.iload_n 2, 1) := by decide +kernel
theorem d161_30 : decode mt161.2.1 30 = .ok (.ifCond .ne 7, 3) := by decide +kernel
theorem d161_33 : decode mt161.2.1 33 = .ok (.iconst (-1), 1) := by decide +kernel
theorem d161_34 : decode mt161.2.1 34 = .ok (.goto 13, 3) := by decide +kernel
theorem d161_37 : decode mt161.2.1 37 = .ok (.iload_n 2, 1) := by decide +kernel
theorem d161_38 : decode mt161.2.1 38 = .ok (.iconst 2, 1) := by decide +kernel
theorem d161_39 : decode mt161.2.1 39 = .ok (.if_icmp .ne 7, 3) := by decide +kernel
theorem d161_42 : decode mt161.2.1 42 = .ok (.iconst 1, 1) := by decide +kernel
theorem d161_43 : decode mt161.2.1 43 = .ok (.goto 4, 3) := by decide +kernel
theorem d161_46 : decode mt161.2.1 46 = .ok (.iconst 0, 1) := by decide +kernel
theorem d161_47 : decode mt161.2.1 47 = .ok (.iadd, 1) := by decide +kernel
theorem d161_48 : decode mt161.2.1 48 = .ok (.istore 4, 2) := by decide +kernel
theorem d161_50 : decode mt161.2.1 50 = .ok (.iload_n 3, 1) := by decide +kernel
theorem d161_51 : decode mt161.2.1 51 = .ok (.i2l, 1) := by decide +kernel
theorem d161_52 : decode mt161.2.1 52 = .ok (.lconst 0, 1) := by decide +kernel
theorem d161_53 : decode mt161.2.1 53 = .ok (.aload_n 0, 1) := by decide +kernel
theorem d161_54 : decode mt161.2.1 54 = .ok (.getfield 19, 3) := by decide +kernel
theorem d161_57 : decode mt161.2.1 57 = .ok (.iconst 0, 1) := by decide +kernel
theorem d161_58 : decode mt161.2.1 58 = .ok (.iaload, 1) := by decide +kernel
theorem d161_59 : decode mt161.2.1 59 = .ok (.i2l, 1) := by decide +kernel
theorem d161_60 : decode mt161.2.1 60 = .ok (.invokestatic 84, 3) := by decide +kernel
theorem d161_63 : decode mt161.2.1 63 = .ok (.ifCond .eq 30, 3) := by decide +kernel
theorem d161_66 : decode mt161.2.1 66 = .ok (.iload 4, 2) := by decide +kernel
theorem d161_68 : decode mt161.2.1 68 = .ok (.i2l, 1) := by decide +kernel
theorem d161_69 : decode mt161.2.1 69 = .ok (.lconst 0, 1) := by decide +kernel
theorem d161_70 : decode mt161.2.1 70 = .ok (.aload_n 0, 1) := by decide +kernel
theorem d161_71 : decode mt161.2.1 71 = .ok (.getfield 19, 3) := by decide +kernel
theorem d161_74 : decode mt161.2.1 74 = .ok (.iconst 1, 1) := by decide +kernel
theorem d161_75 : decode mt161.2.1 75 = .ok (.iaload, 1) := by decide +kernel
theorem d161_76 : decode mt161.2.1 76 = .ok (.i2l, 1) := by decide +kernel
theorem d161_77 : decode mt161.2.1 77 = .ok (.invokestatic 84, 3) := by decide +kernel
theorem d161_80 : decode mt161.2.1 80 = .ok (.ifCond .eq 13, 3) := by decide +kernel
theorem d161_83 : decode mt161.2.1 83 = .ok (.iload_n 3, 1) := by decide +kernel
theorem d161_84 : decode mt161.2.1 84 = .ok (.bipush 8, 2) := by decide +kernel
theorem d161_86 : decode mt161.2.1 86 = .ok (.iload 4, 2) := by decide +kernel
theorem d161_88 : decode mt161.2.1 88 = .ok (.imul, 1) := by decide +kernel
theorem d161_89 : decode mt161.2.1 89 = .ok (.iadd, 1) := by decide +kernel
theorem d161_90 : decode mt161.2.1 90 = .ok (.goto 4, 3) := by decide +kernel
theorem d161_93 : decode mt161.2.1 93 = .ok (.iconst (-1), 1) := by decide +kernel
theorem d161_94 : decode mt161.2.1 94 = .ok (.ireturn, 1) := by decide +kernel
noncomputable def pg161_0 : List (Nat × aP) := [(0, oLdI 1 1),
  (1, oPush (.int 8) 3),
  (3, oIId (fun x y => x - x / y * y) 4),
  (4, oLdI 2 5),
  (5, oPush (.int 1) 6),
  (6, oIc (fun x y => ¬ x = y) 13 9),
  (9, oPush (.int 1) 10),
  (10, oGo 23),
  (13, oLdI 2 14),
  (14, oPush (.int 3) 15),
  (15, oIc (fun x y => ¬ x = y) 22 18),
  (18, oPush (.int (-1)) 19),
  (19, oGo 23),
  (22, oPush (.int 0) 23),
  (23, oII (fun x y => x + y) 24),
  (24, oStI 3 25),
  (25, oLdI 1 26),
  (26, oPush (.int 8) 28),
  (28, oIId (fun x y => x / y) 29),
  (29, oLdI 2 30),
  (30, oIf (fun x => ¬ x = 0) 37 33),
  (33, oPush (.int (-1)) 34),
  (34, oGo 47),
  (37, oLdI 2 38),
  (38, oPush (.int 2) 39),
  (39, oIc (fun x y => ¬ x = y) 46 42),
  (42, oPush (.int 1) 43),
  (43, oGo 47),
  (46, oPush (.int 0) 47),
  (47, oII (fun x y => x + y) 48),
  (48, oStI 4 50),
  (50, oLdI 3 51),
  (51, oIL (fun x => x.toInt64) 52),
  (52, oPush (.long 0) 53),
  (53, oLdA 0 54),
  (54, oGetF (fun k => k = 11) 5 57),
  (57, oPush (.int 0) 58),
  (58, oALdI 59),
  (59, oIL (fun x => x.toInt64) 60),
  (60, oCall 131 3 63)]
theorem ok161_0 : ∀ q ∈ pg161_0, Sim mT mt161 q.1 q.2 ∧ Grow q.2 :=
  List.forall_mem_cons.mpr ⟨⟨sim_iload_n d161_0 rfl, gr_LdI 1 1⟩,
  List.forall_mem_cons.mpr ⟨⟨sim_bipush d161_1 (by decide), gr_Push (.int 8) 3⟩,
  List.forall_mem_cons.mpr ⟨⟨sim_irem d161_3, gr_IId (fun x y => x - x / y * y) 4⟩,
  List.forall_mem_cons.mpr ⟨⟨sim_iload_n d161_4 rfl, gr_LdI 2 5⟩,
  List.forall_mem_cons.mpr ⟨⟨sim_iconst d161_5 (by decide), gr_Push (.int 1) 6⟩,
  List.forall_mem_cons.mpr ⟨⟨sim_icmp_ne d161_6 (by decide), gr_Ic (fun x y => ¬ x = y) 13 9⟩,
  List.forall_mem_cons.mpr ⟨⟨sim_iconst d161_9 (by decide), gr_Push (.int 1) 10⟩,
  List.forall_mem_cons.mpr ⟨⟨sim_goto d161_10 (by decide), gr_Go 23⟩,
  List.forall_mem_cons.mpr ⟨⟨sim_iload_n d161_13 rfl, gr_LdI 2 14⟩,
  List.forall_mem_cons.mpr ⟨⟨sim_iconst d161_14 (by decide), gr_Push (.int 3) 15⟩,
  List.forall_mem_cons.mpr ⟨⟨sim_icmp_ne d161_15 (by decide), gr_Ic (fun x y => ¬ x = y) 22 18⟩,
  List.forall_mem_cons.mpr ⟨⟨sim_iconst d161_18 (by decide), gr_Push (.int (-1)) 19⟩,
  List.forall_mem_cons.mpr ⟨⟨sim_goto d161_19 (by decide), gr_Go 23⟩,
  List.forall_mem_cons.mpr ⟨⟨sim_iconst d161_22 (by decide), gr_Push (.int 0) 23⟩,
  List.forall_mem_cons.mpr ⟨⟨sim_iadd d161_23, gr_II (fun x y => x + y) 24⟩,
  List.forall_mem_cons.mpr ⟨⟨sim_istore_n d161_24 rfl (by decide), gr_StI 3 25⟩,
  List.forall_mem_cons.mpr ⟨⟨sim_iload_n d161_25 rfl, gr_LdI 1 26⟩,
  List.forall_mem_cons.mpr ⟨⟨sim_bipush d161_26 (by decide), gr_Push (.int 8) 28⟩,
  List.forall_mem_cons.mpr ⟨⟨sim_idiv d161_28, gr_IId (fun x y => x / y) 29⟩,
  List.forall_mem_cons.mpr ⟨⟨sim_iload_n d161_29 rfl, gr_LdI 2 30⟩,
  List.forall_mem_cons.mpr ⟨⟨sim_if_ne d161_30 (by decide), gr_If (fun x => ¬ x = 0) 37 33⟩,
  List.forall_mem_cons.mpr ⟨⟨sim_iconst d161_33 (by decide), gr_Push (.int (-1)) 34⟩,
  List.forall_mem_cons.mpr ⟨⟨sim_goto d161_34 (by decide), gr_Go 47⟩,
  List.forall_mem_cons.mpr ⟨⟨sim_iload_n d161_37 rfl, gr_LdI 2 38⟩,
  List.forall_mem_cons.mpr ⟨⟨sim_iconst d161_38 (by decide), gr_Push (.int 2) 39⟩,
  List.forall_mem_cons.mpr ⟨⟨sim_icmp_ne d161_39 (by decide), gr_Ic (fun x y => ¬ x = y) 46 42⟩,
  List.forall_mem_cons.mpr ⟨⟨sim_iconst d161_42 (by decide), gr_Push (.int 1) 43⟩,
  List.forall_mem_cons.mpr ⟨⟨sim_goto d161_43 (by decide), gr_Go 47⟩,
  List.forall_mem_cons.mpr ⟨⟨sim_iconst d161_46 (by decide), gr_Push (.int 0) 47⟩,
  List.forall_mem_cons.mpr ⟨⟨sim_iadd d161_47, gr_II (fun x y => x + y) 48⟩,
  List.forall_mem_cons.mpr ⟨⟨sim_istore d161_48 (by decide), gr_StI 4 50⟩,
  List.forall_mem_cons.mpr ⟨⟨sim_iload_n d161_50 rfl, gr_LdI 3 51⟩,
  List.forall_mem_cons.mpr ⟨⟨sim_i2l d161_51, gr_IL (fun x => x.toInt64) 52⟩,
  List.forall_mem_cons.mpr ⟨⟨sim_lconst d161_52 (by decide), gr_Push (.long 0) 53⟩,
  List.forall_mem_cons.mpr ⟨⟨sim_aload_n d161_53 rfl, gr_LdA 0 54⟩,
  List.forall_mem_cons.mpr ⟨⟨sim_getF d161_54 gf171, gr_GetF (fun k => k = 11) 5 57⟩,
  List.forall_mem_cons.mpr ⟨⟨sim_iconst d161_57 (by decide), gr_Push (.int 0) 58⟩,
  List.forall_mem_cons.mpr ⟨⟨sim_iaload d161_58, gr_ALdI 59⟩,
  List.forall_mem_cons.mpr ⟨⟨sim_i2l d161_59, gr_IL (fun x => x.toInt64) 60⟩,
  List.forall_mem_cons.mpr ⟨⟨sim_static (y := 131) d161_60 (Or.inl kw1038) kw1039 mo131, gr_Call 131 3 63⟩, fun _ h => absurd h List.not_mem_nil⟩⟩⟩⟩⟩⟩⟩⟩⟩⟩⟩⟩⟩⟩⟩⟩⟩⟩⟩⟩⟩⟩⟩⟩⟩⟩⟩⟩⟩⟩⟩⟩⟩⟩⟩⟩⟩⟩⟩⟩
noncomputable def pg161_1 : List (Nat × aP) := [(63, oIf (fun x => x = 0) 93 66),
  (66, oLdI 4 68),
  (68, oIL (fun x => x.toInt64) 69),
  (69, oPush (.long 0) 70),
  (70, oLdA 0 71),
  (71, oGetF (fun k => k = 11) 5 74),
  (74, oPush (.int 1) 75),
  (75, oALdI 76),
  (76, oIL (fun x => x.toInt64) 77),
  (77, oCall 131 3 80),
  (80, oIf (fun x => x = 0) 93 83),
  (83, oLdI 3 84),
  (84, oPush (.int 8) 86),
  (86, oLdI 4 88),
  (88, oII (fun x y => x * y) 89),
  (89, oII (fun x y => x + y) 90),
  (90, oGo 94),
  (93, oPush (.int (-1)) 94),
  (94, oRetI)]
theorem ok161_1 : ∀ q ∈ pg161_1, Sim mT mt161 q.1 q.2 ∧ Grow q.2 :=
  List.forall_mem_cons.mpr ⟨⟨sim_if_eq d161_63 (by decide), gr_If (fun x => x = 0) 93 66⟩,
  List.forall_mem_cons.mpr ⟨⟨sim_iload d161_66, gr_LdI 4 68⟩,
  List.forall_mem_cons.mpr ⟨⟨sim_i2l d161_68, gr_IL (fun x => x.toInt64) 69⟩,
  List.forall_mem_cons.mpr ⟨⟨sim_lconst d161_69 (by decide), gr_Push (.long 0) 70⟩,
  List.forall_mem_cons.mpr ⟨⟨sim_aload_n d161_70 rfl, gr_LdA 0 71⟩,
  List.forall_mem_cons.mpr ⟨⟨sim_getF d161_71 gf171, gr_GetF (fun k => k = 11) 5 74⟩,
  List.forall_mem_cons.mpr ⟨⟨sim_iconst d161_74 (by decide), gr_Push (.int 1) 75⟩,
  List.forall_mem_cons.mpr ⟨⟨sim_iaload d161_75, gr_ALdI 76⟩,
  List.forall_mem_cons.mpr ⟨⟨sim_i2l d161_76, gr_IL (fun x => x.toInt64) 77⟩,
  List.forall_mem_cons.mpr ⟨⟨sim_static (y := 131) d161_77 (Or.inl kw1038) kw1039 mo131, gr_Call 131 3 80⟩,
  List.forall_mem_cons.mpr ⟨⟨sim_if_eq d161_80 (by decide), gr_If (fun x => x = 0) 93 83⟩,
  List.forall_mem_cons.mpr ⟨⟨sim_iload_n d161_83 rfl, gr_LdI 3 84⟩,
  List.forall_mem_cons.mpr ⟨⟨sim_bipush d161_84 (by decide), gr_Push (.int 8) 86⟩,
  List.forall_mem_cons.mpr ⟨⟨sim_iload d161_86, gr_LdI 4 88⟩,
  List.forall_mem_cons.mpr ⟨⟨sim_imul d161_88, gr_II (fun x y => x * y) 89⟩,
  List.forall_mem_cons.mpr ⟨⟨sim_iadd d161_89, gr_II (fun x y => x + y) 90⟩,
  List.forall_mem_cons.mpr ⟨⟨sim_goto d161_90 (by decide), gr_Go 94⟩,
  List.forall_mem_cons.mpr ⟨⟨sim_iconst d161_93 (by decide), gr_Push (.int (-1)) 94⟩,
  List.forall_mem_cons.mpr ⟨⟨sim_ireturn d161_94 rfl, gr_RetI⟩, fun _ h => absurd h List.not_mem_nil⟩⟩⟩⟩⟩⟩⟩⟩⟩⟩⟩⟩⟩⟩⟩⟩⟩⟩⟩
noncomputable def pg161 : List (Nat × aP) := pg161_0 ++ (pg161_1)
theorem ok161 : ∀ q ∈ pg161, Sim mT mt161 q.1 q.2 ∧ Grow q.2 := List.forall_mem_append.mpr ⟨ok161_0, ok161_1⟩
theorem d162_0 : decode mt162.2.1 0 = .ok (.iload_n 1, 1) := by decide +kernel
theorem d162_1 : decode mt162.2.1 1 = .ok (.i2l, 1) := by decide +kernel
theorem d162_2 : decode mt162.2.1 2 = .ok (.lconst 0, 1) := by decide +kernel
theorem d162_3 : decode mt162.2.1 3 = .ok (.aload_n 0, 1) := by decide +kernel
theorem d162_4 : decode mt162.2.1 4 = .ok (.getfield 19, 3) := by decide +kernel
theorem d162_7 : decode mt162.2.1 7 = .ok (.iconst 0, 1) := by decide +kernel
theorem d162_8 : decode mt162.2.1 8 = .ok (.iaload, 1) := by decide +kernel
theorem d162_9 : decode mt162.2.1 9 = .ok (.iconst 1, 1) := by decide +kernel
theorem d162_10 : decode mt162.2.1 10 = .ok (.isub, 1) := by decide +kernel
theorem d162_11 : decode mt162.2.1 11 = .ok (.i2l, 1) := by decide +kernel
theorem d162_12 : decode mt162.2.1 12 = .ok (.invokestatic 84, 3) := by decide +kernel
theorem d162_15 : decode mt162.2.1 15 = .ok (.ifCond .eq 41, 3) := by decide +kernel
theorem d162_18 : decode mt162.2.1 18 = .ok (.iload_n 2, 1) := by decide +kernel
theorem d162_19 : decode mt162.2.1 19 = .ok (.i2l, 1) := by decide +kernel
theorem d162_20 : decode mt162.2.1 20 = .ok (.lconst 0, 1) := by decide +kernel
theorem d162_21 : decode mt162.2.1 21 = .ok (.aload_n 0, 1) := by decide +kernel
theorem d162_22 : decode mt162.2.1 22 = .ok (.getfield 19, 3) := by decide +kernel
theorem d162_25 : decode mt162.2.1 25 = .ok (.iconst 1, 1) := by decide +kernel
theorem d162_26 : decode mt162.2.1 26 = .ok (.iaload, 1) := by decide +kernel
theorem d162_27 : decode mt162.2.1 27 = .ok (.iconst 1, 1) := by decide +kernel
theorem d162_28 : decode mt162.2.1 28 = .ok (.isub, 1) := by decide +kernel
theorem d162_29 : decode mt162.2.1 29 = .ok (.i2l, 1) := by decide +kernel
theorem d162_30 : decode mt162.2.1 30 = .ok (.invokestatic 84, 3) := by decide +kernel
theorem d162_33 : decode mt162.2.1 33 = .ok (.ifCond .eq 23, 3) := by decide +kernel
theorem d162_36 : decode mt162.2.1 36 = .ok (.aload_n 0, 1) := by decide +kernel
theorem d162_37 : decode mt162.2.1 37 = .ok (.getfield 19, 3) := by decide +kernel
theorem d162_40 : decode mt162.2.1 40 = .ok (.iconst 4, 1) := by decide +kernel
theorem d162_41 : decode mt162.2.1 41 = .ok (.iload_n 1, 1) := by decide +kernel
theorem d162_42 : decode mt162.2.1 42 = .ok (.iadd, 1) := by decide +kernel
theorem d162_43 : decode mt162.2.1 43 = .ok (.bipush 7, 2) := by decide +kernel
theorem d162_45 : decode mt162.2.1 45 = .ok (.iload_n 2, 1) := by decide +kernel
theorem d162_46 : decode mt162.2.1 46 = .ok (.imul, 1) := by decide +kernel
theorem d162_47 : decode mt162.2.1 47 = .ok (.iadd, 1) := by decide +kernel
theorem d162_48 : decode mt162.2.1 48 = .ok (.iaload, 1) := by decide +kernel
theorem d162_49 : decode mt162.2.1 49 = .ok (.ifCond .ge 7, 3) := by decide +kernel
theorem d162_52 : decode mt162.2.1 52 = .ok (.iconst 1, 1) := by decide +kernel
theorem d162_53 : decode mt162.2.1 53 = .ok (.goto 4, 3) := by decide +kernel
theorem d162_56 : decode mt162.2.1 56 = .ok (.iconst 0, 1) := by decide +kernel
theorem d162_57 : decode mt162.2.1 57 = .ok (.ireturn, 1) := by decide +kernel
noncomputable def pg162_0 : List (Nat × aP) := [(0, oLdI 1 1),
  (1, oIL (fun x => x.toInt64) 2),
  (2, oPush (.long 0) 3),
  (3, oLdA 0 4),
  (4, oGetF (fun k => k = 11) 5 7),
  (7, oPush (.int 0) 8),
  (8, oALdI 9),
  (9, oPush (.int 1) 10),
  (10, oII (fun x y => x - y) 11),
  (11, oIL (fun x => x.toInt64) 12),
  (12, oCall 131 3 15),
  (15, oIf (fun x => x = 0) 56 18),
  (18, oLdI 2 19),
  (19, oIL (fun x => x.toInt64) 20),
  (20, oPush (.long 0) 21),
  (21, oLdA 0 22),
  (22, oGetF (fun k => k = 11) 5 25),
  (25, oPush (.int 1) 26),
  (26, oALdI 27),
  (27, oPush (.int 1) 28),
  (28, oII (fun x y => x - y) 29),
  (29, oIL (fun x => x.toInt64) 30),
  (30, oCall 131 3 33),
  (33, oIf (fun x => x = 0) 56 36),
  (36, oLdA 0 37),
  (37, oGetF (fun k => k = 11) 5 40),
  (40, oPush (.int 4) 41),
  (41, oLdI 1 42),
  (42, oII (fun x y => x + y) 43),
  (43, oPush (.int 7) 45),
  (45, oLdI 2 46),
  (46, oII (fun x y => x * y) 47),
  (47, oII (fun x y => x + y) 48),
  (48, oALdI 49),
  (49, oIf (fun x => 0 ≤ x) 56 52),
  (52, oPush (.int 1) 53),
  (53, oGo 57),
  (56, oPush (.int 0) 57),
  (57, oRetI)]
theorem ok162_0 : ∀ q ∈ pg162_0, Sim mT mt162 q.1 q.2 ∧ Grow q.2 :=
  List.forall_mem_cons.mpr ⟨⟨sim_iload_n d162_0 rfl, gr_LdI 1 1⟩,
  List.forall_mem_cons.mpr ⟨⟨sim_i2l d162_1, gr_IL (fun x => x.toInt64) 2⟩,
  List.forall_mem_cons.mpr ⟨⟨sim_lconst d162_2 (by decide), gr_Push (.long 0) 3⟩,
  List.forall_mem_cons.mpr ⟨⟨sim_aload_n d162_3 rfl, gr_LdA 0 4⟩,
  List.forall_mem_cons.mpr ⟨⟨sim_getF d162_4 gf171, gr_GetF (fun k => k = 11) 5 7⟩,
  List.forall_mem_cons.mpr ⟨⟨sim_iconst d162_7 (by decide), gr_Push (.int 0) 8⟩,
  List.forall_mem_cons.mpr ⟨⟨sim_iaload d162_8, gr_ALdI 9⟩,
  List.forall_mem_cons.mpr ⟨⟨sim_iconst d162_9 (by decide), gr_Push (.int 1) 10⟩,
  List.forall_mem_cons.mpr ⟨⟨sim_isub d162_10, gr_II (fun x y => x - y) 11⟩,
  List.forall_mem_cons.mpr ⟨⟨sim_i2l d162_11, gr_IL (fun x => x.toInt64) 12⟩,
  List.forall_mem_cons.mpr ⟨⟨sim_static (y := 131) d162_12 (Or.inl kw1038) kw1039 mo131, gr_Call 131 3 15⟩,
  List.forall_mem_cons.mpr ⟨⟨sim_if_eq d162_15 (by decide), gr_If (fun x => x = 0) 56 18⟩,
  List.forall_mem_cons.mpr ⟨⟨sim_iload_n d162_18 rfl, gr_LdI 2 19⟩,
  List.forall_mem_cons.mpr ⟨⟨sim_i2l d162_19, gr_IL (fun x => x.toInt64) 20⟩,
  List.forall_mem_cons.mpr ⟨⟨sim_lconst d162_20 (by decide), gr_Push (.long 0) 21⟩,
  List.forall_mem_cons.mpr ⟨⟨sim_aload_n d162_21 rfl, gr_LdA 0 22⟩,
  List.forall_mem_cons.mpr ⟨⟨sim_getF d162_22 gf171, gr_GetF (fun k => k = 11) 5 25⟩,
  List.forall_mem_cons.mpr ⟨⟨sim_iconst d162_25 (by decide), gr_Push (.int 1) 26⟩,
  List.forall_mem_cons.mpr ⟨⟨sim_iaload d162_26, gr_ALdI 27⟩,
  List.forall_mem_cons.mpr ⟨⟨sim_iconst d162_27 (by decide), gr_Push (.int 1) 28⟩,
  List.forall_mem_cons.mpr ⟨⟨sim_isub d162_28, gr_II (fun x y => x - y) 29⟩,
  List.forall_mem_cons.mpr ⟨⟨sim_i2l d162_29, gr_IL (fun x => x.toInt64) 30⟩,
  List.forall_mem_cons.mpr ⟨⟨sim_static (y := 131) d162_30 (Or.inl kw1038) kw1039 mo131, gr_Call 131 3 33⟩,
  List.forall_mem_cons.mpr ⟨⟨sim_if_eq d162_33 (by decide), gr_If (fun x => x = 0) 56 36⟩,
  List.forall_mem_cons.mpr ⟨⟨sim_aload_n d162_36 rfl, gr_LdA 0 37⟩,
  List.forall_mem_cons.mpr ⟨⟨sim_getF d162_37 gf171, gr_GetF (fun k => k = 11) 5 40⟩,
  List.forall_mem_cons.mpr ⟨⟨sim_iconst d162_40 (by decide), gr_Push (.int 4) 41⟩,
  List.forall_mem_cons.mpr ⟨⟨sim_iload_n d162_41 rfl, gr_LdI 1 42⟩,
  List.forall_mem_cons.mpr ⟨⟨sim_iadd d162_42, gr_II (fun x y => x + y) 43⟩,
  List.forall_mem_cons.mpr ⟨⟨sim_bipush d162_43 (by decide), gr_Push (.int 7) 45⟩,
  List.forall_mem_cons.mpr ⟨⟨sim_iload_n d162_45 rfl, gr_LdI 2 46⟩,
  List.forall_mem_cons.mpr ⟨⟨sim_imul d162_46, gr_II (fun x y => x * y) 47⟩,
  List.forall_mem_cons.mpr ⟨⟨sim_iadd d162_47, gr_II (fun x y => x + y) 48⟩,
  List.forall_mem_cons.mpr ⟨⟨sim_iaload d162_48, gr_ALdI 49⟩,
  List.forall_mem_cons.mpr ⟨⟨sim_if_ge d162_49 (by decide), gr_If (fun x => 0 ≤ x) 56 52⟩,
  List.forall_mem_cons.mpr ⟨⟨sim_iconst d162_52 (by decide), gr_Push (.int 1) 53⟩,
  List.forall_mem_cons.mpr ⟨⟨sim_goto d162_53 (by decide), gr_Go 57⟩,
  List.forall_mem_cons.mpr ⟨⟨sim_iconst d162_56 (by decide), gr_Push (.int 0) 57⟩,
  List.forall_mem_cons.mpr ⟨⟨sim_ireturn d162_57 rfl, gr_RetI⟩, fun _ h => absurd h List.not_mem_nil⟩⟩⟩⟩⟩⟩⟩⟩⟩⟩⟩⟩⟩⟩⟩⟩⟩⟩⟩⟩⟩⟩⟩⟩⟩⟩⟩⟩⟩⟩⟩⟩⟩⟩⟩⟩⟩⟩⟩
noncomputable def pg162 : List (Nat × aP) := pg162_0
theorem ok162 : ∀ q ∈ pg162, Sim mT mt162 q.1 q.2 ∧ Grow q.2 := ok162_0
theorem d163_0 : decode mt163.2.1 0 = .ok (.lconst 0, 1) := by decide +kernel
theorem d163_1 : decode mt163.2.1 1 = .ok (.lstore 5, 2) := by decide +kernel
theorem d163_3 : decode mt163.2.1 3 = .ok (.iload_n 1, 1) := by decide +kernel
theorem d163_4 : decode mt163.2.1 4 = .ok (.istore 7, 2) := by decide +kernel
theorem d163_6 : decode mt163.2.1 6 = .ok (.iconst 0, 1) := by decide +kernel
theorem d163_7 : decode mt163.2.1 7 = .ok (.istore 8, 2) := by decide +kernel
theorem d163_9 : decode mt163.2.1 9 = .ok (.iload 8, 2) := by decide +kernel
theorem d163_11 : decode mt163.2.1 11 = .ok (.iload 4, 2) := by decide +kernel
theorem d163_13 : decode mt163.2.1 13 = .ok (.if_icmp .ge 90, 3) := by decide +kernel
theorem d163_16 : decode mt163.2.1 16 = .ok (.aload_n 2, 1) := by decide +kernel
theorem d163_17 : decode mt163.2.1 17 = .ok (.iload_n 3, 1) := by decide +kernel
theorem d163_18 : decode mt163.2.1 18 = .ok (.iload 8, 2) := by decide +kernel
theorem d163_20 : decode mt163.2.1 20 = .ok (.iadd, 1) := by decide +kernel
theorem d163_21 : decode mt163.2.1 21 = .ok (.iaload, 1) := by decide +kernel
theorem d163_22 : decode mt163.2.1 22 = .ok (.istore 9, 2) := by decide +kernel
theorem d163_24 : decode mt163.2.1 24 = .ok (.aload_n 0, 1) := by decide +kernel
theorem d163_25 : decode mt163.2.1 25 = .ok (.iload 7, 2) := by decide +kernel
theorem d163_27 : decode mt163.2.1 27 = .ok (.iload 9, 2) := by decide +kernel
theorem d163_29 : decode mt163.2.1 29 = .ok (.invokevirtual 209, 3) := by decide +kernel
theorem d163_32 : decode mt163.2.1 32 = .ok (.istore 10, 2) := by decide +kernel
theorem d163_34 : decode mt163.2.1 34 = .ok (.iload 9, 2) := by decide +kernel
theorem d163_36 : decode mt163.2.1 36 = .ok (.ifCond .eq 9, 3) := by decide +kernel
theorem d163_39 : decode mt163.2.1 39 = .ok (.iload 9, 2) := by decide +kernel
theorem d163_41 : decode mt163.2.1 41 = .ok (.iconst 2, 1) := by decide +kernel
theorem d163_42 : decode mt163.2.1 42 = .ok (.if_icmp .ne 51, 3) := by decide +kernel
theorem d163_45 : decode mt163.2.1 45 = .ok (.iload 9, 2) := by decide +kernel
theorem d163_47 : decode mt163.2.1 47 = .ok (.ifCond .ne 8, 3) := by decide +kernel
theorem d163_50 : decode mt163.2.1 50 = .ok (.iload 10, 2) := by decide +kernel
theorem d163_52 : decode mt163.2.1 52 = .ok (.goto 5, 3) := by decide +kernel
theorem d163_55 : decode mt163.2.1 55 = .ok (.iload 7, 2) := by decide +kernel
theorem d163_57 : decode mt163.2.1 57 = .ok (.bipush 8, 2) := by decide +kernel
theorem d163_59 : decode mt163.2.1 59 = .ok (.idiv, 1) := by decide +kernel
theorem d163_60 : decode mt163.2.1 60 = .ok (.istore 11, 2) := by decide +kernel
theorem d163_62 : decode mt163.2.1 62 = .ok (.lconst 1, 1) := by decide +kernel
theorem d163_63 : decode mt163.2.1 63 = .ok (.aload_n 0, 1) := by decide +kernel
theorem d163_64 : decode mt163.2.1 64 = .ok (.getfield 19, 3) := by decide +kernel
theorem d163_67 : decode mt163.2.1 67 = .ok (.iconst 0, 1) := by decide +kernel
theorem d163_68 : decode mt163.2.1 68 = .ok (.iaload, 1) := by decide +kernel
theorem d163_69 : decode mt163.2.1 69 = .ok (.lshl, 1) := by decide +kernel
theorem d163_70 : decode mt163.2.1 70 = .ok (.lconst 1, 1) := by decide +kernel
theorem d163_71 : decode mt163.2.1 71 = .ok (.iload 7, 2) := by decide +kernel
theorem d163_73 : decode mt163.2.1 73 = .ok (.bipush 8, 2) := by decide +kernel
theorem d163_75 : decode mt163.2.1 75 = .ok (.irem, 1) := by decide +kernel
theorem d163_76 : decode mt163.2.1 76 = .ok (.lshl, 1) := by decide +kernel
theorem d163_77 : decode mt163.2.1 77 = .ok (.lsub, 1) := by decide +kernel
theorem d163_78 : decode mt163.2.1 78 = .ok (.lstore 12, 2) := by decide +kernel
theorem d163_80 : decode mt163.2.1 80 = .ok (.lload 5, 2) := by decide +kernel
theorem d163_82 : decode mt163.2.1 82 = .ok (.lload 12, 2) := by decide +kernel
theorem d163_84 : decode mt163.2.1 84 = .ok (.bipush 7, 2) := by decide +kernel
theorem d163_86 : decode mt163.2.1 86 = .ok (.iload 11, 2) := by decide +kernel
theorem d163_88 : decode mt163.2.1 88 = .ok (.imul, 1) := by decide +kernel
theorem d163_89 : decode mt163.2.1 89 = .ok (.lshl, 1) := by decide +kernel
theorem d163_90 : decode mt163.2.1 90 = .ok (.lxor, 1) := by decide +kernel
theorem d163_91 : decode mt163.2.1 91 = .ok (.lstore 5, 2) := by decide +kernel
theorem d163_93 : decode mt163.2.1 93 = .ok (.iload 10, 2) := by decide +kernel
theorem d163_95 : decode mt163.2.1 95 = .ok (.istore 7, 2) := by decide +kernel
theorem d163_97 : decode mt163.2.1 97 = .ok (.iinc 8 1, 3) := by decide +kernel
theorem d163_100 : decode mt163.2.1 100 = .ok (.goto (-91), 3) := by decide +kernel
theorem d163_103 : decode mt163.2.1 103 = .ok (.lload 5, 2) := by decide +kernel
theorem d163_105 : decode mt163.2.1 105 = .ok (.lreturn, 1) := by decide +kernel
noncomputable def pg163_0 : List (Nat × aP) := [(0, oPush (.long 0) 1),
  (1, oStL 5 3),
  (3, oLdI 1 4),
  (4, oStI 7 6),
  (6, oPush (.int 0) 7),
  (7, oStI 8 9),
  (9, oLdI 8 11),
  (11, oLdI 4 13),
  (13, oIc (fun x y => y ≤ x) 103 16),
  (16, oLdA 2 17),
  (17, oLdI 3 18),
  (18, oLdI 8 20),
  (20, oII (fun x y => x + y) 21),
  (21, oALdI 22),
  (22, oStI 9 24),
  (24, oLdA 0 25),
  (25, oLdI 7 27),
  (27, oLdI 9 29),
  (29, oCalV (fun k => if k = 11 then some 161 else none) 2 32),
  (32, oStI 10 34),
  (34, oLdI 9 36),
  (36, oIf (fun x => x = 0) 45 39),
  (39, oLdI 9 41),
  (41, oPush (.int 2) 42),
  (42, oIc (fun x y => ¬ x = y) 93 45),
  (45, oLdI 9 47),
  (47, oIf (fun x => ¬ x = 0) 55 50),
  (50, oLdI 10 52),
  (52, oGo 57),
  (55, oLdI 7 57),
  (57, oPush (.int 8) 59),
  (59, oIId (fun x y => x / y) 60),
  (60, oStI 11 62),
  (62, oPush (.long 1) 63),
  (63, oLdA 0 64),
  (64, oGetF (fun k => k = 11) 5 67),
  (67, oPush (.int 0) 68),
  (68, oALdI 69),
  (69, oLSh (fun x y => x <<< (y.toInt64 &&& 63)) 70),
  (70, oPush (.long 1) 71)]
theorem ok163_0 : ∀ q ∈ pg163_0, Sim mT mt163 q.1 q.2 ∧ Grow q.2 :=
  List.forall_mem_cons.mpr ⟨⟨sim_lconst d163_0 (by decide), gr_Push (.long 0) 1⟩,
  List.forall_mem_cons.mpr ⟨⟨sim_lstore d163_1 (by decide), gr_StL 5 3⟩,
  List.forall_mem_cons.mpr ⟨⟨sim_iload_n d163_3 rfl, gr_LdI 1 4⟩,
  List.forall_mem_cons.mpr ⟨⟨sim_istore d163_4 (by decide), gr_StI 7 6⟩,
  List.forall_mem_cons.mpr ⟨⟨sim_iconst d163_6 (by decide), gr_Push (.int 0) 7⟩,
  List.forall_mem_cons.mpr ⟨⟨sim_istore d163_7 (by decide), gr_StI 8 9⟩,
  List.forall_mem_cons.mpr ⟨⟨sim_iload d163_9, gr_LdI 8 11⟩,
  List.forall_mem_cons.mpr ⟨⟨sim_iload d163_11, gr_LdI 4 13⟩,
  List.forall_mem_cons.mpr ⟨⟨sim_icmp_ge d163_13 (by decide), gr_Ic (fun x y => y ≤ x) 103 16⟩,
  List.forall_mem_cons.mpr ⟨⟨sim_aload_n d163_16 rfl, gr_LdA 2 17⟩,
  List.forall_mem_cons.mpr ⟨⟨sim_iload_n d163_17 rfl, gr_LdI 3 18⟩,
  List.forall_mem_cons.mpr ⟨⟨sim_iload d163_18, gr_LdI 8 20⟩,
  List.forall_mem_cons.mpr ⟨⟨sim_iadd d163_20, gr_II (fun x y => x + y) 21⟩,
  List.forall_mem_cons.mpr ⟨⟨sim_iaload d163_21, gr_ALdI 22⟩,
  List.forall_mem_cons.mpr ⟨⟨sim_istore d163_22 (by decide), gr_StI 9 24⟩,
  List.forall_mem_cons.mpr ⟨⟨sim_aload_n d163_24 rfl, gr_LdA 0 25⟩,
  List.forall_mem_cons.mpr ⟨⟨sim_iload d163_25, gr_LdI 7 27⟩,
  List.forall_mem_cons.mpr ⟨⟨sim_iload d163_27, gr_LdI 9 29⟩,
  List.forall_mem_cons.mpr ⟨⟨sim_virtual d163_29 vk116, gr_CalV (fun k => if k = 11 then some 161 else none) 2 32⟩,
  List.forall_mem_cons.mpr ⟨⟨sim_istore d163_32 (by decide), gr_StI 10 34⟩,
  List.forall_mem_cons.mpr ⟨⟨sim_iload d163_34, gr_LdI 9 36⟩,
  List.forall_mem_cons.mpr ⟨⟨sim_if_eq d163_36 (by decide), gr_If (fun x => x = 0) 45 39⟩,
  List.forall_mem_cons.mpr ⟨⟨sim_iload d163_39, gr_LdI 9 41⟩,
  List.forall_mem_cons.mpr ⟨⟨sim_iconst d163_41 (by decide), gr_Push (.int 2) 42⟩,
  List.forall_mem_cons.mpr ⟨⟨sim_icmp_ne d163_42 (by decide), gr_Ic (fun x y => ¬ x = y) 93 45⟩,
  List.forall_mem_cons.mpr ⟨⟨sim_iload d163_45, gr_LdI 9 47⟩,
  List.forall_mem_cons.mpr ⟨⟨sim_if_ne d163_47 (by decide), gr_If (fun x => ¬ x = 0) 55 50⟩,
  List.forall_mem_cons.mpr ⟨⟨sim_iload d163_50, gr_LdI 10 52⟩,
  List.forall_mem_cons.mpr ⟨⟨sim_goto d163_52 (by decide), gr_Go 57⟩,
  List.forall_mem_cons.mpr ⟨⟨sim_iload d163_55, gr_LdI 7 57⟩,
  List.forall_mem_cons.mpr ⟨⟨sim_bipush d163_57 (by decide), gr_Push (.int 8) 59⟩,
  List.forall_mem_cons.mpr ⟨⟨sim_idiv d163_59, gr_IId (fun x y => x / y) 60⟩,
  List.forall_mem_cons.mpr ⟨⟨sim_istore d163_60 (by decide), gr_StI 11 62⟩,
  List.forall_mem_cons.mpr ⟨⟨sim_lconst d163_62 (by decide), gr_Push (.long 1) 63⟩,
  List.forall_mem_cons.mpr ⟨⟨sim_aload_n d163_63 rfl, gr_LdA 0 64⟩,
  List.forall_mem_cons.mpr ⟨⟨sim_getF d163_64 gf171, gr_GetF (fun k => k = 11) 5 67⟩,
  List.forall_mem_cons.mpr ⟨⟨sim_iconst d163_67 (by decide), gr_Push (.int 0) 68⟩,
  List.forall_mem_cons.mpr ⟨⟨sim_iaload d163_68, gr_ALdI 69⟩,
  List.forall_mem_cons.mpr ⟨⟨sim_lshl d163_69, gr_LSh (fun x y => x <<< (y.toInt64 &&& 63)) 70⟩,
  List.forall_mem_cons.mpr ⟨⟨sim_lconst d163_70 (by decide), gr_Push (.long 1) 71⟩, fun _ h => absurd h List.not_mem_nil⟩⟩⟩⟩⟩⟩⟩⟩⟩⟩⟩⟩⟩⟩⟩⟩⟩⟩⟩⟩⟩⟩⟩⟩⟩⟩⟩⟩⟩⟩⟩⟩⟩⟩⟩⟩⟩⟩⟩⟩
noncomputable def pg163_1 : List (Nat × aP) := [(71, oLdI 7 73),
  (73, oPush (.int 8) 75),
  (75, oIId (fun x y => x - x / y * y) 76),
  (76, oLSh (fun x y => x <<< (y.toInt64 &&& 63)) 77),
  (77, oLL (fun x y => x - y) 78),
  (78, oStL 12 80),
  (80, oLdL 5 82),
  (82, oLdL 12 84),
  (84, oPush (.int 7) 86),
  (86, oLdI 11 88),
  (88, oII (fun x y => x * y) 89),
  (89, oLSh (fun x y => x <<< (y.toInt64 &&& 63)) 90),
  (90, oLL (fun x y => x ^^^ y) 91),
  (91, oStL 5 93),
  (93, oLdI 10 95),
  (95, oStI 7 97),
  (97, oInc 8 1 100),
  (100, oGo 9),
  (103, oLdL 5 105),
  (105, oRetL)]
theorem ok163_1 : ∀ q ∈ pg163_1, Sim mT mt163 q.1 q.2 ∧ Grow q.2 :=
  List.forall_mem_cons.mpr ⟨⟨sim_iload d163_71, gr_LdI 7 73⟩,
  List.forall_mem_cons.mpr ⟨⟨sim_bipush d163_73 (by decide), gr_Push (.int 8) 75⟩,
  List.forall_mem_cons.mpr ⟨⟨sim_irem d163_75, gr_IId (fun x y => x - x / y * y) 76⟩,
  List.forall_mem_cons.mpr ⟨⟨sim_lshl d163_76, gr_LSh (fun x y => x <<< (y.toInt64 &&& 63)) 77⟩,
  List.forall_mem_cons.mpr ⟨⟨sim_lsub d163_77, gr_LL (fun x y => x - y) 78⟩,
  List.forall_mem_cons.mpr ⟨⟨sim_lstore d163_78 (by decide), gr_StL 12 80⟩,
  List.forall_mem_cons.mpr ⟨⟨sim_lload d163_80, gr_LdL 5 82⟩,
  List.forall_mem_cons.mpr ⟨⟨sim_lload d163_82, gr_LdL 12 84⟩,
  List.forall_mem_cons.mpr ⟨⟨sim_bipush d163_84 (by decide), gr_Push (.int 7) 86⟩,
  List.forall_mem_cons.mpr ⟨⟨sim_iload d163_86, gr_LdI 11 88⟩,
  List.forall_mem_cons.mpr ⟨⟨sim_imul d163_88, gr_II (fun x y => x * y) 89⟩,
  List.forall_mem_cons.mpr ⟨⟨sim_lshl d163_89, gr_LSh (fun x y => x <<< (y.toInt64 &&& 63)) 90⟩,
  List.forall_mem_cons.mpr ⟨⟨sim_lxor d163_90, gr_LL (fun x y => x ^^^ y) 91⟩,
  List.forall_mem_cons.mpr ⟨⟨sim_lstore d163_91 (by decide), gr_StL 5 93⟩,
  List.forall_mem_cons.mpr ⟨⟨sim_iload d163_93, gr_LdI 10 95⟩,
  List.forall_mem_cons.mpr ⟨⟨sim_istore d163_95 (by decide), gr_StI 7 97⟩,
  List.forall_mem_cons.mpr ⟨⟨sim_iinc d163_97 (by decide) (by decide), gr_Inc 8 1 100⟩,
  List.forall_mem_cons.mpr ⟨⟨sim_goto d163_100 (by decide), gr_Go 9⟩,
  List.forall_mem_cons.mpr ⟨⟨sim_lload d163_103, gr_LdL 5 105⟩,
  List.forall_mem_cons.mpr ⟨⟨sim_lreturn d163_105 rfl, gr_RetL⟩, fun _ h => absurd h List.not_mem_nil⟩⟩⟩⟩⟩⟩⟩⟩⟩⟩⟩⟩⟩⟩⟩⟩⟩⟩⟩⟩
noncomputable def pg163 : List (Nat × aP) := pg163_0 ++ (pg163_1)
theorem ok163 : ∀ q ∈ pg163, Sim mT mt163 q.1 q.2 ∧ Grow q.2 := List.forall_mem_append.mpr ⟨ok163_0, ok163_1⟩
theorem d164_0 : decode mt164.2.1 0 = .ok (.aload_n 0, 1) := by decide +kernel
theorem d164_1 : decode mt164.2.1 1 = .ok (.lconst 0, 1) := by decide +kernel
theorem d164_2 : decode mt164.2.1 2 = .ok (.putfield 211, 3) := by decide +kernel
theorem d164_5 : decode mt164.2.1 5 = .ok (.iconst 0, 1) := by decide +kernel
theorem d164_6 : decode mt164.2.1 6 = .ok (.istore_n 1, 1) := by decide +kernel
theorem d164_7 : decode mt164.2.1 7 = .ok (.iload_n 1, 1) := by decide +kernel
theorem d164_8 : decode mt164.2.1 8 = .ok (.sipush 224, 3) := by decide +kernel
theorem d164_11 : decode mt164.2.1 11 = .ok (.if_icmp .ge 16, 3) := by decide +kernel
theorem d164_14 : decode mt164.2.1 14 = .ok (.aload_n 0, 1) := by decide +kernel
theorem d164_15 : decode mt164.2.1 15 = .ok (.getfield 28, 3) := by decide +kernel
theorem d164_18 : decode mt164.2.1 18 = .ok (.iload_n 1, 1) := by decide +kernel
theorem d164_19 : decode mt164.2.1 19 = .ok (.iconst 0, 1) := by decide +kernel
theorem d164_20 : decode mt164.2.1 20 = .ok (.bastore, 1) := by decide +kernel
theorem d164_21 : decode mt164.2.1 21 = .ok (.iinc 1 1, 3) := by decide +kernel
theorem d164_24 : decode mt164.2.1 24 = .ok (.goto (-17), 3) := by decide +kernel
theorem d164_27 : decode mt164.2.1 27 = .ok (.iconst 0, 1) := by decide +kernel
theorem d164_28 : decode mt164.2.1 28 = .ok (.istore_n 1, 1) := by decide +kernel
theorem d164_29 : decode mt164.2.1 29 = .ok (.iload_n 1, 1) := by decide +kernel
theorem d164_30 : decode mt164.2.1 30 = .ok (.bipush 42, 2) := by decide +kernel
theorem d164_32 : decode mt164.2.1 32 = .ok (.if_icmp .ge 17, 3) := by decide +kernel
theorem d164_35 : decode mt164.2.1 35 = .ok (.aload_n 0, 1) := by decide +kernel
theorem d164_36 : decode mt164.2.1 36 = .ok (.getfield 32, 3) := by decide +kernel
theorem d164_39 : decode mt164.2.1 39 = .ok (.iload_n 1, 1) := by decide +kernel
theorem d164_40 : decode mt164.2.1 40 = .ok (.ldc 110, 2) := by decide +kernel
theorem d164_42 : decode mt164.2.1 42 = .ok (.iastore, 1) := by decide +kernel
theorem d164_43 : decode mt164.2.1 43 = .ok (.iinc 1 1, 3) := by decide +kernel
theorem d164_46 : decode mt164.2.1 46 = .ok (.goto (-17), 3) := by decide +kernel
theorem d164_49 : decode mt164.2.1 49 = .ok (.iconst 0, 1) := by decide +kernel
theorem d164_50 : decode mt164.2.1 50 = .ok (.istore_n 1, 1) := by decide +kernel
theorem d164_51 : decode mt164.2.1 51 = .ok (.iload_n 1, 1) := by decide +kernel
theorem d164_52 : decode mt164.2.1 52 = .ok (.aload_n 0, 1) := by decide +kernel
theorem d164_53 : decode mt164.2.1 53 = .ok (.getfield 19, 3) := by decide +kernel
theorem d164_56 : decode mt164.2.1 56 = .ok (.iconst 3, 1) := by decide +kernel
theorem d164_57 : decode mt164.2.1 57 = .ok (.iaload, 1) := by decide +kernel
theorem d164_58 : decode mt164.2.1 58 = .ok (.if_icmp .ge 188, 3) := by decide +kernel
theorem d164_61 : decode mt164.2.1 61 = .ok (.bipush 110, 2) := by decide +kernel
theorem d164_63 : decode mt164.2.1 63 = .ok (.bipush 21, 2) := by decide +kernel
theorem d164_65 : decode mt164.2.1 65 = .ok (.iload_n 1, 1) := by decide +kernel
theorem d164_66 : decode mt164.2.1 66 = .ok (.imul, 1) := by decide +kernel
theorem d164_67 : decode mt164.2.1 67 = .ok (.iadd, 1) := by decide +kernel
theorem d164_68 : decode mt164.2.1 68 = .ok (.istore_n 2, 1) := by decide +kernel
theorem d164_69 : decode mt164.2.1 69 = .ok (.aload_n 0, 1) := by decide +kernel
theorem d164_70 : decode mt164.2.1 70 = .ok (.getfield 19, 3) := by decide +kernel
theorem d164_73 : decode mt164.2.1 73 = .ok (.bipush 102, 2) := by decide +kernel
theorem d164_75 : decode mt164.2.1 75 = .ok (.iconst 2, 1) := by decide +kernel
theorem d164_76 : decode mt164.2.1 76 = .ok (.iload_n 1, 1) := by decide +kernel
theorem d164_77 : decode mt164.2.1 77 = .ok (.imul, 1) := by decide +kernel
theorem d164_78 : decode mt164.2.1 78 = .ok (.iadd, 1) := by decide +kernel
theorem d164_79 : decode mt164.2.1 79 = .ok (.iaload, 1) := by decide +kernel
theorem d164_80 : decode mt164.2.1 80 = .ok (.istore_n 3, 1) := by decide +kernel
theorem d164_81 : decode mt164.2.1 81 = .ok (.aload_n 0, 1) := by decide +kernel
theorem d164_82 : decode mt164.2.1 82 = .ok (.getfield 19, 3) := by decide +kernel
theorem d164_85 : decode mt164.2.1 85 = .ok (.iload_n 2, 1) := by decide +kernel
theorem d164_86 : decode mt164.2.1 86 = .ok (.iaload, 1) := by decide +kernel
theorem d164_87 : decode mt164.2.1 87 = .ok (.ifCond .ge 7, 3) := by decide +kernel
theorem d164_90 : decode mt164.2.1 90 = .ok (.lconst 0, 1) := by decide +kernel
theorem d164_91 : decode mt164.2.1 91 = .ok (.goto 21, 3) := by decide +kernel
theorem d164_94 : decode mt164.2.1 94 = .ok (.aload_n 0, 1) := by decide +kernel
theorem d164_95 : decode mt164.2.1 95 = .ok (.iload_n 3, 1) := by decide +kernel
theorem d164_96 : decode mt164.2.1 96 = .ok (.aload_n 0, 1) := by decide +kernel
theorem d164_97 : decode mt164.2.1 97 = .ok (.getfield 19, 3) := by decide +kernel
theorem d164_100 : decode mt164.2.1 100 = .ok (.iload_n 2, 1) := by decide +kernel
theorem d164_101 : decode mt164.2.1 101 = .ok (.iconst 1, 1) := by decide +kernel
theorem d164_102 : decode mt164.2.1 102 = .ok (.iadd, 1) := by decide +kernel
theorem d164_103 : decode mt164.2.1 103 = .ok (.aload_n 0, 1) := by decide +kernel
theorem d164_104 : decode mt164.2.1 104 = .ok (.getfield 19, 3) := by decide +kernel
theorem d164_107 : decode mt164.2.1 107 = .ok (.iload_n 2, 1) := by decide +kernel
theorem d164_108 : decode mt164.2.1 108 = .ok (.iaload, 1) := by decide +kernel
theorem d164_109 : decode mt164.2.1 109 = .ok (.invokevirtual 215, 3) := by decide +kernel
theorem d164_112 : decode mt164.2.1 112 = .ok (.lstore 4, 2) := by decide +kernel
theorem d164_114 : decode mt164.2.1 114 = .ok (.aload_n 0, 1) := by decide +kernel
theorem d164_115 : decode mt164.2.1 115 = .ok (.dup, 1) := by decide +kernel
theorem d164_116 : decode mt164.2.1 116 = .ok (.getfield 211, 3) := by decide +kernel
theorem d164_119 : decode mt164.2.1 119 = .ok (.lload 4, 2) := by decide +kernel
theorem d164_121 : decode mt164.2.1 121 = .ok (.lor, 1) := by decide +kernel
theorem d164_122 : decode mt164.2.1 122 = .ok (.putfield 211, 3) := by decide +kernel
theorem d164_125 : decode mt164.2.1 125 = .ok (.iconst 0, 1) := by decide +kernel
theorem d164_126 : decode mt164.2.1 126 = .ok (.istore 6, 2) := by decide +kernel
theorem d164_128 : decode mt164.2.1 128 = .ok (.iload 6, 2) := by decide +kernel
theorem d164_130 : decode mt164.2.1 130 = .ok (.bipush 42, 2) := by decide +kernel
theorem d164_132 : decode mt164.2.1 132 = .ok (.if_icmp .ge 39, 3) := by decide +kernel
theorem d164_135 : decode mt164.2.1 135 = .ok (.aload_n 0, 1) := by decide +kernel
theorem d164_136 : decode mt164.2.1 136 = .ok (.getfield 32, 3) := by decide +kernel
theorem d164_139 : decode mt164.2.1 139 = .ok (.iload 6, 2) := by decide +kernel
theorem d164_141 : decode mt164.2.1 141 = .ok (.lload 4, 2) := by decide +kernel
theorem d164_143 : decode mt164.2.1 143 = .ok (.iload 6, 2) := by decide +kernel
theorem d164_145 : decode mt164.2.1 145 = .ok (.lshr, 1) := by decide +kernel
theorem d164_146 : decode mt164.2.1 146 = .ok (.lconst 1, 1) := by decide +kernel
theorem d164_147 : decode mt164.2.1 147 = .ok (.land, 1) := by decide +kernel
theorem d164_148 : decode mt164.2.1 148 = .ok (.lconst 1, 1) := by decide +kernel
theorem d164_149 : decode mt164.2.1 149 = .ok (.lcmp, 1) := by decide +kernel
theorem d164_150 : decode mt164.2.1 150 = .ok (.ifCond .ne 7, 3) := by decide +kernel
theorem d164_153 : decode mt164.2.1 153 = .ok (.iload_n 1, 1) := by decide +kernel
theorem d164_154 : decode mt164.2.1 154 = .ok (.goto 10, 3) := by decide +kernel
theorem d164_157 : decode mt164.2.1 157 = .ok (.aload_n 0, 1) := by decide +kernel
theorem d164_158 : decode mt164.2.1 158 = .ok (.getfield 32, 3) := by decide +kernel
theorem d164_161 : decode mt164.2.1 161 = .ok (.iload 6, 2) := by decide +kernel
theorem d164_163 : decode mt164.2.1 163 = .ok (.iaload, 1) := by decide +kernel
theorem d164_164 : decode mt164.2.1 164 = .ok (.iastore, 1) := by decide +kernel
theorem d164_165 : decode mt164.2.1 165 = .ok (.iinc 6 1, 3) := by decide +kernel
theorem d164_168 : decode mt164.2.1 168 = .ok (.goto (-40), 3) := by decide +kernel
theorem d164_171 : decode mt164.2.1 171 = .ok (.iconst 0, 1) := by decide +kernel
theorem d164_172 : decode mt164.2.1 172 = .ok (.istore 6, 2) := by decide +kernel
theorem d164_174 : decode mt164.2.1 174 = .ok (.iload 6, 2) := by decide +kernel
theorem d164_176 : decode mt164.2.1 176 = .ok (.aload_n 0, 1) := by decide +kernel
theorem d164_177 : decode mt164.2.1 177 = .ok (.getfield 19, 3) := by decide +kernel
theorem d164_180 : decode mt164.2.1 180 = .ok (.iload_n 2, 1) := by decide +kernel
theorem d164_181 : decode mt164.2.1 181 = .ok (.iaload, 1) := by decide +kernel
theorem d164_182 : decode mt164.2.1 182 = .ok (.if_icmp .ge 58, 3) := by decide +kernel
theorem d164_185 : decode mt164.2.1 185 = .ok (.aload_n 0, 1) := by decide +kernel
theorem d164_186 : decode mt164.2.1 186 = .ok (.getfield 19, 3) := by decide +kernel
theorem d164_189 : decode mt164.2.1 189 = .ok (.iload_n 2, 1) := by decide +kernel
theorem d164_190 : decode mt164.2.1 190 = .ok (.iconst 1, 1) := by decide +kernel
theorem d164_191 : decode mt164.2.1 191 = .ok (.iadd, 1) := by decide +kernel
theorem d164_192 : decode mt164.2.1 192 = .ok (.iload 6, 2) := by decide +kernel
theorem d164_194 : decode mt164.2.1 194 = .ok (.iadd, 1) := by decide +kernel
theorem d164_195 : decode mt164.2.1 195 = .ok (.iaload, 1) := by decide +kernel
theorem d164_196 : decode mt164.2.1 196 = .ok (.istore 7, 2) := by decide +kernel
theorem d164_198 : decode mt164.2.1 198 = .ok (.aload_n 0, 1) := by decide +kernel
theorem d164_199 : decode mt164.2.1 199 = .ok (.getfield 28, 3) := by decide +kernel
theorem d164_202 : decode mt164.2.1 202 = .ok (.iconst 4, 1) := by decide +kernel
theorem d164_203 : decode mt164.2.1 203 = .ok (.iload_n 3, 1) := by decide +kernel
theorem d164_204 : decode mt164.2.1 204 = .ok (.imul, 1) := by decide +kernel
theorem d164_205 : decode mt164.2.1 205 = .ok (.iload 7, 2) := by decide +kernel
theorem d164_207 : decode mt164.2.1 207 = .ok (.iadd, 1) := by decide +kernel
theorem d164_208 : decode mt164.2.1 208 = .ok (.iconst 1, 1) := by decide +kernel
theorem d164_209 : decode mt164.2.1 209 = .ok (.bastore, 1) := by decide +kernel
theorem d164_210 : decode mt164.2.1 210 = .ok (.aload_n 0, 1) := by decide +kernel
theorem d164_211 : decode mt164.2.1 211 = .ok (.iload_n 3, 1) := by decide +kernel
theorem d164_212 : decode mt164.2.1 212 = .ok (.iload 7, 2) := by decide +kernel
theorem d164_214 : decode mt164.2.1 214 = .ok (.invokevirtual 209, 3) := by decide +kernel
theorem d164_217 : decode mt164.2.1 217 = .ok (.istore_n 3, 1) := by decide +kernel
theorem d164_218 : decode mt164.2.1 218 = .ok (.aload_n 0, 1) := by decide +kernel
theorem d164_219 : decode mt164.2.1 219 = .ok (.getfield 28, 3) := by decide +kernel
theorem d164_222 : decode mt164.2.1 222 = .ok (.iconst 4, 1) := by decide +kernel
theorem d164_223 : decode mt164.2.1 223 = .ok (.iload_n 3, 1) := by decide +kernel
theorem d164_224 : decode mt164.2.1 224 = .ok (.imul, 1) := by decide +kernel
theorem d164_225 : decode mt164.2.1 225 = .ok (.iload 7, 2) := by decide +kernel
theorem d164_227 : decode mt164.2.1 227 = .ok (.iconst 2, 1) := by decide +kernel
theorem d164_228 : decode mt164.2.1 228 = .ok (.iadd, 1) := by decide +kernel
theorem d164_229 : decode mt164.2.1 229 = .ok (.iconst 4, 1) := by decide +kernel
theorem d164_230 : decode mt164.2.1 230 = .ok (.irem, 1) := by decide +kernel
theorem d164_231 : decode mt164.2.1 231 = .ok (.iadd, 1) := by decide +kernel
theorem d164_232 : decode mt164.2.1 232 = .ok (.iconst 1, 1) := by decide +kernel
theorem d164_233 : decode mt164.2.1 233 = .ok (.bastore, 1) := by decide +kernel
theorem d164_234 : decode mt164.2.1 234 = .ok (.iinc 6 1, 3) := by decide +kernel
theorem d164_237 : decode mt164.2.1 237 = .ok (.goto (-63), 3) := by decide +kernel
theorem d164_240 : decode mt164.2.1 240 = .ok (.iinc 1 1, 3) := by decide +kernel
theorem d164_243 : decode mt164.2.1 243 = .ok (.goto (-192), 3) := by decide +kernel
theorem d164_246 : decode mt164.2.1 246 = .ok (.return_, 1) := by decide +kernel
noncomputable def pg164_0 : List (Nat × aP) := [(0, oLdA 0 1),
  (1, oPush (.long 0) 2),
  (2, oPutL (fun k => k = 11) 20 5),
  (5, oPush (.int 0) 6),
  (6, oStI 1 7),
  (7, oLdI 1 8),
  (8, oPush (.int 224) 11),
  (11, oIc (fun x y => y ≤ x) 27 14),
  (14, oLdA 0 15),
  (15, oGetF (fun k => k = 11) 18 18),
  (18, oLdI 1 19),
  (19, oPush (.int 0) 20),
  (20, oAStB 21),
  (21, oInc 1 1 24),
  (24, oGo 7),
  (27, oPush (.int 0) 28),
  (28, oStI 1 29),
  (29, oLdI 1 30),
  (30, oPush (.int 42) 32),
  (32, oIc (fun x y => y ≤ x) 49 35),
  (35, oLdA 0 36),
  (36, oGetF (fun k => k = 11) 19 39),
  (39, oLdI 1 40),
  (40, oPush (.int (-1000000)) 42),
  (42, oAStI 43),
  (43, oInc 1 1 46),
  (46, oGo 29),
  (49, oPush (.int 0) 50),
  (50, oStI 1 51),
  (51, oLdI 1 52),
  (52, oLdA 0 53),
  (53, oGetF (fun k => k = 11) 5 56),
  (56, oPush (.int 3) 57),
  (57, oALdI 58),
  (58, oIc (fun x y => y ≤ x) 246 61),
  (61, oPush (.int 110) 63),
  (63, oPush (.int 21) 65),
  (65, oLdI 1 66),
  (66, oII (fun x y => x * y) 67),
  (67, oII (fun x y => x + y) 68)]
theorem ok164_0 : ∀ q ∈ pg164_0, Sim mT mt164 q.1 q.2 ∧ Grow q.2 :=
  List.forall_mem_cons.mpr ⟨⟨sim_aload_n d164_0 rfl, gr_LdA 0 1⟩,
  List.forall_mem_cons.mpr ⟨⟨sim_lconst d164_1 (by decide), gr_Push (.long 0) 2⟩,
  List.forall_mem_cons.mpr ⟨⟨sim_putL d164_2 gf172, gr_PutL (fun k => k = 11) 20 5⟩,
  List.forall_mem_cons.mpr ⟨⟨sim_iconst d164_5 (by decide), gr_Push (.int 0) 6⟩,
  List.forall_mem_cons.mpr ⟨⟨sim_istore_n d164_6 rfl (by decide), gr_StI 1 7⟩,
  List.forall_mem_cons.mpr ⟨⟨sim_iload_n d164_7 rfl, gr_LdI 1 8⟩,
  List.forall_mem_cons.mpr ⟨⟨sim_sipush d164_8 (by decide), gr_Push (.int 224) 11⟩,
  List.forall_mem_cons.mpr ⟨⟨sim_icmp_ge d164_11 (by decide), gr_Ic (fun x y => y ≤ x) 27 14⟩,
  List.forall_mem_cons.mpr ⟨⟨sim_aload_n d164_14 rfl, gr_LdA 0 15⟩,
  List.forall_mem_cons.mpr ⟨⟨sim_getF d164_15 gf173, gr_GetF (fun k => k = 11) 18 18⟩,
  List.forall_mem_cons.mpr ⟨⟨sim_iload_n d164_18 rfl, gr_LdI 1 19⟩,
  List.forall_mem_cons.mpr ⟨⟨sim_iconst d164_19 (by decide), gr_Push (.int 0) 20⟩,
  List.forall_mem_cons.mpr ⟨⟨sim_bastore d164_20, gr_AStB 21⟩,
  List.forall_mem_cons.mpr ⟨⟨sim_iinc d164_21 (by decide) (by decide), gr_Inc 1 1 24⟩,
  List.forall_mem_cons.mpr ⟨⟨sim_goto d164_24 (by decide), gr_Go 7⟩,
  List.forall_mem_cons.mpr ⟨⟨sim_iconst d164_27 (by decide), gr_Push (.int 0) 28⟩,
  List.forall_mem_cons.mpr ⟨⟨sim_istore_n d164_28 rfl (by decide), gr_StI 1 29⟩,
  List.forall_mem_cons.mpr ⟨⟨sim_iload_n d164_29 rfl, gr_LdI 1 30⟩,
  List.forall_mem_cons.mpr ⟨⟨sim_bipush d164_30 (by decide), gr_Push (.int 42) 32⟩,
  List.forall_mem_cons.mpr ⟨⟨sim_icmp_ge d164_32 (by decide), gr_Ic (fun x y => y ≤ x) 49 35⟩,
  List.forall_mem_cons.mpr ⟨⟨sim_aload_n d164_35 rfl, gr_LdA 0 36⟩,
  List.forall_mem_cons.mpr ⟨⟨sim_getF d164_36 gf174, gr_GetF (fun k => k = 11) 19 39⟩,
  List.forall_mem_cons.mpr ⟨⟨sim_iload_n d164_39 rfl, gr_LdI 1 40⟩,
  List.forall_mem_cons.mpr ⟨⟨sim_ldc d164_40 kw1083, gr_Push (.int (-1000000)) 42⟩,
  List.forall_mem_cons.mpr ⟨⟨sim_iastore d164_42, gr_AStI 43⟩,
  List.forall_mem_cons.mpr ⟨⟨sim_iinc d164_43 (by decide) (by decide), gr_Inc 1 1 46⟩,
  List.forall_mem_cons.mpr ⟨⟨sim_goto d164_46 (by decide), gr_Go 29⟩,
  List.forall_mem_cons.mpr ⟨⟨sim_iconst d164_49 (by decide), gr_Push (.int 0) 50⟩,
  List.forall_mem_cons.mpr ⟨⟨sim_istore_n d164_50 rfl (by decide), gr_StI 1 51⟩,
  List.forall_mem_cons.mpr ⟨⟨sim_iload_n d164_51 rfl, gr_LdI 1 52⟩,
  List.forall_mem_cons.mpr ⟨⟨sim_aload_n d164_52 rfl, gr_LdA 0 53⟩,
  List.forall_mem_cons.mpr ⟨⟨sim_getF d164_53 gf171, gr_GetF (fun k => k = 11) 5 56⟩,
  List.forall_mem_cons.mpr ⟨⟨sim_iconst d164_56 (by decide), gr_Push (.int 3) 57⟩,
  List.forall_mem_cons.mpr ⟨⟨sim_iaload d164_57, gr_ALdI 58⟩,
  List.forall_mem_cons.mpr ⟨⟨sim_icmp_ge d164_58 (by decide), gr_Ic (fun x y => y ≤ x) 246 61⟩,
  List.forall_mem_cons.mpr ⟨⟨sim_bipush d164_61 (by decide), gr_Push (.int 110) 63⟩,
  List.forall_mem_cons.mpr ⟨⟨sim_bipush d164_63 (by decide), gr_Push (.int 21) 65⟩,
  List.forall_mem_cons.mpr ⟨⟨sim_iload_n d164_65 rfl, gr_LdI 1 66⟩,
  List.forall_mem_cons.mpr ⟨⟨sim_imul d164_66, gr_II (fun x y => x * y) 67⟩,
  List.forall_mem_cons.mpr ⟨⟨sim_iadd d164_67, gr_II (fun x y => x + y) 68⟩, fun _ h => absurd h List.not_mem_nil⟩⟩⟩⟩⟩⟩⟩⟩⟩⟩⟩⟩⟩⟩⟩⟩⟩⟩⟩⟩⟩⟩⟩⟩⟩⟩⟩⟩⟩⟩⟩⟩⟩⟩⟩⟩⟩⟩⟩⟩
noncomputable def pg164_1 : List (Nat × aP) := [(68, oStI 2 69),
  (69, oLdA 0 70),
  (70, oGetF (fun k => k = 11) 5 73),
  (73, oPush (.int 102) 75),
  (75, oPush (.int 2) 76),
  (76, oLdI 1 77),
  (77, oII (fun x y => x * y) 78),
  (78, oII (fun x y => x + y) 79),
  (79, oALdI 80),
  (80, oStI 3 81),
  (81, oLdA 0 82),
  (82, oGetF (fun k => k = 11) 5 85),
  (85, oLdI 2 86),
  (86, oALdI 87),
  (87, oIf (fun x => 0 ≤ x) 94 90),
  (90, oPush (.long 0) 91),
  (91, oGo 112),
  (94, oLdA 0 95),
  (95, oLdI 3 96),
  (96, oLdA 0 97),
  (97, oGetF (fun k => k = 11) 5 100),
  (100, oLdI 2 101),
  (101, oPush (.int 1) 102),
  (102, oII (fun x y => x + y) 103),
  (103, oLdA 0 104),
  (104, oGetF (fun k => k = 11) 5 107),
  (107, oLdI 2 108),
  (108, oALdI 109),
  (109, oCalV (fun k => if k = 11 then some 163 else none) 4 112),
  (112, oStL 4 114),
  (114, oLdA 0 115),
  (115, oDup 116),
  (116, oGetL (fun k => k = 11) 20 119),
  (119, oLdL 4 121),
  (121, oLL (fun x y => x ||| y) 122),
  (122, oPutL (fun k => k = 11) 20 125),
  (125, oPush (.int 0) 126),
  (126, oStI 6 128),
  (128, oLdI 6 130),
  (130, oPush (.int 42) 132)]
theorem ok164_1 : ∀ q ∈ pg164_1, Sim mT mt164 q.1 q.2 ∧ Grow q.2 :=
  List.forall_mem_cons.mpr ⟨⟨sim_istore_n d164_68 rfl (by decide), gr_StI 2 69⟩,
  List.forall_mem_cons.mpr ⟨⟨sim_aload_n d164_69 rfl, gr_LdA 0 70⟩,
  List.forall_mem_cons.mpr ⟨⟨sim_getF d164_70 gf171, gr_GetF (fun k => k = 11) 5 73⟩,
  List.forall_mem_cons.mpr ⟨⟨sim_bipush d164_73 (by decide), gr_Push (.int 102) 75⟩,
  List.forall_mem_cons.mpr ⟨⟨sim_iconst d164_75 (by decide), gr_Push (.int 2) 76⟩,
  List.forall_mem_cons.mpr ⟨⟨sim_iload_n d164_76 rfl, gr_LdI 1 77⟩,
  List.forall_mem_cons.mpr ⟨⟨sim_imul d164_77, gr_II (fun x y => x * y) 78⟩,
  List.forall_mem_cons.mpr ⟨⟨sim_iadd d164_78, gr_II (fun x y => x + y) 79⟩,
  List.forall_mem_cons.mpr ⟨⟨sim_iaload d164_79, gr_ALdI 80⟩,
  List.forall_mem_cons.mpr ⟨⟨sim_istore_n d164_80 rfl (by decide), gr_StI 3 81⟩,
  List.forall_mem_cons.mpr ⟨⟨sim_aload_n d164_81 rfl, gr_LdA 0 82⟩,
  List.forall_mem_cons.mpr ⟨⟨sim_getF d164_82 gf171, gr_GetF (fun k => k = 11) 5 85⟩,
  List.forall_mem_cons.mpr ⟨⟨sim_iload_n d164_85 rfl, gr_LdI 2 86⟩,
  List.forall_mem_cons.mpr ⟨⟨sim_iaload d164_86, gr_ALdI 87⟩,
  List.forall_mem_cons.mpr ⟨⟨sim_if_ge d164_87 (by decide), gr_If (fun x => 0 ≤ x) 94 90⟩,
  List.forall_mem_cons.mpr ⟨⟨sim_lconst d164_90 (by decide), gr_Push (.long 0) 91⟩,
  List.forall_mem_cons.mpr ⟨⟨sim_goto d164_91 (by decide), gr_Go 112⟩,
  List.forall_mem_cons.mpr ⟨⟨sim_aload_n d164_94 rfl, gr_LdA 0 95⟩,
  List.forall_mem_cons.mpr ⟨⟨sim_iload_n d164_95 rfl, gr_LdI 3 96⟩,
  List.forall_mem_cons.mpr ⟨⟨sim_aload_n d164_96 rfl, gr_LdA 0 97⟩,
  List.forall_mem_cons.mpr ⟨⟨sim_getF d164_97 gf171, gr_GetF (fun k => k = 11) 5 100⟩,
  List.forall_mem_cons.mpr ⟨⟨sim_iload_n d164_100 rfl, gr_LdI 2 101⟩,
  List.forall_mem_cons.mpr ⟨⟨sim_iconst d164_101 (by decide), gr_Push (.int 1) 102⟩,
  List.forall_mem_cons.mpr ⟨⟨sim_iadd d164_102, gr_II (fun x y => x + y) 103⟩,
  List.forall_mem_cons.mpr ⟨⟨sim_aload_n d164_103 rfl, gr_LdA 0 104⟩,
  List.forall_mem_cons.mpr ⟨⟨sim_getF d164_104 gf171, gr_GetF (fun k => k = 11) 5 107⟩,
  List.forall_mem_cons.mpr ⟨⟨sim_iload_n d164_107 rfl, gr_LdI 2 108⟩,
  List.forall_mem_cons.mpr ⟨⟨sim_iaload d164_108, gr_ALdI 109⟩,
  List.forall_mem_cons.mpr ⟨⟨sim_virtual d164_109 vk117, gr_CalV (fun k => if k = 11 then some 163 else none) 4 112⟩,
  List.forall_mem_cons.mpr ⟨⟨sim_lstore d164_112 (by decide), gr_StL 4 114⟩,
  List.forall_mem_cons.mpr ⟨⟨sim_aload_n d164_114 rfl, gr_LdA 0 115⟩,
  List.forall_mem_cons.mpr ⟨⟨sim_dup d164_115, gr_Dup 116⟩,
  List.forall_mem_cons.mpr ⟨⟨sim_getL d164_116 gf172, gr_GetL (fun k => k = 11) 20 119⟩,
  List.forall_mem_cons.mpr ⟨⟨sim_lload d164_119, gr_LdL 4 121⟩,
  List.forall_mem_cons.mpr ⟨⟨sim_lor d164_121, gr_LL (fun x y => x ||| y) 122⟩,
  List.forall_mem_cons.mpr ⟨⟨sim_putL d164_122 gf172, gr_PutL (fun k => k = 11) 20 125⟩,
  List.forall_mem_cons.mpr ⟨⟨sim_iconst d164_125 (by decide), gr_Push (.int 0) 126⟩,
  List.forall_mem_cons.mpr ⟨⟨sim_istore d164_126 (by decide), gr_StI 6 128⟩,
  List.forall_mem_cons.mpr ⟨⟨sim_iload d164_128, gr_LdI 6 130⟩,
  List.forall_mem_cons.mpr ⟨⟨sim_bipush d164_130 (by decide), gr_Push (.int 42) 132⟩, fun _ h => absurd h List.not_mem_nil⟩⟩⟩⟩⟩⟩⟩⟩⟩⟩⟩⟩⟩⟩⟩⟩⟩⟩⟩⟩⟩⟩⟩⟩⟩⟩⟩⟩⟩⟩⟩⟩⟩⟩⟩⟩⟩⟩⟩⟩
noncomputable def pg164_2 : List (Nat × aP) := [(132, oIc (fun x y => y ≤ x) 171 135),
  (135, oLdA 0 136),
  (136, oGetF (fun k => k = 11) 19 139),
  (139, oLdI 6 141),
  (141, oLdL 4 143),
  (143, oLdI 6 145),
  (145, oLSh (fun x y => x >>> (y.toInt64 &&& 63)) 146),
  (146, oPush (.long 1) 147),
  (147, oLL (fun x y => x &&& y) 148),
  (148, oPush (.long 1) 149),
  (149, oLcmp 150),
  (150, oIf (fun x => ¬ x = 0) 157 153),
  (153, oLdI 1 154),
  (154, oGo 164),
  (157, oLdA 0 158),
  (158, oGetF (fun k => k = 11) 19 161),
  (161, oLdI 6 163),
  (163, oALdI 164),
  (164, oAStI 165),
  (165, oInc 6 1 168),
  (168, oGo 128),
  (171, oPush (.int 0) 172),
  (172, oStI 6 174),
  (174, oLdI 6 176),
  (176, oLdA 0 177),
  (177, oGetF (fun k => k = 11) 5 180),
  (180, oLdI 2 181),
  (181, oALdI 182),
  (182, oIc (fun x y => y ≤ x) 240 185),
  (185, oLdA 0 186),
  (186, oGetF (fun k => k = 11) 5 189),
  (189, oLdI 2 190),
  (190, oPush (.int 1) 191),
  (191, oII (fun x y => x + y) 192),
  (192, oLdI 6 194),
  (194, oII (fun x y => x + y) 195),
  (195, oALdI 196),
  (196, oStI 7 198),
  (198, oLdA 0 199),
  (199, oGetF (fun k => k = 11) 18 202)]
theorem ok164_2 : ∀ q ∈ pg164_2, Sim mT mt164 q.1 q.2 ∧ Grow q.2 :=
  List.forall_mem_cons.mpr ⟨⟨sim_icmp_ge d164_132 (by decide), gr_Ic (fun x y => y ≤ x) 171 135⟩,
  List.forall_mem_cons.mpr ⟨⟨sim_aload_n d164_135 rfl, gr_LdA 0 136⟩,
  List.forall_mem_cons.mpr ⟨⟨sim_getF d164_136 gf174, gr_GetF (fun k => k = 11) 19 139⟩,
  List.forall_mem_cons.mpr ⟨⟨sim_iload d164_139, gr_LdI 6 141⟩,
  List.forall_mem_cons.mpr ⟨⟨sim_lload d164_141, gr_LdL 4 143⟩,
  List.forall_mem_cons.mpr ⟨⟨sim_iload d164_143, gr_LdI 6 145⟩,
  List.forall_mem_cons.mpr ⟨⟨sim_lshr d164_145, gr_LSh (fun x y => x >>> (y.toInt64 &&& 63)) 146⟩,
  List.forall_mem_cons.mpr ⟨⟨sim_lconst d164_146 (by decide), gr_Push (.long 1) 147⟩,
  List.forall_mem_cons.mpr ⟨⟨sim_land d164_147, gr_LL (fun x y => x &&& y) 148⟩,
  List.forall_mem_cons.mpr ⟨⟨sim_lconst d164_148 (by decide), gr_Push (.long 1) 149⟩,
  List.forall_mem_cons.mpr ⟨⟨sim_lcmp d164_149, gr_Lcmp 150⟩,
  List.forall_mem_cons.mpr ⟨⟨sim_if_ne d164_150 (by decide), gr_If (fun x => ¬ x = 0) 157 153⟩,
  List.forall_mem_cons.mpr ⟨⟨sim_iload_n d164_153 rfl, gr_LdI 1 154⟩,
  List.forall_mem_cons.mpr ⟨⟨sim_goto d164_154 (by decide), gr_Go 164⟩,
  List.forall_mem_cons.mpr ⟨⟨sim_aload_n d164_157 rfl, gr_LdA 0 158⟩,
  List.forall_mem_cons.mpr ⟨⟨sim_getF d164_158 gf174, gr_GetF (fun k => k = 11) 19 161⟩,
  List.forall_mem_cons.mpr ⟨⟨sim_iload d164_161, gr_LdI 6 163⟩,
  List.forall_mem_cons.mpr ⟨⟨sim_iaload d164_163, gr_ALdI 164⟩,
  List.forall_mem_cons.mpr ⟨⟨sim_iastore d164_164, gr_AStI 165⟩,
  List.forall_mem_cons.mpr ⟨⟨sim_iinc d164_165 (by decide) (by decide), gr_Inc 6 1 168⟩,
  List.forall_mem_cons.mpr ⟨⟨sim_goto d164_168 (by decide), gr_Go 128⟩,
  List.forall_mem_cons.mpr ⟨⟨sim_iconst d164_171 (by decide), gr_Push (.int 0) 172⟩,
  List.forall_mem_cons.mpr ⟨⟨sim_istore d164_172 (by decide), gr_StI 6 174⟩,
  List.forall_mem_cons.mpr ⟨⟨sim_iload d164_174, gr_LdI 6 176⟩,
  List.forall_mem_cons.mpr ⟨⟨sim_aload_n d164_176 rfl, gr_LdA 0 177⟩,
  List.forall_mem_cons.mpr ⟨⟨sim_getF d164_177 gf171, gr_GetF (fun k => k = 11) 5 180⟩,
  List.forall_mem_cons.mpr ⟨⟨sim_iload_n d164_180 rfl, gr_LdI 2 181⟩,
  List.forall_mem_cons.mpr ⟨⟨sim_iaload d164_181, gr_ALdI 182⟩,
  List.forall_mem_cons.mpr ⟨⟨sim_icmp_ge d164_182 (by decide), gr_Ic (fun x y => y ≤ x) 240 185⟩,
  List.forall_mem_cons.mpr ⟨⟨sim_aload_n d164_185 rfl, gr_LdA 0 186⟩,
  List.forall_mem_cons.mpr ⟨⟨sim_getF d164_186 gf171, gr_GetF (fun k => k = 11) 5 189⟩,
  List.forall_mem_cons.mpr ⟨⟨sim_iload_n d164_189 rfl, gr_LdI 2 190⟩,
  List.forall_mem_cons.mpr ⟨⟨sim_iconst d164_190 (by decide), gr_Push (.int 1) 191⟩,
  List.forall_mem_cons.mpr ⟨⟨sim_iadd d164_191, gr_II (fun x y => x + y) 192⟩,
  List.forall_mem_cons.mpr ⟨⟨sim_iload d164_192, gr_LdI 6 194⟩,
  List.forall_mem_cons.mpr ⟨⟨sim_iadd d164_194, gr_II (fun x y => x + y) 195⟩,
  List.forall_mem_cons.mpr ⟨⟨sim_iaload d164_195, gr_ALdI 196⟩,
  List.forall_mem_cons.mpr ⟨⟨sim_istore d164_196 (by decide), gr_StI 7 198⟩,
  List.forall_mem_cons.mpr ⟨⟨sim_aload_n d164_198 rfl, gr_LdA 0 199⟩,
  List.forall_mem_cons.mpr ⟨⟨sim_getF d164_199 gf173, gr_GetF (fun k => k = 11) 18 202⟩, fun _ h => absurd h List.not_mem_nil⟩⟩⟩⟩⟩⟩⟩⟩⟩⟩⟩⟩⟩⟩⟩⟩⟩⟩⟩⟩⟩⟩⟩⟩⟩⟩⟩⟩⟩⟩⟩⟩⟩⟩⟩⟩⟩⟩⟩⟩
noncomputable def pg164_3 : List (Nat × aP) := [(202, oPush (.int 4) 203),
  (203, oLdI 3 204),
  (204, oII (fun x y => x * y) 205),
  (205, oLdI 7 207),
  (207, oII (fun x y => x + y) 208),
  (208, oPush (.int 1) 209),
  (209, oAStB 210),
  (210, oLdA 0 211),
  (211, oLdI 3 212),
  (212, oLdI 7 214),
  (214, oCalV (fun k => if k = 11 then some 161 else none) 2 217),
  (217, oStI 3 218),
  (218, oLdA 0 219),
  (219, oGetF (fun k => k = 11) 18 222),
  (222, oPush (.int 4) 223),
  (223, oLdI 3 224),
  (224, oII (fun x y => x * y) 225),
  (225, oLdI 7 227),
  (227, oPush (.int 2) 228),
  (228, oII (fun x y => x + y) 229),
  (229, oPush (.int 4) 230),
  (230, oIId (fun x y => x - x / y * y) 231),
  (231, oII (fun x y => x + y) 232),
  (232, oPush (.int 1) 233),
  (233, oAStB 234),
  (234, oInc 6 1 237),
  (237, oGo 174),
  (240, oInc 1 1 243),
  (243, oGo 51),
  (246, oRetV)]
theorem ok164_3 : ∀ q ∈ pg164_3, Sim mT mt164 q.1 q.2 ∧ Grow q.2 :=
  List.forall_mem_cons.mpr ⟨⟨sim_iconst d164_202 (by decide), gr_Push (.int 4) 203⟩,
  List.forall_mem_cons.mpr ⟨⟨sim_iload_n d164_203 rfl, gr_LdI 3 204⟩,
  List.forall_mem_cons.mpr ⟨⟨sim_imul d164_204, gr_II (fun x y => x * y) 205⟩,
  List.forall_mem_cons.mpr ⟨⟨sim_iload d164_205, gr_LdI 7 207⟩,
  List.forall_mem_cons.mpr ⟨⟨sim_iadd d164_207, gr_II (fun x y => x + y) 208⟩,
  List.forall_mem_cons.mpr ⟨⟨sim_iconst d164_208 (by decide), gr_Push (.int 1) 209⟩,
  List.forall_mem_cons.mpr ⟨⟨sim_bastore d164_209, gr_AStB 210⟩,
  List.forall_mem_cons.mpr ⟨⟨sim_aload_n d164_210 rfl, gr_LdA 0 211⟩,
  List.forall_mem_cons.mpr ⟨⟨sim_iload_n d164_211 rfl, gr_LdI 3 212⟩,
  List.forall_mem_cons.mpr ⟨⟨sim_iload d164_212, gr_LdI 7 214⟩,
  List.forall_mem_cons.mpr ⟨⟨sim_virtual d164_214 vk116, gr_CalV (fun k => if k = 11 then some 161 else none) 2 217⟩,
  List.forall_mem_cons.mpr ⟨⟨sim_istore_n d164_217 rfl (by decide), gr_StI 3 218⟩,
  List.forall_mem_cons.mpr ⟨⟨sim_aload_n d164_218 rfl, gr_LdA 0 219⟩,
  List.forall_mem_cons.mpr ⟨⟨sim_getF d164_219 gf173, gr_GetF (fun k => k = 11) 18 222⟩,
  List.forall_mem_cons.mpr ⟨⟨sim_iconst d164_222 (by decide), gr_Push (.int 4) 223⟩,
  List.forall_mem_cons.mpr ⟨⟨sim_iload_n d164_223 rfl, gr_LdI 3 224⟩,
  List.forall_mem_cons.mpr ⟨⟨sim_imul d164_224, gr_II (fun x y => x * y) 225⟩,
  List.forall_mem_cons.mpr ⟨⟨sim_iload d164_225, gr_LdI 7 227⟩,
  List.forall_mem_cons.mpr ⟨⟨sim_iconst d164_227 (by decide), gr_Push (.int 2) 228⟩,
  List.forall_mem_cons.mpr ⟨⟨sim_iadd d164_228, gr_II (fun x y => x + y) 229⟩,
  List.forall_mem_cons.mpr ⟨⟨sim_iconst d164_229 (by decide), gr_Push (.int 4) 230⟩,
  List.forall_mem_cons.mpr ⟨⟨sim_irem d164_230, gr_IId (fun x y => x - x / y * y) 231⟩,
  List.forall_mem_cons.mpr ⟨⟨sim_iadd d164_231, gr_II (fun x y => x + y) 232⟩,
  List.forall_mem_cons.mpr ⟨⟨sim_iconst d164_232 (by decide), gr_Push (.int 1) 233⟩,
  List.forall_mem_cons.mpr ⟨⟨sim_bastore d164_233, gr_AStB 234⟩,
  List.forall_mem_cons.mpr ⟨⟨sim_iinc d164_234 (by decide) (by decide), gr_Inc 6 1 237⟩,
  List.forall_mem_cons.mpr ⟨⟨sim_goto d164_237 (by decide), gr_Go 174⟩,
  List.forall_mem_cons.mpr ⟨⟨sim_iinc d164_240 (by decide) (by decide), gr_Inc 1 1 243⟩,
  List.forall_mem_cons.mpr ⟨⟨sim_goto d164_243 (by decide), gr_Go 51⟩,
  List.forall_mem_cons.mpr ⟨⟨sim_return d164_246 rfl, gr_RetV⟩, fun _ h => absurd h List.not_mem_nil⟩⟩⟩⟩⟩⟩⟩⟩⟩⟩⟩⟩⟩⟩⟩⟩⟩⟩⟩⟩⟩⟩⟩⟩⟩⟩⟩⟩⟩⟩
noncomputable def pg164 : List (Nat × aP) := pg164_0 ++ (pg164_1 ++ (pg164_2 ++ (pg164_3)))
theorem ok164 : ∀ q ∈ pg164, Sim mT mt164 q.1 q.2 ∧ Grow q.2 := List.forall_mem_append.mpr ⟨ok164_0, List.forall_mem_append.mpr ⟨ok164_1, List.forall_mem_append.mpr ⟨ok164_2, ok164_3⟩⟩⟩
theorem d165_0 : decode mt165.2.1 0 = .ok (.iconst 0, 1) := by decide +kernel
theorem d165_1 : decode mt165.2.1 1 = .ok (.istore_n 3, 1) := by decide +kernel
theorem d165_2 : decode mt165.2.1 2 = .ok (.iconst 0, 1) := by decide +kernel
theorem d165_3 : decode mt165.2.1 3 = .ok (.istore 4, 2) := by decide +kernel
theorem d165_5 : decode mt165.2.1 5 = .ok (.iload 4, 2) := by decide +kernel
theorem d165_7 : decode mt165.2.1 7 = .ok (.bipush 42, 2) := by decide +kernel
theorem d165_9 : decode mt165.2.1 9 = .ok (.if_icmp .ge 48, 3) := by decide +kernel
theorem d165_12 : decode mt165.2.1 12 = .ok (.iload_n 3, 1) := by decide +kernel
theorem d165_13 : decode mt165.2.1 13 = .ok (.lload_n 1, 1) := by decide +kernel
theorem d165_14 : decode mt165.2.1 14 = .ok (.iload 4, 2) := by decide +kernel
theorem d165_16 : decode mt165.2.1 16 = .ok (.lshr, 1) := by decide +kernel
theorem d165_17 : decode mt165.2.1 17 = .ok (.lconst 1, 1) := by decide +kernel
theorem d165_18 : decode mt165.2.1 18 = .ok (.land, 1) := by decide +kernel
theorem d165_19 : decode mt165.2.1 19 = .ok (.lconst 1, 1) := by decide +kernel
theorem d165_20 : decode mt165.2.1 20 = .ok (.lcmp, 1) := by decide +kernel
theorem d165_21 : decode mt165.2.1 21 = .ok (.ifCond .ne 27, 3) := by decide +kernel
theorem d165_24 : decode mt165.2.1 24 = .ok (.aload_n 0, 1) := by decide +kernel
theorem d165_25 : decode mt165.2.1 25 = .ok (.getfield 19, 3) := by decide +kernel
theorem d165_28 : decode mt165.2.1 28 = .ok (.iconst 4, 1) := by decide +kernel
theorem d165_29 : decode mt165.2.1 29 = .ok (.iload 4, 2) := by decide +kernel
theorem d165_31 : decode mt165.2.1 31 = .ok (.iadd, 1) := by decide +kernel
theorem d165_32 : decode mt165.2.1 32 = .ok (.iaload, 1) := by decide +kernel
theorem d165_33 : decode mt165.2.1 33 = .ok (.ifCond .le 15, 3) := by decide +kernel
theorem d165_36 : decode mt165.2.1 36 = .ok (.aload_n 0, 1) := by decide +kernel
theorem d165_37 : decode mt165.2.1 37 = .ok (.getfield 19, 3) := by decide +kernel
theorem d165_40 : decode mt165.2.1 40 = .ok (.iconst 4, 1) := by decide +kernel
theorem d165_41 : decode mt165.2.1 41 = .ok (.iload 4, 2) := by decide +kernel
theorem d165_43 : decode mt165.2.1 43 = .ok (.iadd, 1) := by decide +kernel
theorem d165_44 : decode mt165.2.1 44 = .ok (.iaload, 1) := by decide +kernel
theorem d165_45 : decode mt165.2.1 45 = .ok (.goto 4, 3) := by decide +kernel
theorem d165_48 : decode mt165.2.1 48 = .ok (.iconst 0, 1) := by decide +kernel
theorem d165_49 : decode mt165.2.1 49 = .ok (.iadd, 1) := by decide +kernel
theorem d165_50 : decode mt165.2.1 50 = .ok (.istore_n 3, 1) := by decide +kernel
theorem d165_51 : decode mt165.2.1 51 = .ok (.iinc 4 1, 3) := by decide +kernel
theorem d165_54 : decode mt165.2.1 54 = .ok (.goto (-49), 3) := by decide +kernel
theorem d165_57 : decode mt165.2.1 57 = .ok (.iload_n 3, 1) := by decide +kernel
theorem d165_58 : decode mt165.2.1 58 = .ok (.ireturn, 1) := by decide +kernel
noncomputable def pg165_0 : List (Nat × aP) := [(0, oPush (.int 0) 1),
  (1, oStI 3 2),
  (2, oPush (.int 0) 3),
  (3, oStI 4 5),
  (5, oLdI 4 7),
  (7, oPush (.int 42) 9),
  (9, oIc (fun x y => y ≤ x) 57 12),
  (12, oLdI 3 13),
  (13, oLdL 1 14),
  (14, oLdI 4 16),
  (16, oLSh (fun x y => x >>> (y.toInt64 &&& 63)) 17),
  (17, oPush (.long 1) 18),
  (18, oLL (fun x y => x &&& y) 19),
  (19, oPush (.long 1) 20),
  (20, oLcmp 21),
  (21, oIf (fun x => ¬ x = 0) 48 24),
  (24, oLdA 0 25),
  (25, oGetF (fun k => k = 11) 5 28),
  (28, oPush (.int 4) 29),
  (29, oLdI 4 31),
  (31, oII (fun x y => x + y) 32),
  (32, oALdI 33),
  (33, oIf (fun x => x ≤ 0) 48 36),
  (36, oLdA 0 37),
  (37, oGetF (fun k => k = 11) 5 40),
  (40, oPush (.int 4) 41),
  (41, oLdI 4 43),
  (43, oII (fun x y => x + y) 44),
  (44, oALdI 45),
  (45, oGo 49),
  (48, oPush (.int 0) 49),
  (49, oII (fun x y => x + y) 50),
  (50, oStI 3 51),
  (51, oInc 4 1 54),
  (54, oGo 5),
  (57, oLdI 3 58),
  (58, oRetI)]
theorem ok165_0 : ∀ q ∈ pg165_0, Sim mT mt165 q.1 q.2 ∧ Grow q.2 :=
  List.forall_mem_cons.mpr ⟨⟨sim_iconst d165_0 (by decide), gr_Push (.int 0) 1⟩,
  List.forall_mem_cons.mpr ⟨⟨sim_istore_n d165_1 rfl (by decide), gr_StI 3 2⟩,
  List.forall_mem_cons.mpr ⟨⟨sim_iconst d165_2 (by decide), gr_Push (.int 0) 3⟩,
  List.forall_mem_cons.mpr ⟨⟨sim_istore d165_3 (by decide), gr_StI 4 5⟩,
  List.forall_mem_cons.mpr ⟨⟨sim_iload d165_5, gr_LdI 4 7⟩,
  List.forall_mem_cons.mpr ⟨⟨sim_bipush d165_7 (by decide), gr_Push (.int 42) 9⟩,
  List.forall_mem_cons.mpr ⟨⟨sim_icmp_ge d165_9 (by decide), gr_Ic (fun x y => y ≤ x) 57 12⟩,
  List.forall_mem_cons.mpr ⟨⟨sim_iload_n d165_12 rfl, gr_LdI 3 13⟩,
  List.forall_mem_cons.mpr ⟨⟨sim_lload_n d165_13 rfl, gr_LdL 1 14⟩,
  List.forall_mem_cons.mpr ⟨⟨sim_iload d165_14, gr_LdI 4 16⟩,
  List.forall_mem_cons.mpr ⟨⟨sim_lshr d165_16, gr_LSh (fun x y => x >>> (y.toInt64 &&& 63)) 17⟩,
  List.forall_mem_cons.mpr ⟨⟨sim_lconst d165_17 (by decide), gr_Push (.long 1) 18⟩,
  List.forall_mem_cons.mpr ⟨⟨sim_land d165_18, gr_LL (fun x y => x &&& y) 19⟩,
  List.forall_mem_cons.mpr ⟨⟨sim_lconst d165_19 (by decide), gr_Push (.long 1) 20⟩,
  List.forall_mem_cons.mpr ⟨⟨sim_lcmp d165_20, gr_Lcmp 21⟩,
  List.forall_mem_cons.mpr ⟨⟨sim_if_ne d165_21 (by decide), gr_If (fun x => ¬ x = 0) 48 24⟩,
  List.forall_mem_cons.mpr ⟨⟨sim_aload_n d165_24 rfl, gr_LdA 0 25⟩,
  List.forall_mem_cons.mpr ⟨⟨sim_getF d165_25 gf171, gr_GetF (fun k => k = 11) 5 28⟩,
  List.forall_mem_cons.mpr ⟨⟨sim_iconst d165_28 (by decide), gr_Push (.int 4) 29⟩,
  List.forall_mem_cons.mpr ⟨⟨sim_iload d165_29, gr_LdI 4 31⟩,
  List.forall_mem_cons.mpr ⟨⟨sim_iadd d165_31, gr_II (fun x y => x + y) 32⟩,
  List.forall_mem_cons.mpr ⟨⟨sim_iaload d165_32, gr_ALdI 33⟩,
  List.forall_mem_cons.mpr ⟨⟨sim_if_le d165_33 (by decide), gr_If (fun x => x ≤ 0) 48 36⟩,
  List.forall_mem_cons.mpr ⟨⟨sim_aload_n d165_36 rfl, gr_LdA 0 37⟩,
  List.forall_mem_cons.mpr ⟨⟨sim_getF d165_37 gf171, gr_GetF (fun k => k = 11) 5 40⟩,
  List.forall_mem_cons.mpr ⟨⟨sim_iconst d165_40 (by decide), gr_Push (.int 4) 41⟩,
  List.forall_mem_cons.mpr ⟨⟨sim_iload d165_41, gr_LdI 4 43⟩,
  List.forall_mem_cons.mpr ⟨⟨sim_iadd d165_43, gr_II (fun x y => x + y) 44⟩,
  List.forall_mem_cons.mpr ⟨⟨sim_iaload d165_44, gr_ALdI 45⟩,
  List.forall_mem_cons.mpr ⟨⟨sim_goto d165_45 (by decide), gr_Go 49⟩,
  List.forall_mem_cons.mpr ⟨⟨sim_iconst d165_48 (by decide), gr_Push (.int 0) 49⟩,
  List.forall_mem_cons.mpr ⟨⟨sim_iadd d165_49, gr_II (fun x y => x + y) 50⟩,
  List.forall_mem_cons.mpr ⟨⟨sim_istore_n d165_50 rfl (by decide), gr_StI 3 51⟩,
  List.forall_mem_cons.mpr ⟨⟨sim_iinc d165_51 (by decide) (by decide), gr_Inc 4 1 54⟩,
  List.forall_mem_cons.mpr ⟨⟨sim_goto d165_54 (by decide), gr_Go 5⟩,
  List.forall_mem_cons.mpr ⟨⟨sim_iload_n d165_57 rfl, gr_LdI 3 58⟩,
  List.forall_mem_cons.mpr ⟨⟨sim_ireturn d165_58 rfl, gr_RetI⟩, fun _ h => absurd h List.not_mem_nil⟩⟩⟩⟩⟩⟩⟩⟩⟩⟩⟩⟩⟩⟩⟩⟩⟩⟩⟩⟩⟩⟩⟩⟩⟩⟩⟩⟩⟩⟩⟩⟩⟩⟩⟩⟩⟩
noncomputable def pg165 : List (Nat × aP) := pg165_0
theorem ok165 : ∀ q ∈ pg165, Sim mT mt165 q.1 q.2 ∧ Grow q.2 := ok165_0
theorem d166_0 : decode mt166.2.1 0 = .ok (.iconst 0, 1) := by decide +kernel
theorem d166_1 : decode mt166.2.1 1 = .ok (.istore_n 2, 1) := by decide +kernel
theorem d166_2 : decode mt166.2.1 2 = .ok (.iconst 0, 1) := by decide +kernel
theorem d166_3 : decode mt166.2.1 3 = .ok (.istore_n 3, 1) := by decide +kernel
theorem d166_4 : decode mt166.2.1 4 = .ok (.iload_n 3, 1) := by decide +kernel
theorem d166_5 : decode mt166.2.1 5 = .ok (.bipush 42, 2) := by decide +kernel
theorem d166_7 : decode mt166.2.1 7 = .ok (.if_icmp .ge 18, 3) := by decide +kernel
theorem d166_10 : decode mt166.2.1 10 = .ok (.iload_n 2, 1) := by decide +kernel
theorem d166_11 : decode mt166.2.1 11 = .ok (.lload_n 0, 1) := by decide +kernel
theorem d166_12 : decode mt166.2.1 12 = .ok (.iload_n 3, 1) := by decide +kernel
theorem d166_13 : decode mt166.2.1 13 = .ok (.lshr, 1) := by decide +kernel
theorem d166_14 : decode mt166.2.1 14 = .ok (.lconst 1, 1) := by decide +kernel
theorem d166_15 : decode mt166.2.1 15 = .ok (.land, 1) := by decide +kernel
theorem d166_16 : decode mt166.2.1 16 = .ok (.l2i, 1) := by decide +kernel
theorem d166_17 : decode mt166.2.1 17 = .ok (.iadd, 1) := by decide +kernel
theorem d166_18 : decode mt166.2.1 18 = .ok (.istore_n 2, 1) := by decide +kernel
theorem d166_19 : decode mt166.2.1 19 = .ok (.iinc 3 1, 3) := by decide +kernel
theorem d166_22 : decode mt166.2.1 22 = .ok (.goto (-18), 3) := by decide +kernel
theorem d166_25 : decode mt166.2.1 25 = .ok (.iload_n 2, 1) := by decide +kernel
theorem d166_26 : decode mt166.2.1 26 = .ok (.ireturn, 1) := by decide +kernel
noncomputable def pg166_0 : List (Nat × aP) := [(0, oPush (.int 0) 1),
  (1, oStI 2 2),
  (2, oPush (.int 0) 3),
  (3, oStI 3 4),
  (4, oLdI 3 5),
  (5, oPush (.int 42) 7),
  (7, oIc (fun x y => y ≤ x) 25 10),
  (10, oLdI 2 11),
  (11, oLdL 0 12),
  (12, oLdI 3 13),
  (13, oLSh (fun x y => x >>> (y.toInt64 &&& 63)) 14),
  (14, oPush (.long 1) 15),
  (15, oLL (fun x y => x &&& y) 16),
  (16, oLI (fun x => x.toInt32) 17),
  (17, oII (fun x y => x + y) 18),
  (18, oStI 2 19),
  (19, oInc 3 1 22),
  (22, oGo 4),
  (25, oLdI 2 26),
  (26, oRetI)]
theorem ok166_0 : ∀ q ∈ pg166_0, Sim mT mt166 q.1 q.2 ∧ Grow q.2 :=
  List.forall_mem_cons.mpr ⟨⟨sim_iconst d166_0 (by decide), gr_Push (.int 0) 1⟩,
  List.forall_mem_cons.mpr ⟨⟨sim_istore_n d166_1 rfl (by decide), gr_StI 2 2⟩,
  List.forall_mem_cons.mpr ⟨⟨sim_iconst d166_2 (by decide), gr_Push (.int 0) 3⟩,
  List.forall_mem_cons.mpr ⟨⟨sim_istore_n d166_3 rfl (by decide), gr_StI 3 4⟩,
  List.forall_mem_cons.mpr ⟨⟨sim_iload_n d166_4 rfl, gr_LdI 3 5⟩,
  List.forall_mem_cons.mpr ⟨⟨sim_bipush d166_5 (by decide), gr_Push (.int 42) 7⟩,
  List.forall_mem_cons.mpr ⟨⟨sim_icmp_ge d166_7 (by decide), gr_Ic (fun x y => y ≤ x) 25 10⟩,
  List.forall_mem_cons.mpr ⟨⟨sim_iload_n d166_10 rfl, gr_LdI 2 11⟩,
  List.forall_mem_cons.mpr ⟨⟨sim_lload_n d166_11 rfl, gr_LdL 0 12⟩,
  List.forall_mem_cons.mpr ⟨⟨sim_iload_n d166_12 rfl, gr_LdI 3 13⟩,
  List.forall_mem_cons.mpr ⟨⟨sim_lshr d166_13, gr_LSh (fun x y => x >>> (y.toInt64 &&& 63)) 14⟩,
  List.forall_mem_cons.mpr ⟨⟨sim_lconst d166_14 (by decide), gr_Push (.long 1) 15⟩,
  List.forall_mem_cons.mpr ⟨⟨sim_land d166_15, gr_LL (fun x y => x &&& y) 16⟩,
  List.forall_mem_cons.mpr ⟨⟨sim_l2i d166_16, gr_LI (fun x => x.toInt32) 17⟩,
  List.forall_mem_cons.mpr ⟨⟨sim_iadd d166_17, gr_II (fun x y => x + y) 18⟩,
  List.forall_mem_cons.mpr ⟨⟨sim_istore_n d166_18 rfl (by decide), gr_StI 2 19⟩,
  List.forall_mem_cons.mpr ⟨⟨sim_iinc d166_19 (by decide) (by decide), gr_Inc 3 1 22⟩,
  List.forall_mem_cons.mpr ⟨⟨sim_goto d166_22 (by decide), gr_Go 4⟩,
  List.forall_mem_cons.mpr ⟨⟨sim_iload_n d166_25 rfl, gr_LdI 2 26⟩,
  List.forall_mem_cons.mpr ⟨⟨sim_ireturn d166_26 rfl, gr_RetI⟩, fun _ h => absurd h List.not_mem_nil⟩⟩⟩⟩⟩⟩⟩⟩⟩⟩⟩⟩⟩⟩⟩⟩⟩⟩⟩⟩
noncomputable def pg166 : List (Nat × aP) := pg166_0
theorem ok166 : ∀ q ∈ pg166, Sim mT mt166 q.1 q.2 ∧ Grow q.2 := ok166_0
theorem d167_0 : decode mt167.2.1 0 = .ok (.aload_n 0, 1) := by decide +kernel
theorem d167_1 : decode mt167.2.1 1 = .ok (.iload_n 1, 1) := by decide +kernel
theorem d167_2 : decode mt167.2.1 2 = .ok (.iload_n 2, 1) := by decide +kernel
theorem d167_3 : decode mt167.2.1 3 = .ok (.invokevirtual 209, 3) := by decide +kernel
theorem d167_6 : decode mt167.2.1 6 = .ok (.istore_n 3, 1) := by decide +kernel
theorem d167_7 : decode mt167.2.1 7 = .ok (.iload_n 3, 1) := by decide +kernel
theorem d167_8 : decode mt167.2.1 8 = .ok (.ifCond .lt 16, 3) := by decide +kernel
theorem d167_11 : decode mt167.2.1 11 = .ok (.aload_n 0, 1) := by decide +kernel
theorem d167_12 : decode mt167.2.1 12 = .ok (.getfield 19, 3) := by decide +kernel
theorem d167_15 : decode mt167.2.1 15 = .ok (.bipush 46, 2) := by decide +kernel
theorem d167_17 : decode mt167.2.1 17 = .ok (.iload_n 3, 1) := by decide +kernel
theorem d167_18 : decode mt167.2.1 18 = .ok (.iadd, 1) := by decide +kernel
theorem d167_19 : decode mt167.2.1 19 = .ok (.iaload, 1) := by decide +kernel
theorem d167_20 : decode mt167.2.1 20 = .ok (.iconst 1, 1) := by decide +kernel
theorem d167_21 : decode mt167.2.1 21 = .ok (.if_icmp .ne 6, 3) := by decide +kernel
theorem d167_24 : decode mt167.2.1 24 = .ok (.ldc 110, 2) := by decide +kernel
theorem d167_26 : decode mt167.2.1 26 = .ok (.ireturn, 1) := by decide +kernel
theorem d167_27 : decode mt167.2.1 27 = .ok (.iload_n 1, 1) := by decide +kernel
theorem d167_28 : decode mt167.2.1 28 = .ok (.iload_n 3, 1) := by decide +kernel
theorem d167_29 : decode mt167.2.1 29 = .ok (.if_icmp .ge 7, 3) := by decide +kernel
theorem d167_32 : decode mt167.2.1 32 = .ok (.iload_n 1, 1) := by decide +kernel
theorem d167_33 : decode mt167.2.1 33 = .ok (.goto 4, 3) := by decide +kernel
theorem d167_36 : decode mt167.2.1 36 = .ok (.iload_n 3, 1) := by decide +kernel
theorem d167_37 : decode mt167.2.1 37 = .ok (.istore 4, 2) := by decide +kernel
theorem d167_39 : decode mt167.2.1 39 = .ok (.iload 4, 2) := by decide +kernel
theorem d167_41 : decode mt167.2.1 41 = .ok (.bipush 8, 2) := by decide +kernel
theorem d167_43 : decode mt167.2.1 43 = .ok (.irem, 1) := by decide +kernel
theorem d167_44 : decode mt167.2.1 44 = .ok (.istore 5, 2) := by decide +kernel
theorem d167_46 : decode mt167.2.1 46 = .ok (.iload 4, 2) := by decide +kernel
theorem d167_48 : decode mt167.2.1 48 = .ok (.bipush 8, 2) := by decide +kernel
theorem d167_50 : decode mt167.2.1 50 = .ok (.idiv, 1) := by decide +kernel
theorem d167_51 : decode mt167.2.1 51 = .ok (.istore 6, 2) := by decide +kernel
theorem d167_53 : decode mt167.2.1 53 = .ok (.iload_n 2, 1) := by decide +kernel
theorem d167_54 : decode mt167.2.1 54 = .ok (.iconst 2, 1) := by decide +kernel
theorem d167_55 : decode mt167.2.1 55 = .ok (.irem, 1) := by decide +kernel
theorem d167_56 : decode mt167.2.1 56 = .ok (.ifCond .ne 25, 3) := by decide +kernel
theorem d167_59 : decode mt167.2.1 59 = .ok (.aload_n 0, 1) := by decide +kernel
theorem d167_60 : decode mt167.2.1 60 = .ok (.iload 5, 2) := by decide +kernel
theorem d167_62 : decode mt167.2.1 62 = .ok (.iconst 1, 1) := by decide +kernel
theorem d167_63 : decode mt167.2.1 63 = .ok (.isub, 1) := by decide +kernel
theorem d167_64 : decode mt167.2.1 64 = .ok (.iload 6, 2) := by decide +kernel
theorem d167_66 : decode mt167.2.1 66 = .ok (.invokevirtual 219, 3) := by decide +kernel
theorem d167_69 : decode mt167.2.1 69 = .ok (.aload_n 0, 1) := by decide +kernel
theorem d167_70 : decode mt167.2.1 70 = .ok (.iload 5, 2) := by decide +kernel
theorem d167_72 : decode mt167.2.1 72 = .ok (.iload 6, 2) := by decide +kernel
theorem d167_74 : decode mt167.2.1 74 = .ok (.invokevirtual 219, 3) := by decide +kernel
theorem d167_77 : decode mt167.2.1 77 = .ok (.iadd, 1) := by decide +kernel
theorem d167_78 : decode mt167.2.1 78 = .ok (.goto 22, 3) := by decide +kernel
theorem d167_81 : decode mt167.2.1 81 = .ok (.aload_n 0, 1) := by decide +kernel
theorem d167_82 : decode mt167.2.1 82 = .ok (.iload 5, 2) := by decide +kernel
theorem d167_84 : decode mt167.2.1 84 = .ok (.iload 6, 2) := by decide +kernel
theorem d167_86 : decode mt167.2.1 86 = .ok (.iconst 1, 1) := by decide +kernel
theorem d167_87 : decode mt167.2.1 87 = .ok (.isub, 1) := by decide +kernel
theorem d167_88 : decode mt167.2.1 88 = .ok (.invokevirtual 219, 3) := by decide +kernel
theorem d167_91 : decode mt167.2.1 91 = .ok (.aload_n 0, 1) := by decide +kernel
theorem d167_92 : decode mt167.2.1 92 = .ok (.iload 5, 2) := by decide +kernel
theorem d167_94 : decode mt167.2.1 94 = .ok (.iload 6, 2) := by decide +kernel
theorem d167_96 : decode mt167.2.1 96 = .ok (.invokevirtual 219, 3) := by decide +kernel
theorem d167_99 : decode mt167.2.1 99 = .ok (.iadd, 1) := by decide +kernel
theorem d167_100 : decode mt167.2.1 100 = .ok (.istore 7, 2) := by decide +kernel
theorem d167_102 : decode mt167.2.1 102 = .ok (.iload 7, 2) := by decide +kernel
theorem d167_104 : decode mt167.2.1 104 = .ok (.iconst 1, 1) := by decide +kernel
theorem d167_105 : decode mt167.2.1 105 = .ok (.if_icmp .eq 16, 3) := by decide +kernel
theorem d167_108 : decode mt167.2.1 108 = .ok (.aload_n 0, 1) := by decide +kernel
theorem d167_109 : decode mt167.2.1 109 = .ok (.getfield 28, 3) := by decide +kernel
theorem d167_112 : decode mt167.2.1 112 = .ok (.iconst 4, 1) := by decide +kernel
theorem d167_113 : decode mt167.2.1 113 = .ok (.iload_n 1, 1) := by decide +kernel
theorem d167_114 : decode mt167.2.1 114 = .ok (.imul, 1) := by decide +kernel
theorem d167_115 : decode mt167.2.1 115 = .ok (.iload_n 2, 1) := by decide +kernel
theorem d167_116 : decode mt167.2.1 116 = .ok (.iadd, 1) := by decide +kernel
theorem d167_117 : decode mt167.2.1 117 = .ok (.baload, 1) := by decide +kernel
theorem d167_118 : decode mt167.2.1 118 = .ok (.ifCond .eq 7, 3) := by decide +kernel
theorem d167_121 : decode mt167.2.1 121 = .ok (.iconst 0, 1) := by decide +kernel
theorem d167_122 : decode mt167.2.1 122 = .ok (.goto 4, 3) := by decide +kernel
theorem d167_125 : decode mt167.2.1 125 = .ok (.iconst 1, 1) := by decide +kernel
theorem d167_126 : decode mt167.2.1 126 = .ok (.ireturn, 1) := by decide +kernel
noncomputable def pg167_0 : List (Nat × aP) := [(0, oLdA 0 1),
  (1, oLdI 1 2),
  (2, oLdI 2 3),
  (3, oCalV (fun k => if k = 11 then some 161 else none) 2 6),
  (6, oStI 3 7),
  (7, oLdI 3 8),
  (8, oIf (fun x => x < 0) 24 11),
  (11, oLdA 0 12),
  (12, oGetF (fun k => k = 11) 5 15),
  (15, oPush (.int 46) 17),
  (17, oLdI 3 18),
  (18, oII (fun x y => x + y) 19),
  (19, oALdI 20),
  (20, oPush (.int 1) 21),
  (21, oIc (fun x y => ¬ x = y) 27 24),
  (24, oPush (.int (-1000000)) 26),
  (26, oRetI),
  (27, oLdI 1 28),
  (28, oLdI 3 29),
  (29, oIc (fun x y => y ≤ x) 36 32),
  (32, oLdI 1 33),
  (33, oGo 37),
  (36, oLdI 3 37),
  (37, oStI 4 39),
  (39, oLdI 4 41),
  (41, oPush (.int 8) 43),
  (43, oIId (fun x y => x - x / y * y) 44),
  (44, oStI 5 46),
  (46, oLdI 4 48),
  (48, oPush (.int 8) 50),
  (50, oIId (fun x y => x / y) 51),
  (51, oStI 6 53),
  (53, oLdI 2 54),
  (54, oPush (.int 2) 55),
  (55, oIId (fun x y => x - x / y * y) 56),
  (56, oIf (fun x => ¬ x = 0) 81 59),
  (59, oLdA 0 60),
  (60, oLdI 5 62),
  (62, oPush (.int 1) 63),
  (63, oII (fun x y => x - y) 64)]
theorem ok167_0 : ∀ q ∈ pg167_0, Sim mT mt167 q.1 q.2 ∧ Grow q.2 :=
  List.forall_mem_cons.mpr ⟨⟨sim_aload_n d167_0 rfl, gr_LdA 0 1⟩,
  List.forall_mem_cons.mpr ⟨⟨sim_iload_n d167_1 rfl, gr_LdI 1 2⟩,
  List.forall_mem_cons.mpr ⟨⟨sim_iload_n d167_2 rfl, gr_LdI 2 3⟩,
  List.forall_mem_cons.mpr ⟨⟨sim_virtual d167_3 vk116, gr_CalV (fun k => if k = 11 then some 161 else none) 2 6⟩,
  List.forall_mem_cons.mpr ⟨⟨sim_istore_n d167_6 rfl (by decide), gr_StI 3 7⟩,
  List.forall_mem_cons.mpr ⟨⟨sim_iload_n d167_7 rfl, gr_LdI 3 8⟩,
  List.forall_mem_cons.mpr ⟨⟨sim_if_lt d167_8 (by decide), gr_If (fun x => x < 0) 24 11⟩,
  List.forall_mem_cons.mpr ⟨⟨sim_aload_n d167_11 rfl, gr_LdA 0 12⟩,
  List.forall_mem_cons.mpr ⟨⟨sim_getF d167_12 gf171, gr_GetF (fun k => k = 11) 5 15⟩,
  List.forall_mem_cons.mpr ⟨⟨sim_bipush d167_15 (by decide), gr_Push (.int 46) 17⟩,
  List.forall_mem_cons.mpr ⟨⟨sim_iload_n d167_17 rfl, gr_LdI 3 18⟩,
  List.forall_mem_cons.mpr ⟨⟨sim_iadd d167_18, gr_II (fun x y => x + y) 19⟩,
  List.forall_mem_cons.mpr ⟨⟨sim_iaload d167_19, gr_ALdI 20⟩,
  List.forall_mem_cons.mpr ⟨⟨sim_iconst d167_20 (by decide), gr_Push (.int 1) 21⟩,
  List.forall_mem_cons.mpr ⟨⟨sim_icmp_ne d167_21 (by decide), gr_Ic (fun x y => ¬ x = y) 27 24⟩,
  List.forall_mem_cons.mpr ⟨⟨sim_ldc d167_24 kw1083, gr_Push (.int (-1000000)) 26⟩,
  List.forall_mem_cons.mpr ⟨⟨sim_ireturn d167_26 rfl, gr_RetI⟩,
  List.forall_mem_cons.mpr ⟨⟨sim_iload_n d167_27 rfl, gr_LdI 1 28⟩,
  List.forall_mem_cons.mpr ⟨⟨sim_iload_n d167_28 rfl, gr_LdI 3 29⟩,
  List.forall_mem_cons.mpr ⟨⟨sim_icmp_ge d167_29 (by decide), gr_Ic (fun x y => y ≤ x) 36 32⟩,
  List.forall_mem_cons.mpr ⟨⟨sim_iload_n d167_32 rfl, gr_LdI 1 33⟩,
  List.forall_mem_cons.mpr ⟨⟨sim_goto d167_33 (by decide), gr_Go 37⟩,
  List.forall_mem_cons.mpr ⟨⟨sim_iload_n d167_36 rfl, gr_LdI 3 37⟩,
  List.forall_mem_cons.mpr ⟨⟨sim_istore d167_37 (by decide), gr_StI 4 39⟩,
  List.forall_mem_cons.mpr ⟨⟨sim_iload d167_39, gr_LdI 4 41⟩,
  List.forall_mem_cons.mpr ⟨⟨sim_bipush d167_41 (by decide), gr_Push (.int 8) 43⟩,
  List.forall_mem_cons.mpr ⟨⟨sim_irem d167_43, gr_IId (fun x y => x - x / y * y) 44⟩,
  List.forall_mem_cons.mpr ⟨⟨sim_istore d167_44 (by decide), gr_StI 5 46⟩,
  List.forall_mem_cons.mpr ⟨⟨sim_iload d167_46, gr_LdI 4 48⟩,
  List.forall_mem_cons.mpr ⟨⟨sim_bipush d167_48 (by decide), gr_Push (.int 8) 50⟩,
  List.forall_mem_cons.mpr ⟨⟨sim_idiv d167_50, gr_IId (fun x y => x / y) 51⟩,
  List.forall_mem_cons.mpr ⟨⟨sim_istore d167_51 (by decide), gr_StI 6 53⟩,
  List.forall_mem_cons.mpr ⟨⟨sim_iload_n d167_53 rfl, gr_LdI 2 54⟩,
  List.forall_mem_cons.mpr ⟨⟨sim_iconst d167_54 (by decide), gr_Push (.int 2) 55⟩,
  List.forall_mem_cons.mpr ⟨⟨sim_irem d167_55, gr_IId (fun x y => x - x / y * y) 56⟩,
  List.forall_mem_cons.mpr ⟨⟨sim_if_ne d167_56 (by decide), gr_If (fun x => ¬ x = 0) 81 59⟩,
  List.forall_mem_cons.mpr ⟨⟨sim_aload_n d167_59 rfl, gr_LdA 0 60⟩,
  List.forall_mem_cons.mpr ⟨⟨sim_iload d167_60, gr_LdI 5 62⟩,
  List.forall_mem_cons.mpr ⟨⟨sim_iconst d167_62 (by decide), gr_Push (.int 1) 63⟩,
  List.forall_mem_cons.mpr ⟨⟨sim_isub d167_63, gr_II (fun x y => x - y) 64⟩, fun _ h => absurd h List.not_mem_nil⟩⟩⟩⟩⟩⟩⟩⟩⟩⟩⟩⟩⟩⟩⟩⟩⟩⟩⟩⟩⟩⟩⟩⟩⟩⟩⟩⟩⟩⟩⟩⟩⟩⟩⟩⟩⟩⟩⟩⟩
noncomputable def pg167_1 : List (Nat × aP) := [(64, oLdI 6 66),
  (66, oCalV (fun k => if k = 11 then some 162 else none) 2 69),
  (69, oLdA 0 70),
  (70, oLdI 5 72),
  (72, oLdI 6 74),
  (74, oCalV (fun k => if k = 11 then some 162 else none) 2 77),
  (77, oII (fun x y => x + y) 78),
  (78, oGo 100),
  (81, oLdA 0 82),
  (82, oLdI 5 84),
  (84, oLdI 6 86),
  (86, oPush (.int 1) 87),
  (87, oII (fun x y => x - y) 88),
  (88, oCalV (fun k => if k = 11 then some 162 else none) 2 91),
  (91, oLdA 0 92),
  (92, oLdI 5 94),
  (94, oLdI 6 96),
  (96, oCalV (fun k => if k = 11 then some 162 else none) 2 99),
  (99, oII (fun x y => x + y) 100),
  (100, oStI 7 102),
  (102, oLdI 7 104),
  (104, oPush (.int 1) 105),
  (105, oIc (fun x y => x = y) 121 108),
  (108, oLdA 0 109),
  (109, oGetF (fun k => k = 11) 18 112),
  (112, oPush (.int 4) 113),
  (113, oLdI 1 114),
  (114, oII (fun x y => x * y) 115),
  (115, oLdI 2 116),
  (116, oII (fun x y => x + y) 117),
  (117, oALdB 118),
  (118, oIf (fun x => x = 0) 125 121),
  (121, oPush (.int 0) 122),
  (122, oGo 126),
  (125, oPush (.int 1) 126),
  (126, oRetI)]
theorem ok167_1 : ∀ q ∈ pg167_1, Sim mT mt167 q.1 q.2 ∧ Grow q.2 :=
  List.forall_mem_cons.mpr ⟨⟨sim_iload d167_64, gr_LdI 6 66⟩,
  List.forall_mem_cons.mpr ⟨⟨sim_virtual d167_66 vk118, gr_CalV (fun k => if k = 11 then some 162 else none) 2 69⟩,
  List.forall_mem_cons.mpr ⟨⟨sim_aload_n d167_69 rfl, gr_LdA 0 70⟩,
  List.forall_mem_cons.mpr ⟨⟨sim_iload d167_70, gr_LdI 5 72⟩,
  List.forall_mem_cons.mpr ⟨⟨sim_iload d167_72, gr_LdI 6 74⟩,
  List.forall_mem_cons.mpr ⟨⟨sim_virtual d167_74 vk118, gr_CalV (fun k => if k = 11 then some 162 else none) 2 77⟩,
  List.forall_mem_cons.mpr ⟨⟨sim_iadd d167_77, gr_II (fun x y => x + y) 78⟩,
  List.forall_mem_cons.mpr ⟨⟨sim_goto d167_78 (by decide), gr_Go 100⟩,
  List.forall_mem_cons.mpr ⟨⟨sim_aload_n d167_81 rfl, gr_LdA 0 82⟩,
  List.forall_mem_cons.mpr ⟨⟨sim_iload d167_82, gr_LdI 5 84⟩,
  List.forall_mem_cons.mpr ⟨⟨sim_iload d167_84, gr_LdI 6 86⟩,
  List.forall_mem_cons.mpr ⟨⟨sim_iconst d167_86 (by decide), gr_Push (.int 1) 87⟩,
  List.forall_mem_cons.mpr ⟨⟨sim_isub d167_87, gr_II (fun x y => x - y) 88⟩,
  List.forall_mem_cons.mpr ⟨⟨sim_virtual d167_88 vk118, gr_CalV (fun k => if k = 11 then some 162 else none) 2 91⟩,
  List.forall_mem_cons.mpr ⟨⟨sim_aload_n d167_91 rfl, gr_LdA 0 92⟩,
  List.forall_mem_cons.mpr ⟨⟨sim_iload d167_92, gr_LdI 5 94⟩,
  List.forall_mem_cons.mpr ⟨⟨sim_iload d167_94, gr_LdI 6 96⟩,
  List.forall_mem_cons.mpr ⟨⟨sim_virtual d167_96 vk118, gr_CalV (fun k => if k = 11 then some 162 else none) 2 99⟩,
  List.forall_mem_cons.mpr ⟨⟨sim_iadd d167_99, gr_II (fun x y => x + y) 100⟩,
  List.forall_mem_cons.mpr ⟨⟨sim_istore d167_100 (by decide), gr_StI 7 102⟩,
  List.forall_mem_cons.mpr ⟨⟨sim_iload d167_102, gr_LdI 7 104⟩,
  List.forall_mem_cons.mpr ⟨⟨sim_iconst d167_104 (by decide), gr_Push (.int 1) 105⟩,
  List.forall_mem_cons.mpr ⟨⟨sim_icmp_eq d167_105 (by decide), gr_Ic (fun x y => x = y) 121 108⟩,
  List.forall_mem_cons.mpr ⟨⟨sim_aload_n d167_108 rfl, gr_LdA 0 109⟩,
  List.forall_mem_cons.mpr ⟨⟨sim_getF d167_109 gf173, gr_GetF (fun k => k = 11) 18 112⟩,
  List.forall_mem_cons.mpr ⟨⟨sim_iconst d167_112 (by decide), gr_Push (.int 4) 113⟩,
  List.forall_mem_cons.mpr ⟨⟨sim_iload_n d167_113 rfl, gr_LdI 1 114⟩,
  List.forall_mem_cons.mpr ⟨⟨sim_imul d167_114, gr_II (fun x y => x * y) 115⟩,
  List.forall_mem_cons.mpr ⟨⟨sim_iload_n d167_115 rfl, gr_LdI 2 116⟩,
  List.forall_mem_cons.mpr ⟨⟨sim_iadd d167_116, gr_II (fun x y => x + y) 117⟩,
  List.forall_mem_cons.mpr ⟨⟨sim_baload d167_117, gr_ALdB 118⟩,
  List.forall_mem_cons.mpr ⟨⟨sim_if_eq d167_118 (by decide), gr_If (fun x => x = 0) 125 121⟩,
  List.forall_mem_cons.mpr ⟨⟨sim_iconst d167_121 (by decide), gr_Push (.int 0) 122⟩,
  List.forall_mem_cons.mpr ⟨⟨sim_goto d167_122 (by decide), gr_Go 126⟩,
  List.forall_mem_cons.mpr ⟨⟨sim_iconst d167_125 (by decide), gr_Push (.int 1) 126⟩,
  List.forall_mem_cons.mpr ⟨⟨sim_ireturn d167_126 rfl, gr_RetI⟩, fun _ h => absurd h List.not_mem_nil⟩⟩⟩⟩⟩⟩⟩⟩⟩⟩⟩⟩⟩⟩⟩⟩⟩⟩⟩⟩⟩⟩⟩⟩⟩⟩⟩⟩⟩⟩⟩⟩⟩⟩⟩⟩
noncomputable def pg167 : List (Nat × aP) := pg167_0 ++ (pg167_1)
theorem ok167 : ∀ q ∈ pg167, Sim mT mt167 q.1 q.2 ∧ Grow q.2 := List.forall_mem_append.mpr ⟨ok167_0, ok167_1⟩
theorem d168_0 : decode mt168.2.1 0 = .ok (.aload_n 0, 1) := by decide +kernel
theorem d168_1 : decode mt168.2.1 1 = .ok (.iconst 0, 1) := by decide +kernel
theorem d168_2 : decode mt168.2.1 2 = .ok (.putfield 74, 3) := by decide +kernel
theorem d168_5 : decode mt168.2.1 5 = .ok (.aload_n 0, 1) := by decide +kernel
theorem d168_6 : decode mt168.2.1 6 = .ok (.iload_n 1, 1) := by decide +kernel
theorem d168_7 : decode mt168.2.1 7 = .ok (.invokevirtual 222, 3) := by decide +kernel
theorem d168_10 : decode mt168.2.1 10 = .ok (.ifCond .eq 24, 3) := by decide +kernel
theorem d168_13 : decode mt168.2.1 13 = .ok (.iload_n 2, 1) := by decide +kernel
theorem d168_14 : decode mt168.2.1 14 = .ok (.i2l, 1) := by decide +kernel
theorem d168_15 : decode mt168.2.1 15 = .ok (.lconst 0, 1) := by decide +kernel
theorem d168_16 : decode mt168.2.1 16 = .ok (.ldc2_w 225, 3) := by decide +kernel
theorem d168_19 : decode mt168.2.1 19 = .ok (.invokestatic 84, 3) := by decide +kernel
theorem d168_22 : decode mt168.2.1 22 = .ok (.ifCond .eq 12, 3) := by decide +kernel
theorem d168_25 : decode mt168.2.1 25 = .ok (.aload_n 0, 1) := by decide +kernel
theorem d168_26 : decode mt168.2.1 26 = .ok (.iload_n 1, 1) := by decide +kernel
theorem d168_27 : decode mt168.2.1 27 = .ok (.iload_n 2, 1) := by decide +kernel
theorem d168_28 : decode mt168.2.1 28 = .ok (.invokevirtual 227, 3) := by decide +kernel
theorem d168_31 : decode mt168.2.1 31 = .ok (.goto 5, 3) := by decide +kernel
theorem d168_34 : decode mt168.2.1 34 = .ok (.ldc 94, 2) := by decide +kernel
theorem d168_36 : decode mt168.2.1 36 = .ok (.ireturn, 1) := by decide +kernel
noncomputable def pg168_0 : List (Nat × aP) := [(0, oLdA 0 1),
  (1, oPush (.int 0) 2),
  (2, oPutI (fun k => k = 11) 0 5),
  (5, oLdA 0 6),
  (6, oLdI 1 7),
  (7, oCalV (fun k => if k = 11 then some 158 else none) 1 10),
  (10, oIf (fun x => x = 0) 34 13),
  (13, oLdI 2 14),
  (14, oIL (fun x => x.toInt64) 15),
  (15, oPush (.long 0) 16),
  (16, oPush (.long 3) 19),
  (19, oCall 131 3 22),
  (22, oIf (fun x => x = 0) 34 25),
  (25, oLdA 0 26),
  (26, oLdI 1 27),
  (27, oLdI 2 28),
  (28, oCalV (fun k => if k = 11 then some 167 else none) 2 31),
  (31, oGo 36),
  (34, oPush (.int (-1000001)) 36),
  (36, oRetI)]
theorem ok168_0 : ∀ q ∈ pg168_0, Sim mT mt168 q.1 q.2 ∧ Grow q.2 :=
  List.forall_mem_cons.mpr ⟨⟨sim_aload_n d168_0 rfl, gr_LdA 0 1⟩,
  List.forall_mem_cons.mpr ⟨⟨sim_iconst d168_1 (by decide), gr_Push (.int 0) 2⟩,
  List.forall_mem_cons.mpr ⟨⟨sim_putI d168_2 gf155w, gr_PutI (fun k => k = 11) 0 5⟩,
  List.forall_mem_cons.mpr ⟨⟨sim_aload_n d168_5 rfl, gr_LdA 0 6⟩,
  List.forall_mem_cons.mpr ⟨⟨sim_iload_n d168_6 rfl, gr_LdI 1 7⟩,
  List.forall_mem_cons.mpr ⟨⟨sim_virtual d168_7 vk119, gr_CalV (fun k => if k = 11 then some 158 else none) 1 10⟩,
  List.forall_mem_cons.mpr ⟨⟨sim_if_eq d168_10 (by decide), gr_If (fun x => x = 0) 34 13⟩,
  List.forall_mem_cons.mpr ⟨⟨sim_iload_n d168_13 rfl, gr_LdI 2 14⟩,
  List.forall_mem_cons.mpr ⟨⟨sim_i2l d168_14, gr_IL (fun x => x.toInt64) 15⟩,
  List.forall_mem_cons.mpr ⟨⟨sim_lconst d168_15 (by decide), gr_Push (.long 0) 16⟩,
  List.forall_mem_cons.mpr ⟨⟨sim_ldc2 d168_16 kw1168, gr_Push (.long 3) 19⟩,
  List.forall_mem_cons.mpr ⟨⟨sim_static (y := 131) d168_19 (Or.inl kw1038) kw1039 mo131, gr_Call 131 3 22⟩,
  List.forall_mem_cons.mpr ⟨⟨sim_if_eq d168_22 (by decide), gr_If (fun x => x = 0) 34 25⟩,
  List.forall_mem_cons.mpr ⟨⟨sim_aload_n d168_25 rfl, gr_LdA 0 26⟩,
  List.forall_mem_cons.mpr ⟨⟨sim_iload_n d168_26 rfl, gr_LdI 1 27⟩,
  List.forall_mem_cons.mpr ⟨⟨sim_iload_n d168_27 rfl, gr_LdI 2 28⟩,
  List.forall_mem_cons.mpr ⟨⟨sim_virtual d168_28 vk120, gr_CalV (fun k => if k = 11 then some 167 else none) 2 31⟩,
  List.forall_mem_cons.mpr ⟨⟨sim_goto d168_31 (by decide), gr_Go 36⟩,
  List.forall_mem_cons.mpr ⟨⟨sim_ldc d168_34 kw1042, gr_Push (.int (-1000001)) 36⟩,
  List.forall_mem_cons.mpr ⟨⟨sim_ireturn d168_36 rfl, gr_RetI⟩, fun _ h => absurd h List.not_mem_nil⟩⟩⟩⟩⟩⟩⟩⟩⟩⟩⟩⟩⟩⟩⟩⟩⟩⟩⟩⟩
noncomputable def pg168 : List (Nat × aP) := pg168_0
theorem ok168 : ∀ q ∈ pg168, Sim mT mt168 q.1 q.2 ∧ Grow q.2 := ok168_0
theorem d169_0 : decode mt169.2.1 0 = .ok (.ldc 230, 2) := by decide +kernel
theorem d169_2 : decode mt169.2.1 2 = .ok (.bipush 100, 2) := by decide +kernel
theorem d169_4 : decode mt169.2.1 4 = .ok (.iload_n 0, 1) := by decide +kernel
theorem d169_5 : decode mt169.2.1 5 = .ok (.imul, 1) := by decide +kernel
theorem d169_6 : decode mt169.2.1 6 = .ok (.isub, 1) := by decide +kernel
theorem d169_7 : decode mt169.2.1 7 = .ok (.iload_n 1, 1) := by decide +kernel
theorem d169_8 : decode mt169.2.1 8 = .ok (.isub, 1) := by decide +kernel
theorem d169_9 : decode mt169.2.1 9 = .ok (.ireturn, 1) := by decide +kernel
noncomputable def pg169_0 : List (Nat × aP) := [(0, oPush (.int (-1000200)) 2),
  (2, oPush (.int 100) 4),
  (4, oLdI 0 5),
  (5, oII (fun x y => x * y) 6),
  (6, oII (fun x y => x - y) 7),
  (7, oLdI 1 8),
  (8, oII (fun x y => x - y) 9),
  (9, oRetI)]
theorem ok169_0 : ∀ q ∈ pg169_0, Sim mT mt169 q.1 q.2 ∧ Grow q.2 :=
  List.forall_mem_cons.mpr ⟨⟨sim_ldc d169_0 kw1204, gr_Push (.int (-1000200)) 2⟩,
  List.forall_mem_cons.mpr ⟨⟨sim_bipush d169_2 (by decide), gr_Push (.int 100) 4⟩,
  List.forall_mem_cons.mpr ⟨⟨sim_iload_n d169_4 rfl, gr_LdI 0 5⟩,
  List.forall_mem_cons.mpr ⟨⟨sim_imul d169_5, gr_II (fun x y => x * y) 6⟩,
  List.forall_mem_cons.mpr ⟨⟨sim_isub d169_6, gr_II (fun x y => x - y) 7⟩,
  List.forall_mem_cons.mpr ⟨⟨sim_iload_n d169_7 rfl, gr_LdI 1 8⟩,
  List.forall_mem_cons.mpr ⟨⟨sim_isub d169_8, gr_II (fun x y => x - y) 9⟩,
  List.forall_mem_cons.mpr ⟨⟨sim_ireturn d169_9 rfl, gr_RetI⟩, fun _ h => absurd h List.not_mem_nil⟩⟩⟩⟩⟩⟩⟩⟩
noncomputable def pg169 : List (Nat × aP) := pg169_0
theorem ok169 : ∀ q ∈ pg169, Sim mT mt169 q.1 q.2 ∧ Grow q.2 := ok169_0
theorem d170_0 : decode mt170.2.1 0 = .ok (.aload_n 0, 1) := by decide +kernel
theorem d170_1 : decode mt170.2.1 1 = .ok (.getfield 35, 3) := by decide +kernel
theorem d170_4 : decode mt170.2.1 4 = .ok (.iconst 0, 1) := by decide +kernel
theorem d170_5 : decode mt170.2.1 5 = .ok (.aload_n 0, 1) := by decide +kernel
theorem d170_6 : decode mt170.2.1 6 = .ok (.getfield 19, 3) := by decide +kernel
theorem d170_9 : decode mt170.2.1 9 = .ok (.bipush 102, 2) := by decide +kernel
theorem d170_11 : decode mt170.2.1 11 = .ok (.iconst 2, 1) := by decide +kernel
theorem d170_12 : decode mt170.2.1 12 = .ok (.iload_n 1, 1) := by decide +kernel
theorem d170_13 : decode mt170.2.1 13 = .ok (.imul, 1) := by decide +kernel
theorem d170_14 : decode mt170.2.1 14 = .ok (.iadd, 1) := by decide +kernel
theorem d170_15 : decode mt170.2.1 15 = .ok (.iaload, 1) := by decide +kernel
theorem d170_16 : decode mt170.2.1 16 = .ok (.iastore, 1) := by decide +kernel
theorem d170_17 : decode mt170.2.1 17 = .ok (.aload_n 0, 1) := by decide +kernel
theorem d170_18 : decode mt170.2.1 18 = .ok (.getfield 19, 3) := by decide +kernel
theorem d170_21 : decode mt170.2.1 21 = .ok (.bipush 102, 2) := by decide +kernel
theorem d170_23 : decode mt170.2.1 23 = .ok (.iconst 2, 1) := by decide +kernel
theorem d170_24 : decode mt170.2.1 24 = .ok (.iload_n 1, 1) := by decide +kernel
theorem d170_25 : decode mt170.2.1 25 = .ok (.imul, 1) := by decide +kernel
theorem d170_26 : decode mt170.2.1 26 = .ok (.iadd, 1) := by decide +kernel
theorem d170_27 : decode mt170.2.1 27 = .ok (.iconst 1, 1) := by decide +kernel
theorem d170_28 : decode mt170.2.1 28 = .ok (.iadd, 1) := by decide +kernel
theorem d170_29 : decode mt170.2.1 29 = .ok (.iaload, 1) := by decide +kernel
theorem d170_30 : decode mt170.2.1 30 = .ok (.istore 4, 2) := by decide +kernel
theorem d170_32 : decode mt170.2.1 32 = .ok (.iconst 0, 1) := by decide +kernel
theorem d170_33 : decode mt170.2.1 33 = .ok (.istore 5, 2) := by decide +kernel
theorem d170_35 : decode mt170.2.1 35 = .ok (.iload 5, 2) := by decide +kernel
theorem d170_37 : decode mt170.2.1 37 = .ok (.iload_n 3, 1) := by decide +kernel
theorem d170_38 : decode mt170.2.1 38 = .ok (.if_icmp .ge 145, 3) := by decide +kernel
theorem d170_41 : decode mt170.2.1 41 = .ok (.aload_n 0, 1) := by decide +kernel
theorem d170_42 : decode mt170.2.1 42 = .ok (.aload_n 0, 1) := by decide +kernel
theorem d170_43 : decode mt170.2.1 43 = .ok (.getfield 35, 3) := by decide +kernel
theorem d170_46 : decode mt170.2.1 46 = .ok (.iload 5, 2) := by decide +kernel
theorem d170_48 : decode mt170.2.1 48 = .ok (.iaload, 1) := by decide +kernel
theorem d170_49 : decode mt170.2.1 49 = .ok (.aload_n 0, 1) := by decide +kernel
theorem d170_50 : decode mt170.2.1 50 = .ok (.getfield 16, 3) := by decide +kernel
theorem d170_53 : decode mt170.2.1 53 = .ok (.iload_n 2, 1) := by decide +kernel
theorem d170_54 : decode mt170.2.1 54 = .ok (.iload 5, 2) := by decide +kernel
theorem d170_56 : decode mt170.2.1 56 = .ok (.iadd, 1) := by decide +kernel
theorem d170_57 : decode mt170.2.1 57 = .ok (.iaload, 1) := by decide +kernel
theorem d170_58 : decode mt170.2.1 58 = .ok (.invokevirtual 227, 3) := by decide +kernel
theorem d170_61 : decode mt170.2.1 61 = .ok (.istore 6, 2) := by decide +kernel
theorem d170_63 : decode mt170.2.1 63 = .ok (.iload 6, 2) := by decide +kernel
theorem d170_65 : decode mt170.2.1 65 = .ok (.ldc 110, 2) := by decide +kernel
theorem d170_67 : decode mt170.2.1 67 = .ok (.if_icmp .ne 10, 3) := by decide +kernel
theorem d170_70 : decode mt170.2.1 70 = .ok (.iconst 1, 1) := by decide +kernel
theorem d170_71 : decode mt170.2.1 71 = .ok (.iload 5, 2) := by decide +kernel
theorem d170_73 : decode mt170.2.1 73 = .ok (.invokestatic 231, 3) := by decide +kernel
theorem d170_76 : decode mt170.2.1 76 = .ok (.ireturn, 1) := by decide +kernel
theorem d170_77 : decode mt170.2.1 77 = .ok (.aload_n 0, 1) := by decide +kernel
theorem d170_78 : decode mt170.2.1 78 = .ok (.aload_n 0, 1) := by decide +kernel
theorem d170_79 : decode mt170.2.1 79 = .ok (.getfield 35, 3) := by decide +kernel
theorem d170_82 : decode mt170.2.1 82 = .ok (.iload 5, 2) := by decide +kernel
theorem d170_84 : decode mt170.2.1 84 = .ok (.iaload, 1) := by decide +kernel
theorem d170_85 : decode mt170.2.1 85 = .ok (.aload_n 0, 1) := by decide +kernel
theorem d170_86 : decode mt170.2.1 86 = .ok (.getfield 16, 3) := by decide +kernel
theorem d170_89 : decode mt170.2.1 89 = .ok (.iload_n 2, 1) := by decide +kernel
theorem d170_90 : decode mt170.2.1 90 = .ok (.iload 5, 2) := by decide +kernel
theorem d170_92 : decode mt170.2.1 92 = .ok (.iadd, 1) := by decide +kernel
theorem d170_93 : decode mt170.2.1 93 = .ok (.iaload, 1) := by decide +kernel
theorem d170_94 : decode mt170.2.1 94 = .ok (.invokevirtual 209, 3) := by decide +kernel
theorem d170_97 : decode mt170.2.1 97 = .ok (.istore 7, 2) := by decide +kernel
theorem d170_99 : decode mt170.2.1 99 = .ok (.iconst 0, 1) := by decide +kernel
theorem d170_100 : decode mt170.2.1 100 = .ok (.istore 8, 2) := by decide +kernel
theorem d170_102 : decode mt170.2.1 102 = .ok (.iload 8, 2) := by decide +kernel
theorem d170_104 : decode mt170.2.1 104 = .ok (.iload 5, 2) := by decide +kernel
theorem d170_106 : decode mt170.2.1 106 = .ok (.if_icmp .gt 41, 3) := by decide +kernel
theorem d170_109 : decode mt170.2.1 109 = .ok (.aload_n 0, 1) := by decide +kernel
theorem d170_110 : decode mt170.2.1 110 = .ok (.getfield 35, 3) := by decide +kernel
theorem d170_113 : decode mt170.2.1 113 = .ok (.iload 8, 2) := by decide +kernel
theorem d170_115 : decode mt170.2.1 115 = .ok (.iaload, 1) := by decide +kernel
theorem d170_116 : decode mt170.2.1 116 = .ok (.iload 7, 2) := by decide +kernel
theorem d170_118 : decode mt170.2.1 118 = .ok (.if_icmp .ne 23, 3) := by decide +kernel
theorem d170_121 : decode mt170.2.1 121 = .ok (.iload 8, 2) := by decide +kernel
theorem d170_123 : decode mt170.2.1 123 = .ok (.ifCond .gt 11, 3) := by decide +kernel
theorem d170_126 : decode mt170.2.1 126 = .ok (.iload 5, 2) := by decide +kernel
theorem d170_128 : decode mt170.2.1 128 = .ok (.iload_n 3, 1) := by decide +kernel
theorem d170_129 : decode mt170.2.1 129 = .ok (.iconst 1, 1) := by decide +kernel
theorem d170_130 : decode mt170.2.1 130 = .ok (.isub, 1) := by decide +kernel
theorem d170_131 : decode mt170.2.1 131 = .ok (.if_icmp .ge 10, 3) := by decide +kernel
theorem d170_134 : decode mt170.2.1 134 = .ok (.iconst 2, 1) := by decide +kernel
theorem d170_135 : decode mt170.2.1 135 = .ok (.iload 5, 2) := by decide +kernel
theorem d170_137 : decode mt170.2.1 137 = .ok (.invokestatic 231, 3) := by decide +kernel
theorem d170_140 : decode mt170.2.1 140 = .ok (.ireturn, 1) := by decide +kernel
theorem d170_141 : decode mt170.2.1 141 = .ok (.iinc 8 1, 3) := by decide +kernel
theorem d170_144 : decode mt170.2.1 144 = .ok (.goto (-42), 3) := by decide +kernel
theorem d170_147 : decode mt170.2.1 147 = .ok (.iload 4, 2) := by decide +kernel
theorem d170_149 : decode mt170.2.1 149 = .ok (.iload 6, 2) := by decide +kernel
theorem d170_151 : decode mt170.2.1 151 = .ok (.isub, 1) := by decide +kernel
theorem d170_152 : decode mt170.2.1 152 = .ok (.istore 4, 2) := by decide +kernel
theorem d170_154 : decode mt170.2.1 154 = .ok (.iload 4, 2) := by decide +kernel
theorem d170_156 : decode mt170.2.1 156 = .ok (.ifCond .ge 10, 3) := by decide +kernel
theorem d170_159 : decode mt170.2.1 159 = .ok (.iconst 3, 1) := by decide +kernel
theorem d170_160 : decode mt170.2.1 160 = .ok (.iload 5, 2) := by decide +kernel
theorem d170_162 : decode mt170.2.1 162 = .ok (.invokestatic 231, 3) := by decide +kernel
theorem d170_165 : decode mt170.2.1 165 = .ok (.ireturn, 1) := by decide +kernel
theorem d170_166 : decode mt170.2.1 166 = .ok (.aload_n 0, 1) := by decide +kernel
theorem d170_167 : decode mt170.2.1 167 = .ok (.getfield 35, 3) := by decide +kernel
theorem d170_170 : decode mt170.2.1 170 = .ok (.iload 5, 2) := by decide +kernel
theorem d170_172 : decode mt170.2.1 172 = .ok (.iconst 1, 1) := by decide +kernel
theorem d170_173 : decode mt170.2.1 173 = .ok (.iadd, 1) := by decide +kernel
theorem d170_174 : decode mt170.2.1 174 = .ok (.iload 7, 2) := by decide +kernel
theorem d170_176 : decode mt170.2.1 176 = .ok (.iastore, 1) := by decide +kernel
theorem d170_177 : decode mt170.2.1 177 = .ok (.iinc 5 1, 3) := by decide +kernel
theorem d170_180 : decode mt170.2.1 180 = .ok (.goto (-145), 3) := by decide +kernel
theorem d170_183 : decode mt170.2.1 183 = .ok (.aload_n 0, 1) := by decide +kernel
theorem d170_184 : decode mt170.2.1 184 = .ok (.getfield 35, 3) := by decide +kernel
theorem d170_187 : decode mt170.2.1 187 = .ok (.iload_n 3, 1) := by decide +kernel
theorem d170_188 : decode mt170.2.1 188 = .ok (.iaload, 1) := by decide +kernel
theorem d170_189 : decode mt170.2.1 189 = .ok (.aload_n 0, 1) := by decide +kernel
theorem d170_190 : decode mt170.2.1 190 = .ok (.getfield 35, 3) := by decide +kernel
theorem d170_193 : decode mt170.2.1 193 = .ok (.iconst 0, 1) := by decide +kernel
theorem d170_194 : decode mt170.2.1 194 = .ok (.iaload, 1) := by decide +kernel
theorem d170_195 : decode mt170.2.1 195 = .ok (.if_icmp .ne 8, 3) := by decide +kernel
theorem d170_198 : decode mt170.2.1 198 = .ok (.iload_n 3, 1) := by decide +kernel
theorem d170_199 : decode mt170.2.1 199 = .ok (.iconst 4, 1) := by decide +kernel
theorem d170_200 : decode mt170.2.1 200 = .ok (.if_icmp .ge 28, 3) := by decide +kernel
theorem d170_203 : decode mt170.2.1 203 = .ok (.aload_n 0, 1) := by decide +kernel
theorem d170_204 : decode mt170.2.1 204 = .ok (.getfield 35, 3) := by decide +kernel
theorem d170_207 : decode mt170.2.1 207 = .ok (.iload_n 3, 1) := by decide +kernel
theorem d170_208 : decode mt170.2.1 208 = .ok (.iaload, 1) := by decide +kernel
theorem d170_209 : decode mt170.2.1 209 = .ok (.aload_n 0, 1) := by decide +kernel
theorem d170_210 : decode mt170.2.1 210 = .ok (.getfield 35, 3) := by decide +kernel
theorem d170_213 : decode mt170.2.1 213 = .ok (.iconst 0, 1) := by decide +kernel
theorem d170_214 : decode mt170.2.1 214 = .ok (.iaload, 1) := by decide +kernel
theorem d170_215 : decode mt170.2.1 215 = .ok (.if_icmp .eq 7, 3) := by decide +kernel
theorem d170_218 : decode mt170.2.1 218 = .ok (.iconst 4, 1) := by decide +kernel
theorem d170_219 : decode mt170.2.1 219 = .ok (.goto 4, 3) := by decide +kernel
theorem d170_222 : decode mt170.2.1 222 = .ok (.iconst 5, 1) := by decide +kernel
theorem d170_223 : decode mt170.2.1 223 = .ok (.iload_n 3, 1) := by decide +kernel
theorem d170_224 : decode mt170.2.1 224 = .ok (.invokestatic 231, 3) := by decide +kernel
theorem d170_227 : decode mt170.2.1 227 = .ok (.ireturn, 1) := by decide +kernel
theorem d170_228 : decode mt170.2.1 228 = .ok (.aload_n 0, 1) := by decide +kernel
theorem d170_229 : decode mt170.2.1 229 = .ok (.aload_n 0, 1) := by decide +kernel
theorem d170_230 : decode mt170.2.1 230 = .ok (.getfield 35, 3) := by decide +kernel
theorem d170_233 : decode mt170.2.1 233 = .ok (.iconst 0, 1) := by decide +kernel
theorem d170_234 : decode mt170.2.1 234 = .ok (.iaload, 1) := by decide +kernel
theorem d170_235 : decode mt170.2.1 235 = .ok (.aload_n 0, 1) := by decide +kernel
theorem d170_236 : decode mt170.2.1 236 = .ok (.getfield 16, 3) := by decide +kernel
theorem d170_239 : decode mt170.2.1 239 = .ok (.iload_n 2, 1) := by decide +kernel
theorem d170_240 : decode mt170.2.1 240 = .ok (.iload_n 3, 1) := by decide +kernel
theorem d170_241 : decode mt170.2.1 241 = .ok (.invokevirtual 215, 3) := by decide +kernel
theorem d170_244 : decode mt170.2.1 244 = .ok (.lstore 5, 2) := by decide +kernel
theorem d170_246 : decode mt170.2.1 246 = .ok (.lload 5, 2) := by decide +kernel
theorem d170_248 : decode mt170.2.1 248 = .ok (.aload_n 0, 1) := by decide +kernel
theorem d170_249 : decode mt170.2.1 249 = .ok (.getfield 211, 3) := by decide +kernel
theorem d170_252 : decode mt170.2.1 252 = .ok (.land, 1) := by decide +kernel
theorem d170_253 : decode mt170.2.1 253 = .ok (.lconst 0, 1) := by decide +kernel
theorem d170_254 : decode mt170.2.1 254 = .ok (.lcmp, 1) := by decide +kernel
theorem d170_255 : decode mt170.2.1 255 = .ok (.ifCond .eq 12, 3) := by decide +kernel
theorem d170_258 : decode mt170.2.1 258 = .ok (.bipush 6, 2) := by decide +kernel
theorem d170_260 : decode mt170.2.1 260 = .ok (.iload_n 3, 1) := by decide +kernel
theorem d170_261 : decode mt170.2.1 261 = .ok (.invokestatic 231, 3) := by decide +kernel
theorem d170_264 : decode mt170.2.1 264 = .ok (.goto 9, 3) := by decide +kernel
theorem d170_267 : decode mt170.2.1 267 = .ok (.aload_n 0, 1) := by decide +kernel
theorem d170_268 : decode mt170.2.1 268 = .ok (.lload 5, 2) := by decide +kernel
theorem d170_270 : decode mt170.2.1 270 = .ok (.invokevirtual 234, 3) := by decide +kernel
theorem d170_273 : decode mt170.2.1 273 = .ok (.ireturn, 1) := by decide +kernel
noncomputable def pg170_0 : List (Nat × aP) := [(0, oLdA 0 1),
  (1, oGetF (fun k => k = 11) 21 4),
  (4, oPush (.int 0) 5),
  (5, oLdA 0 6),
  (6, oGetF (fun k => k = 11) 5 9),
  (9, oPush (.int 102) 11),
  (11, oPush (.int 2) 12),
  (12, oLdI 1 13),
  (13, oII (fun x y => x * y) 14),
  (14, oII (fun x y => x + y) 15),
  (15, oALdI 16),
  (16, oAStI 17),
  (17, oLdA 0 18),
  (18, oGetF (fun k => k = 11) 5 21),
  (21, oPush (.int 102) 23),
  (23, oPush (.int 2) 24),
  (24, oLdI 1 25),
  (25, oII (fun x y => x * y) 26),
  (26, oII (fun x y => x + y) 27),
  (27, oPush (.int 1) 28),
  (28, oII (fun x y => x + y) 29),
  (29, oALdI 30),
  (30, oStI 4 32),
  (32, oPush (.int 0) 33),
  (33, oStI 5 35),
  (35, oLdI 5 37),
  (37, oLdI 3 38),
  (38, oIc (fun x y => y ≤ x) 183 41),
  (41, oLdA 0 42),
  (42, oLdA 0 43),
  (43, oGetF (fun k => k = 11) 21 46),
  (46, oLdI 5 48),
  (48, oALdI 49),
  (49, oLdA 0 50),
  (50, oGetF (fun k => k = 11) 4 53),
  (53, oLdI 2 54),
  (54, oLdI 5 56),
  (56, oII (fun x y => x + y) 57),
  (57, oALdI 58),
  (58, oCalV (fun k => if k = 11 then some 167 else none) 2 61)]
theorem ok170_0 : ∀ q ∈ pg170_0, Sim mT mt170 q.1 q.2 ∧ Grow q.2 :=
  List.forall_mem_cons.mpr ⟨⟨sim_aload_n d170_0 rfl, gr_LdA 0 1⟩,
  List.forall_mem_cons.mpr ⟨⟨sim_getF d170_1 gf175, gr_GetF (fun k => k = 11) 21 4⟩,
  List.forall_mem_cons.mpr ⟨⟨sim_iconst d170_4 (by decide), gr_Push (.int 0) 5⟩,
  List.forall_mem_cons.mpr ⟨⟨sim_aload_n d170_5 rfl, gr_LdA 0 6⟩,
  List.forall_mem_cons.mpr ⟨⟨sim_getF d170_6 gf171, gr_GetF (fun k => k = 11) 5 9⟩,
  List.forall_mem_cons.mpr ⟨⟨sim_bipush d170_9 (by decide), gr_Push (.int 102) 11⟩,
  List.forall_mem_cons.mpr ⟨⟨sim_iconst d170_11 (by decide), gr_Push (.int 2) 12⟩,
  List.forall_mem_cons.mpr ⟨⟨sim_iload_n d170_12 rfl, gr_LdI 1 13⟩,
  List.forall_mem_cons.mpr ⟨⟨sim_imul d170_13, gr_II (fun x y => x * y) 14⟩,
  List.forall_mem_cons.mpr ⟨⟨sim_iadd d170_14, gr_II (fun x y => x + y) 15⟩,
  List.forall_mem_cons.mpr ⟨⟨sim_iaload d170_15, gr_ALdI 16⟩,
  List.forall_mem_cons.mpr ⟨⟨sim_iastore d170_16, gr_AStI 17⟩,
  List.forall_mem_cons.mpr ⟨⟨sim_aload_n d170_17 rfl, gr_LdA 0 18⟩,
  List.forall_mem_cons.mpr ⟨⟨sim_getF d170_18 gf171, gr_GetF (fun k => k = 11) 5 21⟩,
  List.forall_mem_cons.mpr ⟨⟨sim_bipush d170_21 (by decide), gr_Push (.int 102) 23⟩,
  List.forall_mem_cons.mpr ⟨⟨sim_iconst d170_23 (by decide), gr_Push (.int 2) 24⟩,
  List.forall_mem_cons.mpr ⟨⟨sim_iload_n d170_24 rfl, gr_LdI 1 25⟩,
  List.forall_mem_cons.mpr ⟨⟨sim_imul d170_25, gr_II (fun x y => x * y) 26⟩,
  List.forall_mem_cons.mpr ⟨⟨sim_iadd d170_26, gr_II (fun x y => x + y) 27⟩,
  List.forall_mem_cons.mpr ⟨⟨sim_iconst d170_27 (by decide), gr_Push (.int 1) 28⟩,
  List.forall_mem_cons.mpr ⟨⟨sim_iadd d170_28, gr_II (fun x y => x + y) 29⟩,
  List.forall_mem_cons.mpr ⟨⟨sim_iaload d170_29, gr_ALdI 30⟩,
  List.forall_mem_cons.mpr ⟨⟨sim_istore d170_30 (by decide), gr_StI 4 32⟩,
  List.forall_mem_cons.mpr ⟨⟨sim_iconst d170_32 (by decide), gr_Push (.int 0) 33⟩,
  List.forall_mem_cons.mpr ⟨⟨sim_istore d170_33 (by decide), gr_StI 5 35⟩,
  List.forall_mem_cons.mpr ⟨⟨sim_iload d170_35, gr_LdI 5 37⟩,
  List.forall_mem_cons.mpr ⟨⟨sim_iload_n d170_37 rfl, gr_LdI 3 38⟩,
  List.forall_mem_cons.mpr ⟨⟨sim_icmp_ge d170_38 (by decide), gr_Ic (fun x y => y ≤ x) 183 41⟩,
  List.forall_mem_cons.mpr ⟨⟨sim_aload_n d170_41 rfl, gr_LdA 0 42⟩,
  List.forall_mem_cons.mpr ⟨⟨sim_aload_n d170_42 rfl, gr_LdA 0 43⟩,
  List.forall_mem_cons.mpr ⟨⟨sim_getF d170_43 gf175, gr_GetF (fun k => k = 11) 21 46⟩,
  List.forall_mem_cons.mpr ⟨⟨sim_iload d170_46, gr_LdI 5 48⟩,
  List.forall_mem_cons.mpr ⟨⟨sim_iaload d170_48, gr_ALdI 49⟩,
  List.forall_mem_cons.mpr ⟨⟨sim_aload_n d170_49 rfl, gr_LdA 0 50⟩,
  List.forall_mem_cons.mpr ⟨⟨sim_getF d170_50 gf158, gr_GetF (fun k => k = 11) 4 53⟩,
  List.forall_mem_cons.mpr ⟨⟨sim_iload_n d170_53 rfl, gr_LdI 2 54⟩,
  List.forall_mem_cons.mpr ⟨⟨sim_iload d170_54, gr_LdI 5 56⟩,
  List.forall_mem_cons.mpr ⟨⟨sim_iadd d170_56, gr_II (fun x y => x + y) 57⟩,
  List.forall_mem_cons.mpr ⟨⟨sim_iaload d170_57, gr_ALdI 58⟩,
  List.forall_mem_cons.mpr ⟨⟨sim_virtual d170_58 vk120, gr_CalV (fun k => if k = 11 then some 167 else none) 2 61⟩, fun _ h => absurd h List.not_mem_nil⟩⟩⟩⟩⟩⟩⟩⟩⟩⟩⟩⟩⟩⟩⟩⟩⟩⟩⟩⟩⟩⟩⟩⟩⟩⟩⟩⟩⟩⟩⟩⟩⟩⟩⟩⟩⟩⟩⟩⟩
noncomputable def pg170_1 : List (Nat × aP) := [(61, oStI 6 63),
  (63, oLdI 6 65),
  (65, oPush (.int (-1000000)) 67),
  (67, oIc (fun x y => ¬ x = y) 77 70),
  (70, oPush (.int 1) 71),
  (71, oLdI 5 73),
  (73, oCall 169 2 76),
  (76, oRetI),
  (77, oLdA 0 78),
  (78, oLdA 0 79),
  (79, oGetF (fun k => k = 11) 21 82),
  (82, oLdI 5 84),
  (84, oALdI 85),
  (85, oLdA 0 86),
  (86, oGetF (fun k => k = 11) 4 89),
  (89, oLdI 2 90),
  (90, oLdI 5 92),
  (92, oII (fun x y => x + y) 93),
  (93, oALdI 94),
  (94, oCalV (fun k => if k = 11 then some 161 else none) 2 97),
  (97, oStI 7 99),
  (99, oPush (.int 0) 100),
  (100, oStI 8 102),
  (102, oLdI 8 104),
  (104, oLdI 5 106),
  (106, oIc (fun x y => y < x) 147 109),
  (109, oLdA 0 110),
  (110, oGetF (fun k => k = 11) 21 113),
  (113, oLdI 8 115),
  (115, oALdI 116),
  (116, oLdI 7 118),
  (118, oIc (fun x y => ¬ x = y) 141 121),
  (121, oLdI 8 123),
  (123, oIf (fun x => 0 < x) 134 126),
  (126, oLdI 5 128),
  (128, oLdI 3 129),
  (129, oPush (.int 1) 130),
  (130, oII (fun x y => x - y) 131),
  (131, oIc (fun x y => y ≤ x) 141 134),
  (134, oPush (.int 2) 135)]
theorem ok170_1 : ∀ q ∈ pg170_1, Sim mT mt170 q.1 q.2 ∧ Grow q.2 :=
  List.forall_mem_cons.mpr ⟨⟨sim_istore d170_61 (by decide), gr_StI 6 63⟩,
  List.forall_mem_cons.mpr ⟨⟨sim_iload d170_63, gr_LdI 6 65⟩,
  List.forall_mem_cons.mpr ⟨⟨sim_ldc d170_65 kw1083, gr_Push (.int (-1000000)) 67⟩,
  List.forall_mem_cons.mpr ⟨⟨sim_icmp_ne d170_67 (by decide), gr_Ic (fun x y => ¬ x = y) 77 70⟩,
  List.forall_mem_cons.mpr ⟨⟨sim_iconst d170_70 (by decide), gr_Push (.int 1) 71⟩,
  List.forall_mem_cons.mpr ⟨⟨sim_iload d170_71, gr_LdI 5 73⟩,
  List.forall_mem_cons.mpr ⟨⟨sim_static (y := 169) d170_73 (Or.inl kw1201) kw1202 mo169, gr_Call 169 2 76⟩,
  List.forall_mem_cons.mpr ⟨⟨sim_ireturn d170_76 rfl, gr_RetI⟩,
  List.forall_mem_cons.mpr ⟨⟨sim_aload_n d170_77 rfl, gr_LdA 0 78⟩,
  List.forall_mem_cons.mpr ⟨⟨sim_aload_n d170_78 rfl, gr_LdA 0 79⟩,
  List.forall_mem_cons.mpr ⟨⟨sim_getF d170_79 gf175, gr_GetF (fun k => k = 11) 21 82⟩,
  List.forall_mem_cons.mpr ⟨⟨sim_iload d170_82, gr_LdI 5 84⟩,
  List.forall_mem_cons.mpr ⟨⟨sim_iaload d170_84, gr_ALdI 85⟩,
  List.forall_mem_cons.mpr ⟨⟨sim_aload_n d170_85 rfl, gr_LdA 0 86⟩,
  List.forall_mem_cons.mpr ⟨⟨sim_getF d170_86 gf158, gr_GetF (fun k => k = 11) 4 89⟩,
  List.forall_mem_cons.mpr ⟨⟨sim_iload_n d170_89 rfl, gr_LdI 2 90⟩,
  List.forall_mem_cons.mpr ⟨⟨sim_iload d170_90, gr_LdI 5 92⟩,
  List.forall_mem_cons.mpr ⟨⟨sim_iadd d170_92, gr_II (fun x y => x + y) 93⟩,
  List.forall_mem_cons.mpr ⟨⟨sim_iaload d170_93, gr_ALdI 94⟩,
  List.forall_mem_cons.mpr ⟨⟨sim_virtual d170_94 vk116, gr_CalV (fun k => if k = 11 then some 161 else none) 2 97⟩,
  List.forall_mem_cons.mpr ⟨⟨sim_istore d170_97 (by decide), gr_StI 7 99⟩,
  List.forall_mem_cons.mpr ⟨⟨sim_iconst d170_99 (by decide), gr_Push (.int 0) 100⟩,
  List.forall_mem_cons.mpr ⟨⟨sim_istore d170_100 (by decide), gr_StI 8 102⟩,
  List.forall_mem_cons.mpr ⟨⟨sim_iload d170_102, gr_LdI 8 104⟩,
  List.forall_mem_cons.mpr ⟨⟨sim_iload d170_104, gr_LdI 5 106⟩,
  List.forall_mem_cons.mpr ⟨⟨sim_icmp_gt d170_106 (by decide), gr_Ic (fun x y => y < x) 147 109⟩,
  List.forall_mem_cons.mpr ⟨⟨sim_aload_n d170_109 rfl, gr_LdA 0 110⟩,
  List.forall_mem_cons.mpr ⟨⟨sim_getF d170_110 gf175, gr_GetF (fun k => k = 11) 21 113⟩,
  List.forall_mem_cons.mpr ⟨⟨sim_iload d170_113, gr_LdI 8 115⟩,
  List.forall_mem_cons.mpr ⟨⟨sim_iaload d170_115, gr_ALdI 116⟩,
  List.forall_mem_cons.mpr ⟨⟨sim_iload d170_116, gr_LdI 7 118⟩,
  List.forall_mem_cons.mpr ⟨⟨sim_icmp_ne d170_118 (by decide), gr_Ic (fun x y => ¬ x = y) 141 121⟩,
  List.forall_mem_cons.mpr ⟨⟨sim_iload d170_121, gr_LdI 8 123⟩,
  List.forall_mem_cons.mpr ⟨⟨sim_if_gt d170_123 (by decide), gr_If (fun x => 0 < x) 134 126⟩,
  List.forall_mem_cons.mpr ⟨⟨sim_iload d170_126, gr_LdI 5 128⟩,
  List.forall_mem_cons.mpr ⟨⟨sim_iload_n d170_128 rfl, gr_LdI 3 129⟩,
  List.forall_mem_cons.mpr ⟨⟨sim_iconst d170_129 (by decide), gr_Push (.int 1) 130⟩,
  List.forall_mem_cons.mpr ⟨⟨sim_isub d170_130, gr_II (fun x y => x - y) 131⟩,
  List.forall_mem_cons.mpr ⟨⟨sim_icmp_ge d170_131 (by decide), gr_Ic (fun x y => y ≤ x) 141 134⟩,
  List.forall_mem_cons.mpr ⟨⟨sim_iconst d170_134 (by decide), gr_Push (.int 2) 135⟩, fun _ h => absurd h List.not_mem_nil⟩⟩⟩⟩⟩⟩⟩⟩⟩⟩⟩⟩⟩⟩⟩⟩⟩⟩⟩⟩⟩⟩⟩⟩⟩⟩⟩⟩⟩⟩⟩⟩⟩⟩⟩⟩⟩⟩⟩⟩
noncomputable def pg170_2 : List (Nat × aP) := [(135, oLdI 5 137),
  (137, oCall 169 2 140),
  (140, oRetI),
  (141, oInc 8 1 144),
  (144, oGo 102),
  (147, oLdI 4 149),
  (149, oLdI 6 151),
  (151, oII (fun x y => x - y) 152),
  (152, oStI 4 154),
  (154, oLdI 4 156),
  (156, oIf (fun x => 0 ≤ x) 166 159),
  (159, oPush (.int 3) 160),
  (160, oLdI 5 162),
  (162, oCall 169 2 165),
  (165, oRetI),
  (166, oLdA 0 167),
  (167, oGetF (fun k => k = 11) 21 170),
  (170, oLdI 5 172),
  (172, oPush (.int 1) 173),
  (173, oII (fun x y => x + y) 174),
  (174, oLdI 7 176),
  (176, oAStI 177),
  (177, oInc 5 1 180),
  (180, oGo 35),
  (183, oLdA 0 184),
  (184, oGetF (fun k => k = 11) 21 187),
  (187, oLdI 3 188),
  (188, oALdI 189),
  (189, oLdA 0 190),
  (190, oGetF (fun k => k = 11) 21 193),
  (193, oPush (.int 0) 194),
  (194, oALdI 195),
  (195, oIc (fun x y => ¬ x = y) 203 198),
  (198, oLdI 3 199),
  (199, oPush (.int 4) 200),
  (200, oIc (fun x y => y ≤ x) 228 203),
  (203, oLdA 0 204),
  (204, oGetF (fun k => k = 11) 21 207),
  (207, oLdI 3 208),
  (208, oALdI 209)]
theorem ok170_2 : ∀ q ∈ pg170_2, Sim mT mt170 q.1 q.2 ∧ Grow q.2 :=
  List.forall_mem_cons.mpr ⟨⟨sim_iload d170_135, gr_LdI 5 137⟩,
  List.forall_mem_cons.mpr ⟨⟨sim_static (y := 169) d170_137 (Or.inl kw1201) kw1202 mo169, gr_Call 169 2 140⟩,
  List.forall_mem_cons.mpr ⟨⟨sim_ireturn d170_140 rfl, gr_RetI⟩,
  List.forall_mem_cons.mpr ⟨⟨sim_iinc d170_141 (by decide) (by decide), gr_Inc 8 1 144⟩,
  List.forall_mem_cons.mpr ⟨⟨sim_goto d170_144 (by decide), gr_Go 102⟩,
  List.forall_mem_cons.mpr ⟨⟨sim_iload d170_147, gr_LdI 4 149⟩,
  List.forall_mem_cons.mpr ⟨⟨sim_iload d170_149, gr_LdI 6 151⟩,
  List.forall_mem_cons.mpr ⟨⟨sim_isub d170_151, gr_II (fun x y => x - y) 152⟩,
  List.forall_mem_cons.mpr ⟨⟨sim_istore d170_152 (by decide), gr_StI 4 154⟩,
  List.forall_mem_cons.mpr ⟨⟨sim_iload d170_154, gr_LdI 4 156⟩,
  List.forall_mem_cons.mpr ⟨⟨sim_if_ge d170_156 (by decide), gr_If (fun x => 0 ≤ x) 166 159⟩,
  List.forall_mem_cons.mpr ⟨⟨sim_iconst d170_159 (by decide), gr_Push (.int 3) 160⟩,
  List.forall_mem_cons.mpr ⟨⟨sim_iload d170_160, gr_LdI 5 162⟩,
  List.forall_mem_cons.mpr ⟨⟨sim_static (y := 169) d170_162 (Or.inl kw1201) kw1202 mo169, gr_Call 169 2 165⟩,
  List.forall_mem_cons.mpr ⟨⟨sim_ireturn d170_165 rfl, gr_RetI⟩,
  List.forall_mem_cons.mpr ⟨⟨sim_aload_n d170_166 rfl, gr_LdA 0 167⟩,
  List.forall_mem_cons.mpr ⟨⟨sim_getF d170_167 gf175, gr_GetF (fun k => k = 11) 21 170⟩,
  List.forall_mem_cons.mpr ⟨⟨sim_iload d170_170, gr_LdI 5 172⟩,
  List.forall_mem_cons.mpr ⟨⟨sim_iconst d170_172 (by decide), gr_Push (.int 1) 173⟩,
  List.forall_mem_cons.mpr ⟨⟨sim_iadd d170_173, gr_II (fun x y => x + y) 174⟩,
  List.forall_mem_cons.mpr ⟨⟨sim_iload d170_174, gr_LdI 7 176⟩,
  List.forall_mem_cons.mpr ⟨⟨sim_iastore d170_176, gr_AStI 177⟩,
  List.forall_mem_cons.mpr ⟨⟨sim_iinc d170_177 (by decide) (by decide), gr_Inc 5 1 180⟩,
  List.forall_mem_cons.mpr ⟨⟨sim_goto d170_180 (by decide), gr_Go 35⟩,
  List.forall_mem_cons.mpr ⟨⟨sim_aload_n d170_183 rfl, gr_LdA 0 184⟩,
  List.forall_mem_cons.mpr ⟨⟨sim_getF d170_184 gf175, gr_GetF (fun k => k = 11) 21 187⟩,
  List.forall_mem_cons.mpr ⟨⟨sim_iload_n d170_187 rfl, gr_LdI 3 188⟩,
  List.forall_mem_cons.mpr ⟨⟨sim_iaload d170_188, gr_ALdI 189⟩,
  List.forall_mem_cons.mpr ⟨⟨sim_aload_n d170_189 rfl, gr_LdA 0 190⟩,
  List.forall_mem_cons.mpr ⟨⟨sim_getF d170_190 gf175, gr_GetF (fun k => k = 11) 21 193⟩,
  List.forall_mem_cons.mpr ⟨⟨sim_iconst d170_193 (by decide), gr_Push (.int 0) 194⟩,
  List.forall_mem_cons.mpr ⟨⟨sim_iaload d170_194, gr_ALdI 195⟩,
  List.forall_mem_cons.mpr ⟨⟨sim_icmp_ne d170_195 (by decide), gr_Ic (fun x y => ¬ x = y) 203 198⟩,
  List.forall_mem_cons.mpr ⟨⟨sim_iload_n d170_198 rfl, gr_LdI 3 199⟩,
  List.forall_mem_cons.mpr ⟨⟨sim_iconst d170_199 (by decide), gr_Push (.int 4) 200⟩,
  List.forall_mem_cons.mpr ⟨⟨sim_icmp_ge d170_200 (by decide), gr_Ic (fun x y => y ≤ x) 228 203⟩,
  List.forall_mem_cons.mpr ⟨⟨sim_aload_n d170_203 rfl, gr_LdA 0 204⟩,
  List.forall_mem_cons.mpr ⟨⟨sim_getF d170_204 gf175, gr_GetF (fun k => k = 11) 21 207⟩,
  List.forall_mem_cons.mpr ⟨⟨sim_iload_n d170_207 rfl, gr_LdI 3 208⟩,
  List.forall_mem_cons.mpr ⟨⟨sim_iaload d170_208, gr_ALdI 209⟩, fun _ h => absurd h List.not_mem_nil⟩⟩⟩⟩⟩⟩⟩⟩⟩⟩⟩⟩⟩⟩⟩⟩⟩⟩⟩⟩⟩⟩⟩⟩⟩⟩⟩⟩⟩⟩⟩⟩⟩⟩⟩⟩⟩⟩⟩⟩
noncomputable def pg170_3 : List (Nat × aP) := [(209, oLdA 0 210),
  (210, oGetF (fun k => k = 11) 21 213),
  (213, oPush (.int 0) 214),
  (214, oALdI 215),
  (215, oIc (fun x y => x = y) 222 218),
  (218, oPush (.int 4) 219),
  (219, oGo 223),
  (222, oPush (.int 5) 223),
  (223, oLdI 3 224),
  (224, oCall 169 2 227),
  (227, oRetI),
  (228, oLdA 0 229),
  (229, oLdA 0 230),
  (230, oGetF (fun k => k = 11) 21 233),
  (233, oPush (.int 0) 234),
  (234, oALdI 235),
  (235, oLdA 0 236),
  (236, oGetF (fun k => k = 11) 4 239),
  (239, oLdI 2 240),
  (240, oLdI 3 241),
  (241, oCalV (fun k => if k = 11 then some 163 else none) 4 244),
  (244, oStL 5 246),
  (246, oLdL 5 248),
  (248, oLdA 0 249),
  (249, oGetL (fun k => k = 11) 20 252),
  (252, oLL (fun x y => x &&& y) 253),
  (253, oPush (.long 0) 254),
  (254, oLcmp 255),
  (255, oIf (fun x => x = 0) 267 258),
  (258, oPush (.int 6) 260),
  (260, oLdI 3 261),
  (261, oCall 169 2 264),
  (264, oGo 273),
  (267, oLdA 0 268),
  (268, oLdL 5 270),
  (270, oCalV (fun k => if k = 11 then some 165 else none) 1 273),
  (273, oRetI)]
theorem ok170_3 : ∀ q ∈ pg170_3, Sim mT mt170 q.1 q.2 ∧ Grow q.2 :=
  List.forall_mem_cons.mpr ⟨⟨sim_aload_n d170_209 rfl, gr_LdA 0 210⟩,
  List.forall_mem_cons.mpr ⟨⟨sim_getF d170_210 gf175, gr_GetF (fun k => k = 11) 21 213⟩,
  List.forall_mem_cons.mpr ⟨⟨sim_iconst d170_213 (by decide), gr_Push (.int 0) 214⟩,
  List.forall_mem_cons.mpr ⟨⟨sim_iaload d170_214, gr_ALdI 215⟩,
  List.forall_mem_cons.mpr ⟨⟨sim_icmp_eq d170_215 (by decide), gr_Ic (fun x y => x = y) 222 218⟩,
  List.forall_mem_cons.mpr ⟨⟨sim_iconst d170_218 (by decide), gr_Push (.int 4) 219⟩,
  List.forall_mem_cons.mpr ⟨⟨sim_goto d170_219 (by decide), gr_Go 223⟩,
  List.forall_mem_cons.mpr ⟨⟨sim_iconst d170_222 (by decide), gr_Push (.int 5) 223⟩,
  List.forall_mem_cons.mpr ⟨⟨sim_iload_n d170_223 rfl, gr_LdI 3 224⟩,
  List.forall_mem_cons.mpr ⟨⟨sim_static (y := 169) d170_224 (Or.inl kw1201) kw1202 mo169, gr_Call 169 2 227⟩,
  List.forall_mem_cons.mpr ⟨⟨sim_ireturn d170_227 rfl, gr_RetI⟩,
  List.forall_mem_cons.mpr ⟨⟨sim_aload_n d170_228 rfl, gr_LdA 0 229⟩,
  List.forall_mem_cons.mpr ⟨⟨sim_aload_n d170_229 rfl, gr_LdA 0 230⟩,
  List.forall_mem_cons.mpr ⟨⟨sim_getF d170_230 gf175, gr_GetF (fun k => k = 11) 21 233⟩,
  List.forall_mem_cons.mpr ⟨⟨sim_iconst d170_233 (by decide), gr_Push (.int 0) 234⟩,
  List.forall_mem_cons.mpr ⟨⟨sim_iaload d170_234, gr_ALdI 235⟩,
  List.forall_mem_cons.mpr ⟨⟨sim_aload_n d170_235 rfl, gr_LdA 0 236⟩,
  List.forall_mem_cons.mpr ⟨⟨sim_getF d170_236 gf158, gr_GetF (fun k => k = 11) 4 239⟩,
  List.forall_mem_cons.mpr ⟨⟨sim_iload_n d170_239 rfl, gr_LdI 2 240⟩,
  List.forall_mem_cons.mpr ⟨⟨sim_iload_n d170_240 rfl, gr_LdI 3 241⟩,
  List.forall_mem_cons.mpr ⟨⟨sim_virtual d170_241 vk117, gr_CalV (fun k => if k = 11 then some 163 else none) 4 244⟩,
  List.forall_mem_cons.mpr ⟨⟨sim_lstore d170_244 (by decide), gr_StL 5 246⟩,
  List.forall_mem_cons.mpr ⟨⟨sim_lload d170_246, gr_LdL 5 248⟩,
  List.forall_mem_cons.mpr ⟨⟨sim_aload_n d170_248 rfl, gr_LdA 0 249⟩,
  List.forall_mem_cons.mpr ⟨⟨sim_getL d170_249 gf172, gr_GetL (fun k => k = 11) 20 252⟩,
  List.forall_mem_cons.mpr ⟨⟨sim_land d170_252, gr_LL (fun x y => x &&& y) 253⟩,
  List.forall_mem_cons.mpr ⟨⟨sim_lconst d170_253 (by decide), gr_Push (.long 0) 254⟩,
  List.forall_mem_cons.mpr ⟨⟨sim_lcmp d170_254, gr_Lcmp 255⟩,
  List.forall_mem_cons.mpr ⟨⟨sim_if_eq d170_255 (by decide), gr_If (fun x => x = 0) 267 258⟩,
  List.forall_mem_cons.mpr ⟨⟨sim_bipush d170_258 (by decide), gr_Push (.int 6) 260⟩,
  List.forall_mem_cons.mpr ⟨⟨sim_iload_n d170_260 rfl, gr_LdI 3 261⟩,
  List.forall_mem_cons.mpr ⟨⟨sim_static (y := 169) d170_261 (Or.inl kw1201) kw1202 mo169, gr_Call 169 2 264⟩,
  List.forall_mem_cons.mpr ⟨⟨sim_goto d170_264 (by decide), gr_Go 273⟩,
  List.forall_mem_cons.mpr ⟨⟨sim_aload_n d170_267 rfl, gr_LdA 0 268⟩,
  List.forall_mem_cons.mpr ⟨⟨sim_lload d170_268, gr_LdL 5 270⟩,
  List.forall_mem_cons.mpr ⟨⟨sim_virtual d170_270 vk121, gr_CalV (fun k => if k = 11 then some 165 else none) 1 273⟩,
  List.forall_mem_cons.mpr ⟨⟨sim_ireturn d170_273 rfl, gr_RetI⟩, fun _ h => absurd h List.not_mem_nil⟩⟩⟩⟩⟩⟩⟩⟩⟩⟩⟩⟩⟩⟩⟩⟩⟩⟩⟩⟩⟩⟩⟩⟩⟩⟩⟩⟩⟩⟩⟩⟩⟩⟩⟩⟩⟩
noncomputable def pg170 : List (Nat × aP) := pg170_0 ++ (pg170_1 ++ (pg170_2 ++ (pg170_3)))
theorem ok170 : ∀ q ∈ pg170, Sim mT mt170 q.1 q.2 ∧ Grow q.2 := List.forall_mem_append.mpr ⟨ok170_0, List.forall_mem_append.mpr ⟨ok170_1, List.forall_mem_append.mpr ⟨ok170_2, ok170_3⟩⟩⟩
theorem d171_0 : decode mt171.2.1 0 = .ok (.aload_n 0, 1) := by decide +kernel
theorem d171_1 : decode mt171.2.1 1 = .ok (.getfield 7, 3) := by decide +kernel
theorem d171_4 : decode mt171.2.1 4 = .ok (.iload_n 1, 1) := by decide +kernel
theorem d171_5 : decode mt171.2.1 5 = .ok (.iaload, 1) := by decide +kernel
theorem d171_6 : decode mt171.2.1 6 = .ok (.ifCond .ge 7, 3) := by decide +kernel
theorem d171_9 : decode mt171.2.1 9 = .ok (.iconst 1, 1) := by decide +kernel
theorem d171_10 : decode mt171.2.1 10 = .ok (.goto 28, 3) := by decide +kernel
theorem d171_13 : decode mt171.2.1 13 = .ok (.iload_n 2, 1) := by decide +kernel
theorem d171_14 : decode mt171.2.1 14 = .ok (.ifCond .lt 19, 3) := by decide +kernel
theorem d171_17 : decode mt171.2.1 17 = .ok (.iload_n 2, 1) := by decide +kernel
theorem d171_18 : decode mt171.2.1 18 = .ok (.i2l, 1) := by decide +kernel
theorem d171_19 : decode mt171.2.1 19 = .ok (.iload_n 3, 1) := by decide +kernel
theorem d171_20 : decode mt171.2.1 20 = .ok (.i2l, 1) := by decide +kernel
theorem d171_21 : decode mt171.2.1 21 = .ok (.ladd, 1) := by decide +kernel
theorem d171_22 : decode mt171.2.1 22 = .ok (.aload_n 0, 1) := by decide +kernel
theorem d171_23 : decode mt171.2.1 23 = .ok (.getfield 13, 3) := by decide +kernel
theorem d171_26 : decode mt171.2.1 26 = .ok (.iload_n 1, 1) := by decide +kernel
theorem d171_27 : decode mt171.2.1 27 = .ok (.iaload, 1) := by decide +kernel
theorem d171_28 : decode mt171.2.1 28 = .ok (.i2l, 1) := by decide +kernel
theorem d171_29 : decode mt171.2.1 29 = .ok (.lcmp, 1) := by decide +kernel
theorem d171_30 : decode mt171.2.1 30 = .ok (.ifCond .le 7, 3) := by decide +kernel
theorem d171_33 : decode mt171.2.1 33 = .ok (.iconst 2, 1) := by decide +kernel
theorem d171_34 : decode mt171.2.1 34 = .ok (.goto 4, 3) := by decide +kernel
theorem d171_37 : decode mt171.2.1 37 = .ok (.iconst 0, 1) := by decide +kernel
theorem d171_38 : decode mt171.2.1 38 = .ok (.ireturn, 1) := by decide +kernel
noncomputable def pg171_0 : List (Nat × aP) := [(0, oLdA 0 1),
  (1, oGetF (fun k => k = 11) 2 4),
  (4, oLdI 1 5),
  (5, oALdI 6),
  (6, oIf (fun x => 0 ≤ x) 13 9),
  (9, oPush (.int 1) 10),
  (10, oGo 38),
  (13, oLdI 2 14),
  (14, oIf (fun x => x < 0) 33 17),
  (17, oLdI 2 18),
  (18, oIL (fun x => x.toInt64) 19),
  (19, oLdI 3 20),
  (20, oIL (fun x => x.toInt64) 21),
  (21, oLL (fun x y => x + y) 22),
  (22, oLdA 0 23),
  (23, oGetF (fun k => k = 11) 3 26),
  (26, oLdI 1 27),
  (27, oALdI 28),
  (28, oIL (fun x => x.toInt64) 29),
  (29, oLcmp 30),
  (30, oIf (fun x => x ≤ 0) 37 33),
  (33, oPush (.int 2) 34),
  (34, oGo 38),
  (37, oPush (.int 0) 38),
  (38, oRetI)]
theorem ok171_0 : ∀ q ∈ pg171_0, Sim mT mt171 q.1 q.2 ∧ Grow q.2 :=
  List.forall_mem_cons.mpr ⟨⟨sim_aload_n d171_0 rfl, gr_LdA 0 1⟩,
  List.forall_mem_cons.mpr ⟨⟨sim_getF d171_1 gf156, gr_GetF (fun k => k = 11) 2 4⟩,
  List.forall_mem_cons.mpr ⟨⟨sim_iload_n d171_4 rfl, gr_LdI 1 5⟩,
  List.forall_mem_cons.mpr ⟨⟨sim_iaload d171_5, gr_ALdI 6⟩,
  List.forall_mem_cons.mpr ⟨⟨sim_if_ge d171_6 (by decide), gr_If (fun x => 0 ≤ x) 13 9⟩,
  List.forall_mem_cons.mpr ⟨⟨sim_iconst d171_9 (by decide), gr_Push (.int 1) 10⟩,
  List.forall_mem_cons.mpr ⟨⟨sim_goto d171_10 (by decide), gr_Go 38⟩,
  List.forall_mem_cons.mpr ⟨⟨sim_iload_n d171_13 rfl, gr_LdI 2 14⟩,
  List.forall_mem_cons.mpr ⟨⟨sim_if_lt d171_14 (by decide), gr_If (fun x => x < 0) 33 17⟩,
  List.forall_mem_cons.mpr ⟨⟨sim_iload_n d171_17 rfl, gr_LdI 2 18⟩,
  List.forall_mem_cons.mpr ⟨⟨sim_i2l d171_18, gr_IL (fun x => x.toInt64) 19⟩,
  List.forall_mem_cons.mpr ⟨⟨sim_iload_n d171_19 rfl, gr_LdI 3 20⟩,
  List.forall_mem_cons.mpr ⟨⟨sim_i2l d171_20, gr_IL (fun x => x.toInt64) 21⟩,
  List.forall_mem_cons.mpr ⟨⟨sim_ladd d171_21, gr_LL (fun x y => x + y) 22⟩,
  List.forall_mem_cons.mpr ⟨⟨sim_aload_n d171_22 rfl, gr_LdA 0 23⟩,
  List.forall_mem_cons.mpr ⟨⟨sim_getF d171_23 gf157, gr_GetF (fun k => k = 11) 3 26⟩,
  List.forall_mem_cons.mpr ⟨⟨sim_iload_n d171_26 rfl, gr_LdI 1 27⟩,
  List.forall_mem_cons.mpr ⟨⟨sim_iaload d171_27, gr_ALdI 28⟩,
  List.forall_mem_cons.mpr ⟨⟨sim_i2l d171_28, gr_IL (fun x => x.toInt64) 29⟩,
  List.forall_mem_cons.mpr ⟨⟨sim_lcmp d171_29, gr_Lcmp 30⟩,
  List.forall_mem_cons.mpr ⟨⟨sim_if_le d171_30 (by decide), gr_If (fun x => x ≤ 0) 37 33⟩,
  List.forall_mem_cons.mpr ⟨⟨sim_iconst d171_33 (by decide), gr_Push (.int 2) 34⟩,
  List.forall_mem_cons.mpr ⟨⟨sim_goto d171_34 (by decide), gr_Go 38⟩,
  List.forall_mem_cons.mpr ⟨⟨sim_iconst d171_37 (by decide), gr_Push (.int 0) 38⟩,
  List.forall_mem_cons.mpr ⟨⟨sim_ireturn d171_38 rfl, gr_RetI⟩, fun _ h => absurd h List.not_mem_nil⟩⟩⟩⟩⟩⟩⟩⟩⟩⟩⟩⟩⟩⟩⟩⟩⟩⟩⟩⟩⟩⟩⟩⟩⟩
noncomputable def pg171 : List (Nat × aP) := pg171_0
theorem ok171 : ∀ q ∈ pg171, Sim mT mt171 q.1 q.2 ∧ Grow q.2 := ok171_0
theorem d172_0 : decode mt172.2.1 0 = .ok (.aload_n 0, 1) := by decide +kernel
theorem d172_1 : decode mt172.2.1 1 = .ok (.iload_n 1, 1) := by decide +kernel
theorem d172_2 : decode mt172.2.1 2 = .ok (.iload_n 2, 1) := by decide +kernel
theorem d172_3 : decode mt172.2.1 3 = .ok (.iload_n 3, 1) := by decide +kernel
theorem d172_4 : decode mt172.2.1 4 = .ok (.invokevirtual 238, 3) := by decide +kernel
theorem d172_7 : decode mt172.2.1 7 = .ok (.istore 4, 2) := by decide +kernel
theorem d172_9 : decode mt172.2.1 9 = .ok (.iload 4, 2) := by decide +kernel
theorem d172_11 : decode mt172.2.1 11 = .ok (.ifCond .le 10, 3) := by decide +kernel
theorem d172_14 : decode mt172.2.1 14 = .ok (.aload_n 0, 1) := by decide +kernel
theorem d172_15 : decode mt172.2.1 15 = .ok (.iload 4, 2) := by decide +kernel
theorem d172_17 : decode mt172.2.1 17 = .ok (.invokevirtual 95, 3) := by decide +kernel
theorem d172_20 : decode mt172.2.1 20 = .ok (.ireturn, 1) := by decide +kernel
theorem d172_21 : decode mt172.2.1 21 = .ok (.iconst 0, 1) := by decide +kernel
theorem d172_22 : decode mt172.2.1 22 = .ok (.istore 5, 2) := by decide +kernel
theorem d172_24 : decode mt172.2.1 24 = .ok (.iload 5, 2) := by decide +kernel
theorem d172_26 : decode mt172.2.1 26 = .ok (.iload_n 3, 1) := by decide +kernel
theorem d172_27 : decode mt172.2.1 27 = .ok (.if_icmp .ge 37, 3) := by decide +kernel
theorem d172_30 : decode mt172.2.1 30 = .ok (.aload_n 0, 1) := by decide +kernel
theorem d172_31 : decode mt172.2.1 31 = .ok (.getfield 16, 3) := by decide +kernel
theorem d172_34 : decode mt172.2.1 34 = .ok (.bipush 40, 2) := by decide +kernel
theorem d172_36 : decode mt172.2.1 36 = .ok (.iload_n 1, 1) := by decide +kernel
theorem d172_37 : decode mt172.2.1 37 = .ok (.imul, 1) := by decide +kernel
theorem d172_38 : decode mt172.2.1 38 = .ok (.iload_n 2, 1) := by decide +kernel
theorem d172_39 : decode mt172.2.1 39 = .ok (.iadd, 1) := by decide +kernel
theorem d172_40 : decode mt172.2.1 40 = .ok (.iload 5, 2) := by decide +kernel
theorem d172_42 : decode mt172.2.1 42 = .ok (.iadd, 1) := by decide +kernel
theorem d172_43 : decode mt172.2.1 43 = .ok (.iaload, 1) := by decide +kernel
theorem d172_44 : decode mt172.2.1 44 = .ok (.i2l, 1) := by decide +kernel
theorem d172_45 : decode mt172.2.1 45 = .ok (.lconst 0, 1) := by decide +kernel
theorem d172_46 : decode mt172.2.1 46 = .ok (.ldc2_w 225, 3) := by decide +kernel
theorem d172_49 : decode mt172.2.1 49 = .ok (.invokestatic 84, 3) := by decide +kernel
theorem d172_52 : decode mt172.2.1 52 = .ok (.ifCond .ne 6, 3) := by decide +kernel
theorem d172_55 : decode mt172.2.1 55 = .ok (.ldc 94, 2) := by decide +kernel
theorem d172_57 : decode mt172.2.1 57 = .ok (.ireturn, 1) := by decide +kernel
theorem d172_58 : decode mt172.2.1 58 = .ok (.iinc 5 1, 3) := by decide +kernel
theorem d172_61 : decode mt172.2.1 61 = .ok (.goto (-37), 3) := by decide +kernel
theorem d172_64 : decode mt172.2.1 64 = .ok (.aload_n 0, 1) := by decide +kernel
theorem d172_65 : decode mt172.2.1 65 = .ok (.iconst 0, 1) := by decide +kernel
theorem d172_66 : decode mt172.2.1 66 = .ok (.putfield 78, 3) := by decide +kernel
theorem d172_69 : decode mt172.2.1 69 = .ok (.iconst 0, 1) := by decide +kernel
theorem d172_70 : decode mt172.2.1 70 = .ok (.ireturn, 1) := by decide +kernel
noncomputable def pg172_0 : List (Nat × aP) := [(0, oLdA 0 1),
  (1, oLdI 1 2),
  (2, oLdI 2 3),
  (3, oLdI 3 4),
  (4, oCalV (fun k => if k = 11 then some 171 else none) 3 7),
  (7, oStI 4 9),
  (9, oLdI 4 11),
  (11, oIf (fun x => x ≤ 0) 21 14),
  (14, oLdA 0 15),
  (15, oLdI 4 17),
  (17, oCalV (fun k => if k = 11 then some 132 else none) 1 20),
  (20, oRetI),
  (21, oPush (.int 0) 22),
  (22, oStI 5 24),
  (24, oLdI 5 26),
  (26, oLdI 3 27),
  (27, oIc (fun x y => y ≤ x) 64 30),
  (30, oLdA 0 31),
  (31, oGetF (fun k => k = 11) 4 34),
  (34, oPush (.int 40) 36),
  (36, oLdI 1 37),
  (37, oII (fun x y => x * y) 38),
  (38, oLdI 2 39),
  (39, oII (fun x y => x + y) 40),
  (40, oLdI 5 42),
  (42, oII (fun x y => x + y) 43),
  (43, oALdI 44),
  (44, oIL (fun x => x.toInt64) 45),
  (45, oPush (.long 0) 46),
  (46, oPush (.long 3) 49),
  (49, oCall 131 3 52),
  (52, oIf (fun x => ¬ x = 0) 58 55),
  (55, oPush (.int (-1000001)) 57),
  (57, oRetI),
  (58, oInc 5 1 61),
  (61, oGo 24),
  (64, oLdA 0 65),
  (65, oPush (.int 0) 66),
  (66, oPutI (fun k => k = 11) 1 69),
  (69, oPush (.int 0) 70)]
theorem ok172_0 : ∀ q ∈ pg172_0, Sim mT mt172 q.1 q.2 ∧ Grow q.2 :=
  List.forall_mem_cons.mpr ⟨⟨sim_aload_n d172_0 rfl, gr_LdA 0 1⟩,
  List.forall_mem_cons.mpr ⟨⟨sim_iload_n d172_1 rfl, gr_LdI 1 2⟩,
  List.forall_mem_cons.mpr ⟨⟨sim_iload_n d172_2 rfl, gr_LdI 2 3⟩,
  List.forall_mem_cons.mpr ⟨⟨sim_iload_n d172_3 rfl, gr_LdI 3 4⟩,
  List.forall_mem_cons.mpr ⟨⟨sim_virtual d172_4 vk122, gr_CalV (fun k => if k = 11 then some 171 else none) 3 7⟩,
  List.forall_mem_cons.mpr ⟨⟨sim_istore d172_7 (by decide), gr_StI 4 9⟩,
  List.forall_mem_cons.mpr ⟨⟨sim_iload d172_9, gr_LdI 4 11⟩,
  List.forall_mem_cons.mpr ⟨⟨sim_if_le d172_11 (by decide), gr_If (fun x => x ≤ 0) 21 14⟩,
  List.forall_mem_cons.mpr ⟨⟨sim_aload_n d172_14 rfl, gr_LdA 0 15⟩,
  List.forall_mem_cons.mpr ⟨⟨sim_iload d172_15, gr_LdI 4 17⟩,
  List.forall_mem_cons.mpr ⟨⟨sim_virtual d172_17 vk99, gr_CalV (fun k => if k = 11 then some 132 else none) 1 20⟩,
  List.forall_mem_cons.mpr ⟨⟨sim_ireturn d172_20 rfl, gr_RetI⟩,
  List.forall_mem_cons.mpr ⟨⟨sim_iconst d172_21 (by decide), gr_Push (.int 0) 22⟩,
  List.forall_mem_cons.mpr ⟨⟨sim_istore d172_22 (by decide), gr_StI 5 24⟩,
  List.forall_mem_cons.mpr ⟨⟨sim_iload d172_24, gr_LdI 5 26⟩,
  List.forall_mem_cons.mpr ⟨⟨sim_iload_n d172_26 rfl, gr_LdI 3 27⟩,
  List.forall_mem_cons.mpr ⟨⟨sim_icmp_ge d172_27 (by decide), gr_Ic (fun x y => y ≤ x) 64 30⟩,
  List.forall_mem_cons.mpr ⟨⟨sim_aload_n d172_30 rfl, gr_LdA 0 31⟩,
  List.forall_mem_cons.mpr ⟨⟨sim_getF d172_31 gf158, gr_GetF (fun k => k = 11) 4 34⟩,
  List.forall_mem_cons.mpr ⟨⟨sim_bipush d172_34 (by decide), gr_Push (.int 40) 36⟩,
  List.forall_mem_cons.mpr ⟨⟨sim_iload_n d172_36 rfl, gr_LdI 1 37⟩,
  List.forall_mem_cons.mpr ⟨⟨sim_imul d172_37, gr_II (fun x y => x * y) 38⟩,
  List.forall_mem_cons.mpr ⟨⟨sim_iload_n d172_38 rfl, gr_LdI 2 39⟩,
  List.forall_mem_cons.mpr ⟨⟨sim_iadd d172_39, gr_II (fun x y => x + y) 40⟩,
  List.forall_mem_cons.mpr ⟨⟨sim_iload d172_40, gr_LdI 5 42⟩,
  List.forall_mem_cons.mpr ⟨⟨sim_iadd d172_42, gr_II (fun x y => x + y) 43⟩,
  List.forall_mem_cons.mpr ⟨⟨sim_iaload d172_43, gr_ALdI 44⟩,
  List.forall_mem_cons.mpr ⟨⟨sim_i2l d172_44, gr_IL (fun x => x.toInt64) 45⟩,
  List.forall_mem_cons.mpr ⟨⟨sim_lconst d172_45 (by decide), gr_Push (.long 0) 46⟩,
  List.forall_mem_cons.mpr ⟨⟨sim_ldc2 d172_46 kw1168, gr_Push (.long 3) 49⟩,
  List.forall_mem_cons.mpr ⟨⟨sim_static (y := 131) d172_49 (Or.inl kw1038) kw1039 mo131, gr_Call 131 3 52⟩,
  List.forall_mem_cons.mpr ⟨⟨sim_if_ne d172_52 (by decide), gr_If (fun x => ¬ x = 0) 58 55⟩,
  List.forall_mem_cons.mpr ⟨⟨sim_ldc d172_55 kw1042, gr_Push (.int (-1000001)) 57⟩,
  List.forall_mem_cons.mpr ⟨⟨sim_ireturn d172_57 rfl, gr_RetI⟩,
  List.forall_mem_cons.mpr ⟨⟨sim_iinc d172_58 (by decide) (by decide), gr_Inc 5 1 61⟩,
  List.forall_mem_cons.mpr ⟨⟨sim_goto d172_61 (by decide), gr_Go 24⟩,
  List.forall_mem_cons.mpr ⟨⟨sim_aload_n d172_64 rfl, gr_LdA 0 65⟩,
  List.forall_mem_cons.mpr ⟨⟨sim_iconst d172_65 (by decide), gr_Push (.int 0) 66⟩,
  List.forall_mem_cons.mpr ⟨⟨sim_putI d172_66 gf154w, gr_PutI (fun k => k = 11) 1 69⟩,
  List.forall_mem_cons.mpr ⟨⟨sim_iconst d172_69 (by decide), gr_Push (.int 0) 70⟩, fun _ h => absurd h List.not_mem_nil⟩⟩⟩⟩⟩⟩⟩⟩⟩⟩⟩⟩⟩⟩⟩⟩⟩⟩⟩⟩⟩⟩⟩⟩⟩⟩⟩⟩⟩⟩⟩⟩⟩⟩⟩⟩⟩⟩⟩⟩
noncomputable def pg172_1 : List (Nat × aP) := [(70, oRetI)]
theorem ok172_1 : ∀ q ∈ pg172_1, Sim mT mt172 q.1 q.2 ∧ Grow q.2 :=
  List.forall_mem_cons.mpr ⟨⟨sim_ireturn d172_70 rfl, gr_RetI⟩, fun _ h => absurd h List.not_mem_nil⟩
noncomputable def pg172 : List (Nat × aP) := pg172_0 ++ (pg172_1)
theorem ok172 : ∀ q ∈ pg172, Sim mT mt172 q.1 q.2 ∧ Grow q.2 := List.forall_mem_append.mpr ⟨ok172_0, ok172_1⟩
theorem d173_0 : decode mt173.2.1 0 = .ok (.iload_n 0, 1) := by decide +kernel
theorem d173_1 : decode mt173.2.1 1 = .ok (.i2l, 1) := by decide +kernel
theorem d173_2 : decode mt173.2.1 2 = .ok (.lconst 0, 1) := by decide +kernel
theorem d173_3 : decode mt173.2.1 3 = .ok (.ldc2_w 242, 3) := by decide +kernel
theorem d173_6 : decode mt173.2.1 6 = .ok (.invokestatic 84, 3) := by decide +kernel
theorem d173_9 : decode mt173.2.1 9 = .ok (.ireturn, 1) := by decide +kernel
noncomputable def pg173_0 : List (Nat × aP) := [(0, oLdI 0 1),
  (1, oIL (fun x => x.toInt64) 2),
  (2, oPush (.long 0) 3),
  (3, oPush (.long 20) 6),
  (6, oCall 131 3 9),
  (9, oRetN .boolean)]
theorem ok173_0 : ∀ q ∈ pg173_0, Sim mT mt173 q.1 q.2 ∧ Grow q.2 :=
  List.forall_mem_cons.mpr ⟨⟨sim_iload_n d173_0 rfl, gr_LdI 0 1⟩,
  List.forall_mem_cons.mpr ⟨⟨sim_i2l d173_1, gr_IL (fun x => x.toInt64) 2⟩,
  List.forall_mem_cons.mpr ⟨⟨sim_lconst d173_2 (by decide), gr_Push (.long 0) 3⟩,
  List.forall_mem_cons.mpr ⟨⟨sim_ldc2 d173_3 kw1188, gr_Push (.long 20) 6⟩,
  List.forall_mem_cons.mpr ⟨⟨sim_static (y := 131) d173_6 (Or.inl kw1038) kw1039 mo131, gr_Call 131 3 9⟩,
  List.forall_mem_cons.mpr ⟨⟨sim_nreturn d173_9 rfl (fun _ h => congrArg Value.int h), gr_RetN .boolean⟩, fun _ h => absurd h List.not_mem_nil⟩⟩⟩⟩⟩⟩
noncomputable def pg173 : List (Nat × aP) := pg173_0
theorem ok173 : ∀ q ∈ pg173, Sim mT mt173 q.1 q.2 ∧ Grow q.2 := ok173_0
theorem d174_0 : decode mt174.2.1 0 = .ok (.aload_n 0, 1) := by decide +kernel
theorem d174_1 : decode mt174.2.1 1 = .ok (.iconst 0, 1) := by decide +kernel
theorem d174_2 : decode mt174.2.1 2 = .ok (.putfield 74, 3) := by decide +kernel
theorem d174_5 : decode mt174.2.1 5 = .ok (.aload_n 0, 1) := by decide +kernel
theorem d174_6 : decode mt174.2.1 6 = .ok (.iload_n 1, 1) := by decide +kernel
theorem d174_7 : decode mt174.2.1 7 = .ok (.invokevirtual 244, 3) := by decide +kernel
theorem d174_10 : decode mt174.2.1 10 = .ok (.ifCond .eq 18, 3) := by decide +kernel
theorem d174_13 : decode mt174.2.1 13 = .ok (.iload_n 2, 1) := by decide +kernel
theorem d174_14 : decode mt174.2.1 14 = .ok (.invokestatic 88, 3) := by decide +kernel
theorem d174_17 : decode mt174.2.1 17 = .ok (.ifCond .eq 11, 3) := by decide +kernel
theorem d174_20 : decode mt174.2.1 20 = .ok (.iload 4, 2) := by decide +kernel
theorem d174_22 : decode mt174.2.1 22 = .ok (.invokestatic 247, 3) := by decide +kernel
theorem d174_25 : decode mt174.2.1 25 = .ok (.ifCond .ne 6, 3) := by decide +kernel
theorem d174_28 : decode mt174.2.1 28 = .ok (.ldc 94, 2) := by decide +kernel
theorem d174_30 : decode mt174.2.1 30 = .ok (.ireturn, 1) := by decide +kernel
theorem d174_31 : decode mt174.2.1 31 = .ok (.aload_n 0, 1) := by decide +kernel
theorem d174_32 : decode mt174.2.1 32 = .ok (.iload_n 2, 1) := by decide +kernel
theorem d174_33 : decode mt174.2.1 33 = .ok (.iload_n 3, 1) := by decide +kernel
theorem d174_34 : decode mt174.2.1 34 = .ok (.iload 4, 2) := by decide +kernel
theorem d174_36 : decode mt174.2.1 36 = .ok (.invokevirtual 250, 3) := by decide +kernel
theorem d174_39 : decode mt174.2.1 39 = .ok (.istore 5, 2) := by decide +kernel
theorem d174_41 : decode mt174.2.1 41 = .ok (.iload 5, 2) := by decide +kernel
theorem d174_43 : decode mt174.2.1 43 = .ok (.ifCond .eq 8, 3) := by decide +kernel
theorem d174_46 : decode mt174.2.1 46 = .ok (.iload 5, 2) := by decide +kernel
theorem d174_48 : decode mt174.2.1 48 = .ok (.goto 16, 3) := by decide +kernel
theorem d174_51 : decode mt174.2.1 51 = .ok (.aload_n 0, 1) := by decide +kernel
theorem d174_52 : decode mt174.2.1 52 = .ok (.iload_n 1, 1) := by decide +kernel
theorem d174_53 : decode mt174.2.1 53 = .ok (.bipush 40, 2) := by decide +kernel
theorem d174_55 : decode mt174.2.1 55 = .ok (.iload_n 2, 1) := by decide +kernel
theorem d174_56 : decode mt174.2.1 56 = .ok (.imul, 1) := by decide +kernel
theorem d174_57 : decode mt174.2.1 57 = .ok (.iload_n 3, 1) := by decide +kernel
theorem d174_58 : decode mt174.2.1 58 = .ok (.iadd, 1) := by decide +kernel
theorem d174_59 : decode mt174.2.1 59 = .ok (.iload 4, 2) := by decide +kernel
theorem d174_61 : decode mt174.2.1 61 = .ok (.invokevirtual 253, 3) := by decide +kernel
theorem d174_64 : decode mt174.2.1 64 = .ok (.ireturn, 1) := by decide +kernel
noncomputable def pg174_0 : List (Nat × aP) := [(0, oLdA 0 1),
  (1, oPush (.int 0) 2),
  (2, oPutI (fun k => k = 11) 0 5),
  (5, oLdA 0 6),
  (6, oLdI 1 7),
  (7, oCalV (fun k => if k = 11 then some 160 else none) 1 10),
  (10, oIf (fun x => x = 0) 28 13),
  (13, oLdI 2 14),
  (14, oCall 133 1 17),
  (17, oIf (fun x => x = 0) 28 20),
  (20, oLdI 4 22),
  (22, oCall 173 1 25),
  (25, oIf (fun x => ¬ x = 0) 31 28),
  (28, oPush (.int (-1000001)) 30),
  (30, oRetI),
  (31, oLdA 0 32),
  (32, oLdI 2 33),
  (33, oLdI 3 34),
  (34, oLdI 4 36),
  (36, oCalV (fun k => if k = 11 then some 172 else none) 3 39),
  (39, oStI 5 41),
  (41, oLdI 5 43),
  (43, oIf (fun x => x = 0) 51 46),
  (46, oLdI 5 48),
  (48, oGo 64),
  (51, oLdA 0 52),
  (52, oLdI 1 53),
  (53, oPush (.int 40) 55),
  (55, oLdI 2 56),
  (56, oII (fun x y => x * y) 57),
  (57, oLdI 3 58),
  (58, oII (fun x y => x + y) 59),
  (59, oLdI 4 61),
  (61, oCalV (fun k => if k = 11 then some 170 else none) 3 64),
  (64, oRetI)]
theorem ok174_0 : ∀ q ∈ pg174_0, Sim mT mt174 q.1 q.2 ∧ Grow q.2 :=
  List.forall_mem_cons.mpr ⟨⟨sim_aload_n d174_0 rfl, gr_LdA 0 1⟩,
  List.forall_mem_cons.mpr ⟨⟨sim_iconst d174_1 (by decide), gr_Push (.int 0) 2⟩,
  List.forall_mem_cons.mpr ⟨⟨sim_putI d174_2 gf155w, gr_PutI (fun k => k = 11) 0 5⟩,
  List.forall_mem_cons.mpr ⟨⟨sim_aload_n d174_5 rfl, gr_LdA 0 6⟩,
  List.forall_mem_cons.mpr ⟨⟨sim_iload_n d174_6 rfl, gr_LdI 1 7⟩,
  List.forall_mem_cons.mpr ⟨⟨sim_virtual d174_7 vk123, gr_CalV (fun k => if k = 11 then some 160 else none) 1 10⟩,
  List.forall_mem_cons.mpr ⟨⟨sim_if_eq d174_10 (by decide), gr_If (fun x => x = 0) 28 13⟩,
  List.forall_mem_cons.mpr ⟨⟨sim_iload_n d174_13 rfl, gr_LdI 2 14⟩,
  List.forall_mem_cons.mpr ⟨⟨sim_static (y := 133) d174_14 (Or.inl kw1034) kw1035 mo133, gr_Call 133 1 17⟩,
  List.forall_mem_cons.mpr ⟨⟨sim_if_eq d174_17 (by decide), gr_If (fun x => x = 0) 28 20⟩,
  List.forall_mem_cons.mpr ⟨⟨sim_iload d174_20, gr_LdI 4 22⟩,
  List.forall_mem_cons.mpr ⟨⟨sim_static (y := 173) d174_22 (Or.inl kw1185) kw1186 mo173, gr_Call 173 1 25⟩,
  List.forall_mem_cons.mpr ⟨⟨sim_if_ne d174_25 (by decide), gr_If (fun x => ¬ x = 0) 31 28⟩,
  List.forall_mem_cons.mpr ⟨⟨sim_ldc d174_28 kw1042, gr_Push (.int (-1000001)) 30⟩,
  List.forall_mem_cons.mpr ⟨⟨sim_ireturn d174_30 rfl, gr_RetI⟩,
  List.forall_mem_cons.mpr ⟨⟨sim_aload_n d174_31 rfl, gr_LdA 0 32⟩,
  List.forall_mem_cons.mpr ⟨⟨sim_iload_n d174_32 rfl, gr_LdI 2 33⟩,
  List.forall_mem_cons.mpr ⟨⟨sim_iload_n d174_33 rfl, gr_LdI 3 34⟩,
  List.forall_mem_cons.mpr ⟨⟨sim_iload d174_34, gr_LdI 4 36⟩,
  List.forall_mem_cons.mpr ⟨⟨sim_virtual d174_36 vk124, gr_CalV (fun k => if k = 11 then some 172 else none) 3 39⟩,
  List.forall_mem_cons.mpr ⟨⟨sim_istore d174_39 (by decide), gr_StI 5 41⟩,
  List.forall_mem_cons.mpr ⟨⟨sim_iload d174_41, gr_LdI 5 43⟩,
  List.forall_mem_cons.mpr ⟨⟨sim_if_eq d174_43 (by decide), gr_If (fun x => x = 0) 51 46⟩,
  List.forall_mem_cons.mpr ⟨⟨sim_iload d174_46, gr_LdI 5 48⟩,
  List.forall_mem_cons.mpr ⟨⟨sim_goto d174_48 (by decide), gr_Go 64⟩,
  List.forall_mem_cons.mpr ⟨⟨sim_aload_n d174_51 rfl, gr_LdA 0 52⟩,
  List.forall_mem_cons.mpr ⟨⟨sim_iload_n d174_52 rfl, gr_LdI 1 53⟩,
  List.forall_mem_cons.mpr ⟨⟨sim_bipush d174_53 (by decide), gr_Push (.int 40) 55⟩,
  List.forall_mem_cons.mpr ⟨⟨sim_iload_n d174_55 rfl, gr_LdI 2 56⟩,
  List.forall_mem_cons.mpr ⟨⟨sim_imul d174_56, gr_II (fun x y => x * y) 57⟩,
  List.forall_mem_cons.mpr ⟨⟨sim_iload_n d174_57 rfl, gr_LdI 3 58⟩,
  List.forall_mem_cons.mpr ⟨⟨sim_iadd d174_58, gr_II (fun x y => x + y) 59⟩,
  List.forall_mem_cons.mpr ⟨⟨sim_iload d174_59, gr_LdI 4 61⟩,
  List.forall_mem_cons.mpr ⟨⟨sim_virtual d174_61 vk125, gr_CalV (fun k => if k = 11 then some 170 else none) 3 64⟩,
  List.forall_mem_cons.mpr ⟨⟨sim_ireturn d174_64 rfl, gr_RetI⟩, fun _ h => absurd h List.not_mem_nil⟩⟩⟩⟩⟩⟩⟩⟩⟩⟩⟩⟩⟩⟩⟩⟩⟩⟩⟩⟩⟩⟩⟩⟩⟩⟩⟩⟩⟩⟩⟩⟩⟩⟩⟩
noncomputable def pg174 : List (Nat × aP) := pg174_0
theorem ok174 : ∀ q ∈ pg174, Sim mT mt174 q.1 q.2 ∧ Grow q.2 := ok174_0
