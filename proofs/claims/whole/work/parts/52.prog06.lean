theorem d175_0 : decode mt175.2.1 0 = .ok (.aload_n 0, 1) := by decide +kernel
theorem d175_1 : decode mt175.2.1 1 = .ok (.getfield 19, 3) := by decide +kernel
theorem d175_4 : decode mt175.2.1 4 = .ok (.bipush 110, 2) := by decide +kernel
theorem d175_6 : decode mt175.2.1 6 = .ok (.bipush 21, 2) := by decide +kernel
theorem d175_8 : decode mt175.2.1 8 = .ok (.iload_n 1, 1) := by decide +kernel
theorem d175_9 : decode mt175.2.1 9 = .ok (.imul, 1) := by decide +kernel
theorem d175_10 : decode mt175.2.1 10 = .ok (.iadd, 1) := by decide +kernel
theorem d175_11 : decode mt175.2.1 11 = .ok (.iaload, 1) := by decide +kernel
theorem d175_12 : decode mt175.2.1 12 = .ok (.ifCond .lt 7, 3) := by decide +kernel
theorem d175_15 : decode mt175.2.1 15 = .ok (.iconst 1, 1) := by decide +kernel
theorem d175_16 : decode mt175.2.1 16 = .ok (.goto 4, 3) := by decide +kernel
theorem d175_19 : decode mt175.2.1 19 = .ok (.iconst 0, 1) := by decide +kernel
theorem d175_20 : decode mt175.2.1 20 = .ok (.ireturn, 1) := by decide +kernel
noncomputable def pg175_0 : List (Nat × aP) := [(0, oLdA 0 1),
  (1, oGetF (fun k => k = 11) 5 4),
  (4, oPush (.int 110) 6),
  (6, oPush (.int 21) 8),
  (8, oLdI 1 9),
  (9, oII (fun x y => x * y) 10),
  (10, oII (fun x y => x + y) 11),
  (11, oALdI 12),
  (12, oIf (fun x => x < 0) 19 15),
  (15, oPush (.int 1) 16),
  (16, oGo 20),
  (19, oPush (.int 0) 20),
  (20, oRetN .boolean)]
theorem ok175_0 : ∀ q ∈ pg175_0, Sim mT mt175 q.1 q.2 ∧ Grow q.2 :=
  List.forall_mem_cons.mpr ⟨⟨sim_aload_n d175_0 rfl, gr_LdA 0 1⟩,
  List.forall_mem_cons.mpr ⟨⟨sim_getF d175_1 gf171, gr_GetF (fun k => k = 11) 5 4⟩,
  List.forall_mem_cons.mpr ⟨⟨sim_bipush d175_4 (by decide), gr_Push (.int 110) 6⟩,
  List.forall_mem_cons.mpr ⟨⟨sim_bipush d175_6 (by decide), gr_Push (.int 21) 8⟩,
  List.forall_mem_cons.mpr ⟨⟨sim_iload_n d175_8 rfl, gr_LdI 1 9⟩,
  List.forall_mem_cons.mpr ⟨⟨sim_imul d175_9, gr_II (fun x y => x * y) 10⟩,
  List.forall_mem_cons.mpr ⟨⟨sim_iadd d175_10, gr_II (fun x y => x + y) 11⟩,
  List.forall_mem_cons.mpr ⟨⟨sim_iaload d175_11, gr_ALdI 12⟩,
  List.forall_mem_cons.mpr ⟨⟨sim_if_lt d175_12 (by decide), gr_If (fun x => x < 0) 19 15⟩,
  List.forall_mem_cons.mpr ⟨⟨sim_iconst d175_15 (by decide), gr_Push (.int 1) 16⟩,
  List.forall_mem_cons.mpr ⟨⟨sim_goto d175_16 (by decide), gr_Go 20⟩,
  List.forall_mem_cons.mpr ⟨⟨sim_iconst d175_19 (by decide), gr_Push (.int 0) 20⟩,
  List.forall_mem_cons.mpr ⟨⟨sim_nreturn d175_20 rfl (fun _ h => congrArg Value.int h), gr_RetN .boolean⟩, fun _ h => absurd h List.not_mem_nil⟩⟩⟩⟩⟩⟩⟩⟩⟩⟩⟩⟩⟩
noncomputable def pg175 : List (Nat × aP) := pg175_0
theorem ok175 : ∀ q ∈ pg175, Sim mT mt175 q.1 q.2 ∧ Grow q.2 := ok175_0
theorem d176_0 : decode mt176.2.1 0 = .ok (.aload_n 0, 1) := by decide +kernel
theorem d176_1 : decode mt176.2.1 1 = .ok (.iconst 0, 1) := by decide +kernel
theorem d176_2 : decode mt176.2.1 2 = .ok (.putfield 74, 3) := by decide +kernel
theorem d176_5 : decode mt176.2.1 5 = .ok (.aload_n 0, 1) := by decide +kernel
theorem d176_6 : decode mt176.2.1 6 = .ok (.iload_n 1, 1) := by decide +kernel
theorem d176_7 : decode mt176.2.1 7 = .ok (.invokevirtual 244, 3) := by decide +kernel
theorem d176_10 : decode mt176.2.1 10 = .ok (.ifCond .eq 18, 3) := by decide +kernel
theorem d176_13 : decode mt176.2.1 13 = .ok (.iload_n 2, 1) := by decide +kernel
theorem d176_14 : decode mt176.2.1 14 = .ok (.invokestatic 88, 3) := by decide +kernel
theorem d176_17 : decode mt176.2.1 17 = .ok (.ifCond .eq 11, 3) := by decide +kernel
theorem d176_20 : decode mt176.2.1 20 = .ok (.iload 4, 2) := by decide +kernel
theorem d176_22 : decode mt176.2.1 22 = .ok (.invokestatic 247, 3) := by decide +kernel
theorem d176_25 : decode mt176.2.1 25 = .ok (.ifCond .ne 6, 3) := by decide +kernel
theorem d176_28 : decode mt176.2.1 28 = .ok (.ldc 94, 2) := by decide +kernel
theorem d176_30 : decode mt176.2.1 30 = .ok (.ireturn, 1) := by decide +kernel
theorem d176_31 : decode mt176.2.1 31 = .ok (.aload_n 0, 1) := by decide +kernel
theorem d176_32 : decode mt176.2.1 32 = .ok (.iload_n 1, 1) := by decide +kernel
theorem d176_33 : decode mt176.2.1 33 = .ok (.invokevirtual 256, 3) := by decide +kernel
theorem d176_36 : decode mt176.2.1 36 = .ok (.ifCond .eq 7, 3) := by decide +kernel
theorem d176_39 : decode mt176.2.1 39 = .ok (.ldc_w 259, 3) := by decide +kernel
theorem d176_42 : decode mt176.2.1 42 = .ok (.ireturn, 1) := by decide +kernel
theorem d176_43 : decode mt176.2.1 43 = .ok (.aload_n 0, 1) := by decide +kernel
theorem d176_44 : decode mt176.2.1 44 = .ok (.iload_n 2, 1) := by decide +kernel
theorem d176_45 : decode mt176.2.1 45 = .ok (.iload_n 3, 1) := by decide +kernel
theorem d176_46 : decode mt176.2.1 46 = .ok (.iload 4, 2) := by decide +kernel
theorem d176_48 : decode mt176.2.1 48 = .ok (.invokevirtual 250, 3) := by decide +kernel
theorem d176_51 : decode mt176.2.1 51 = .ok (.istore 5, 2) := by decide +kernel
theorem d176_53 : decode mt176.2.1 53 = .ok (.iload 5, 2) := by decide +kernel
theorem d176_55 : decode mt176.2.1 55 = .ok (.ifCond .eq 6, 3) := by decide +kernel
theorem d176_58 : decode mt176.2.1 58 = .ok (.iload 5, 2) := by decide +kernel
theorem d176_60 : decode mt176.2.1 60 = .ok (.ireturn, 1) := by decide +kernel
theorem d176_61 : decode mt176.2.1 61 = .ok (.aload_n 0, 1) := by decide +kernel
theorem d176_62 : decode mt176.2.1 62 = .ok (.iload_n 1, 1) := by decide +kernel
theorem d176_63 : decode mt176.2.1 63 = .ok (.bipush 40, 2) := by decide +kernel
theorem d176_65 : decode mt176.2.1 65 = .ok (.iload_n 2, 1) := by decide +kernel
theorem d176_66 : decode mt176.2.1 66 = .ok (.imul, 1) := by decide +kernel
theorem d176_67 : decode mt176.2.1 67 = .ok (.iload_n 3, 1) := by decide +kernel
theorem d176_68 : decode mt176.2.1 68 = .ok (.iadd, 1) := by decide +kernel
theorem d176_69 : decode mt176.2.1 69 = .ok (.iload 4, 2) := by decide +kernel
theorem d176_71 : decode mt176.2.1 71 = .ok (.invokevirtual 253, 3) := by decide +kernel
theorem d176_74 : decode mt176.2.1 74 = .ok (.istore 6, 2) := by decide +kernel
theorem d176_76 : decode mt176.2.1 76 = .ok (.iload 6, 2) := by decide +kernel
theorem d176_78 : decode mt176.2.1 78 = .ok (.ifCond .lt 68, 3) := by decide +kernel
theorem d176_81 : decode mt176.2.1 81 = .ok (.aload_n 0, 1) := by decide +kernel
theorem d176_82 : decode mt176.2.1 82 = .ok (.getfield 19, 3) := by decide +kernel
theorem d176_85 : decode mt176.2.1 85 = .ok (.bipush 110, 2) := by decide +kernel
theorem d176_87 : decode mt176.2.1 87 = .ok (.bipush 21, 2) := by decide +kernel
theorem d176_89 : decode mt176.2.1 89 = .ok (.iload_n 1, 1) := by decide +kernel
theorem d176_90 : decode mt176.2.1 90 = .ok (.imul, 1) := by decide +kernel
theorem d176_91 : decode mt176.2.1 91 = .ok (.iadd, 1) := by decide +kernel
theorem d176_92 : decode mt176.2.1 92 = .ok (.iload 4, 2) := by decide +kernel
theorem d176_94 : decode mt176.2.1 94 = .ok (.iastore, 1) := by decide +kernel
theorem d176_95 : decode mt176.2.1 95 = .ok (.iconst 0, 1) := by decide +kernel
theorem d176_96 : decode mt176.2.1 96 = .ok (.istore 7, 2) := by decide +kernel
theorem d176_98 : decode mt176.2.1 98 = .ok (.iload 7, 2) := by decide +kernel
theorem d176_100 : decode mt176.2.1 100 = .ok (.iload 4, 2) := by decide +kernel
theorem d176_102 : decode mt176.2.1 102 = .ok (.if_icmp .ge 40, 3) := by decide +kernel
theorem d176_105 : decode mt176.2.1 105 = .ok (.aload_n 0, 1) := by decide +kernel
theorem d176_106 : decode mt176.2.1 106 = .ok (.getfield 19, 3) := by decide +kernel
theorem d176_109 : decode mt176.2.1 109 = .ok (.bipush 110, 2) := by decide +kernel
theorem d176_111 : decode mt176.2.1 111 = .ok (.bipush 21, 2) := by decide +kernel
theorem d176_113 : decode mt176.2.1 113 = .ok (.iload_n 1, 1) := by decide +kernel
theorem d176_114 : decode mt176.2.1 114 = .ok (.imul, 1) := by decide +kernel
theorem d176_115 : decode mt176.2.1 115 = .ok (.iadd, 1) := by decide +kernel
theorem d176_116 : decode mt176.2.1 116 = .ok (.iconst 1, 1) := by decide +kernel
theorem d176_117 : decode mt176.2.1 117 = .ok (.iadd, 1) := by decide +kernel
theorem d176_118 : decode mt176.2.1 118 = .ok (.iload 7, 2) := by decide +kernel
theorem d176_120 : decode mt176.2.1 120 = .ok (.iadd, 1) := by decide +kernel
theorem d176_121 : decode mt176.2.1 121 = .ok (.aload_n 0, 1) := by decide +kernel
theorem d176_122 : decode mt176.2.1 122 = .ok (.getfield 16, 3) := by decide +kernel
theorem d176_125 : decode mt176.2.1 125 = .ok (.bipush 40, 2) := by decide +kernel
theorem d176_127 : decode mt176.2.1 127 = .ok (.iload_n 2, 1) := by decide +kernel
theorem d176_128 : decode mt176.2.1 128 = .ok (.imul, 1) := by decide +kernel
theorem d176_129 : decode mt176.2.1 129 = .ok (.iload_n 3, 1) := by decide +kernel
theorem d176_130 : decode mt176.2.1 130 = .ok (.iadd, 1) := by decide +kernel
theorem d176_131 : decode mt176.2.1 131 = .ok (.iload 7, 2) := by decide +kernel
theorem d176_133 : decode mt176.2.1 133 = .ok (.iadd, 1) := by decide +kernel
theorem d176_134 : decode mt176.2.1 134 = .ok (.iaload, 1) := by decide +kernel
theorem d176_135 : decode mt176.2.1 135 = .ok (.iastore, 1) := by decide +kernel
theorem d176_136 : decode mt176.2.1 136 = .ok (.iinc 7 1, 3) := by decide +kernel
theorem d176_139 : decode mt176.2.1 139 = .ok (.goto (-41), 3) := by decide +kernel
theorem d176_142 : decode mt176.2.1 142 = .ok (.aload_n 0, 1) := by decide +kernel
theorem d176_143 : decode mt176.2.1 143 = .ok (.invokevirtual 206, 3) := by decide +kernel
theorem d176_146 : decode mt176.2.1 146 = .ok (.iload 6, 2) := by decide +kernel
theorem d176_148 : decode mt176.2.1 148 = .ok (.ireturn, 1) := by decide +kernel
noncomputable def pg176_0 : List (Nat × aP) := [(0, oLdA 0 1),
  (1, oPush (.int 0) 2),
  (2, oPutI (fun k => k = 11) 0 5),
  (5, oLdA 0 6),
  (6, oLdI 1 7),
  (7, oCalV (fun k => if k = 11 then some 160 else none) 1 10),
  (10, oIf (fun x => x = 0) 28 13),
  (13, oLdI 2 14),
  (14, oCall 133 1 17),
  (17, oIf (fun x => x = 0) 28 20),
  (20, oLdI 4 22),
  (22, oCall 173 1 25),
  (25, oIf (fun x => ¬ x = 0) 31 28),
  (28, oPush (.int (-1000001)) 30),
  (30, oRetI),
  (31, oLdA 0 32),
  (32, oLdI 1 33),
  (33, oCalV (fun k => if k = 11 then some 175 else none) 1 36),
  (36, oIf (fun x => x = 0) 43 39),
  (39, oPush (.int (-1000002)) 42),
  (42, oRetI),
  (43, oLdA 0 44),
  (44, oLdI 2 45),
  (45, oLdI 3 46),
  (46, oLdI 4 48),
  (48, oCalV (fun k => if k = 11 then some 172 else none) 3 51),
  (51, oStI 5 53),
  (53, oLdI 5 55),
  (55, oIf (fun x => x = 0) 61 58),
  (58, oLdI 5 60),
  (60, oRetI),
  (61, oLdA 0 62),
  (62, oLdI 1 63),
  (63, oPush (.int 40) 65),
  (65, oLdI 2 66),
  (66, oII (fun x y => x * y) 67),
  (67, oLdI 3 68),
  (68, oII (fun x y => x + y) 69),
  (69, oLdI 4 71),
  (71, oCalV (fun k => if k = 11 then some 170 else none) 3 74)]
theorem ok176_0 : ∀ q ∈ pg176_0, Sim mT mt176 q.1 q.2 ∧ Grow q.2 :=
  List.forall_mem_cons.mpr ⟨⟨sim_aload_n d176_0 rfl, gr_LdA 0 1⟩,
  List.forall_mem_cons.mpr ⟨⟨sim_iconst d176_1 (by decide), gr_Push (.int 0) 2⟩,
  List.forall_mem_cons.mpr ⟨⟨sim_putI d176_2 gf155w, gr_PutI (fun k => k = 11) 0 5⟩,
  List.forall_mem_cons.mpr ⟨⟨sim_aload_n d176_5 rfl, gr_LdA 0 6⟩,
  List.forall_mem_cons.mpr ⟨⟨sim_iload_n d176_6 rfl, gr_LdI 1 7⟩,
  List.forall_mem_cons.mpr ⟨⟨sim_virtual d176_7 vk123, gr_CalV (fun k => if k = 11 then some 160 else none) 1 10⟩,
  List.forall_mem_cons.mpr ⟨⟨sim_if_eq d176_10 (by decide), gr_If (fun x => x = 0) 28 13⟩,
  List.forall_mem_cons.mpr ⟨⟨sim_iload_n d176_13 rfl, gr_LdI 2 14⟩,
  List.forall_mem_cons.mpr ⟨⟨sim_static (y := 133) d176_14 (Or.inl kw1034) kw1035 mo133, gr_Call 133 1 17⟩,
  List.forall_mem_cons.mpr ⟨⟨sim_if_eq d176_17 (by decide), gr_If (fun x => x = 0) 28 20⟩,
  List.forall_mem_cons.mpr ⟨⟨sim_iload d176_20, gr_LdI 4 22⟩,
  List.forall_mem_cons.mpr ⟨⟨sim_static (y := 173) d176_22 (Or.inl kw1185) kw1186 mo173, gr_Call 173 1 25⟩,
  List.forall_mem_cons.mpr ⟨⟨sim_if_ne d176_25 (by decide), gr_If (fun x => ¬ x = 0) 31 28⟩,
  List.forall_mem_cons.mpr ⟨⟨sim_ldc d176_28 kw1042, gr_Push (.int (-1000001)) 30⟩,
  List.forall_mem_cons.mpr ⟨⟨sim_ireturn d176_30 rfl, gr_RetI⟩,
  List.forall_mem_cons.mpr ⟨⟨sim_aload_n d176_31 rfl, gr_LdA 0 32⟩,
  List.forall_mem_cons.mpr ⟨⟨sim_iload_n d176_32 rfl, gr_LdI 1 33⟩,
  List.forall_mem_cons.mpr ⟨⟨sim_virtual d176_33 vk126, gr_CalV (fun k => if k = 11 then some 175 else none) 1 36⟩,
  List.forall_mem_cons.mpr ⟨⟨sim_if_eq d176_36 (by decide), gr_If (fun x => x = 0) 43 39⟩,
  List.forall_mem_cons.mpr ⟨⟨sim_ldcw d176_39 kw1217, gr_Push (.int (-1000002)) 42⟩,
  List.forall_mem_cons.mpr ⟨⟨sim_ireturn d176_42 rfl, gr_RetI⟩,
  List.forall_mem_cons.mpr ⟨⟨sim_aload_n d176_43 rfl, gr_LdA 0 44⟩,
  List.forall_mem_cons.mpr ⟨⟨sim_iload_n d176_44 rfl, gr_LdI 2 45⟩,
  List.forall_mem_cons.mpr ⟨⟨sim_iload_n d176_45 rfl, gr_LdI 3 46⟩,
  List.forall_mem_cons.mpr ⟨⟨sim_iload d176_46, gr_LdI 4 48⟩,
  List.forall_mem_cons.mpr ⟨⟨sim_virtual d176_48 vk124, gr_CalV (fun k => if k = 11 then some 172 else none) 3 51⟩,
  List.forall_mem_cons.mpr ⟨⟨sim_istore d176_51 (by decide), gr_StI 5 53⟩,
  List.forall_mem_cons.mpr ⟨⟨sim_iload d176_53, gr_LdI 5 55⟩,
  List.forall_mem_cons.mpr ⟨⟨sim_if_eq d176_55 (by decide), gr_If (fun x => x = 0) 61 58⟩,
  List.forall_mem_cons.mpr ⟨⟨sim_iload d176_58, gr_LdI 5 60⟩,
  List.forall_mem_cons.mpr ⟨⟨sim_ireturn d176_60 rfl, gr_RetI⟩,
  List.forall_mem_cons.mpr ⟨⟨sim_aload_n d176_61 rfl, gr_LdA 0 62⟩,
  List.forall_mem_cons.mpr ⟨⟨sim_iload_n d176_62 rfl, gr_LdI 1 63⟩,
  List.forall_mem_cons.mpr ⟨⟨sim_bipush d176_63 (by decide), gr_Push (.int 40) 65⟩,
  List.forall_mem_cons.mpr ⟨⟨sim_iload_n d176_65 rfl, gr_LdI 2 66⟩,
  List.forall_mem_cons.mpr ⟨⟨sim_imul d176_66, gr_II (fun x y => x * y) 67⟩,
  List.forall_mem_cons.mpr ⟨⟨sim_iload_n d176_67 rfl, gr_LdI 3 68⟩,
  List.forall_mem_cons.mpr ⟨⟨sim_iadd d176_68, gr_II (fun x y => x + y) 69⟩,
  List.forall_mem_cons.mpr ⟨⟨sim_iload d176_69, gr_LdI 4 71⟩,
  List.forall_mem_cons.mpr ⟨⟨sim_virtual d176_71 vk125, gr_CalV (fun k => if k = 11 then some 170 else none) 3 74⟩, fun _ h => absurd h List.not_mem_nil⟩⟩⟩⟩⟩⟩⟩⟩⟩⟩⟩⟩⟩⟩⟩⟩⟩⟩⟩⟩⟩⟩⟩⟩⟩⟩⟩⟩⟩⟩⟩⟩⟩⟩⟩⟩⟩⟩⟩⟩
noncomputable def pg176_1 : List (Nat × aP) := [(74, oStI 6 76),
  (76, oLdI 6 78),
  (78, oIf (fun x => x < 0) 146 81),
  (81, oLdA 0 82),
  (82, oGetF (fun k => k = 11) 5 85),
  (85, oPush (.int 110) 87),
  (87, oPush (.int 21) 89),
  (89, oLdI 1 90),
  (90, oII (fun x y => x * y) 91),
  (91, oII (fun x y => x + y) 92),
  (92, oLdI 4 94),
  (94, oAStI 95),
  (95, oPush (.int 0) 96),
  (96, oStI 7 98),
  (98, oLdI 7 100),
  (100, oLdI 4 102),
  (102, oIc (fun x y => y ≤ x) 142 105),
  (105, oLdA 0 106),
  (106, oGetF (fun k => k = 11) 5 109),
  (109, oPush (.int 110) 111),
  (111, oPush (.int 21) 113),
  (113, oLdI 1 114),
  (114, oII (fun x y => x * y) 115),
  (115, oII (fun x y => x + y) 116),
  (116, oPush (.int 1) 117),
  (117, oII (fun x y => x + y) 118),
  (118, oLdI 7 120),
  (120, oII (fun x y => x + y) 121),
  (121, oLdA 0 122),
  (122, oGetF (fun k => k = 11) 4 125),
  (125, oPush (.int 40) 127),
  (127, oLdI 2 128),
  (128, oII (fun x y => x * y) 129),
  (129, oLdI 3 130),
  (130, oII (fun x y => x + y) 131),
  (131, oLdI 7 133),
  (133, oII (fun x y => x + y) 134),
  (134, oALdI 135),
  (135, oAStI 136),
  (136, oInc 7 1 139)]
theorem ok176_1 : ∀ q ∈ pg176_1, Sim mT mt176 q.1 q.2 ∧ Grow q.2 :=
  List.forall_mem_cons.mpr ⟨⟨sim_istore d176_74 (by decide), gr_StI 6 76⟩,
  List.forall_mem_cons.mpr ⟨⟨sim_iload d176_76, gr_LdI 6 78⟩,
  List.forall_mem_cons.mpr ⟨⟨sim_if_lt d176_78 (by decide), gr_If (fun x => x < 0) 146 81⟩,
  List.forall_mem_cons.mpr ⟨⟨sim_aload_n d176_81 rfl, gr_LdA 0 82⟩,
  List.forall_mem_cons.mpr ⟨⟨sim_getF d176_82 gf171, gr_GetF (fun k => k = 11) 5 85⟩,
  List.forall_mem_cons.mpr ⟨⟨sim_bipush d176_85 (by decide), gr_Push (.int 110) 87⟩,
  List.forall_mem_cons.mpr ⟨⟨sim_bipush d176_87 (by decide), gr_Push (.int 21) 89⟩,
  List.forall_mem_cons.mpr ⟨⟨sim_iload_n d176_89 rfl, gr_LdI 1 90⟩,
  List.forall_mem_cons.mpr ⟨⟨sim_imul d176_90, gr_II (fun x y => x * y) 91⟩,
  List.forall_mem_cons.mpr ⟨⟨sim_iadd d176_91, gr_II (fun x y => x + y) 92⟩,
  List.forall_mem_cons.mpr ⟨⟨sim_iload d176_92, gr_LdI 4 94⟩,
  List.forall_mem_cons.mpr ⟨⟨sim_iastore d176_94, gr_AStI 95⟩,
  List.forall_mem_cons.mpr ⟨⟨sim_iconst d176_95 (by decide), gr_Push (.int 0) 96⟩,
  List.forall_mem_cons.mpr ⟨⟨sim_istore d176_96 (by decide), gr_StI 7 98⟩,
  List.forall_mem_cons.mpr ⟨⟨sim_iload d176_98, gr_LdI 7 100⟩,
  List.forall_mem_cons.mpr ⟨⟨sim_iload d176_100, gr_LdI 4 102⟩,
  List.forall_mem_cons.mpr ⟨⟨sim_icmp_ge d176_102 (by decide), gr_Ic (fun x y => y ≤ x) 142 105⟩,
  List.forall_mem_cons.mpr ⟨⟨sim_aload_n d176_105 rfl, gr_LdA 0 106⟩,
  List.forall_mem_cons.mpr ⟨⟨sim_getF d176_106 gf171, gr_GetF (fun k => k = 11) 5 109⟩,
  List.forall_mem_cons.mpr ⟨⟨sim_bipush d176_109 (by decide), gr_Push (.int 110) 111⟩,
  List.forall_mem_cons.mpr ⟨⟨sim_bipush d176_111 (by decide), gr_Push (.int 21) 113⟩,
  List.forall_mem_cons.mpr ⟨⟨sim_iload_n d176_113 rfl, gr_LdI 1 114⟩,
  List.forall_mem_cons.mpr ⟨⟨sim_imul d176_114, gr_II (fun x y => x * y) 115⟩,
  List.forall_mem_cons.mpr ⟨⟨sim_iadd d176_115, gr_II (fun x y => x + y) 116⟩,
  List.forall_mem_cons.mpr ⟨⟨sim_iconst d176_116 (by decide), gr_Push (.int 1) 117⟩,
  List.forall_mem_cons.mpr ⟨⟨sim_iadd d176_117, gr_II (fun x y => x + y) 118⟩,
  List.forall_mem_cons.mpr ⟨⟨sim_iload d176_118, gr_LdI 7 120⟩,
  List.forall_mem_cons.mpr ⟨⟨sim_iadd d176_120, gr_II (fun x y => x + y) 121⟩,
  List.forall_mem_cons.mpr ⟨⟨sim_aload_n d176_121 rfl, gr_LdA 0 122⟩,
  List.forall_mem_cons.mpr ⟨⟨sim_getF d176_122 gf158, gr_GetF (fun k => k = 11) 4 125⟩,
  List.forall_mem_cons.mpr ⟨⟨sim_bipush d176_125 (by decide), gr_Push (.int 40) 127⟩,
  List.forall_mem_cons.mpr ⟨⟨sim_iload_n d176_127 rfl, gr_LdI 2 128⟩,
  List.forall_mem_cons.mpr ⟨⟨sim_imul d176_128, gr_II (fun x y => x * y) 129⟩,
  List.forall_mem_cons.mpr ⟨⟨sim_iload_n d176_129 rfl, gr_LdI 3 130⟩,
  List.forall_mem_cons.mpr ⟨⟨sim_iadd d176_130, gr_II (fun x y => x + y) 131⟩,
  List.forall_mem_cons.mpr ⟨⟨sim_iload d176_131, gr_LdI 7 133⟩,
  List.forall_mem_cons.mpr ⟨⟨sim_iadd d176_133, gr_II (fun x y => x + y) 134⟩,
  List.forall_mem_cons.mpr ⟨⟨sim_iaload d176_134, gr_ALdI 135⟩,
  List.forall_mem_cons.mpr ⟨⟨sim_iastore d176_135, gr_AStI 136⟩,
  List.forall_mem_cons.mpr ⟨⟨sim_iinc d176_136 (by decide) (by decide), gr_Inc 7 1 139⟩, fun _ h => absurd h List.not_mem_nil⟩⟩⟩⟩⟩⟩⟩⟩⟩⟩⟩⟩⟩⟩⟩⟩⟩⟩⟩⟩⟩⟩⟩⟩⟩⟩⟩⟩⟩⟩⟩⟩⟩⟩⟩⟩⟩⟩⟩⟩
noncomputable def pg176_2 : List (Nat × aP) := [(139, oGo 98),
  (142, oLdA 0 143),
  (143, oCalV (fun k => if k = 11 then some 164 else none) 0 146),
  (146, oLdI 6 148),
  (148, oRetI)]
theorem ok176_2 : ∀ q ∈ pg176_2, Sim mT mt176 q.1 q.2 ∧ Grow q.2 :=
  List.forall_mem_cons.mpr ⟨⟨sim_goto d176_139 (by decide), gr_Go 98⟩,
  List.forall_mem_cons.mpr ⟨⟨sim_aload_n d176_142 rfl, gr_LdA 0 143⟩,
  List.forall_mem_cons.mpr ⟨⟨sim_virtual d176_143 vk115, gr_CalV (fun k => if k = 11 then some 164 else none) 0 146⟩,
  List.forall_mem_cons.mpr ⟨⟨sim_iload d176_146, gr_LdI 6 148⟩,
  List.forall_mem_cons.mpr ⟨⟨sim_ireturn d176_148 rfl, gr_RetI⟩, fun _ h => absurd h List.not_mem_nil⟩⟩⟩⟩⟩
noncomputable def pg176 : List (Nat × aP) := pg176_0 ++ (pg176_1 ++ (pg176_2))
theorem ok176 : ∀ q ∈ pg176, Sim mT mt176 q.1 q.2 ∧ Grow q.2 := List.forall_mem_append.mpr ⟨ok176_0, List.forall_mem_append.mpr ⟨ok176_1, ok176_2⟩⟩
theorem d177_0 : decode mt177.2.1 0 = .ok (.bipush 110, 2) := by decide +kernel
theorem d177_2 : decode mt177.2.1 2 = .ok (.bipush 21, 2) := by decide +kernel
theorem d177_4 : decode mt177.2.1 4 = .ok (.iload_n 1, 1) := by decide +kernel
theorem d177_5 : decode mt177.2.1 5 = .ok (.imul, 1) := by decide +kernel
theorem d177_6 : decode mt177.2.1 6 = .ok (.iadd, 1) := by decide +kernel
theorem d177_7 : decode mt177.2.1 7 = .ok (.istore_n 2, 1) := by decide +kernel
theorem d177_8 : decode mt177.2.1 8 = .ok (.aload_n 0, 1) := by decide +kernel
theorem d177_9 : decode mt177.2.1 9 = .ok (.aload_n 0, 1) := by decide +kernel
theorem d177_10 : decode mt177.2.1 10 = .ok (.getfield 19, 3) := by decide +kernel
theorem d177_13 : decode mt177.2.1 13 = .ok (.bipush 102, 2) := by decide +kernel
theorem d177_15 : decode mt177.2.1 15 = .ok (.iconst 2, 1) := by decide +kernel
theorem d177_16 : decode mt177.2.1 16 = .ok (.iload_n 1, 1) := by decide +kernel
theorem d177_17 : decode mt177.2.1 17 = .ok (.imul, 1) := by decide +kernel
theorem d177_18 : decode mt177.2.1 18 = .ok (.iadd, 1) := by decide +kernel
theorem d177_19 : decode mt177.2.1 19 = .ok (.iaload, 1) := by decide +kernel
theorem d177_20 : decode mt177.2.1 20 = .ok (.aload_n 0, 1) := by decide +kernel
theorem d177_21 : decode mt177.2.1 21 = .ok (.getfield 19, 3) := by decide +kernel
theorem d177_24 : decode mt177.2.1 24 = .ok (.iload_n 2, 1) := by decide +kernel
theorem d177_25 : decode mt177.2.1 25 = .ok (.iconst 1, 1) := by decide +kernel
theorem d177_26 : decode mt177.2.1 26 = .ok (.iadd, 1) := by decide +kernel
theorem d177_27 : decode mt177.2.1 27 = .ok (.aload_n 0, 1) := by decide +kernel
theorem d177_28 : decode mt177.2.1 28 = .ok (.getfield 19, 3) := by decide +kernel
theorem d177_31 : decode mt177.2.1 31 = .ok (.iload_n 2, 1) := by decide +kernel
theorem d177_32 : decode mt177.2.1 32 = .ok (.iaload, 1) := by decide +kernel
theorem d177_33 : decode mt177.2.1 33 = .ok (.invokevirtual 215, 3) := by decide +kernel
theorem d177_36 : decode mt177.2.1 36 = .ok (.lreturn, 1) := by decide +kernel
noncomputable def pg177_0 : List (Nat × aP) := [(0, oPush (.int 110) 2),
  (2, oPush (.int 21) 4),
  (4, oLdI 1 5),
  (5, oII (fun x y => x * y) 6),
  (6, oII (fun x y => x + y) 7),
  (7, oStI 2 8),
  (8, oLdA 0 9),
  (9, oLdA 0 10),
  (10, oGetF (fun k => k = 11) 5 13),
  (13, oPush (.int 102) 15),
  (15, oPush (.int 2) 16),
  (16, oLdI 1 17),
  (17, oII (fun x y => x * y) 18),
  (18, oII (fun x y => x + y) 19),
  (19, oALdI 20),
  (20, oLdA 0 21),
  (21, oGetF (fun k => k = 11) 5 24),
  (24, oLdI 2 25),
  (25, oPush (.int 1) 26),
  (26, oII (fun x y => x + y) 27),
  (27, oLdA 0 28),
  (28, oGetF (fun k => k = 11) 5 31),
  (31, oLdI 2 32),
  (32, oALdI 33),
  (33, oCalV (fun k => if k = 11 then some 163 else none) 4 36),
  (36, oRetL)]
theorem ok177_0 : ∀ q ∈ pg177_0, Sim mT mt177 q.1 q.2 ∧ Grow q.2 :=
  List.forall_mem_cons.mpr ⟨⟨sim_bipush d177_0 (by decide), gr_Push (.int 110) 2⟩,
  List.forall_mem_cons.mpr ⟨⟨sim_bipush d177_2 (by decide), gr_Push (.int 21) 4⟩,
  List.forall_mem_cons.mpr ⟨⟨sim_iload_n d177_4 rfl, gr_LdI 1 5⟩,
  List.forall_mem_cons.mpr ⟨⟨sim_imul d177_5, gr_II (fun x y => x * y) 6⟩,
  List.forall_mem_cons.mpr ⟨⟨sim_iadd d177_6, gr_II (fun x y => x + y) 7⟩,
  List.forall_mem_cons.mpr ⟨⟨sim_istore_n d177_7 rfl (by decide), gr_StI 2 8⟩,
  List.forall_mem_cons.mpr ⟨⟨sim_aload_n d177_8 rfl, gr_LdA 0 9⟩,
  List.forall_mem_cons.mpr ⟨⟨sim_aload_n d177_9 rfl, gr_LdA 0 10⟩,
  List.forall_mem_cons.mpr ⟨⟨sim_getF d177_10 gf171, gr_GetF (fun k => k = 11) 5 13⟩,
  List.forall_mem_cons.mpr ⟨⟨sim_bipush d177_13 (by decide), gr_Push (.int 102) 15⟩,
  List.forall_mem_cons.mpr ⟨⟨sim_iconst d177_15 (by decide), gr_Push (.int 2) 16⟩,
  List.forall_mem_cons.mpr ⟨⟨sim_iload_n d177_16 rfl, gr_LdI 1 17⟩,
  List.forall_mem_cons.mpr ⟨⟨sim_imul d177_17, gr_II (fun x y => x * y) 18⟩,
  List.forall_mem_cons.mpr ⟨⟨sim_iadd d177_18, gr_II (fun x y => x + y) 19⟩,
  List.forall_mem_cons.mpr ⟨⟨sim_iaload d177_19, gr_ALdI 20⟩,
  List.forall_mem_cons.mpr ⟨⟨sim_aload_n d177_20 rfl, gr_LdA 0 21⟩,
  List.forall_mem_cons.mpr ⟨⟨sim_getF d177_21 gf171, gr_GetF (fun k => k = 11) 5 24⟩,
  List.forall_mem_cons.mpr ⟨⟨sim_iload_n d177_24 rfl, gr_LdI 2 25⟩,
  List.forall_mem_cons.mpr ⟨⟨sim_iconst d177_25 (by decide), gr_Push (.int 1) 26⟩,
  List.forall_mem_cons.mpr ⟨⟨sim_iadd d177_26, gr_II (fun x y => x + y) 27⟩,
  List.forall_mem_cons.mpr ⟨⟨sim_aload_n d177_27 rfl, gr_LdA 0 28⟩,
  List.forall_mem_cons.mpr ⟨⟨sim_getF d177_28 gf171, gr_GetF (fun k => k = 11) 5 31⟩,
  List.forall_mem_cons.mpr ⟨⟨sim_iload_n d177_31 rfl, gr_LdI 2 32⟩,
  List.forall_mem_cons.mpr ⟨⟨sim_iaload d177_32, gr_ALdI 33⟩,
  List.forall_mem_cons.mpr ⟨⟨sim_virtual d177_33 vk117, gr_CalV (fun k => if k = 11 then some 163 else none) 4 36⟩,
  List.forall_mem_cons.mpr ⟨⟨sim_lreturn d177_36 rfl, gr_RetL⟩, fun _ h => absurd h List.not_mem_nil⟩⟩⟩⟩⟩⟩⟩⟩⟩⟩⟩⟩⟩⟩⟩⟩⟩⟩⟩⟩⟩⟩⟩⟩⟩⟩
noncomputable def pg177 : List (Nat × aP) := pg177_0
theorem ok177 : ∀ q ∈ pg177, Sim mT mt177 q.1 q.2 ∧ Grow q.2 := ok177_0
theorem d178_0 : decode mt178.2.1 0 = .ok (.aload_n 0, 1) := by decide +kernel
theorem d178_1 : decode mt178.2.1 1 = .ok (.iconst 0, 1) := by decide +kernel
theorem d178_2 : decode mt178.2.1 2 = .ok (.putfield 74, 3) := by decide +kernel
theorem d178_5 : decode mt178.2.1 5 = .ok (.aload_n 0, 1) := by decide +kernel
theorem d178_6 : decode mt178.2.1 6 = .ok (.iload_n 1, 1) := by decide +kernel
theorem d178_7 : decode mt178.2.1 7 = .ok (.invokevirtual 244, 3) := by decide +kernel
theorem d178_10 : decode mt178.2.1 10 = .ok (.ifCond .ne 6, 3) := by decide +kernel
theorem d178_13 : decode mt178.2.1 13 = .ok (.ldc 94, 2) := by decide +kernel
theorem d178_15 : decode mt178.2.1 15 = .ok (.ireturn, 1) := by decide +kernel
theorem d178_16 : decode mt178.2.1 16 = .ok (.aload_n 0, 1) := by decide +kernel
theorem d178_17 : decode mt178.2.1 17 = .ok (.iload_n 1, 1) := by decide +kernel
theorem d178_18 : decode mt178.2.1 18 = .ok (.invokevirtual 256, 3) := by decide +kernel
theorem d178_21 : decode mt178.2.1 21 = .ok (.ifCond .ne 7, 3) := by decide +kernel
theorem d178_24 : decode mt178.2.1 24 = .ok (.ldc_w 259, 3) := by decide +kernel
theorem d178_27 : decode mt178.2.1 27 = .ok (.ireturn, 1) := by decide +kernel
theorem d178_28 : decode mt178.2.1 28 = .ok (.aload_n 0, 1) := by decide +kernel
theorem d178_29 : decode mt178.2.1 29 = .ok (.aload_n 0, 1) := by decide +kernel
theorem d178_30 : decode mt178.2.1 30 = .ok (.iload_n 1, 1) := by decide +kernel
theorem d178_31 : decode mt178.2.1 31 = .ok (.invokevirtual 260, 3) := by decide +kernel
theorem d178_34 : decode mt178.2.1 34 = .ok (.invokevirtual 234, 3) := by decide +kernel
theorem d178_37 : decode mt178.2.1 37 = .ok (.istore_n 2, 1) := by decide +kernel
theorem d178_38 : decode mt178.2.1 38 = .ok (.aload_n 0, 1) := by decide +kernel
theorem d178_39 : decode mt178.2.1 39 = .ok (.getfield 19, 3) := by decide +kernel
theorem d178_42 : decode mt178.2.1 42 = .ok (.bipush 110, 2) := by decide +kernel
theorem d178_44 : decode mt178.2.1 44 = .ok (.bipush 21, 2) := by decide +kernel
theorem d178_46 : decode mt178.2.1 46 = .ok (.iload_n 1, 1) := by decide +kernel
theorem d178_47 : decode mt178.2.1 47 = .ok (.imul, 1) := by decide +kernel
theorem d178_48 : decode mt178.2.1 48 = .ok (.iadd, 1) := by decide +kernel
theorem d178_49 : decode mt178.2.1 49 = .ok (.iconst (-1), 1) := by decide +kernel
theorem d178_50 : decode mt178.2.1 50 = .ok (.iastore, 1) := by decide +kernel
theorem d178_51 : decode mt178.2.1 51 = .ok (.aload_n 0, 1) := by decide +kernel
theorem d178_52 : decode mt178.2.1 52 = .ok (.invokevirtual 206, 3) := by decide +kernel
theorem d178_55 : decode mt178.2.1 55 = .ok (.iload_n 2, 1) := by decide +kernel
theorem d178_56 : decode mt178.2.1 56 = .ok (.ireturn, 1) := by decide +kernel
noncomputable def pg178_0 : List (Nat × aP) := [(0, oLdA 0 1),
  (1, oPush (.int 0) 2),
  (2, oPutI (fun k => k = 11) 0 5),
  (5, oLdA 0 6),
  (6, oLdI 1 7),
  (7, oCalV (fun k => if k = 11 then some 160 else none) 1 10),
  (10, oIf (fun x => ¬ x = 0) 16 13),
  (13, oPush (.int (-1000001)) 15),
  (15, oRetI),
  (16, oLdA 0 17),
  (17, oLdI 1 18),
  (18, oCalV (fun k => if k = 11 then some 175 else none) 1 21),
  (21, oIf (fun x => ¬ x = 0) 28 24),
  (24, oPush (.int (-1000002)) 27),
  (27, oRetI),
  (28, oLdA 0 29),
  (29, oLdA 0 30),
  (30, oLdI 1 31),
  (31, oCalV (fun k => if k = 11 then some 177 else none) 1 34),
  (34, oCalV (fun k => if k = 11 then some 165 else none) 1 37),
  (37, oStI 2 38),
  (38, oLdA 0 39),
  (39, oGetF (fun k => k = 11) 5 42),
  (42, oPush (.int 110) 44),
  (44, oPush (.int 21) 46),
  (46, oLdI 1 47),
  (47, oII (fun x y => x * y) 48),
  (48, oII (fun x y => x + y) 49),
  (49, oPush (.int (-1)) 50),
  (50, oAStI 51),
  (51, oLdA 0 52),
  (52, oCalV (fun k => if k = 11 then some 164 else none) 0 55),
  (55, oLdI 2 56),
  (56, oRetI)]
theorem ok178_0 : ∀ q ∈ pg178_0, Sim mT mt178 q.1 q.2 ∧ Grow q.2 :=
  List.forall_mem_cons.mpr ⟨⟨sim_aload_n d178_0 rfl, gr_LdA 0 1⟩,
  List.forall_mem_cons.mpr ⟨⟨sim_iconst d178_1 (by decide), gr_Push (.int 0) 2⟩,
  List.forall_mem_cons.mpr ⟨⟨sim_putI d178_2 gf155w, gr_PutI (fun k => k = 11) 0 5⟩,
  List.forall_mem_cons.mpr ⟨⟨sim_aload_n d178_5 rfl, gr_LdA 0 6⟩,
  List.forall_mem_cons.mpr ⟨⟨sim_iload_n d178_6 rfl, gr_LdI 1 7⟩,
  List.forall_mem_cons.mpr ⟨⟨sim_virtual d178_7 vk123, gr_CalV (fun k => if k = 11 then some 160 else none) 1 10⟩,
  List.forall_mem_cons.mpr ⟨⟨sim_if_ne d178_10 (by decide), gr_If (fun x => ¬ x = 0) 16 13⟩,
  List.forall_mem_cons.mpr ⟨⟨sim_ldc d178_13 kw1042, gr_Push (.int (-1000001)) 15⟩,
  List.forall_mem_cons.mpr ⟨⟨sim_ireturn d178_15 rfl, gr_RetI⟩,
  List.forall_mem_cons.mpr ⟨⟨sim_aload_n d178_16 rfl, gr_LdA 0 17⟩,
  List.forall_mem_cons.mpr ⟨⟨sim_iload_n d178_17 rfl, gr_LdI 1 18⟩,
  List.forall_mem_cons.mpr ⟨⟨sim_virtual d178_18 vk126, gr_CalV (fun k => if k = 11 then some 175 else none) 1 21⟩,
  List.forall_mem_cons.mpr ⟨⟨sim_if_ne d178_21 (by decide), gr_If (fun x => ¬ x = 0) 28 24⟩,
  List.forall_mem_cons.mpr ⟨⟨sim_ldcw d178_24 kw1217, gr_Push (.int (-1000002)) 27⟩,
  List.forall_mem_cons.mpr ⟨⟨sim_ireturn d178_27 rfl, gr_RetI⟩,
  List.forall_mem_cons.mpr ⟨⟨sim_aload_n d178_28 rfl, gr_LdA 0 29⟩,
  List.forall_mem_cons.mpr ⟨⟨sim_aload_n d178_29 rfl, gr_LdA 0 30⟩,
  List.forall_mem_cons.mpr ⟨⟨sim_iload_n d178_30 rfl, gr_LdI 1 31⟩,
  List.forall_mem_cons.mpr ⟨⟨sim_virtual d178_31 vk127, gr_CalV (fun k => if k = 11 then some 177 else none) 1 34⟩,
  List.forall_mem_cons.mpr ⟨⟨sim_virtual d178_34 vk121, gr_CalV (fun k => if k = 11 then some 165 else none) 1 37⟩,
  List.forall_mem_cons.mpr ⟨⟨sim_istore_n d178_37 rfl (by decide), gr_StI 2 38⟩,
  List.forall_mem_cons.mpr ⟨⟨sim_aload_n d178_38 rfl, gr_LdA 0 39⟩,
  List.forall_mem_cons.mpr ⟨⟨sim_getF d178_39 gf171, gr_GetF (fun k => k = 11) 5 42⟩,
  List.forall_mem_cons.mpr ⟨⟨sim_bipush d178_42 (by decide), gr_Push (.int 110) 44⟩,
  List.forall_mem_cons.mpr ⟨⟨sim_bipush d178_44 (by decide), gr_Push (.int 21) 46⟩,
  List.forall_mem_cons.mpr ⟨⟨sim_iload_n d178_46 rfl, gr_LdI 1 47⟩,
  List.forall_mem_cons.mpr ⟨⟨sim_imul d178_47, gr_II (fun x y => x * y) 48⟩,
  List.forall_mem_cons.mpr ⟨⟨sim_iadd d178_48, gr_II (fun x y => x + y) 49⟩,
  List.forall_mem_cons.mpr ⟨⟨sim_iconst d178_49 (by decide), gr_Push (.int (-1)) 50⟩,
  List.forall_mem_cons.mpr ⟨⟨sim_iastore d178_50, gr_AStI 51⟩,
  List.forall_mem_cons.mpr ⟨⟨sim_aload_n d178_51 rfl, gr_LdA 0 52⟩,
  List.forall_mem_cons.mpr ⟨⟨sim_virtual d178_52 vk115, gr_CalV (fun k => if k = 11 then some 164 else none) 0 55⟩,
  List.forall_mem_cons.mpr ⟨⟨sim_iload_n d178_55 rfl, gr_LdI 2 56⟩,
  List.forall_mem_cons.mpr ⟨⟨sim_ireturn d178_56 rfl, gr_RetI⟩, fun _ h => absurd h List.not_mem_nil⟩⟩⟩⟩⟩⟩⟩⟩⟩⟩⟩⟩⟩⟩⟩⟩⟩⟩⟩⟩⟩⟩⟩⟩⟩⟩⟩⟩⟩⟩⟩⟩⟩⟩
noncomputable def pg178 : List (Nat × aP) := pg178_0
theorem ok178 : ∀ q ∈ pg178, Sim mT mt178 q.1 q.2 ∧ Grow q.2 := ok178_0
theorem d179_0 : decode mt179.2.1 0 = .ok (.aload_n 0, 1) := by decide +kernel
theorem d179_1 : decode mt179.2.1 1 = .ok (.iconst 0, 1) := by decide +kernel
theorem d179_2 : decode mt179.2.1 2 = .ok (.putfield 74, 3) := by decide +kernel
theorem d179_5 : decode mt179.2.1 5 = .ok (.aload_n 0, 1) := by decide +kernel
theorem d179_6 : decode mt179.2.1 6 = .ok (.iload_n 1, 1) := by decide +kernel
theorem d179_7 : decode mt179.2.1 7 = .ok (.invokevirtual 244, 3) := by decide +kernel
theorem d179_10 : decode mt179.2.1 10 = .ok (.ifCond .eq 15, 3) := by decide +kernel
theorem d179_13 : decode mt179.2.1 13 = .ok (.iload_n 2, 1) := by decide +kernel
theorem d179_14 : decode mt179.2.1 14 = .ok (.i2l, 1) := by decide +kernel
theorem d179_15 : decode mt179.2.1 15 = .ok (.lconst 0, 1) := by decide +kernel
theorem d179_16 : decode mt179.2.1 16 = .ok (.ldc2_w 225, 3) := by decide +kernel
theorem d179_19 : decode mt179.2.1 19 = .ok (.invokestatic 84, 3) := by decide +kernel
theorem d179_22 : decode mt179.2.1 22 = .ok (.ifCond .ne 6, 3) := by decide +kernel
theorem d179_25 : decode mt179.2.1 25 = .ok (.ldc 94, 2) := by decide +kernel
theorem d179_27 : decode mt179.2.1 27 = .ok (.ireturn, 1) := by decide +kernel
theorem d179_28 : decode mt179.2.1 28 = .ok (.iload_n 2, 1) := by decide +kernel
theorem d179_29 : decode mt179.2.1 29 = .ok (.iconst 2, 1) := by decide +kernel
theorem d179_30 : decode mt179.2.1 30 = .ok (.if_icmp .ge 17, 3) := by decide +kernel
theorem d179_33 : decode mt179.2.1 33 = .ok (.aload_n 0, 1) := by decide +kernel
theorem d179_34 : decode mt179.2.1 34 = .ok (.getfield 19, 3) := by decide +kernel
theorem d179_37 : decode mt179.2.1 37 = .ok (.bipush 102, 2) := by decide +kernel
theorem d179_39 : decode mt179.2.1 39 = .ok (.iconst 2, 1) := by decide +kernel
theorem d179_40 : decode mt179.2.1 40 = .ok (.iload_n 1, 1) := by decide +kernel
theorem d179_41 : decode mt179.2.1 41 = .ok (.imul, 1) := by decide +kernel
theorem d179_42 : decode mt179.2.1 42 = .ok (.iadd, 1) := by decide +kernel
theorem d179_43 : decode mt179.2.1 43 = .ok (.iload_n 2, 1) := by decide +kernel
theorem d179_44 : decode mt179.2.1 44 = .ok (.iadd, 1) := by decide +kernel
theorem d179_45 : decode mt179.2.1 45 = .ok (.iaload, 1) := by decide +kernel
theorem d179_46 : decode mt179.2.1 46 = .ok (.ireturn, 1) := by decide +kernel
theorem d179_47 : decode mt179.2.1 47 = .ok (.aload_n 0, 1) := by decide +kernel
theorem d179_48 : decode mt179.2.1 48 = .ok (.iload_n 1, 1) := by decide +kernel
theorem d179_49 : decode mt179.2.1 49 = .ok (.invokevirtual 256, 3) := by decide +kernel
theorem d179_52 : decode mt179.2.1 52 = .ok (.ifCond .ne 8, 3) := by decide +kernel
theorem d179_55 : decode mt179.2.1 55 = .ok (.ldc 110, 2) := by decide +kernel
theorem d179_57 : decode mt179.2.1 57 = .ok (.goto 28, 3) := by decide +kernel
theorem d179_60 : decode mt179.2.1 60 = .ok (.iload_n 2, 1) := by decide +kernel
theorem d179_61 : decode mt179.2.1 61 = .ok (.iconst 2, 1) := by decide +kernel
theorem d179_62 : decode mt179.2.1 62 = .ok (.if_icmp .ne 15, 3) := by decide +kernel
theorem d179_65 : decode mt179.2.1 65 = .ok (.aload_n 0, 1) := by decide +kernel
theorem d179_66 : decode mt179.2.1 66 = .ok (.aload_n 0, 1) := by decide +kernel
theorem d179_67 : decode mt179.2.1 67 = .ok (.iload_n 1, 1) := by decide +kernel
theorem d179_68 : decode mt179.2.1 68 = .ok (.invokevirtual 260, 3) := by decide +kernel
theorem d179_71 : decode mt179.2.1 71 = .ok (.invokevirtual 234, 3) := by decide +kernel
theorem d179_74 : decode mt179.2.1 74 = .ok (.goto 11, 3) := by decide +kernel
theorem d179_77 : decode mt179.2.1 77 = .ok (.aload_n 0, 1) := by decide +kernel
theorem d179_78 : decode mt179.2.1 78 = .ok (.iload_n 1, 1) := by decide +kernel
theorem d179_79 : decode mt179.2.1 79 = .ok (.invokevirtual 260, 3) := by decide +kernel
theorem d179_82 : decode mt179.2.1 82 = .ok (.invokestatic 264, 3) := by decide +kernel
theorem d179_85 : decode mt179.2.1 85 = .ok (.ireturn, 1) := by decide +kernel
noncomputable def pg179_0 : List (Nat × aP) := [(0, oLdA 0 1),
  (1, oPush (.int 0) 2),
  (2, oPutI (fun k => k = 11) 0 5),
  (5, oLdA 0 6),
  (6, oLdI 1 7),
  (7, oCalV (fun k => if k = 11 then some 160 else none) 1 10),
  (10, oIf (fun x => x = 0) 25 13),
  (13, oLdI 2 14),
  (14, oIL (fun x => x.toInt64) 15),
  (15, oPush (.long 0) 16),
  (16, oPush (.long 3) 19),
  (19, oCall 131 3 22),
  (22, oIf (fun x => ¬ x = 0) 28 25),
  (25, oPush (.int (-1000001)) 27),
  (27, oRetI),
  (28, oLdI 2 29),
  (29, oPush (.int 2) 30),
  (30, oIc (fun x y => y ≤ x) 47 33),
  (33, oLdA 0 34),
  (34, oGetF (fun k => k = 11) 5 37),
  (37, oPush (.int 102) 39),
  (39, oPush (.int 2) 40),
  (40, oLdI 1 41),
  (41, oII (fun x y => x * y) 42),
  (42, oII (fun x y => x + y) 43),
  (43, oLdI 2 44),
  (44, oII (fun x y => x + y) 45),
  (45, oALdI 46),
  (46, oRetI),
  (47, oLdA 0 48),
  (48, oLdI 1 49),
  (49, oCalV (fun k => if k = 11 then some 175 else none) 1 52),
  (52, oIf (fun x => ¬ x = 0) 60 55),
  (55, oPush (.int (-1000000)) 57),
  (57, oGo 85),
  (60, oLdI 2 61),
  (61, oPush (.int 2) 62),
  (62, oIc (fun x y => ¬ x = y) 77 65),
  (65, oLdA 0 66),
  (66, oLdA 0 67)]
theorem ok179_0 : ∀ q ∈ pg179_0, Sim mT mt179 q.1 q.2 ∧ Grow q.2 :=
  List.forall_mem_cons.mpr ⟨⟨sim_aload_n d179_0 rfl, gr_LdA 0 1⟩,
  List.forall_mem_cons.mpr ⟨⟨sim_iconst d179_1 (by decide), gr_Push (.int 0) 2⟩,
  List.forall_mem_cons.mpr ⟨⟨sim_putI d179_2 gf155w, gr_PutI (fun k => k = 11) 0 5⟩,
  List.forall_mem_cons.mpr ⟨⟨sim_aload_n d179_5 rfl, gr_LdA 0 6⟩,
  List.forall_mem_cons.mpr ⟨⟨sim_iload_n d179_6 rfl, gr_LdI 1 7⟩,
  List.forall_mem_cons.mpr ⟨⟨sim_virtual d179_7 vk123, gr_CalV (fun k => if k = 11 then some 160 else none) 1 10⟩,
  List.forall_mem_cons.mpr ⟨⟨sim_if_eq d179_10 (by decide), gr_If (fun x => x = 0) 25 13⟩,
  List.forall_mem_cons.mpr ⟨⟨sim_iload_n d179_13 rfl, gr_LdI 2 14⟩,
  List.forall_mem_cons.mpr ⟨⟨sim_i2l d179_14, gr_IL (fun x => x.toInt64) 15⟩,
  List.forall_mem_cons.mpr ⟨⟨sim_lconst d179_15 (by decide), gr_Push (.long 0) 16⟩,
  List.forall_mem_cons.mpr ⟨⟨sim_ldc2 d179_16 kw1168, gr_Push (.long 3) 19⟩,
  List.forall_mem_cons.mpr ⟨⟨sim_static (y := 131) d179_19 (Or.inl kw1038) kw1039 mo131, gr_Call 131 3 22⟩,
  List.forall_mem_cons.mpr ⟨⟨sim_if_ne d179_22 (by decide), gr_If (fun x => ¬ x = 0) 28 25⟩,
  List.forall_mem_cons.mpr ⟨⟨sim_ldc d179_25 kw1042, gr_Push (.int (-1000001)) 27⟩,
  List.forall_mem_cons.mpr ⟨⟨sim_ireturn d179_27 rfl, gr_RetI⟩,
  List.forall_mem_cons.mpr ⟨⟨sim_iload_n d179_28 rfl, gr_LdI 2 29⟩,
  List.forall_mem_cons.mpr ⟨⟨sim_iconst d179_29 (by decide), gr_Push (.int 2) 30⟩,
  List.forall_mem_cons.mpr ⟨⟨sim_icmp_ge d179_30 (by decide), gr_Ic (fun x y => y ≤ x) 47 33⟩,
  List.forall_mem_cons.mpr ⟨⟨sim_aload_n d179_33 rfl, gr_LdA 0 34⟩,
  List.forall_mem_cons.mpr ⟨⟨sim_getF d179_34 gf171, gr_GetF (fun k => k = 11) 5 37⟩,
  List.forall_mem_cons.mpr ⟨⟨sim_bipush d179_37 (by decide), gr_Push (.int 102) 39⟩,
  List.forall_mem_cons.mpr ⟨⟨sim_iconst d179_39 (by decide), gr_Push (.int 2) 40⟩,
  List.forall_mem_cons.mpr ⟨⟨sim_iload_n d179_40 rfl, gr_LdI 1 41⟩,
  List.forall_mem_cons.mpr ⟨⟨sim_imul d179_41, gr_II (fun x y => x * y) 42⟩,
  List.forall_mem_cons.mpr ⟨⟨sim_iadd d179_42, gr_II (fun x y => x + y) 43⟩,
  List.forall_mem_cons.mpr ⟨⟨sim_iload_n d179_43 rfl, gr_LdI 2 44⟩,
  List.forall_mem_cons.mpr ⟨⟨sim_iadd d179_44, gr_II (fun x y => x + y) 45⟩,
  List.forall_mem_cons.mpr ⟨⟨sim_iaload d179_45, gr_ALdI 46⟩,
  List.forall_mem_cons.mpr ⟨⟨sim_ireturn d179_46 rfl, gr_RetI⟩,
  List.forall_mem_cons.mpr ⟨⟨sim_aload_n d179_47 rfl, gr_LdA 0 48⟩,
  List.forall_mem_cons.mpr ⟨⟨sim_iload_n d179_48 rfl, gr_LdI 1 49⟩,
  List.forall_mem_cons.mpr ⟨⟨sim_virtual d179_49 vk126, gr_CalV (fun k => if k = 11 then some 175 else none) 1 52⟩,
  List.forall_mem_cons.mpr ⟨⟨sim_if_ne d179_52 (by decide), gr_If (fun x => ¬ x = 0) 60 55⟩,
  List.forall_mem_cons.mpr ⟨⟨sim_ldc d179_55 kw1083, gr_Push (.int (-1000000)) 57⟩,
  List.forall_mem_cons.mpr ⟨⟨sim_goto d179_57 (by decide), gr_Go 85⟩,
  List.forall_mem_cons.mpr ⟨⟨sim_iload_n d179_60 rfl, gr_LdI 2 61⟩,
  List.forall_mem_cons.mpr ⟨⟨sim_iconst d179_61 (by decide), gr_Push (.int 2) 62⟩,
  List.forall_mem_cons.mpr ⟨⟨sim_icmp_ne d179_62 (by decide), gr_Ic (fun x y => ¬ x = y) 77 65⟩,
  List.forall_mem_cons.mpr ⟨⟨sim_aload_n d179_65 rfl, gr_LdA 0 66⟩,
  List.forall_mem_cons.mpr ⟨⟨sim_aload_n d179_66 rfl, gr_LdA 0 67⟩, fun _ h => absurd h List.not_mem_nil⟩⟩⟩⟩⟩⟩⟩⟩⟩⟩⟩⟩⟩⟩⟩⟩⟩⟩⟩⟩⟩⟩⟩⟩⟩⟩⟩⟩⟩⟩⟩⟩⟩⟩⟩⟩⟩⟩⟩⟩
noncomputable def pg179_1 : List (Nat × aP) := [(67, oLdI 1 68),
  (68, oCalV (fun k => if k = 11 then some 177 else none) 1 71),
  (71, oCalV (fun k => if k = 11 then some 165 else none) 1 74),
  (74, oGo 85),
  (77, oLdA 0 78),
  (78, oLdI 1 79),
  (79, oCalV (fun k => if k = 11 then some 177 else none) 1 82),
  (82, oCall 166 1 85),
  (85, oRetI)]
theorem ok179_1 : ∀ q ∈ pg179_1, Sim mT mt179 q.1 q.2 ∧ Grow q.2 :=
  List.forall_mem_cons.mpr ⟨⟨sim_iload_n d179_67 rfl, gr_LdI 1 68⟩,
  List.forall_mem_cons.mpr ⟨⟨sim_virtual d179_68 vk127, gr_CalV (fun k => if k = 11 then some 177 else none) 1 71⟩,
  List.forall_mem_cons.mpr ⟨⟨sim_virtual d179_71 vk121, gr_CalV (fun k => if k = 11 then some 165 else none) 1 74⟩,
  List.forall_mem_cons.mpr ⟨⟨sim_goto d179_74 (by decide), gr_Go 85⟩,
  List.forall_mem_cons.mpr ⟨⟨sim_aload_n d179_77 rfl, gr_LdA 0 78⟩,
  List.forall_mem_cons.mpr ⟨⟨sim_iload_n d179_78 rfl, gr_LdI 1 79⟩,
  List.forall_mem_cons.mpr ⟨⟨sim_virtual d179_79 vk127, gr_CalV (fun k => if k = 11 then some 177 else none) 1 82⟩,
  List.forall_mem_cons.mpr ⟨⟨sim_static (y := 166) d179_82 (Or.inl kw1230) kw1231 mo166, gr_Call 166 1 85⟩,
  List.forall_mem_cons.mpr ⟨⟨sim_ireturn d179_85 rfl, gr_RetI⟩, fun _ h => absurd h List.not_mem_nil⟩⟩⟩⟩⟩⟩⟩⟩⟩
noncomputable def pg179 : List (Nat × aP) := pg179_0 ++ (pg179_1)
theorem ok179 : ∀ q ∈ pg179, Sim mT mt179 q.1 q.2 ∧ Grow q.2 := List.forall_mem_append.mpr ⟨ok179_0, ok179_1⟩
theorem d180_0 : decode mt180.2.1 0 = .ok (.aload_n 0, 1) := by decide +kernel
theorem d180_1 : decode mt180.2.1 1 = .ok (.iconst 0, 1) := by decide +kernel
theorem d180_2 : decode mt180.2.1 2 = .ok (.putfield 74, 3) := by decide +kernel
theorem d180_5 : decode mt180.2.1 5 = .ok (.aload_n 0, 1) := by decide +kernel
theorem d180_6 : decode mt180.2.1 6 = .ok (.iload_n 1, 1) := by decide +kernel
theorem d180_7 : decode mt180.2.1 7 = .ok (.invokevirtual 267, 3) := by decide +kernel
theorem d180_10 : decode mt180.2.1 10 = .ok (.ifCond .eq 12, 3) := by decide +kernel
theorem d180_13 : decode mt180.2.1 13 = .ok (.aload_n 0, 1) := by decide +kernel
theorem d180_14 : decode mt180.2.1 14 = .ok (.getfield 32, 3) := by decide +kernel
theorem d180_17 : decode mt180.2.1 17 = .ok (.iload_n 1, 1) := by decide +kernel
theorem d180_18 : decode mt180.2.1 18 = .ok (.iaload, 1) := by decide +kernel
theorem d180_19 : decode mt180.2.1 19 = .ok (.goto 5, 3) := by decide +kernel
theorem d180_22 : decode mt180.2.1 22 = .ok (.ldc 94, 2) := by decide +kernel
theorem d180_24 : decode mt180.2.1 24 = .ok (.ireturn, 1) := by decide +kernel
noncomputable def pg180_0 : List (Nat × aP) := [(0, oLdA 0 1),
  (1, oPush (.int 0) 2),
  (2, oPutI (fun k => k = 11) 0 5),
  (5, oLdA 0 6),
  (6, oLdI 1 7),
  (7, oCalV (fun k => if k = 11 then some 159 else none) 1 10),
  (10, oIf (fun x => x = 0) 22 13),
  (13, oLdA 0 14),
  (14, oGetF (fun k => k = 11) 19 17),
  (17, oLdI 1 18),
  (18, oALdI 19),
  (19, oGo 24),
  (22, oPush (.int (-1000001)) 24),
  (24, oRetI)]
theorem ok180_0 : ∀ q ∈ pg180_0, Sim mT mt180 q.1 q.2 ∧ Grow q.2 :=
  List.forall_mem_cons.mpr ⟨⟨sim_aload_n d180_0 rfl, gr_LdA 0 1⟩,
  List.forall_mem_cons.mpr ⟨⟨sim_iconst d180_1 (by decide), gr_Push (.int 0) 2⟩,
  List.forall_mem_cons.mpr ⟨⟨sim_putI d180_2 gf155w, gr_PutI (fun k => k = 11) 0 5⟩,
  List.forall_mem_cons.mpr ⟨⟨sim_aload_n d180_5 rfl, gr_LdA 0 6⟩,
  List.forall_mem_cons.mpr ⟨⟨sim_iload_n d180_6 rfl, gr_LdI 1 7⟩,
  List.forall_mem_cons.mpr ⟨⟨sim_virtual d180_7 vk128, gr_CalV (fun k => if k = 11 then some 159 else none) 1 10⟩,
  List.forall_mem_cons.mpr ⟨⟨sim_if_eq d180_10 (by decide), gr_If (fun x => x = 0) 22 13⟩,
  List.forall_mem_cons.mpr ⟨⟨sim_aload_n d180_13 rfl, gr_LdA 0 14⟩,
  List.forall_mem_cons.mpr ⟨⟨sim_getF d180_14 gf174, gr_GetF (fun k => k = 11) 19 17⟩,
  List.forall_mem_cons.mpr ⟨⟨sim_iload_n d180_17 rfl, gr_LdI 1 18⟩,
  List.forall_mem_cons.mpr ⟨⟨sim_iaload d180_18, gr_ALdI 19⟩,
  List.forall_mem_cons.mpr ⟨⟨sim_goto d180_19 (by decide), gr_Go 24⟩,
  List.forall_mem_cons.mpr ⟨⟨sim_ldc d180_22 kw1042, gr_Push (.int (-1000001)) 24⟩,
  List.forall_mem_cons.mpr ⟨⟨sim_ireturn d180_24 rfl, gr_RetI⟩, fun _ h => absurd h List.not_mem_nil⟩⟩⟩⟩⟩⟩⟩⟩⟩⟩⟩⟩⟩⟩
noncomputable def pg180 : List (Nat × aP) := pg180_0
theorem ok180 : ∀ q ∈ pg180, Sim mT mt180 q.1 q.2 ∧ Grow q.2 := ok180_0
theorem d181_0 : decode mt181.2.1 0 = .ok (.aload_n 0, 1) := by decide +kernel
theorem d181_1 : decode mt181.2.1 1 = .ok (.getfield 41, 3) := by decide +kernel
theorem d181_4 : decode mt181.2.1 4 = .ok (.bipush 13, 2) := by decide +kernel
theorem d181_6 : decode mt181.2.1 6 = .ok (.iload_n 1, 1) := by decide +kernel
theorem d181_7 : decode mt181.2.1 7 = .ok (.imul, 1) := by decide +kernel
theorem d181_8 : decode mt181.2.1 8 = .ok (.iload_n 2, 1) := by decide +kernel
theorem d181_9 : decode mt181.2.1 9 = .ok (.iastore, 1) := by decide +kernel
theorem d181_10 : decode mt181.2.1 10 = .ok (.aload_n 0, 1) := by decide +kernel
theorem d181_11 : decode mt181.2.1 11 = .ok (.getfield 44, 3) := by decide +kernel
theorem d181_14 : decode mt181.2.1 14 = .ok (.bipush 13, 2) := by decide +kernel
theorem d181_16 : decode mt181.2.1 16 = .ok (.iload_n 1, 1) := by decide +kernel
theorem d181_17 : decode mt181.2.1 17 = .ok (.imul, 1) := by decide +kernel
theorem d181_18 : decode mt181.2.1 18 = .ok (.iconst 0, 1) := by decide +kernel
theorem d181_19 : decode mt181.2.1 19 = .ok (.iastore, 1) := by decide +kernel
theorem d181_20 : decode mt181.2.1 20 = .ok (.aload_n 0, 1) := by decide +kernel
theorem d181_21 : decode mt181.2.1 21 = .ok (.getfield 38, 3) := by decide +kernel
theorem d181_24 : decode mt181.2.1 24 = .ok (.bipush 12, 2) := by decide +kernel
theorem d181_26 : decode mt181.2.1 26 = .ok (.iload_n 1, 1) := by decide +kernel
theorem d181_27 : decode mt181.2.1 27 = .ok (.imul, 1) := by decide +kernel
theorem d181_28 : decode mt181.2.1 28 = .ok (.iconst (-1), 1) := by decide +kernel
theorem d181_29 : decode mt181.2.1 29 = .ok (.iastore, 1) := by decide +kernel
theorem d181_30 : decode mt181.2.1 30 = .ok (.aload_n 0, 1) := by decide +kernel
theorem d181_31 : decode mt181.2.1 31 = .ok (.getfield 47, 3) := by decide +kernel
theorem d181_34 : decode mt181.2.1 34 = .ok (.iload_n 1, 1) := by decide +kernel
theorem d181_35 : decode mt181.2.1 35 = .ok (.iconst 0, 1) := by decide +kernel
theorem d181_36 : decode mt181.2.1 36 = .ok (.iastore, 1) := by decide +kernel
theorem d181_37 : decode mt181.2.1 37 = .ok (.aload_n 0, 1) := by decide +kernel
theorem d181_38 : decode mt181.2.1 38 = .ok (.getfield 50, 3) := by decide +kernel
theorem d181_41 : decode mt181.2.1 41 = .ok (.iload_n 1, 1) := by decide +kernel
theorem d181_42 : decode mt181.2.1 42 = .ok (.iload_n 3, 1) := by decide +kernel
theorem d181_43 : decode mt181.2.1 43 = .ok (.iastore, 1) := by decide +kernel
theorem d181_44 : decode mt181.2.1 44 = .ok (.aload_n 0, 1) := by decide +kernel
theorem d181_45 : decode mt181.2.1 45 = .ok (.getfield 53, 3) := by decide +kernel
theorem d181_48 : decode mt181.2.1 48 = .ok (.iload_n 1, 1) := by decide +kernel
theorem d181_49 : decode mt181.2.1 49 = .ok (.iload 4, 2) := by decide +kernel
theorem d181_51 : decode mt181.2.1 51 = .ok (.iastore, 1) := by decide +kernel
theorem d181_52 : decode mt181.2.1 52 = .ok (.return_, 1) := by decide +kernel
noncomputable def pg181_0 : List (Nat × aP) := [(0, oLdA 0 1),
  (1, oGetF (fun k => k = 11) 23 4),
  (4, oPush (.int 13) 6),
  (6, oLdI 1 7),
  (7, oII (fun x y => x * y) 8),
  (8, oLdI 2 9),
  (9, oAStI 10),
  (10, oLdA 0 11),
  (11, oGetF (fun k => k = 11) 24 14),
  (14, oPush (.int 13) 16),
  (16, oLdI 1 17),
  (17, oII (fun x y => x * y) 18),
  (18, oPush (.int 0) 19),
  (19, oAStI 20),
  (20, oLdA 0 21),
  (21, oGetF (fun k => k = 11) 22 24),
  (24, oPush (.int 12) 26),
  (26, oLdI 1 27),
  (27, oII (fun x y => x * y) 28),
  (28, oPush (.int (-1)) 29),
  (29, oAStI 30),
  (30, oLdA 0 31),
  (31, oGetF (fun k => k = 11) 25 34),
  (34, oLdI 1 35),
  (35, oPush (.int 0) 36),
  (36, oAStI 37),
  (37, oLdA 0 38),
  (38, oGetF (fun k => k = 11) 26 41),
  (41, oLdI 1 42),
  (42, oLdI 3 43),
  (43, oAStI 44),
  (44, oLdA 0 45),
  (45, oGetF (fun k => k = 11) 27 48),
  (48, oLdI 1 49),
  (49, oLdI 4 51),
  (51, oAStI 52),
  (52, oRetV)]
theorem ok181_0 : ∀ q ∈ pg181_0, Sim mT mt181 q.1 q.2 ∧ Grow q.2 :=
  List.forall_mem_cons.mpr ⟨⟨sim_aload_n d181_0 rfl, gr_LdA 0 1⟩,
  List.forall_mem_cons.mpr ⟨⟨sim_getF d181_1 gf176, gr_GetF (fun k => k = 11) 23 4⟩,
  List.forall_mem_cons.mpr ⟨⟨sim_bipush d181_4 (by decide), gr_Push (.int 13) 6⟩,
  List.forall_mem_cons.mpr ⟨⟨sim_iload_n d181_6 rfl, gr_LdI 1 7⟩,
  List.forall_mem_cons.mpr ⟨⟨sim_imul d181_7, gr_II (fun x y => x * y) 8⟩,
  List.forall_mem_cons.mpr ⟨⟨sim_iload_n d181_8 rfl, gr_LdI 2 9⟩,
  List.forall_mem_cons.mpr ⟨⟨sim_iastore d181_9, gr_AStI 10⟩,
  List.forall_mem_cons.mpr ⟨⟨sim_aload_n d181_10 rfl, gr_LdA 0 11⟩,
  List.forall_mem_cons.mpr ⟨⟨sim_getF d181_11 gf177, gr_GetF (fun k => k = 11) 24 14⟩,
  List.forall_mem_cons.mpr ⟨⟨sim_bipush d181_14 (by decide), gr_Push (.int 13) 16⟩,
  List.forall_mem_cons.mpr ⟨⟨sim_iload_n d181_16 rfl, gr_LdI 1 17⟩,
  List.forall_mem_cons.mpr ⟨⟨sim_imul d181_17, gr_II (fun x y => x * y) 18⟩,
  List.forall_mem_cons.mpr ⟨⟨sim_iconst d181_18 (by decide), gr_Push (.int 0) 19⟩,
  List.forall_mem_cons.mpr ⟨⟨sim_iastore d181_19, gr_AStI 20⟩,
  List.forall_mem_cons.mpr ⟨⟨sim_aload_n d181_20 rfl, gr_LdA 0 21⟩,
  List.forall_mem_cons.mpr ⟨⟨sim_getF d181_21 gf178, gr_GetF (fun k => k = 11) 22 24⟩,
  List.forall_mem_cons.mpr ⟨⟨sim_bipush d181_24 (by decide), gr_Push (.int 12) 26⟩,
  List.forall_mem_cons.mpr ⟨⟨sim_iload_n d181_26 rfl, gr_LdI 1 27⟩,
  List.forall_mem_cons.mpr ⟨⟨sim_imul d181_27, gr_II (fun x y => x * y) 28⟩,
  List.forall_mem_cons.mpr ⟨⟨sim_iconst d181_28 (by decide), gr_Push (.int (-1)) 29⟩,
  List.forall_mem_cons.mpr ⟨⟨sim_iastore d181_29, gr_AStI 30⟩,
  List.forall_mem_cons.mpr ⟨⟨sim_aload_n d181_30 rfl, gr_LdA 0 31⟩,
  List.forall_mem_cons.mpr ⟨⟨sim_getF d181_31 gf179, gr_GetF (fun k => k = 11) 25 34⟩,
  List.forall_mem_cons.mpr ⟨⟨sim_iload_n d181_34 rfl, gr_LdI 1 35⟩,
  List.forall_mem_cons.mpr ⟨⟨sim_iconst d181_35 (by decide), gr_Push (.int 0) 36⟩,
  List.forall_mem_cons.mpr ⟨⟨sim_iastore d181_36, gr_AStI 37⟩,
  List.forall_mem_cons.mpr ⟨⟨sim_aload_n d181_37 rfl, gr_LdA 0 38⟩,
  List.forall_mem_cons.mpr ⟨⟨sim_getF d181_38 gf180, gr_GetF (fun k => k = 11) 26 41⟩,
  List.forall_mem_cons.mpr ⟨⟨sim_iload_n d181_41 rfl, gr_LdI 1 42⟩,
  List.forall_mem_cons.mpr ⟨⟨sim_iload_n d181_42 rfl, gr_LdI 3 43⟩,
  List.forall_mem_cons.mpr ⟨⟨sim_iastore d181_43, gr_AStI 44⟩,
  List.forall_mem_cons.mpr ⟨⟨sim_aload_n d181_44 rfl, gr_LdA 0 45⟩,
  List.forall_mem_cons.mpr ⟨⟨sim_getF d181_45 gf181, gr_GetF (fun k => k = 11) 27 48⟩,
  List.forall_mem_cons.mpr ⟨⟨sim_iload_n d181_48 rfl, gr_LdI 1 49⟩,
  List.forall_mem_cons.mpr ⟨⟨sim_iload d181_49, gr_LdI 4 51⟩,
  List.forall_mem_cons.mpr ⟨⟨sim_iastore d181_51, gr_AStI 52⟩,
  List.forall_mem_cons.mpr ⟨⟨sim_return d181_52 rfl, gr_RetV⟩, fun _ h => absurd h List.not_mem_nil⟩⟩⟩⟩⟩⟩⟩⟩⟩⟩⟩⟩⟩⟩⟩⟩⟩⟩⟩⟩⟩⟩⟩⟩⟩⟩⟩⟩⟩⟩⟩⟩⟩⟩⟩⟩⟩
noncomputable def pg181 : List (Nat × aP) := pg181_0
theorem ok181 : ∀ q ∈ pg181, Sim mT mt181 q.1 q.2 ∧ Grow q.2 := ok181_0
theorem d182_0 : decode mt182.2.1 0 = .ok (.iload_n 0, 1) := by decide +kernel
theorem d182_1 : decode mt182.2.1 1 = .ok (.bipush 8, 2) := by decide +kernel
theorem d182_3 : decode mt182.2.1 3 = .ok (.irem, 1) := by decide +kernel
theorem d182_4 : decode mt182.2.1 4 = .ok (.iload_n 1, 1) := by decide +kernel
theorem d182_5 : decode mt182.2.1 5 = .ok (.bipush 8, 2) := by decide +kernel
theorem d182_7 : decode mt182.2.1 7 = .ok (.irem, 1) := by decide +kernel
theorem d182_8 : decode mt182.2.1 8 = .ok (.isub, 1) := by decide +kernel
theorem d182_9 : decode mt182.2.1 9 = .ok (.istore_n 2, 1) := by decide +kernel
theorem d182_10 : decode mt182.2.1 10 = .ok (.iload_n 0, 1) := by decide +kernel
theorem d182_11 : decode mt182.2.1 11 = .ok (.bipush 8, 2) := by decide +kernel
theorem d182_13 : decode mt182.2.1 13 = .ok (.idiv, 1) := by decide +kernel
theorem d182_14 : decode mt182.2.1 14 = .ok (.iload_n 1, 1) := by decide +kernel
theorem d182_15 : decode mt182.2.1 15 = .ok (.bipush 8, 2) := by decide +kernel
theorem d182_17 : decode mt182.2.1 17 = .ok (.idiv, 1) := by decide +kernel
theorem d182_18 : decode mt182.2.1 18 = .ok (.isub, 1) := by decide +kernel
theorem d182_19 : decode mt182.2.1 19 = .ok (.istore_n 3, 1) := by decide +kernel
theorem d182_20 : decode mt182.2.1 20 = .ok (.iload_n 2, 1) := by decide +kernel
theorem d182_21 : decode mt182.2.1 21 = .ok (.ifCond .ge 8, 3) := by decide +kernel
theorem d182_24 : decode mt182.2.1 24 = .ok (.iload_n 2, 1) := by decide +kernel
theorem d182_25 : decode mt182.2.1 25 = .ok (.ineg, 1) := by decide +kernel
theorem d182_26 : decode mt182.2.1 26 = .ok (.goto 4, 3) := by decide +kernel
theorem d182_29 : decode mt182.2.1 29 = .ok (.iload_n 2, 1) := by decide +kernel
theorem d182_30 : decode mt182.2.1 30 = .ok (.iload_n 3, 1) := by decide +kernel
theorem d182_31 : decode mt182.2.1 31 = .ok (.ifCond .ge 8, 3) := by decide +kernel
theorem d182_34 : decode mt182.2.1 34 = .ok (.iload_n 3, 1) := by decide +kernel
theorem d182_35 : decode mt182.2.1 35 = .ok (.ineg, 1) := by decide +kernel
theorem d182_36 : decode mt182.2.1 36 = .ok (.goto 4, 3) := by decide +kernel
theorem d182_39 : decode mt182.2.1 39 = .ok (.iload_n 3, 1) := by decide +kernel
theorem d182_40 : decode mt182.2.1 40 = .ok (.iadd, 1) := by decide +kernel
theorem d182_41 : decode mt182.2.1 41 = .ok (.ireturn, 1) := by decide +kernel
noncomputable def pg182_0 : List (Nat × aP) := [(0, oLdI 0 1),
  (1, oPush (.int 8) 3),
  (3, oIId (fun x y => x - x / y * y) 4),
  (4, oLdI 1 5),
  (5, oPush (.int 8) 7),
  (7, oIId (fun x y => x - x / y * y) 8),
  (8, oII (fun x y => x - y) 9),
  (9, oStI 2 10),
  (10, oLdI 0 11),
  (11, oPush (.int 8) 13),
  (13, oIId (fun x y => x / y) 14),
  (14, oLdI 1 15),
  (15, oPush (.int 8) 17),
  (17, oIId (fun x y => x / y) 18),
  (18, oII (fun x y => x - y) 19),
  (19, oStI 3 20),
  (20, oLdI 2 21),
  (21, oIf (fun x => 0 ≤ x) 29 24),
  (24, oLdI 2 25),
  (25, oI (fun x => -x) 26),
  (26, oGo 30),
  (29, oLdI 2 30),
  (30, oLdI 3 31),
  (31, oIf (fun x => 0 ≤ x) 39 34),
  (34, oLdI 3 35),
  (35, oI (fun x => -x) 36),
  (36, oGo 40),
  (39, oLdI 3 40),
  (40, oII (fun x y => x + y) 41),
  (41, oRetI)]
theorem ok182_0 : ∀ q ∈ pg182_0, Sim mT mt182 q.1 q.2 ∧ Grow q.2 :=
  List.forall_mem_cons.mpr ⟨⟨sim_iload_n d182_0 rfl, gr_LdI 0 1⟩,
  List.forall_mem_cons.mpr ⟨⟨sim_bipush d182_1 (by decide), gr_Push (.int 8) 3⟩,
  List.forall_mem_cons.mpr ⟨⟨sim_irem d182_3, gr_IId (fun x y => x - x / y * y) 4⟩,
  List.forall_mem_cons.mpr ⟨⟨sim_iload_n d182_4 rfl, gr_LdI 1 5⟩,
  List.forall_mem_cons.mpr ⟨⟨sim_bipush d182_5 (by decide), gr_Push (.int 8) 7⟩,
  List.forall_mem_cons.mpr ⟨⟨sim_irem d182_7, gr_IId (fun x y => x - x / y * y) 8⟩,
  List.forall_mem_cons.mpr ⟨⟨sim_isub d182_8, gr_II (fun x y => x - y) 9⟩,
  List.forall_mem_cons.mpr ⟨⟨sim_istore_n d182_9 rfl (by decide), gr_StI 2 10⟩,
  List.forall_mem_cons.mpr ⟨⟨sim_iload_n d182_10 rfl, gr_LdI 0 11⟩,
  List.forall_mem_cons.mpr ⟨⟨sim_bipush d182_11 (by decide), gr_Push (.int 8) 13⟩,
  List.forall_mem_cons.mpr ⟨⟨sim_idiv d182_13, gr_IId (fun x y => x / y) 14⟩,
  List.forall_mem_cons.mpr ⟨⟨sim_iload_n d182_14 rfl, gr_LdI 1 15⟩,
  List.forall_mem_cons.mpr ⟨⟨sim_bipush d182_15 (by decide), gr_Push (.int 8) 17⟩,
  List.forall_mem_cons.mpr ⟨⟨sim_idiv d182_17, gr_IId (fun x y => x / y) 18⟩,
  List.forall_mem_cons.mpr ⟨⟨sim_isub d182_18, gr_II (fun x y => x - y) 19⟩,
  List.forall_mem_cons.mpr ⟨⟨sim_istore_n d182_19 rfl (by decide), gr_StI 3 20⟩,
  List.forall_mem_cons.mpr ⟨⟨sim_iload_n d182_20 rfl, gr_LdI 2 21⟩,
  List.forall_mem_cons.mpr ⟨⟨sim_if_ge d182_21 (by decide), gr_If (fun x => 0 ≤ x) 29 24⟩,
  List.forall_mem_cons.mpr ⟨⟨sim_iload_n d182_24 rfl, gr_LdI 2 25⟩,
  List.forall_mem_cons.mpr ⟨⟨sim_ineg d182_25, gr_I (fun x => -x) 26⟩,
  List.forall_mem_cons.mpr ⟨⟨sim_goto d182_26 (by decide), gr_Go 30⟩,
  List.forall_mem_cons.mpr ⟨⟨sim_iload_n d182_29 rfl, gr_LdI 2 30⟩,
  List.forall_mem_cons.mpr ⟨⟨sim_iload_n d182_30 rfl, gr_LdI 3 31⟩,
  List.forall_mem_cons.mpr ⟨⟨sim_if_ge d182_31 (by decide), gr_If (fun x => 0 ≤ x) 39 34⟩,
  List.forall_mem_cons.mpr ⟨⟨sim_iload_n d182_34 rfl, gr_LdI 3 35⟩,
  List.forall_mem_cons.mpr ⟨⟨sim_ineg d182_35, gr_I (fun x => -x) 36⟩,
  List.forall_mem_cons.mpr ⟨⟨sim_goto d182_36 (by decide), gr_Go 40⟩,
  List.forall_mem_cons.mpr ⟨⟨sim_iload_n d182_39 rfl, gr_LdI 3 40⟩,
  List.forall_mem_cons.mpr ⟨⟨sim_iadd d182_40, gr_II (fun x y => x + y) 41⟩,
  List.forall_mem_cons.mpr ⟨⟨sim_ireturn d182_41 rfl, gr_RetI⟩, fun _ h => absurd h List.not_mem_nil⟩⟩⟩⟩⟩⟩⟩⟩⟩⟩⟩⟩⟩⟩⟩⟩⟩⟩⟩⟩⟩⟩⟩⟩⟩⟩⟩⟩⟩⟩
noncomputable def pg182 : List (Nat × aP) := pg182_0
theorem ok182 : ∀ q ∈ pg182, Sim mT mt182 q.1 q.2 ∧ Grow q.2 := ok182_0
theorem d183_0 : decode mt183.2.1 0 = .ok (.iconst 0, 1) := by decide +kernel
theorem d183_1 : decode mt183.2.1 1 = .ok (.istore_n 3, 1) := by decide +kernel
theorem d183_2 : decode mt183.2.1 2 = .ok (.iconst 0, 1) := by decide +kernel
theorem d183_3 : decode mt183.2.1 3 = .ok (.istore 4, 2) := by decide +kernel
theorem d183_5 : decode mt183.2.1 5 = .ok (.iload 4, 2) := by decide +kernel
theorem d183_7 : decode mt183.2.1 7 = .ok (.aload_n 0, 1) := by decide +kernel
theorem d183_8 : decode mt183.2.1 8 = .ok (.getfield 47, 3) := by decide +kernel
theorem d183_11 : decode mt183.2.1 11 = .ok (.iload_n 1, 1) := by decide +kernel
theorem d183_12 : decode mt183.2.1 12 = .ok (.iaload, 1) := by decide +kernel
theorem d183_13 : decode mt183.2.1 13 = .ok (.if_icmp .gt 35, 3) := by decide +kernel
theorem d183_16 : decode mt183.2.1 16 = .ok (.iload_n 3, 1) := by decide +kernel
theorem d183_17 : decode mt183.2.1 17 = .ok (.ifCond .ne 19, 3) := by decide +kernel
theorem d183_20 : decode mt183.2.1 20 = .ok (.aload_n 0, 1) := by decide +kernel
theorem d183_21 : decode mt183.2.1 21 = .ok (.getfield 41, 3) := by decide +kernel
theorem d183_24 : decode mt183.2.1 24 = .ok (.bipush 13, 2) := by decide +kernel
theorem d183_26 : decode mt183.2.1 26 = .ok (.iload_n 1, 1) := by decide +kernel
theorem d183_27 : decode mt183.2.1 27 = .ok (.imul, 1) := by decide +kernel
theorem d183_28 : decode mt183.2.1 28 = .ok (.iload 4, 2) := by decide +kernel
theorem d183_30 : decode mt183.2.1 30 = .ok (.iadd, 1) := by decide +kernel
theorem d183_31 : decode mt183.2.1 31 = .ok (.iaload, 1) := by decide +kernel
theorem d183_32 : decode mt183.2.1 32 = .ok (.iload_n 2, 1) := by decide +kernel
theorem d183_33 : decode mt183.2.1 33 = .ok (.if_icmp .ne 7, 3) := by decide +kernel
theorem d183_36 : decode mt183.2.1 36 = .ok (.iconst 1, 1) := by decide +kernel
theorem d183_37 : decode mt183.2.1 37 = .ok (.goto 4, 3) := by decide +kernel
theorem d183_40 : decode mt183.2.1 40 = .ok (.iconst 0, 1) := by decide +kernel
theorem d183_41 : decode mt183.2.1 41 = .ok (.istore_n 3, 1) := by decide +kernel
theorem d183_42 : decode mt183.2.1 42 = .ok (.iinc 4 1, 3) := by decide +kernel
theorem d183_45 : decode mt183.2.1 45 = .ok (.goto (-40), 3) := by decide +kernel
theorem d183_48 : decode mt183.2.1 48 = .ok (.iload_n 3, 1) := by decide +kernel
theorem d183_49 : decode mt183.2.1 49 = .ok (.ireturn, 1) := by decide +kernel
noncomputable def pg183_0 : List (Nat × aP) := [(0, oPush (.int 0) 1),
  (1, oStI 3 2),
  (2, oPush (.int 0) 3),
  (3, oStI 4 5),
  (5, oLdI 4 7),
  (7, oLdA 0 8),
  (8, oGetF (fun k => k = 11) 25 11),
  (11, oLdI 1 12),
  (12, oALdI 13),
  (13, oIc (fun x y => y < x) 48 16),
  (16, oLdI 3 17),
  (17, oIf (fun x => ¬ x = 0) 36 20),
  (20, oLdA 0 21),
  (21, oGetF (fun k => k = 11) 23 24),
  (24, oPush (.int 13) 26),
  (26, oLdI 1 27),
  (27, oII (fun x y => x * y) 28),
  (28, oLdI 4 30),
  (30, oII (fun x y => x + y) 31),
  (31, oALdI 32),
  (32, oLdI 2 33),
  (33, oIc (fun x y => ¬ x = y) 40 36),
  (36, oPush (.int 1) 37),
  (37, oGo 41),
  (40, oPush (.int 0) 41),
  (41, oStI 3 42),
  (42, oInc 4 1 45),
  (45, oGo 5),
  (48, oLdI 3 49),
  (49, oRetN .boolean)]
theorem ok183_0 : ∀ q ∈ pg183_0, Sim mT mt183 q.1 q.2 ∧ Grow q.2 :=
  List.forall_mem_cons.mpr ⟨⟨sim_iconst d183_0 (by decide), gr_Push (.int 0) 1⟩,
  List.forall_mem_cons.mpr ⟨⟨sim_istore_n d183_1 rfl (by decide), gr_StI 3 2⟩,
  List.forall_mem_cons.mpr ⟨⟨sim_iconst d183_2 (by decide), gr_Push (.int 0) 3⟩,
  List.forall_mem_cons.mpr ⟨⟨sim_istore d183_3 (by decide), gr_StI 4 5⟩,
  List.forall_mem_cons.mpr ⟨⟨sim_iload d183_5, gr_LdI 4 7⟩,
  List.forall_mem_cons.mpr ⟨⟨sim_aload_n d183_7 rfl, gr_LdA 0 8⟩,
  List.forall_mem_cons.mpr ⟨⟨sim_getF d183_8 gf179, gr_GetF (fun k => k = 11) 25 11⟩,
  List.forall_mem_cons.mpr ⟨⟨sim_iload_n d183_11 rfl, gr_LdI 1 12⟩,
  List.forall_mem_cons.mpr ⟨⟨sim_iaload d183_12, gr_ALdI 13⟩,
  List.forall_mem_cons.mpr ⟨⟨sim_icmp_gt d183_13 (by decide), gr_Ic (fun x y => y < x) 48 16⟩,
  List.forall_mem_cons.mpr ⟨⟨sim_iload_n d183_16 rfl, gr_LdI 3 17⟩,
  List.forall_mem_cons.mpr ⟨⟨sim_if_ne d183_17 (by decide), gr_If (fun x => ¬ x = 0) 36 20⟩,
  List.forall_mem_cons.mpr ⟨⟨sim_aload_n d183_20 rfl, gr_LdA 0 21⟩,
  List.forall_mem_cons.mpr ⟨⟨sim_getF d183_21 gf176, gr_GetF (fun k => k = 11) 23 24⟩,
  List.forall_mem_cons.mpr ⟨⟨sim_bipush d183_24 (by decide), gr_Push (.int 13) 26⟩,
  List.forall_mem_cons.mpr ⟨⟨sim_iload_n d183_26 rfl, gr_LdI 1 27⟩,
  List.forall_mem_cons.mpr ⟨⟨sim_imul d183_27, gr_II (fun x y => x * y) 28⟩,
  List.forall_mem_cons.mpr ⟨⟨sim_iload d183_28, gr_LdI 4 30⟩,
  List.forall_mem_cons.mpr ⟨⟨sim_iadd d183_30, gr_II (fun x y => x + y) 31⟩,
  List.forall_mem_cons.mpr ⟨⟨sim_iaload d183_31, gr_ALdI 32⟩,
  List.forall_mem_cons.mpr ⟨⟨sim_iload_n d183_32 rfl, gr_LdI 2 33⟩,
  List.forall_mem_cons.mpr ⟨⟨sim_icmp_ne d183_33 (by decide), gr_Ic (fun x y => ¬ x = y) 40 36⟩,
  List.forall_mem_cons.mpr ⟨⟨sim_iconst d183_36 (by decide), gr_Push (.int 1) 37⟩,
  List.forall_mem_cons.mpr ⟨⟨sim_goto d183_37 (by decide), gr_Go 41⟩,
  List.forall_mem_cons.mpr ⟨⟨sim_iconst d183_40 (by decide), gr_Push (.int 0) 41⟩,
  List.forall_mem_cons.mpr ⟨⟨sim_istore_n d183_41 rfl (by decide), gr_StI 3 42⟩,
  List.forall_mem_cons.mpr ⟨⟨sim_iinc d183_42 (by decide) (by decide), gr_Inc 4 1 45⟩,
  List.forall_mem_cons.mpr ⟨⟨sim_goto d183_45 (by decide), gr_Go 5⟩,
  List.forall_mem_cons.mpr ⟨⟨sim_iload_n d183_48 rfl, gr_LdI 3 49⟩,
  List.forall_mem_cons.mpr ⟨⟨sim_nreturn d183_49 rfl (fun _ h => congrArg Value.int h), gr_RetN .boolean⟩, fun _ h => absurd h List.not_mem_nil⟩⟩⟩⟩⟩⟩⟩⟩⟩⟩⟩⟩⟩⟩⟩⟩⟩⟩⟩⟩⟩⟩⟩⟩⟩⟩⟩⟩⟩⟩
noncomputable def pg183 : List (Nat × aP) := pg183_0
theorem ok183 : ∀ q ∈ pg183, Sim mT mt183 q.1 q.2 ∧ Grow q.2 := ok183_0
theorem d184_0 : decode mt184.2.1 0 = .ok (.aload_n 0, 1) := by decide +kernel
theorem d184_1 : decode mt184.2.1 1 = .ok (.getfield 47, 3) := by decide +kernel
theorem d184_4 : decode mt184.2.1 4 = .ok (.iload_n 1, 1) := by decide +kernel
theorem d184_5 : decode mt184.2.1 5 = .ok (.iaload, 1) := by decide +kernel
theorem d184_6 : decode mt184.2.1 6 = .ok (.iconst 1, 1) := by decide +kernel
theorem d184_7 : decode mt184.2.1 7 = .ok (.iadd, 1) := by decide +kernel
theorem d184_8 : decode mt184.2.1 8 = .ok (.istore_n 2, 1) := by decide +kernel
theorem d184_9 : decode mt184.2.1 9 = .ok (.iload_n 2, 1) := by decide +kernel
theorem d184_10 : decode mt184.2.1 10 = .ok (.iconst 4, 1) := by decide +kernel
theorem d184_11 : decode mt184.2.1 11 = .ok (.if_icmp .ge 5, 3) := by decide +kernel
theorem d184_14 : decode mt184.2.1 14 = .ok (.iconst 0, 1) := by decide +kernel
theorem d184_15 : decode mt184.2.1 15 = .ok (.ireturn, 1) := by decide +kernel
theorem d184_16 : decode mt184.2.1 16 = .ok (.aload_n 0, 1) := by decide +kernel
theorem d184_17 : decode mt184.2.1 17 = .ok (.aload_n 0, 1) := by decide +kernel
theorem d184_18 : decode mt184.2.1 18 = .ok (.aload_n 0, 1) := by decide +kernel
theorem d184_19 : decode mt184.2.1 19 = .ok (.getfield 41, 3) := by decide +kernel
theorem d184_22 : decode mt184.2.1 22 = .ok (.bipush 13, 2) := by decide +kernel
theorem d184_24 : decode mt184.2.1 24 = .ok (.iload_n 1, 1) := by decide +kernel
theorem d184_25 : decode mt184.2.1 25 = .ok (.imul, 1) := by decide +kernel
theorem d184_26 : decode mt184.2.1 26 = .ok (.iaload, 1) := by decide +kernel
theorem d184_27 : decode mt184.2.1 27 = .ok (.aload_n 0, 1) := by decide +kernel
theorem d184_28 : decode mt184.2.1 28 = .ok (.getfield 38, 3) := by decide +kernel
theorem d184_31 : decode mt184.2.1 31 = .ok (.bipush 12, 2) := by decide +kernel
theorem d184_33 : decode mt184.2.1 33 = .ok (.iload_n 1, 1) := by decide +kernel
theorem d184_34 : decode mt184.2.1 34 = .ok (.imul, 1) := by decide +kernel
theorem d184_35 : decode mt184.2.1 35 = .ok (.iload_n 2, 1) := by decide +kernel
theorem d184_36 : decode mt184.2.1 36 = .ok (.invokevirtual 215, 3) := by decide +kernel
theorem d184_39 : decode mt184.2.1 39 = .ok (.putfield 270, 3) := by decide +kernel
theorem d184_42 : decode mt184.2.1 42 = .ok (.aload_n 0, 1) := by decide +kernel
theorem d184_43 : decode mt184.2.1 43 = .ok (.getfield 56, 3) := by decide +kernel
theorem d184_46 : decode mt184.2.1 46 = .ok (.iload_n 1, 1) := by decide +kernel
theorem d184_47 : decode mt184.2.1 47 = .ok (.iload_n 2, 1) := by decide +kernel
theorem d184_48 : decode mt184.2.1 48 = .ok (.iastore, 1) := by decide +kernel
theorem d184_49 : decode mt184.2.1 49 = .ok (.aload_n 0, 1) := by decide +kernel
theorem d184_50 : decode mt184.2.1 50 = .ok (.getfield 270, 3) := by decide +kernel
theorem d184_53 : decode mt184.2.1 53 = .ok (.aload_n 0, 1) := by decide +kernel
theorem d184_54 : decode mt184.2.1 54 = .ok (.getfield 211, 3) := by decide +kernel
theorem d184_57 : decode mt184.2.1 57 = .ok (.land, 1) := by decide +kernel
theorem d184_58 : decode mt184.2.1 58 = .ok (.lconst 0, 1) := by decide +kernel
theorem d184_59 : decode mt184.2.1 59 = .ok (.lcmp, 1) := by decide +kernel
theorem d184_60 : decode mt184.2.1 60 = .ok (.ifCond .ne 7, 3) := by decide +kernel
theorem d184_63 : decode mt184.2.1 63 = .ok (.iconst 1, 1) := by decide +kernel
theorem d184_64 : decode mt184.2.1 64 = .ok (.goto 4, 3) := by decide +kernel
theorem d184_67 : decode mt184.2.1 67 = .ok (.iconst 0, 1) := by decide +kernel
theorem d184_68 : decode mt184.2.1 68 = .ok (.ireturn, 1) := by decide +kernel
noncomputable def pg184_0 : List (Nat × aP) := [(0, oLdA 0 1),
  (1, oGetF (fun k => k = 11) 25 4),
  (4, oLdI 1 5),
  (5, oALdI 6),
  (6, oPush (.int 1) 7),
  (7, oII (fun x y => x + y) 8),
  (8, oStI 2 9),
  (9, oLdI 2 10),
  (10, oPush (.int 4) 11),
  (11, oIc (fun x y => y ≤ x) 16 14),
  (14, oPush (.int 0) 15),
  (15, oRetN .boolean),
  (16, oLdA 0 17),
  (17, oLdA 0 18),
  (18, oLdA 0 19),
  (19, oGetF (fun k => k = 11) 23 22),
  (22, oPush (.int 13) 24),
  (24, oLdI 1 25),
  (25, oII (fun x y => x * y) 26),
  (26, oALdI 27),
  (27, oLdA 0 28),
  (28, oGetF (fun k => k = 11) 22 31),
  (31, oPush (.int 12) 33),
  (33, oLdI 1 34),
  (34, oII (fun x y => x * y) 35),
  (35, oLdI 2 36),
  (36, oCalV (fun k => if k = 11 then some 163 else none) 4 39),
  (39, oPutL (fun k => k = 11) 29 42),
  (42, oLdA 0 43),
  (43, oGetF (fun k => k = 11) 28 46),
  (46, oLdI 1 47),
  (47, oLdI 2 48),
  (48, oAStI 49),
  (49, oLdA 0 50),
  (50, oGetL (fun k => k = 11) 29 53),
  (53, oLdA 0 54),
  (54, oGetL (fun k => k = 11) 20 57),
  (57, oLL (fun x y => x &&& y) 58),
  (58, oPush (.long 0) 59),
  (59, oLcmp 60)]
theorem ok184_0 : ∀ q ∈ pg184_0, Sim mT mt184 q.1 q.2 ∧ Grow q.2 :=
  List.forall_mem_cons.mpr ⟨⟨sim_aload_n d184_0 rfl, gr_LdA 0 1⟩,
  List.forall_mem_cons.mpr ⟨⟨sim_getF d184_1 gf179, gr_GetF (fun k => k = 11) 25 4⟩,
  List.forall_mem_cons.mpr ⟨⟨sim_iload_n d184_4 rfl, gr_LdI 1 5⟩,
  List.forall_mem_cons.mpr ⟨⟨sim_iaload d184_5, gr_ALdI 6⟩,
  List.forall_mem_cons.mpr ⟨⟨sim_iconst d184_6 (by decide), gr_Push (.int 1) 7⟩,
  List.forall_mem_cons.mpr ⟨⟨sim_iadd d184_7, gr_II (fun x y => x + y) 8⟩,
  List.forall_mem_cons.mpr ⟨⟨sim_istore_n d184_8 rfl (by decide), gr_StI 2 9⟩,
  List.forall_mem_cons.mpr ⟨⟨sim_iload_n d184_9 rfl, gr_LdI 2 10⟩,
  List.forall_mem_cons.mpr ⟨⟨sim_iconst d184_10 (by decide), gr_Push (.int 4) 11⟩,
  List.forall_mem_cons.mpr ⟨⟨sim_icmp_ge d184_11 (by decide), gr_Ic (fun x y => y ≤ x) 16 14⟩,
  List.forall_mem_cons.mpr ⟨⟨sim_iconst d184_14 (by decide), gr_Push (.int 0) 15⟩,
  List.forall_mem_cons.mpr ⟨⟨sim_nreturn d184_15 rfl (fun _ h => congrArg Value.int h), gr_RetN .boolean⟩,
  List.forall_mem_cons.mpr ⟨⟨sim_aload_n d184_16 rfl, gr_LdA 0 17⟩,
  List.forall_mem_cons.mpr ⟨⟨sim_aload_n d184_17 rfl, gr_LdA 0 18⟩,
  List.forall_mem_cons.mpr ⟨⟨sim_aload_n d184_18 rfl, gr_LdA 0 19⟩,
  List.forall_mem_cons.mpr ⟨⟨sim_getF d184_19 gf176, gr_GetF (fun k => k = 11) 23 22⟩,
  List.forall_mem_cons.mpr ⟨⟨sim_bipush d184_22 (by decide), gr_Push (.int 13) 24⟩,
  List.forall_mem_cons.mpr ⟨⟨sim_iload_n d184_24 rfl, gr_LdI 1 25⟩,
  List.forall_mem_cons.mpr ⟨⟨sim_imul d184_25, gr_II (fun x y => x * y) 26⟩,
  List.forall_mem_cons.mpr ⟨⟨sim_iaload d184_26, gr_ALdI 27⟩,
  List.forall_mem_cons.mpr ⟨⟨sim_aload_n d184_27 rfl, gr_LdA 0 28⟩,
  List.forall_mem_cons.mpr ⟨⟨sim_getF d184_28 gf178, gr_GetF (fun k => k = 11) 22 31⟩,
  List.forall_mem_cons.mpr ⟨⟨sim_bipush d184_31 (by decide), gr_Push (.int 12) 33⟩,
  List.forall_mem_cons.mpr ⟨⟨sim_iload_n d184_33 rfl, gr_LdI 1 34⟩,
  List.forall_mem_cons.mpr ⟨⟨sim_imul d184_34, gr_II (fun x y => x * y) 35⟩,
  List.forall_mem_cons.mpr ⟨⟨sim_iload_n d184_35 rfl, gr_LdI 2 36⟩,
  List.forall_mem_cons.mpr ⟨⟨sim_virtual d184_36 vk117, gr_CalV (fun k => if k = 11 then some 163 else none) 4 39⟩,
  List.forall_mem_cons.mpr ⟨⟨sim_putL d184_39 gf182, gr_PutL (fun k => k = 11) 29 42⟩,
  List.forall_mem_cons.mpr ⟨⟨sim_aload_n d184_42 rfl, gr_LdA 0 43⟩,
  List.forall_mem_cons.mpr ⟨⟨sim_getF d184_43 gf183, gr_GetF (fun k => k = 11) 28 46⟩,
  List.forall_mem_cons.mpr ⟨⟨sim_iload_n d184_46 rfl, gr_LdI 1 47⟩,
  List.forall_mem_cons.mpr ⟨⟨sim_iload_n d184_47 rfl, gr_LdI 2 48⟩,
  List.forall_mem_cons.mpr ⟨⟨sim_iastore d184_48, gr_AStI 49⟩,
  List.forall_mem_cons.mpr ⟨⟨sim_aload_n d184_49 rfl, gr_LdA 0 50⟩,
  List.forall_mem_cons.mpr ⟨⟨sim_getL d184_50 gf182, gr_GetL (fun k => k = 11) 29 53⟩,
  List.forall_mem_cons.mpr ⟨⟨sim_aload_n d184_53 rfl, gr_LdA 0 54⟩,
  List.forall_mem_cons.mpr ⟨⟨sim_getL d184_54 gf172, gr_GetL (fun k => k = 11) 20 57⟩,
  List.forall_mem_cons.mpr ⟨⟨sim_land d184_57, gr_LL (fun x y => x &&& y) 58⟩,
  List.forall_mem_cons.mpr ⟨⟨sim_lconst d184_58 (by decide), gr_Push (.long 0) 59⟩,
  List.forall_mem_cons.mpr ⟨⟨sim_lcmp d184_59, gr_Lcmp 60⟩, fun _ h => absurd h List.not_mem_nil⟩⟩⟩⟩⟩⟩⟩⟩⟩⟩⟩⟩⟩⟩⟩⟩⟩⟩⟩⟩⟩⟩⟩⟩⟩⟩⟩⟩⟩⟩⟩⟩⟩⟩⟩⟩⟩⟩⟩⟩
noncomputable def pg184_1 : List (Nat × aP) := [(60, oIf (fun x => ¬ x = 0) 67 63),
  (63, oPush (.int 1) 64),
  (64, oGo 68),
  (67, oPush (.int 0) 68),
  (68, oRetN .boolean)]
theorem ok184_1 : ∀ q ∈ pg184_1, Sim mT mt184 q.1 q.2 ∧ Grow q.2 :=
  List.forall_mem_cons.mpr ⟨⟨sim_if_ne d184_60 (by decide), gr_If (fun x => ¬ x = 0) 67 63⟩,
  List.forall_mem_cons.mpr ⟨⟨sim_iconst d184_63 (by decide), gr_Push (.int 1) 64⟩,
  List.forall_mem_cons.mpr ⟨⟨sim_goto d184_64 (by decide), gr_Go 68⟩,
  List.forall_mem_cons.mpr ⟨⟨sim_iconst d184_67 (by decide), gr_Push (.int 0) 68⟩,
  List.forall_mem_cons.mpr ⟨⟨sim_nreturn d184_68 rfl (fun _ h => congrArg Value.int h), gr_RetN .boolean⟩, fun _ h => absurd h List.not_mem_nil⟩⟩⟩⟩⟩
noncomputable def pg184 : List (Nat × aP) := pg184_0 ++ (pg184_1)
theorem ok184 : ∀ q ∈ pg184, Sim mT mt184 q.1 q.2 ∧ Grow q.2 := List.forall_mem_append.mpr ⟨ok184_0, ok184_1⟩
theorem d185_0 : decode mt185.2.1 0 = .ok (.aload_n 0, 1) := by decide +kernel
theorem d185_1 : decode mt185.2.1 1 = .ok (.getfield 47, 3) := by decide +kernel
theorem d185_4 : decode mt185.2.1 4 = .ok (.iload_n 1, 1) := by decide +kernel
theorem d185_5 : decode mt185.2.1 5 = .ok (.iaload, 1) := by decide +kernel
theorem d185_6 : decode mt185.2.1 6 = .ok (.ifCond .lt 254, 3) := by decide +kernel
theorem d185_9 : decode mt185.2.1 9 = .ok (.aload_n 0, 1) := by decide +kernel
theorem d185_10 : decode mt185.2.1 10 = .ok (.getfield 47, 3) := by decide +kernel
theorem d185_13 : decode mt185.2.1 13 = .ok (.iload_n 1, 1) := by decide +kernel
theorem d185_14 : decode mt185.2.1 14 = .ok (.iaload, 1) := by decide +kernel
theorem d185_15 : decode mt185.2.1 15 = .ok (.istore_n 2, 1) := by decide +kernel
theorem d185_16 : decode mt185.2.1 16 = .ok (.aload_n 0, 1) := by decide +kernel
theorem d185_17 : decode mt185.2.1 17 = .ok (.getfield 38, 3) := by decide +kernel
theorem d185_20 : decode mt185.2.1 20 = .ok (.bipush 12, 2) := by decide +kernel
theorem d185_22 : decode mt185.2.1 22 = .ok (.iload_n 1, 1) := by decide +kernel
theorem d185_23 : decode mt185.2.1 23 = .ok (.imul, 1) := by decide +kernel
theorem d185_24 : decode mt185.2.1 24 = .ok (.iload_n 2, 1) := by decide +kernel
theorem d185_25 : decode mt185.2.1 25 = .ok (.iadd, 1) := by decide +kernel
theorem d185_26 : decode mt185.2.1 26 = .ok (.dup2, 1) := by decide +kernel
theorem d185_27 : decode mt185.2.1 27 = .ok (.iaload, 1) := by decide +kernel
theorem d185_28 : decode mt185.2.1 28 = .ok (.iconst 1, 1) := by decide +kernel
theorem d185_29 : decode mt185.2.1 29 = .ok (.iadd, 1) := by decide +kernel
theorem d185_30 : decode mt185.2.1 30 = .ok (.iastore, 1) := by decide +kernel
theorem d185_31 : decode mt185.2.1 31 = .ok (.aload_n 0, 1) := by decide +kernel
theorem d185_32 : decode mt185.2.1 32 = .ok (.getfield 38, 3) := by decide +kernel
theorem d185_35 : decode mt185.2.1 35 = .ok (.bipush 12, 2) := by decide +kernel
theorem d185_37 : decode mt185.2.1 37 = .ok (.iload_n 1, 1) := by decide +kernel
theorem d185_38 : decode mt185.2.1 38 = .ok (.imul, 1) := by decide +kernel
theorem d185_39 : decode mt185.2.1 39 = .ok (.iload_n 2, 1) := by decide +kernel
theorem d185_40 : decode mt185.2.1 40 = .ok (.iadd, 1) := by decide +kernel
theorem d185_41 : decode mt185.2.1 41 = .ok (.iaload, 1) := by decide +kernel
theorem d185_42 : decode mt185.2.1 42 = .ok (.istore_n 3, 1) := by decide +kernel
theorem d185_43 : decode mt185.2.1 43 = .ok (.iload_n 3, 1) := by decide +kernel
theorem d185_44 : decode mt185.2.1 44 = .ok (.iconst 3, 1) := by decide +kernel
theorem d185_45 : decode mt185.2.1 45 = .ok (.if_icmp .le 16, 3) := by decide +kernel
theorem d185_48 : decode mt185.2.1 48 = .ok (.aload_n 0, 1) := by decide +kernel
theorem d185_49 : decode mt185.2.1 49 = .ok (.getfield 47, 3) := by decide +kernel
theorem d185_52 : decode mt185.2.1 52 = .ok (.iload_n 1, 1) := by decide +kernel
theorem d185_53 : decode mt185.2.1 53 = .ok (.dup2, 1) := by decide +kernel
theorem d185_54 : decode mt185.2.1 54 = .ok (.iaload, 1) := by decide +kernel
theorem d185_55 : decode mt185.2.1 55 = .ok (.iconst 1, 1) := by decide +kernel
theorem d185_56 : decode mt185.2.1 56 = .ok (.isub, 1) := by decide +kernel
theorem d185_57 : decode mt185.2.1 57 = .ok (.iastore, 1) := by decide +kernel
theorem d185_58 : decode mt185.2.1 58 = .ok (.goto (-58), 3) := by decide +kernel
theorem d185_61 : decode mt185.2.1 61 = .ok (.aload_n 0, 1) := by decide +kernel
theorem d185_62 : decode mt185.2.1 62 = .ok (.aload_n 0, 1) := by decide +kernel
theorem d185_63 : decode mt185.2.1 63 = .ok (.getfield 41, 3) := by decide +kernel
theorem d185_66 : decode mt185.2.1 66 = .ok (.bipush 13, 2) := by decide +kernel
theorem d185_68 : decode mt185.2.1 68 = .ok (.iload_n 1, 1) := by decide +kernel
theorem d185_69 : decode mt185.2.1 69 = .ok (.imul, 1) := by decide +kernel
theorem d185_70 : decode mt185.2.1 70 = .ok (.iload_n 2, 1) := by decide +kernel
theorem d185_71 : decode mt185.2.1 71 = .ok (.iadd, 1) := by decide +kernel
theorem d185_72 : decode mt185.2.1 72 = .ok (.iaload, 1) := by decide +kernel
theorem d185_73 : decode mt185.2.1 73 = .ok (.iload_n 3, 1) := by decide +kernel
theorem d185_74 : decode mt185.2.1 74 = .ok (.invokevirtual 227, 3) := by decide +kernel
theorem d185_77 : decode mt185.2.1 77 = .ok (.istore 4, 2) := by decide +kernel
theorem d185_79 : decode mt185.2.1 79 = .ok (.iload 4, 2) := by decide +kernel
theorem d185_81 : decode mt185.2.1 81 = .ok (.ldc 110, 2) := by decide +kernel
theorem d185_83 : decode mt185.2.1 83 = .ok (.if_icmp .eq (-83), 3) := by decide +kernel
theorem d185_86 : decode mt185.2.1 86 = .ok (.aload_n 0, 1) := by decide +kernel
theorem d185_87 : decode mt185.2.1 87 = .ok (.getfield 44, 3) := by decide +kernel
theorem d185_90 : decode mt185.2.1 90 = .ok (.bipush 13, 2) := by decide +kernel
theorem d185_92 : decode mt185.2.1 92 = .ok (.iload_n 1, 1) := by decide +kernel
theorem d185_93 : decode mt185.2.1 93 = .ok (.imul, 1) := by decide +kernel
theorem d185_94 : decode mt185.2.1 94 = .ok (.iload_n 2, 1) := by decide +kernel
theorem d185_95 : decode mt185.2.1 95 = .ok (.iadd, 1) := by decide +kernel
theorem d185_96 : decode mt185.2.1 96 = .ok (.iaload, 1) := by decide +kernel
theorem d185_97 : decode mt185.2.1 97 = .ok (.iload 4, 2) := by decide +kernel
theorem d185_99 : decode mt185.2.1 99 = .ok (.iadd, 1) := by decide +kernel
theorem d185_100 : decode mt185.2.1 100 = .ok (.aload_n 0, 1) := by decide +kernel
theorem d185_101 : decode mt185.2.1 101 = .ok (.getfield 53, 3) := by decide +kernel
theorem d185_104 : decode mt185.2.1 104 = .ok (.iload_n 1, 1) := by decide +kernel
theorem d185_105 : decode mt185.2.1 105 = .ok (.iaload, 1) := by decide +kernel
theorem d185_106 : decode mt185.2.1 106 = .ok (.if_icmp .le 6, 3) := by decide +kernel
theorem d185_109 : decode mt185.2.1 109 = .ok (.goto (-109), 3) := by decide +kernel
theorem d185_112 : decode mt185.2.1 112 = .ok (.aload_n 0, 1) := by decide +kernel
theorem d185_113 : decode mt185.2.1 113 = .ok (.aload_n 0, 1) := by decide +kernel
theorem d185_114 : decode mt185.2.1 114 = .ok (.getfield 41, 3) := by decide +kernel
theorem d185_117 : decode mt185.2.1 117 = .ok (.bipush 13, 2) := by decide +kernel
theorem d185_119 : decode mt185.2.1 119 = .ok (.iload_n 1, 1) := by decide +kernel
theorem d185_120 : decode mt185.2.1 120 = .ok (.imul, 1) := by decide +kernel
theorem d185_121 : decode mt185.2.1 121 = .ok (.iload_n 2, 1) := by decide +kernel
theorem d185_122 : decode mt185.2.1 122 = .ok (.iadd, 1) := by decide +kernel
theorem d185_123 : decode mt185.2.1 123 = .ok (.iaload, 1) := by decide +kernel
theorem d185_124 : decode mt185.2.1 124 = .ok (.iload_n 3, 1) := by decide +kernel
theorem d185_125 : decode mt185.2.1 125 = .ok (.invokevirtual 209, 3) := by decide +kernel
theorem d185_128 : decode mt185.2.1 128 = .ok (.istore 5, 2) := by decide +kernel
theorem d185_130 : decode mt185.2.1 130 = .ok (.iload 5, 2) := by decide +kernel
theorem d185_132 : decode mt185.2.1 132 = .ok (.aload_n 0, 1) := by decide +kernel
theorem d185_133 : decode mt185.2.1 133 = .ok (.getfield 41, 3) := by decide +kernel
theorem d185_136 : decode mt185.2.1 136 = .ok (.bipush 13, 2) := by decide +kernel
theorem d185_138 : decode mt185.2.1 138 = .ok (.iload_n 1, 1) := by decide +kernel
theorem d185_139 : decode mt185.2.1 139 = .ok (.imul, 1) := by decide +kernel
theorem d185_140 : decode mt185.2.1 140 = .ok (.iaload, 1) := by decide +kernel
theorem d185_141 : decode mt185.2.1 141 = .ok (.if_icmp .ne 13, 3) := by decide +kernel
theorem d185_144 : decode mt185.2.1 144 = .ok (.aload_n 0, 1) := by decide +kernel
theorem d185_145 : decode mt185.2.1 145 = .ok (.iload_n 1, 1) := by decide +kernel
theorem d185_146 : decode mt185.2.1 146 = .ok (.invokevirtual 273, 3) := by decide +kernel
theorem d185_149 : decode mt185.2.1 149 = .ok (.ifCond .eq (-149), 3) := by decide +kernel
theorem d185_152 : decode mt185.2.1 152 = .ok (.iconst 1, 1) := by decide +kernel
theorem d185_153 : decode mt185.2.1 153 = .ok (.ireturn, 1) := by decide +kernel
theorem d185_154 : decode mt185.2.1 154 = .ok (.aload_n 0, 1) := by decide +kernel
theorem d185_155 : decode mt185.2.1 155 = .ok (.iload_n 1, 1) := by decide +kernel
theorem d185_156 : decode mt185.2.1 156 = .ok (.iload 5, 2) := by decide +kernel
theorem d185_158 : decode mt185.2.1 158 = .ok (.invokevirtual 276, 3) := by decide +kernel
theorem d185_161 : decode mt185.2.1 161 = .ok (.ifCond .ne 96, 3) := by decide +kernel
theorem d185_164 : decode mt185.2.1 164 = .ok (.iload 5, 2) := by decide +kernel
theorem d185_166 : decode mt185.2.1 166 = .ok (.aload_n 0, 1) := by decide +kernel
theorem d185_167 : decode mt185.2.1 167 = .ok (.getfield 41, 3) := by decide +kernel
theorem d185_170 : decode mt185.2.1 170 = .ok (.bipush 13, 2) := by decide +kernel
theorem d185_172 : decode mt185.2.1 172 = .ok (.iload_n 1, 1) := by decide +kernel
theorem d185_173 : decode mt185.2.1 173 = .ok (.imul, 1) := by decide +kernel
theorem d185_174 : decode mt185.2.1 174 = .ok (.iaload, 1) := by decide +kernel
theorem d185_175 : decode mt185.2.1 175 = .ok (.invokestatic 280, 3) := by decide +kernel
theorem d185_178 : decode mt185.2.1 178 = .ok (.aload_n 0, 1) := by decide +kernel
theorem d185_179 : decode mt185.2.1 179 = .ok (.getfield 50, 3) := by decide +kernel
theorem d185_182 : decode mt185.2.1 182 = .ok (.iload_n 1, 1) := by decide +kernel
theorem d185_183 : decode mt185.2.1 183 = .ok (.iaload, 1) := by decide +kernel
theorem d185_184 : decode mt185.2.1 184 = .ok (.iload_n 2, 1) := by decide +kernel
theorem d185_185 : decode mt185.2.1 185 = .ok (.isub, 1) := by decide +kernel
theorem d185_186 : decode mt185.2.1 186 = .ok (.iconst 1, 1) := by decide +kernel
theorem d185_187 : decode mt185.2.1 187 = .ok (.isub, 1) := by decide +kernel
theorem d185_188 : decode mt185.2.1 188 = .ok (.if_icmp .gt 69, 3) := by decide +kernel
theorem d185_191 : decode mt185.2.1 191 = .ok (.aload_n 0, 1) := by decide +kernel
theorem d185_192 : decode mt185.2.1 192 = .ok (.getfield 47, 3) := by decide +kernel
theorem d185_195 : decode mt185.2.1 195 = .ok (.iload_n 1, 1) := by decide +kernel
theorem d185_196 : decode mt185.2.1 196 = .ok (.dup2, 1) := by decide +kernel
theorem d185_197 : decode mt185.2.1 197 = .ok (.iaload, 1) := by decide +kernel
theorem d185_198 : decode mt185.2.1 198 = .ok (.iconst 1, 1) := by decide +kernel
theorem d185_199 : decode mt185.2.1 199 = .ok (.iadd, 1) := by decide +kernel
theorem d185_200 : decode mt185.2.1 200 = .ok (.iastore, 1) := by decide +kernel
theorem d185_201 : decode mt185.2.1 201 = .ok (.aload_n 0, 1) := by decide +kernel
theorem d185_202 : decode mt185.2.1 202 = .ok (.getfield 41, 3) := by decide +kernel
theorem d185_205 : decode mt185.2.1 205 = .ok (.bipush 13, 2) := by decide +kernel
theorem d185_207 : decode mt185.2.1 207 = .ok (.iload_n 1, 1) := by decide +kernel
theorem d185_208 : decode mt185.2.1 208 = .ok (.imul, 1) := by decide +kernel
theorem d185_209 : decode mt185.2.1 209 = .ok (.iload_n 2, 1) := by decide +kernel
theorem d185_210 : decode mt185.2.1 210 = .ok (.iadd, 1) := by decide +kernel
theorem d185_211 : decode mt185.2.1 211 = .ok (.iconst 1, 1) := by decide +kernel
theorem d185_212 : decode mt185.2.1 212 = .ok (.iadd, 1) := by decide +kernel
theorem d185_213 : decode mt185.2.1 213 = .ok (.iload 5, 2) := by decide +kernel
theorem d185_215 : decode mt185.2.1 215 = .ok (.iastore, 1) := by decide +kernel
theorem d185_216 : decode mt185.2.1 216 = .ok (.aload_n 0, 1) := by decide +kernel
theorem d185_217 : decode mt185.2.1 217 = .ok (.getfield 44, 3) := by decide +kernel
theorem d185_220 : decode mt185.2.1 220 = .ok (.bipush 13, 2) := by decide +kernel
theorem d185_222 : decode mt185.2.1 222 = .ok (.iload_n 1, 1) := by decide +kernel
theorem d185_223 : decode mt185.2.1 223 = .ok (.imul, 1) := by decide +kernel
theorem d185_224 : decode mt185.2.1 224 = .ok (.iload_n 2, 1) := by decide +kernel
theorem d185_225 : decode mt185.2.1 225 = .ok (.iadd, 1) := by decide +kernel
theorem d185_226 : decode mt185.2.1 226 = .ok (.iconst 1, 1) := by decide +kernel
theorem d185_227 : decode mt185.2.1 227 = .ok (.iadd, 1) := by decide +kernel
theorem d185_228 : decode mt185.2.1 228 = .ok (.aload_n 0, 1) := by decide +kernel
theorem d185_229 : decode mt185.2.1 229 = .ok (.getfield 44, 3) := by decide +kernel
theorem d185_232 : decode mt185.2.1 232 = .ok (.bipush 13, 2) := by decide +kernel
theorem d185_234 : decode mt185.2.1 234 = .ok (.iload_n 1, 1) := by decide +kernel
theorem d185_235 : decode mt185.2.1 235 = .ok (.imul, 1) := by decide +kernel
theorem d185_236 : decode mt185.2.1 236 = .ok (.iload_n 2, 1) := by decide +kernel
theorem d185_237 : decode mt185.2.1 237 = .ok (.iadd, 1) := by decide +kernel
theorem d185_238 : decode mt185.2.1 238 = .ok (.iaload, 1) := by decide +kernel
theorem d185_239 : decode mt185.2.1 239 = .ok (.iload 4, 2) := by decide +kernel
theorem d185_241 : decode mt185.2.1 241 = .ok (.iadd, 1) := by decide +kernel
theorem d185_242 : decode mt185.2.1 242 = .ok (.iastore, 1) := by decide +kernel
theorem d185_243 : decode mt185.2.1 243 = .ok (.aload_n 0, 1) := by decide +kernel
theorem d185_244 : decode mt185.2.1 244 = .ok (.getfield 38, 3) := by decide +kernel
theorem d185_247 : decode mt185.2.1 247 = .ok (.bipush 12, 2) := by decide +kernel
theorem d185_249 : decode mt185.2.1 249 = .ok (.iload_n 1, 1) := by decide +kernel
theorem d185_250 : decode mt185.2.1 250 = .ok (.imul, 1) := by decide +kernel
theorem d185_251 : decode mt185.2.1 251 = .ok (.iload_n 2, 1) := by decide +kernel
theorem d185_252 : decode mt185.2.1 252 = .ok (.iadd, 1) := by decide +kernel
theorem d185_253 : decode mt185.2.1 253 = .ok (.iconst 1, 1) := by decide +kernel
theorem d185_254 : decode mt185.2.1 254 = .ok (.iadd, 1) := by decide +kernel
theorem d185_255 : decode mt185.2.1 255 = .ok (.iconst (-1), 1) := by decide +kernel
theorem d185_256 : decode mt185.2.1 256 = .ok (.iastore, 1) := by decide +kernel
theorem d185_257 : decode mt185.2.1 257 = .ok (.goto (-257), 3) := by decide +kernel
theorem d185_260 : decode mt185.2.1 260 = .ok (.iconst 0, 1) := by decide +kernel
theorem d185_261 : decode mt185.2.1 261 = .ok (.ireturn, 1) := by decide +kernel
noncomputable def pg185_0 : List (Nat × aP) := [(0, oLdA 0 1),
  (1, oGetF (fun k => k = 11) 25 4),
  (4, oLdI 1 5),
  (5, oALdI 6),
  (6, oIf (fun x => x < 0) 260 9),
  (9, oLdA 0 10),
  (10, oGetF (fun k => k = 11) 25 13),
  (13, oLdI 1 14),
  (14, oALdI 15),
  (15, oStI 2 16),
  (16, oLdA 0 17),
  (17, oGetF (fun k => k = 11) 22 20),
  (20, oPush (.int 12) 22),
  (22, oLdI 1 23),
  (23, oII (fun x y => x * y) 24),
  (24, oLdI 2 25),
  (25, oII (fun x y => x + y) 26),
  (26, oDup2 27),
  (27, oALdI 28),
  (28, oPush (.int 1) 29),
  (29, oII (fun x y => x + y) 30),
  (30, oAStI 31),
  (31, oLdA 0 32),
  (32, oGetF (fun k => k = 11) 22 35),
  (35, oPush (.int 12) 37),
  (37, oLdI 1 38),
  (38, oII (fun x y => x * y) 39),
  (39, oLdI 2 40),
  (40, oII (fun x y => x + y) 41),
  (41, oALdI 42),
  (42, oStI 3 43),
  (43, oLdI 3 44),
  (44, oPush (.int 3) 45),
  (45, oIc (fun x y => x ≤ y) 61 48),
  (48, oLdA 0 49),
  (49, oGetF (fun k => k = 11) 25 52),
  (52, oLdI 1 53),
  (53, oDup2 54),
  (54, oALdI 55),
  (55, oPush (.int 1) 56)]
theorem ok185_0 : ∀ q ∈ pg185_0, Sim mT mt185 q.1 q.2 ∧ Grow q.2 :=
  List.forall_mem_cons.mpr ⟨⟨sim_aload_n d185_0 rfl, gr_LdA 0 1⟩,
  List.forall_mem_cons.mpr ⟨⟨sim_getF d185_1 gf179, gr_GetF (fun k => k = 11) 25 4⟩,
  List.forall_mem_cons.mpr ⟨⟨sim_iload_n d185_4 rfl, gr_LdI 1 5⟩,
  List.forall_mem_cons.mpr ⟨⟨sim_iaload d185_5, gr_ALdI 6⟩,
  List.forall_mem_cons.mpr ⟨⟨sim_if_lt d185_6 (by decide), gr_If (fun x => x < 0) 260 9⟩,
  List.forall_mem_cons.mpr ⟨⟨sim_aload_n d185_9 rfl, gr_LdA 0 10⟩,
  List.forall_mem_cons.mpr ⟨⟨sim_getF d185_10 gf179, gr_GetF (fun k => k = 11) 25 13⟩,
  List.forall_mem_cons.mpr ⟨⟨sim_iload_n d185_13 rfl, gr_LdI 1 14⟩,
  List.forall_mem_cons.mpr ⟨⟨sim_iaload d185_14, gr_ALdI 15⟩,
  List.forall_mem_cons.mpr ⟨⟨sim_istore_n d185_15 rfl (by decide), gr_StI 2 16⟩,
  List.forall_mem_cons.mpr ⟨⟨sim_aload_n d185_16 rfl, gr_LdA 0 17⟩,
  List.forall_mem_cons.mpr ⟨⟨sim_getF d185_17 gf178, gr_GetF (fun k => k = 11) 22 20⟩,
  List.forall_mem_cons.mpr ⟨⟨sim_bipush d185_20 (by decide), gr_Push (.int 12) 22⟩,
  List.forall_mem_cons.mpr ⟨⟨sim_iload_n d185_22 rfl, gr_LdI 1 23⟩,
  List.forall_mem_cons.mpr ⟨⟨sim_imul d185_23, gr_II (fun x y => x * y) 24⟩,
  List.forall_mem_cons.mpr ⟨⟨sim_iload_n d185_24 rfl, gr_LdI 2 25⟩,
  List.forall_mem_cons.mpr ⟨⟨sim_iadd d185_25, gr_II (fun x y => x + y) 26⟩,
  List.forall_mem_cons.mpr ⟨⟨sim_dup2 d185_26, gr_Dup2 27⟩,
  List.forall_mem_cons.mpr ⟨⟨sim_iaload d185_27, gr_ALdI 28⟩,
  List.forall_mem_cons.mpr ⟨⟨sim_iconst d185_28 (by decide), gr_Push (.int 1) 29⟩,
  List.forall_mem_cons.mpr ⟨⟨sim_iadd d185_29, gr_II (fun x y => x + y) 30⟩,
  List.forall_mem_cons.mpr ⟨⟨sim_iastore d185_30, gr_AStI 31⟩,
  List.forall_mem_cons.mpr ⟨⟨sim_aload_n d185_31 rfl, gr_LdA 0 32⟩,
  List.forall_mem_cons.mpr ⟨⟨sim_getF d185_32 gf178, gr_GetF (fun k => k = 11) 22 35⟩,
  List.forall_mem_cons.mpr ⟨⟨sim_bipush d185_35 (by decide), gr_Push (.int 12) 37⟩,
  List.forall_mem_cons.mpr ⟨⟨sim_iload_n d185_37 rfl, gr_LdI 1 38⟩,
  List.forall_mem_cons.mpr ⟨⟨sim_imul d185_38, gr_II (fun x y => x * y) 39⟩,
  List.forall_mem_cons.mpr ⟨⟨sim_iload_n d185_39 rfl, gr_LdI 2 40⟩,
  List.forall_mem_cons.mpr ⟨⟨sim_iadd d185_40, gr_II (fun x y => x + y) 41⟩,
  List.forall_mem_cons.mpr ⟨⟨sim_iaload d185_41, gr_ALdI 42⟩,
  List.forall_mem_cons.mpr ⟨⟨sim_istore_n d185_42 rfl (by decide), gr_StI 3 43⟩,
  List.forall_mem_cons.mpr ⟨⟨sim_iload_n d185_43 rfl, gr_LdI 3 44⟩,
  List.forall_mem_cons.mpr ⟨⟨sim_iconst d185_44 (by decide), gr_Push (.int 3) 45⟩,
  List.forall_mem_cons.mpr ⟨⟨sim_icmp_le d185_45 (by decide), gr_Ic (fun x y => x ≤ y) 61 48⟩,
  List.forall_mem_cons.mpr ⟨⟨sim_aload_n d185_48 rfl, gr_LdA 0 49⟩,
  List.forall_mem_cons.mpr ⟨⟨sim_getF d185_49 gf179, gr_GetF (fun k => k = 11) 25 52⟩,
  List.forall_mem_cons.mpr ⟨⟨sim_iload_n d185_52 rfl, gr_LdI 1 53⟩,
  List.forall_mem_cons.mpr ⟨⟨sim_dup2 d185_53, gr_Dup2 54⟩,
  List.forall_mem_cons.mpr ⟨⟨sim_iaload d185_54, gr_ALdI 55⟩,
  List.forall_mem_cons.mpr ⟨⟨sim_iconst d185_55 (by decide), gr_Push (.int 1) 56⟩, fun _ h => absurd h List.not_mem_nil⟩⟩⟩⟩⟩⟩⟩⟩⟩⟩⟩⟩⟩⟩⟩⟩⟩⟩⟩⟩⟩⟩⟩⟩⟩⟩⟩⟩⟩⟩⟩⟩⟩⟩⟩⟩⟩⟩⟩⟩
noncomputable def pg185_1 : List (Nat × aP) := [(56, oII (fun x y => x - y) 57),
  (57, oAStI 58),
  (58, oGo 0),
  (61, oLdA 0 62),
  (62, oLdA 0 63),
  (63, oGetF (fun k => k = 11) 23 66),
  (66, oPush (.int 13) 68),
  (68, oLdI 1 69),
  (69, oII (fun x y => x * y) 70),
  (70, oLdI 2 71),
  (71, oII (fun x y => x + y) 72),
  (72, oALdI 73),
  (73, oLdI 3 74),
  (74, oCalV (fun k => if k = 11 then some 167 else none) 2 77),
  (77, oStI 4 79),
  (79, oLdI 4 81),
  (81, oPush (.int (-1000000)) 83),
  (83, oIc (fun x y => x = y) 0 86),
  (86, oLdA 0 87),
  (87, oGetF (fun k => k = 11) 24 90),
  (90, oPush (.int 13) 92),
  (92, oLdI 1 93),
  (93, oII (fun x y => x * y) 94),
  (94, oLdI 2 95),
  (95, oII (fun x y => x + y) 96),
  (96, oALdI 97),
  (97, oLdI 4 99),
  (99, oII (fun x y => x + y) 100),
  (100, oLdA 0 101),
  (101, oGetF (fun k => k = 11) 27 104),
  (104, oLdI 1 105),
  (105, oALdI 106),
  (106, oIc (fun x y => x ≤ y) 112 109),
  (109, oGo 0),
  (112, oLdA 0 113),
  (113, oLdA 0 114),
  (114, oGetF (fun k => k = 11) 23 117),
  (117, oPush (.int 13) 119),
  (119, oLdI 1 120),
  (120, oII (fun x y => x * y) 121)]
theorem ok185_1 : ∀ q ∈ pg185_1, Sim mT mt185 q.1 q.2 ∧ Grow q.2 :=
  List.forall_mem_cons.mpr ⟨⟨sim_isub d185_56, gr_II (fun x y => x - y) 57⟩,
  List.forall_mem_cons.mpr ⟨⟨sim_iastore d185_57, gr_AStI 58⟩,
  List.forall_mem_cons.mpr ⟨⟨sim_goto d185_58 (by decide), gr_Go 0⟩,
  List.forall_mem_cons.mpr ⟨⟨sim_aload_n d185_61 rfl, gr_LdA 0 62⟩,
  List.forall_mem_cons.mpr ⟨⟨sim_aload_n d185_62 rfl, gr_LdA 0 63⟩,
  List.forall_mem_cons.mpr ⟨⟨sim_getF d185_63 gf176, gr_GetF (fun k => k = 11) 23 66⟩,
  List.forall_mem_cons.mpr ⟨⟨sim_bipush d185_66 (by decide), gr_Push (.int 13) 68⟩,
  List.forall_mem_cons.mpr ⟨⟨sim_iload_n d185_68 rfl, gr_LdI 1 69⟩,
  List.forall_mem_cons.mpr ⟨⟨sim_imul d185_69, gr_II (fun x y => x * y) 70⟩,
  List.forall_mem_cons.mpr ⟨⟨sim_iload_n d185_70 rfl, gr_LdI 2 71⟩,
  List.forall_mem_cons.mpr ⟨⟨sim_iadd d185_71, gr_II (fun x y => x + y) 72⟩,
  List.forall_mem_cons.mpr ⟨⟨sim_iaload d185_72, gr_ALdI 73⟩,
  List.forall_mem_cons.mpr ⟨⟨sim_iload_n d185_73 rfl, gr_LdI 3 74⟩,
  List.forall_mem_cons.mpr ⟨⟨sim_virtual d185_74 vk120, gr_CalV (fun k => if k = 11 then some 167 else none) 2 77⟩,
  List.forall_mem_cons.mpr ⟨⟨sim_istore d185_77 (by decide), gr_StI 4 79⟩,
  List.forall_mem_cons.mpr ⟨⟨sim_iload d185_79, gr_LdI 4 81⟩,
  List.forall_mem_cons.mpr ⟨⟨sim_ldc d185_81 kw1083, gr_Push (.int (-1000000)) 83⟩,
  List.forall_mem_cons.mpr ⟨⟨sim_icmp_eq d185_83 (by decide), gr_Ic (fun x y => x = y) 0 86⟩,
  List.forall_mem_cons.mpr ⟨⟨sim_aload_n d185_86 rfl, gr_LdA 0 87⟩,
  List.forall_mem_cons.mpr ⟨⟨sim_getF d185_87 gf177, gr_GetF (fun k => k = 11) 24 90⟩,
  List.forall_mem_cons.mpr ⟨⟨sim_bipush d185_90 (by decide), gr_Push (.int 13) 92⟩,
  List.forall_mem_cons.mpr ⟨⟨sim_iload_n d185_92 rfl, gr_LdI 1 93⟩,
  List.forall_mem_cons.mpr ⟨⟨sim_imul d185_93, gr_II (fun x y => x * y) 94⟩,
  List.forall_mem_cons.mpr ⟨⟨sim_iload_n d185_94 rfl, gr_LdI 2 95⟩,
  List.forall_mem_cons.mpr ⟨⟨sim_iadd d185_95, gr_II (fun x y => x + y) 96⟩,
  List.forall_mem_cons.mpr ⟨⟨sim_iaload d185_96, gr_ALdI 97⟩,
  List.forall_mem_cons.mpr ⟨⟨sim_iload d185_97, gr_LdI 4 99⟩,
  List.forall_mem_cons.mpr ⟨⟨sim_iadd d185_99, gr_II (fun x y => x + y) 100⟩,
  List.forall_mem_cons.mpr ⟨⟨sim_aload_n d185_100 rfl, gr_LdA 0 101⟩,
  List.forall_mem_cons.mpr ⟨⟨sim_getF d185_101 gf181, gr_GetF (fun k => k = 11) 27 104⟩,
  List.forall_mem_cons.mpr ⟨⟨sim_iload_n d185_104 rfl, gr_LdI 1 105⟩,
  List.forall_mem_cons.mpr ⟨⟨sim_iaload d185_105, gr_ALdI 106⟩,
  List.forall_mem_cons.mpr ⟨⟨sim_icmp_le d185_106 (by decide), gr_Ic (fun x y => x ≤ y) 112 109⟩,
  List.forall_mem_cons.mpr ⟨⟨sim_goto d185_109 (by decide), gr_Go 0⟩,
  List.forall_mem_cons.mpr ⟨⟨sim_aload_n d185_112 rfl, gr_LdA 0 113⟩,
  List.forall_mem_cons.mpr ⟨⟨sim_aload_n d185_113 rfl, gr_LdA 0 114⟩,
  List.forall_mem_cons.mpr ⟨⟨sim_getF d185_114 gf176, gr_GetF (fun k => k = 11) 23 117⟩,
  List.forall_mem_cons.mpr ⟨⟨sim_bipush d185_117 (by decide), gr_Push (.int 13) 119⟩,
  List.forall_mem_cons.mpr ⟨⟨sim_iload_n d185_119 rfl, gr_LdI 1 120⟩,
  List.forall_mem_cons.mpr ⟨⟨sim_imul d185_120, gr_II (fun x y => x * y) 121⟩, fun _ h => absurd h List.not_mem_nil⟩⟩⟩⟩⟩⟩⟩⟩⟩⟩⟩⟩⟩⟩⟩⟩⟩⟩⟩⟩⟩⟩⟩⟩⟩⟩⟩⟩⟩⟩⟩⟩⟩⟩⟩⟩⟩⟩⟩⟩
noncomputable def pg185_2 : List (Nat × aP) := [(121, oLdI 2 122),
  (122, oII (fun x y => x + y) 123),
  (123, oALdI 124),
  (124, oLdI 3 125),
  (125, oCalV (fun k => if k = 11 then some 161 else none) 2 128),
  (128, oStI 5 130),
  (130, oLdI 5 132),
  (132, oLdA 0 133),
  (133, oGetF (fun k => k = 11) 23 136),
  (136, oPush (.int 13) 138),
  (138, oLdI 1 139),
  (139, oII (fun x y => x * y) 140),
  (140, oALdI 141),
  (141, oIc (fun x y => ¬ x = y) 154 144),
  (144, oLdA 0 145),
  (145, oLdI 1 146),
  (146, oCalV (fun k => if k = 11 then some 184 else none) 1 149),
  (149, oIf (fun x => x = 0) 0 152),
  (152, oPush (.int 1) 153),
  (153, oRetN .boolean),
  (154, oLdA 0 155),
  (155, oLdI 1 156),
  (156, oLdI 5 158),
  (158, oCalV (fun k => if k = 11 then some 183 else none) 2 161),
  (161, oIf (fun x => ¬ x = 0) 257 164),
  (164, oLdI 5 166),
  (166, oLdA 0 167),
  (167, oGetF (fun k => k = 11) 23 170),
  (170, oPush (.int 13) 172),
  (172, oLdI 1 173),
  (173, oII (fun x y => x * y) 174),
  (174, oALdI 175),
  (175, oCall 182 2 178),
  (178, oLdA 0 179),
  (179, oGetF (fun k => k = 11) 26 182),
  (182, oLdI 1 183),
  (183, oALdI 184),
  (184, oLdI 2 185),
  (185, oII (fun x y => x - y) 186),
  (186, oPush (.int 1) 187)]
theorem ok185_2 : ∀ q ∈ pg185_2, Sim mT mt185 q.1 q.2 ∧ Grow q.2 :=
  List.forall_mem_cons.mpr ⟨⟨sim_iload_n d185_121 rfl, gr_LdI 2 122⟩,
  List.forall_mem_cons.mpr ⟨⟨sim_iadd d185_122, gr_II (fun x y => x + y) 123⟩,
  List.forall_mem_cons.mpr ⟨⟨sim_iaload d185_123, gr_ALdI 124⟩,
  List.forall_mem_cons.mpr ⟨⟨sim_iload_n d185_124 rfl, gr_LdI 3 125⟩,
  List.forall_mem_cons.mpr ⟨⟨sim_virtual d185_125 vk116, gr_CalV (fun k => if k = 11 then some 161 else none) 2 128⟩,
  List.forall_mem_cons.mpr ⟨⟨sim_istore d185_128 (by decide), gr_StI 5 130⟩,
  List.forall_mem_cons.mpr ⟨⟨sim_iload d185_130, gr_LdI 5 132⟩,
  List.forall_mem_cons.mpr ⟨⟨sim_aload_n d185_132 rfl, gr_LdA 0 133⟩,
  List.forall_mem_cons.mpr ⟨⟨sim_getF d185_133 gf176, gr_GetF (fun k => k = 11) 23 136⟩,
  List.forall_mem_cons.mpr ⟨⟨sim_bipush d185_136 (by decide), gr_Push (.int 13) 138⟩,
  List.forall_mem_cons.mpr ⟨⟨sim_iload_n d185_138 rfl, gr_LdI 1 139⟩,
  List.forall_mem_cons.mpr ⟨⟨sim_imul d185_139, gr_II (fun x y => x * y) 140⟩,
  List.forall_mem_cons.mpr ⟨⟨sim_iaload d185_140, gr_ALdI 141⟩,
  List.forall_mem_cons.mpr ⟨⟨sim_icmp_ne d185_141 (by decide), gr_Ic (fun x y => ¬ x = y) 154 144⟩,
  List.forall_mem_cons.mpr ⟨⟨sim_aload_n d185_144 rfl, gr_LdA 0 145⟩,
  List.forall_mem_cons.mpr ⟨⟨sim_iload_n d185_145 rfl, gr_LdI 1 146⟩,
  List.forall_mem_cons.mpr ⟨⟨sim_virtual d185_146 vk129, gr_CalV (fun k => if k = 11 then some 184 else none) 1 149⟩,
  List.forall_mem_cons.mpr ⟨⟨sim_if_eq d185_149 (by decide), gr_If (fun x => x = 0) 0 152⟩,
  List.forall_mem_cons.mpr ⟨⟨sim_iconst d185_152 (by decide), gr_Push (.int 1) 153⟩,
  List.forall_mem_cons.mpr ⟨⟨sim_nreturn d185_153 rfl (fun _ h => congrArg Value.int h), gr_RetN .boolean⟩,
  List.forall_mem_cons.mpr ⟨⟨sim_aload_n d185_154 rfl, gr_LdA 0 155⟩,
  List.forall_mem_cons.mpr ⟨⟨sim_iload_n d185_155 rfl, gr_LdI 1 156⟩,
  List.forall_mem_cons.mpr ⟨⟨sim_iload d185_156, gr_LdI 5 158⟩,
  List.forall_mem_cons.mpr ⟨⟨sim_virtual d185_158 vk130, gr_CalV (fun k => if k = 11 then some 183 else none) 2 161⟩,
  List.forall_mem_cons.mpr ⟨⟨sim_if_ne d185_161 (by decide), gr_If (fun x => ¬ x = 0) 257 164⟩,
  List.forall_mem_cons.mpr ⟨⟨sim_iload d185_164, gr_LdI 5 166⟩,
  List.forall_mem_cons.mpr ⟨⟨sim_aload_n d185_166 rfl, gr_LdA 0 167⟩,
  List.forall_mem_cons.mpr ⟨⟨sim_getF d185_167 gf176, gr_GetF (fun k => k = 11) 23 170⟩,
  List.forall_mem_cons.mpr ⟨⟨sim_bipush d185_170 (by decide), gr_Push (.int 13) 172⟩,
  List.forall_mem_cons.mpr ⟨⟨sim_iload_n d185_172 rfl, gr_LdI 1 173⟩,
  List.forall_mem_cons.mpr ⟨⟨sim_imul d185_173, gr_II (fun x y => x * y) 174⟩,
  List.forall_mem_cons.mpr ⟨⟨sim_iaload d185_174, gr_ALdI 175⟩,
  List.forall_mem_cons.mpr ⟨⟨sim_static (y := 182) d185_175 (Or.inl kw1266) kw1267 mo182, gr_Call 182 2 178⟩,
  List.forall_mem_cons.mpr ⟨⟨sim_aload_n d185_178 rfl, gr_LdA 0 179⟩,
  List.forall_mem_cons.mpr ⟨⟨sim_getF d185_179 gf180, gr_GetF (fun k => k = 11) 26 182⟩,
  List.forall_mem_cons.mpr ⟨⟨sim_iload_n d185_182 rfl, gr_LdI 1 183⟩,
  List.forall_mem_cons.mpr ⟨⟨sim_iaload d185_183, gr_ALdI 184⟩,
  List.forall_mem_cons.mpr ⟨⟨sim_iload_n d185_184 rfl, gr_LdI 2 185⟩,
  List.forall_mem_cons.mpr ⟨⟨sim_isub d185_185, gr_II (fun x y => x - y) 186⟩,
  List.forall_mem_cons.mpr ⟨⟨sim_iconst d185_186 (by decide), gr_Push (.int 1) 187⟩, fun _ h => absurd h List.not_mem_nil⟩⟩⟩⟩⟩⟩⟩⟩⟩⟩⟩⟩⟩⟩⟩⟩⟩⟩⟩⟩⟩⟩⟩⟩⟩⟩⟩⟩⟩⟩⟩⟩⟩⟩⟩⟩⟩⟩⟩⟩
noncomputable def pg185_3 : List (Nat × aP) := [(187, oII (fun x y => x - y) 188),
  (188, oIc (fun x y => y < x) 257 191),
  (191, oLdA 0 192),
  (192, oGetF (fun k => k = 11) 25 195),
  (195, oLdI 1 196),
  (196, oDup2 197),
  (197, oALdI 198),
  (198, oPush (.int 1) 199),
  (199, oII (fun x y => x + y) 200),
  (200, oAStI 201),
  (201, oLdA 0 202),
  (202, oGetF (fun k => k = 11) 23 205),
  (205, oPush (.int 13) 207),
  (207, oLdI 1 208),
  (208, oII (fun x y => x * y) 209),
  (209, oLdI 2 210),
  (210, oII (fun x y => x + y) 211),
  (211, oPush (.int 1) 212),
  (212, oII (fun x y => x + y) 213),
  (213, oLdI 5 215),
  (215, oAStI 216),
  (216, oLdA 0 217),
  (217, oGetF (fun k => k = 11) 24 220),
  (220, oPush (.int 13) 222),
  (222, oLdI 1 223),
  (223, oII (fun x y => x * y) 224),
  (224, oLdI 2 225),
  (225, oII (fun x y => x + y) 226),
  (226, oPush (.int 1) 227),
  (227, oII (fun x y => x + y) 228),
  (228, oLdA 0 229),
  (229, oGetF (fun k => k = 11) 24 232),
  (232, oPush (.int 13) 234),
  (234, oLdI 1 235),
  (235, oII (fun x y => x * y) 236),
  (236, oLdI 2 237),
  (237, oII (fun x y => x + y) 238),
  (238, oALdI 239),
  (239, oLdI 4 241),
  (241, oII (fun x y => x + y) 242)]
theorem ok185_3 : ∀ q ∈ pg185_3, Sim mT mt185 q.1 q.2 ∧ Grow q.2 :=
  List.forall_mem_cons.mpr ⟨⟨sim_isub d185_187, gr_II (fun x y => x - y) 188⟩,
  List.forall_mem_cons.mpr ⟨⟨sim_icmp_gt d185_188 (by decide), gr_Ic (fun x y => y < x) 257 191⟩,
  List.forall_mem_cons.mpr ⟨⟨sim_aload_n d185_191 rfl, gr_LdA 0 192⟩,
  List.forall_mem_cons.mpr ⟨⟨sim_getF d185_192 gf179, gr_GetF (fun k => k = 11) 25 195⟩,
  List.forall_mem_cons.mpr ⟨⟨sim_iload_n d185_195 rfl, gr_LdI 1 196⟩,
  List.forall_mem_cons.mpr ⟨⟨sim_dup2 d185_196, gr_Dup2 197⟩,
  List.forall_mem_cons.mpr ⟨⟨sim_iaload d185_197, gr_ALdI 198⟩,
  List.forall_mem_cons.mpr ⟨⟨sim_iconst d185_198 (by decide), gr_Push (.int 1) 199⟩,
  List.forall_mem_cons.mpr ⟨⟨sim_iadd d185_199, gr_II (fun x y => x + y) 200⟩,
  List.forall_mem_cons.mpr ⟨⟨sim_iastore d185_200, gr_AStI 201⟩,
  List.forall_mem_cons.mpr ⟨⟨sim_aload_n d185_201 rfl, gr_LdA 0 202⟩,
  List.forall_mem_cons.mpr ⟨⟨sim_getF d185_202 gf176, gr_GetF (fun k => k = 11) 23 205⟩,
  List.forall_mem_cons.mpr ⟨⟨sim_bipush d185_205 (by decide), gr_Push (.int 13) 207⟩,
  List.forall_mem_cons.mpr ⟨⟨sim_iload_n d185_207 rfl, gr_LdI 1 208⟩,
  List.forall_mem_cons.mpr ⟨⟨sim_imul d185_208, gr_II (fun x y => x * y) 209⟩,
  List.forall_mem_cons.mpr ⟨⟨sim_iload_n d185_209 rfl, gr_LdI 2 210⟩,
  List.forall_mem_cons.mpr ⟨⟨sim_iadd d185_210, gr_II (fun x y => x + y) 211⟩,
  List.forall_mem_cons.mpr ⟨⟨sim_iconst d185_211 (by decide), gr_Push (.int 1) 212⟩,
  List.forall_mem_cons.mpr ⟨⟨sim_iadd d185_212, gr_II (fun x y => x + y) 213⟩,
  List.forall_mem_cons.mpr ⟨⟨sim_iload d185_213, gr_LdI 5 215⟩,
  List.forall_mem_cons.mpr ⟨⟨sim_iastore d185_215, gr_AStI 216⟩,
  List.forall_mem_cons.mpr ⟨⟨sim_aload_n d185_216 rfl, gr_LdA 0 217⟩,
  List.forall_mem_cons.mpr ⟨⟨sim_getF d185_217 gf177, gr_GetF (fun k => k = 11) 24 220⟩,
  List.forall_mem_cons.mpr ⟨⟨sim_bipush d185_220 (by decide), gr_Push (.int 13) 222⟩,
  List.forall_mem_cons.mpr ⟨⟨sim_iload_n d185_222 rfl, gr_LdI 1 223⟩,
  List.forall_mem_cons.mpr ⟨⟨sim_imul d185_223, gr_II (fun x y => x * y) 224⟩,
  List.forall_mem_cons.mpr ⟨⟨sim_iload_n d185_224 rfl, gr_LdI 2 225⟩,
  List.forall_mem_cons.mpr ⟨⟨sim_iadd d185_225, gr_II (fun x y => x + y) 226⟩,
  List.forall_mem_cons.mpr ⟨⟨sim_iconst d185_226 (by decide), gr_Push (.int 1) 227⟩,
  List.forall_mem_cons.mpr ⟨⟨sim_iadd d185_227, gr_II (fun x y => x + y) 228⟩,
  List.forall_mem_cons.mpr ⟨⟨sim_aload_n d185_228 rfl, gr_LdA 0 229⟩,
  List.forall_mem_cons.mpr ⟨⟨sim_getF d185_229 gf177, gr_GetF (fun k => k = 11) 24 232⟩,
  List.forall_mem_cons.mpr ⟨⟨sim_bipush d185_232 (by decide), gr_Push (.int 13) 234⟩,
  List.forall_mem_cons.mpr ⟨⟨sim_iload_n d185_234 rfl, gr_LdI 1 235⟩,
  List.forall_mem_cons.mpr ⟨⟨sim_imul d185_235, gr_II (fun x y => x * y) 236⟩,
  List.forall_mem_cons.mpr ⟨⟨sim_iload_n d185_236 rfl, gr_LdI 2 237⟩,
  List.forall_mem_cons.mpr ⟨⟨sim_iadd d185_237, gr_II (fun x y => x + y) 238⟩,
  List.forall_mem_cons.mpr ⟨⟨sim_iaload d185_238, gr_ALdI 239⟩,
  List.forall_mem_cons.mpr ⟨⟨sim_iload d185_239, gr_LdI 4 241⟩,
  List.forall_mem_cons.mpr ⟨⟨sim_iadd d185_241, gr_II (fun x y => x + y) 242⟩, fun _ h => absurd h List.not_mem_nil⟩⟩⟩⟩⟩⟩⟩⟩⟩⟩⟩⟩⟩⟩⟩⟩⟩⟩⟩⟩⟩⟩⟩⟩⟩⟩⟩⟩⟩⟩⟩⟩⟩⟩⟩⟩⟩⟩⟩⟩
noncomputable def pg185_4 : List (Nat × aP) := [(242, oAStI 243),
  (243, oLdA 0 244),
  (244, oGetF (fun k => k = 11) 22 247),
  (247, oPush (.int 12) 249),
  (249, oLdI 1 250),
  (250, oII (fun x y => x * y) 251),
  (251, oLdI 2 252),
  (252, oII (fun x y => x + y) 253),
  (253, oPush (.int 1) 254),
  (254, oII (fun x y => x + y) 255),
  (255, oPush (.int (-1)) 256),
  (256, oAStI 257),
  (257, oGo 0),
  (260, oPush (.int 0) 261),
  (261, oRetN .boolean)]
theorem ok185_4 : ∀ q ∈ pg185_4, Sim mT mt185 q.1 q.2 ∧ Grow q.2 :=
  List.forall_mem_cons.mpr ⟨⟨sim_iastore d185_242, gr_AStI 243⟩,
  List.forall_mem_cons.mpr ⟨⟨sim_aload_n d185_243 rfl, gr_LdA 0 244⟩,
  List.forall_mem_cons.mpr ⟨⟨sim_getF d185_244 gf178, gr_GetF (fun k => k = 11) 22 247⟩,
  List.forall_mem_cons.mpr ⟨⟨sim_bipush d185_247 (by decide), gr_Push (.int 12) 249⟩,
  List.forall_mem_cons.mpr ⟨⟨sim_iload_n d185_249 rfl, gr_LdI 1 250⟩,
  List.forall_mem_cons.mpr ⟨⟨sim_imul d185_250, gr_II (fun x y => x * y) 251⟩,
  List.forall_mem_cons.mpr ⟨⟨sim_iload_n d185_251 rfl, gr_LdI 2 252⟩,
  List.forall_mem_cons.mpr ⟨⟨sim_iadd d185_252, gr_II (fun x y => x + y) 253⟩,
  List.forall_mem_cons.mpr ⟨⟨sim_iconst d185_253 (by decide), gr_Push (.int 1) 254⟩,
  List.forall_mem_cons.mpr ⟨⟨sim_iadd d185_254, gr_II (fun x y => x + y) 255⟩,
  List.forall_mem_cons.mpr ⟨⟨sim_iconst d185_255 (by decide), gr_Push (.int (-1)) 256⟩,
  List.forall_mem_cons.mpr ⟨⟨sim_iastore d185_256, gr_AStI 257⟩,
  List.forall_mem_cons.mpr ⟨⟨sim_goto d185_257 (by decide), gr_Go 0⟩,
  List.forall_mem_cons.mpr ⟨⟨sim_iconst d185_260 (by decide), gr_Push (.int 0) 261⟩,
  List.forall_mem_cons.mpr ⟨⟨sim_nreturn d185_261 rfl (fun _ h => congrArg Value.int h), gr_RetN .boolean⟩, fun _ h => absurd h List.not_mem_nil⟩⟩⟩⟩⟩⟩⟩⟩⟩⟩⟩⟩⟩⟩⟩
noncomputable def pg185 : List (Nat × aP) := pg185_0 ++ (pg185_1 ++ (pg185_2 ++ (pg185_3 ++ (pg185_4))))
theorem ok185 : ∀ q ∈ pg185, Sim mT mt185 q.1 q.2 ∧ Grow q.2 := List.forall_mem_append.mpr ⟨ok185_0, List.forall_mem_append.mpr ⟨ok185_1, List.forall_mem_append.mpr ⟨ok185_2, List.forall_mem_append.mpr ⟨ok185_3, ok185_4⟩⟩⟩⟩
theorem d186_0 : decode mt186.2.1 0 = .ok (.ldc 110, 2) := by decide +kernel
theorem d186_2 : decode mt186.2.1 2 = .ok (.istore 5, 2) := by decide +kernel
theorem d186_4 : decode mt186.2.1 4 = .ok (.aload_n 0, 1) := by decide +kernel
theorem d186_5 : decode mt186.2.1 5 = .ok (.iload_n 1, 1) := by decide +kernel
theorem d186_6 : decode mt186.2.1 6 = .ok (.iload_n 2, 1) := by decide +kernel
theorem d186_7 : decode mt186.2.1 7 = .ok (.iload_n 3, 1) := by decide +kernel
theorem d186_8 : decode mt186.2.1 8 = .ok (.iload 4, 2) := by decide +kernel
theorem d186_10 : decode mt186.2.1 10 = .ok (.invokevirtual 283, 3) := by decide +kernel
theorem d186_13 : decode mt186.2.1 13 = .ok (.aload_n 0, 1) := by decide +kernel
theorem d186_14 : decode mt186.2.1 14 = .ok (.iload_n 1, 1) := by decide +kernel
theorem d186_15 : decode mt186.2.1 15 = .ok (.invokevirtual 287, 3) := by decide +kernel
theorem d186_18 : decode mt186.2.1 18 = .ok (.ifCond .eq 76, 3) := by decide +kernel
theorem d186_21 : decode mt186.2.1 21 = .ok (.aload_n 0, 1) := by decide +kernel
theorem d186_22 : decode mt186.2.1 22 = .ok (.aload_n 0, 1) := by decide +kernel
theorem d186_23 : decode mt186.2.1 23 = .ok (.getfield 270, 3) := by decide +kernel
theorem d186_26 : decode mt186.2.1 26 = .ok (.invokevirtual 234, 3) := by decide +kernel
theorem d186_29 : decode mt186.2.1 29 = .ok (.istore 6, 2) := by decide +kernel
theorem d186_31 : decode mt186.2.1 31 = .ok (.iload 6, 2) := by decide +kernel
theorem d186_33 : decode mt186.2.1 33 = .ok (.iload 5, 2) := by decide +kernel
theorem d186_35 : decode mt186.2.1 35 = .ok (.if_icmp .le 56, 3) := by decide +kernel
theorem d186_38 : decode mt186.2.1 38 = .ok (.iload 6, 2) := by decide +kernel
theorem d186_40 : decode mt186.2.1 40 = .ok (.istore 5, 2) := by decide +kernel
theorem d186_42 : decode mt186.2.1 42 = .ok (.aload_n 0, 1) := by decide +kernel
theorem d186_43 : decode mt186.2.1 43 = .ok (.aload_n 0, 1) := by decide +kernel
theorem d186_44 : decode mt186.2.1 44 = .ok (.getfield 56, 3) := by decide +kernel
theorem d186_47 : decode mt186.2.1 47 = .ok (.iload_n 1, 1) := by decide +kernel
theorem d186_48 : decode mt186.2.1 48 = .ok (.iaload, 1) := by decide +kernel
theorem d186_49 : decode mt186.2.1 49 = .ok (.putfield 290, 3) := by decide +kernel
theorem d186_52 : decode mt186.2.1 52 = .ok (.iconst 0, 1) := by decide +kernel
theorem d186_53 : decode mt186.2.1 53 = .ok (.istore 7, 2) := by decide +kernel
theorem d186_55 : decode mt186.2.1 55 = .ok (.iload 7, 2) := by decide +kernel
theorem d186_57 : decode mt186.2.1 57 = .ok (.aload_n 0, 1) := by decide +kernel
theorem d186_58 : decode mt186.2.1 58 = .ok (.getfield 56, 3) := by decide +kernel
theorem d186_61 : decode mt186.2.1 61 = .ok (.iload_n 1, 1) := by decide +kernel
theorem d186_62 : decode mt186.2.1 62 = .ok (.iaload, 1) := by decide +kernel
theorem d186_63 : decode mt186.2.1 63 = .ok (.if_icmp .ge 28, 3) := by decide +kernel
theorem d186_66 : decode mt186.2.1 66 = .ok (.aload_n 0, 1) := by decide +kernel
theorem d186_67 : decode mt186.2.1 67 = .ok (.getfield 59, 3) := by decide +kernel
theorem d186_70 : decode mt186.2.1 70 = .ok (.iload 7, 2) := by decide +kernel
theorem d186_72 : decode mt186.2.1 72 = .ok (.aload_n 0, 1) := by decide +kernel
theorem d186_73 : decode mt186.2.1 73 = .ok (.getfield 38, 3) := by decide +kernel
theorem d186_76 : decode mt186.2.1 76 = .ok (.bipush 12, 2) := by decide +kernel
theorem d186_78 : decode mt186.2.1 78 = .ok (.iload_n 1, 1) := by decide +kernel
theorem d186_79 : decode mt186.2.1 79 = .ok (.imul, 1) := by decide +kernel
theorem d186_80 : decode mt186.2.1 80 = .ok (.iload 7, 2) := by decide +kernel
theorem d186_82 : decode mt186.2.1 82 = .ok (.iadd, 1) := by decide +kernel
theorem d186_83 : decode mt186.2.1 83 = .ok (.iaload, 1) := by decide +kernel
theorem d186_84 : decode mt186.2.1 84 = .ok (.iastore, 1) := by decide +kernel
theorem d186_85 : decode mt186.2.1 85 = .ok (.iinc 7 1, 3) := by decide +kernel
theorem d186_88 : decode mt186.2.1 88 = .ok (.goto (-33), 3) := by decide +kernel
theorem d186_91 : decode mt186.2.1 91 = .ok (.goto (-78), 3) := by decide +kernel
theorem d186_94 : decode mt186.2.1 94 = .ok (.iload 5, 2) := by decide +kernel
theorem d186_96 : decode mt186.2.1 96 = .ok (.ireturn, 1) := by decide +kernel
noncomputable def pg186_0 : List (Nat × aP) := [(0, oPush (.int (-1000000)) 2),
  (2, oStI 5 4),
  (4, oLdA 0 5),
  (5, oLdI 1 6),
  (6, oLdI 2 7),
  (7, oLdI 3 8),
  (8, oLdI 4 10),
  (10, oCalV (fun k => if k = 11 then some 181 else none) 4 13),
  (13, oLdA 0 14),
  (14, oLdI 1 15),
  (15, oCalV (fun k => if k = 11 then some 185 else none) 1 18),
  (18, oIf (fun x => x = 0) 94 21),
  (21, oLdA 0 22),
  (22, oLdA 0 23),
  (23, oGetL (fun k => k = 11) 29 26),
  (26, oCalV (fun k => if k = 11 then some 165 else none) 1 29),
  (29, oStI 6 31),
  (31, oLdI 6 33),
  (33, oLdI 5 35),
  (35, oIc (fun x y => x ≤ y) 91 38),
  (38, oLdI 6 40),
  (40, oStI 5 42),
  (42, oLdA 0 43),
  (43, oLdA 0 44),
  (44, oGetF (fun k => k = 11) 28 47),
  (47, oLdI 1 48),
  (48, oALdI 49),
  (49, oPutI (fun k => k = 11) 31 52),
  (52, oPush (.int 0) 53),
  (53, oStI 7 55),
  (55, oLdI 7 57),
  (57, oLdA 0 58),
  (58, oGetF (fun k => k = 11) 28 61),
  (61, oLdI 1 62),
  (62, oALdI 63),
  (63, oIc (fun x y => y ≤ x) 91 66),
  (66, oLdA 0 67),
  (67, oGetF (fun k => k = 11) 30 70),
  (70, oLdI 7 72),
  (72, oLdA 0 73)]
theorem ok186_0 : ∀ q ∈ pg186_0, Sim mT mt186 q.1 q.2 ∧ Grow q.2 :=
  List.forall_mem_cons.mpr ⟨⟨sim_ldc d186_0 kw1083, gr_Push (.int (-1000000)) 2⟩,
  List.forall_mem_cons.mpr ⟨⟨sim_istore d186_2 (by decide), gr_StI 5 4⟩,
  List.forall_mem_cons.mpr ⟨⟨sim_aload_n d186_4 rfl, gr_LdA 0 5⟩,
  List.forall_mem_cons.mpr ⟨⟨sim_iload_n d186_5 rfl, gr_LdI 1 6⟩,
  List.forall_mem_cons.mpr ⟨⟨sim_iload_n d186_6 rfl, gr_LdI 2 7⟩,
  List.forall_mem_cons.mpr ⟨⟨sim_iload_n d186_7 rfl, gr_LdI 3 8⟩,
  List.forall_mem_cons.mpr ⟨⟨sim_iload d186_8, gr_LdI 4 10⟩,
  List.forall_mem_cons.mpr ⟨⟨sim_virtual d186_10 vk131, gr_CalV (fun k => if k = 11 then some 181 else none) 4 13⟩,
  List.forall_mem_cons.mpr ⟨⟨sim_aload_n d186_13 rfl, gr_LdA 0 14⟩,
  List.forall_mem_cons.mpr ⟨⟨sim_iload_n d186_14 rfl, gr_LdI 1 15⟩,
  List.forall_mem_cons.mpr ⟨⟨sim_virtual d186_15 vk132, gr_CalV (fun k => if k = 11 then some 185 else none) 1 18⟩,
  List.forall_mem_cons.mpr ⟨⟨sim_if_eq d186_18 (by decide), gr_If (fun x => x = 0) 94 21⟩,
  List.forall_mem_cons.mpr ⟨⟨sim_aload_n d186_21 rfl, gr_LdA 0 22⟩,
  List.forall_mem_cons.mpr ⟨⟨sim_aload_n d186_22 rfl, gr_LdA 0 23⟩,
  List.forall_mem_cons.mpr ⟨⟨sim_getL d186_23 gf182, gr_GetL (fun k => k = 11) 29 26⟩,
  List.forall_mem_cons.mpr ⟨⟨sim_virtual d186_26 vk121, gr_CalV (fun k => if k = 11 then some 165 else none) 1 29⟩,
  List.forall_mem_cons.mpr ⟨⟨sim_istore d186_29 (by decide), gr_StI 6 31⟩,
  List.forall_mem_cons.mpr ⟨⟨sim_iload d186_31, gr_LdI 6 33⟩,
  List.forall_mem_cons.mpr ⟨⟨sim_iload d186_33, gr_LdI 5 35⟩,
  List.forall_mem_cons.mpr ⟨⟨sim_icmp_le d186_35 (by decide), gr_Ic (fun x y => x ≤ y) 91 38⟩,
  List.forall_mem_cons.mpr ⟨⟨sim_iload d186_38, gr_LdI 6 40⟩,
  List.forall_mem_cons.mpr ⟨⟨sim_istore d186_40 (by decide), gr_StI 5 42⟩,
  List.forall_mem_cons.mpr ⟨⟨sim_aload_n d186_42 rfl, gr_LdA 0 43⟩,
  List.forall_mem_cons.mpr ⟨⟨sim_aload_n d186_43 rfl, gr_LdA 0 44⟩,
  List.forall_mem_cons.mpr ⟨⟨sim_getF d186_44 gf183, gr_GetF (fun k => k = 11) 28 47⟩,
  List.forall_mem_cons.mpr ⟨⟨sim_iload_n d186_47 rfl, gr_LdI 1 48⟩,
  List.forall_mem_cons.mpr ⟨⟨sim_iaload d186_48, gr_ALdI 49⟩,
  List.forall_mem_cons.mpr ⟨⟨sim_putI d186_49 gf184w, gr_PutI (fun k => k = 11) 31 52⟩,
  List.forall_mem_cons.mpr ⟨⟨sim_iconst d186_52 (by decide), gr_Push (.int 0) 53⟩,
  List.forall_mem_cons.mpr ⟨⟨sim_istore d186_53 (by decide), gr_StI 7 55⟩,
  List.forall_mem_cons.mpr ⟨⟨sim_iload d186_55, gr_LdI 7 57⟩,
  List.forall_mem_cons.mpr ⟨⟨sim_aload_n d186_57 rfl, gr_LdA 0 58⟩,
  List.forall_mem_cons.mpr ⟨⟨sim_getF d186_58 gf183, gr_GetF (fun k => k = 11) 28 61⟩,
  List.forall_mem_cons.mpr ⟨⟨sim_iload_n d186_61 rfl, gr_LdI 1 62⟩,
  List.forall_mem_cons.mpr ⟨⟨sim_iaload d186_62, gr_ALdI 63⟩,
  List.forall_mem_cons.mpr ⟨⟨sim_icmp_ge d186_63 (by decide), gr_Ic (fun x y => y ≤ x) 91 66⟩,
  List.forall_mem_cons.mpr ⟨⟨sim_aload_n d186_66 rfl, gr_LdA 0 67⟩,
  List.forall_mem_cons.mpr ⟨⟨sim_getF d186_67 gf185, gr_GetF (fun k => k = 11) 30 70⟩,
  List.forall_mem_cons.mpr ⟨⟨sim_iload d186_70, gr_LdI 7 72⟩,
  List.forall_mem_cons.mpr ⟨⟨sim_aload_n d186_72 rfl, gr_LdA 0 73⟩, fun _ h => absurd h List.not_mem_nil⟩⟩⟩⟩⟩⟩⟩⟩⟩⟩⟩⟩⟩⟩⟩⟩⟩⟩⟩⟩⟩⟩⟩⟩⟩⟩⟩⟩⟩⟩⟩⟩⟩⟩⟩⟩⟩⟩⟩⟩
noncomputable def pg186_1 : List (Nat × aP) := [(73, oGetF (fun k => k = 11) 22 76),
  (76, oPush (.int 12) 78),
  (78, oLdI 1 79),
  (79, oII (fun x y => x * y) 80),
  (80, oLdI 7 82),
  (82, oII (fun x y => x + y) 83),
  (83, oALdI 84),
  (84, oAStI 85),
  (85, oInc 7 1 88),
  (88, oGo 55),
  (91, oGo 13),
  (94, oLdI 5 96),
  (96, oRetI)]
theorem ok186_1 : ∀ q ∈ pg186_1, Sim mT mt186 q.1 q.2 ∧ Grow q.2 :=
  List.forall_mem_cons.mpr ⟨⟨sim_getF d186_73 gf178, gr_GetF (fun k => k = 11) 22 76⟩,
  List.forall_mem_cons.mpr ⟨⟨sim_bipush d186_76 (by decide), gr_Push (.int 12) 78⟩,
  List.forall_mem_cons.mpr ⟨⟨sim_iload_n d186_78 rfl, gr_LdI 1 79⟩,
  List.forall_mem_cons.mpr ⟨⟨sim_imul d186_79, gr_II (fun x y => x * y) 80⟩,
  List.forall_mem_cons.mpr ⟨⟨sim_iload d186_80, gr_LdI 7 82⟩,
  List.forall_mem_cons.mpr ⟨⟨sim_iadd d186_82, gr_II (fun x y => x + y) 83⟩,
  List.forall_mem_cons.mpr ⟨⟨sim_iaload d186_83, gr_ALdI 84⟩,
  List.forall_mem_cons.mpr ⟨⟨sim_iastore d186_84, gr_AStI 85⟩,
  List.forall_mem_cons.mpr ⟨⟨sim_iinc d186_85 (by decide) (by decide), gr_Inc 7 1 88⟩,
  List.forall_mem_cons.mpr ⟨⟨sim_goto d186_88 (by decide), gr_Go 55⟩,
  List.forall_mem_cons.mpr ⟨⟨sim_goto d186_91 (by decide), gr_Go 13⟩,
  List.forall_mem_cons.mpr ⟨⟨sim_iload d186_94, gr_LdI 5 96⟩,
  List.forall_mem_cons.mpr ⟨⟨sim_ireturn d186_96 rfl, gr_RetI⟩, fun _ h => absurd h List.not_mem_nil⟩⟩⟩⟩⟩⟩⟩⟩⟩⟩⟩⟩⟩
noncomputable def pg186 : List (Nat × aP) := pg186_0 ++ (pg186_1)
theorem ok186 : ∀ q ∈ pg186, Sim mT mt186 q.1 q.2 ∧ Grow q.2 := List.forall_mem_append.mpr ⟨ok186_0, ok186_1⟩
theorem d187_0 : decode mt187.2.1 0 = .ok (.aload_n 0, 1) := by decide +kernel
theorem d187_1 : decode mt187.2.1 1 = .ok (.iconst 0, 1) := by decide +kernel
theorem d187_2 : decode mt187.2.1 2 = .ok (.putfield 74, 3) := by decide +kernel
theorem d187_5 : decode mt187.2.1 5 = .ok (.aload_n 0, 1) := by decide +kernel
theorem d187_6 : decode mt187.2.1 6 = .ok (.iload_n 1, 1) := by decide +kernel
theorem d187_7 : decode mt187.2.1 7 = .ok (.invokevirtual 222, 3) := by decide +kernel
theorem d187_10 : decode mt187.2.1 10 = .ok (.ifCond .eq 34, 3) := by decide +kernel
theorem d187_13 : decode mt187.2.1 13 = .ok (.aload_n 0, 1) := by decide +kernel
theorem d187_14 : decode mt187.2.1 14 = .ok (.getfield 19, 3) := by decide +kernel
theorem d187_17 : decode mt187.2.1 17 = .ok (.bipush 46, 2) := by decide +kernel
theorem d187_19 : decode mt187.2.1 19 = .ok (.iload_n 1, 1) := by decide +kernel
theorem d187_20 : decode mt187.2.1 20 = .ok (.iadd, 1) := by decide +kernel
theorem d187_21 : decode mt187.2.1 21 = .ok (.iaload, 1) := by decide +kernel
theorem d187_22 : decode mt187.2.1 22 = .ok (.iconst 1, 1) := by decide +kernel
theorem d187_23 : decode mt187.2.1 23 = .ok (.if_icmp .eq 21, 3) := by decide +kernel
theorem d187_26 : decode mt187.2.1 26 = .ok (.iload_n 2, 1) := by decide +kernel
theorem d187_27 : decode mt187.2.1 27 = .ok (.i2l, 1) := by decide +kernel
theorem d187_28 : decode mt187.2.1 28 = .ok (.lconst 0, 1) := by decide +kernel
theorem d187_29 : decode mt187.2.1 29 = .ok (.ldc2_w 293, 3) := by decide +kernel
theorem d187_32 : decode mt187.2.1 32 = .ok (.invokestatic 84, 3) := by decide +kernel
theorem d187_35 : decode mt187.2.1 35 = .ok (.ifCond .eq 9, 3) := by decide +kernel
theorem d187_38 : decode mt187.2.1 38 = .ok (.iload_n 3, 1) := by decide +kernel
theorem d187_39 : decode mt187.2.1 39 = .ok (.bipush (-2), 2) := by decide +kernel
theorem d187_41 : decode mt187.2.1 41 = .ok (.if_icmp .ge 6, 3) := by decide +kernel
theorem d187_44 : decode mt187.2.1 44 = .ok (.ldc 94, 2) := by decide +kernel
theorem d187_46 : decode mt187.2.1 46 = .ok (.ireturn, 1) := by decide +kernel
theorem d187_47 : decode mt187.2.1 47 = .ok (.aload_n 0, 1) := by decide +kernel
theorem d187_48 : decode mt187.2.1 48 = .ok (.iconst 0, 1) := by decide +kernel
theorem d187_49 : decode mt187.2.1 49 = .ok (.iload_n 1, 1) := by decide +kernel
theorem d187_50 : decode mt187.2.1 50 = .ok (.bipush 12, 2) := by decide +kernel
theorem d187_52 : decode mt187.2.1 52 = .ok (.iload_n 2, 1) := by decide +kernel
theorem d187_53 : decode mt187.2.1 53 = .ok (.invokevirtual 295, 3) := by decide +kernel
theorem d187_56 : decode mt187.2.1 56 = .ok (.istore 4, 2) := by decide +kernel
theorem d187_58 : decode mt187.2.1 58 = .ok (.iload 4, 2) := by decide +kernel
theorem d187_60 : decode mt187.2.1 60 = .ok (.ldc 110, 2) := by decide +kernel
theorem d187_62 : decode mt187.2.1 62 = .ok (.if_icmp .eq 9, 3) := by decide +kernel
theorem d187_65 : decode mt187.2.1 65 = .ok (.iload_n 3, 1) := by decide +kernel
theorem d187_66 : decode mt187.2.1 66 = .ok (.bipush (-2), 2) := by decide +kernel
theorem d187_68 : decode mt187.2.1 68 = .ok (.if_icmp .ne 6, 3) := by decide +kernel
theorem d187_71 : decode mt187.2.1 71 = .ok (.iload 4, 2) := by decide +kernel
theorem d187_73 : decode mt187.2.1 73 = .ok (.ireturn, 1) := by decide +kernel
theorem d187_74 : decode mt187.2.1 74 = .ok (.iload_n 3, 1) := by decide +kernel
theorem d187_75 : decode mt187.2.1 75 = .ok (.iconst (-1), 1) := by decide +kernel
theorem d187_76 : decode mt187.2.1 76 = .ok (.if_icmp .ne 10, 3) := by decide +kernel
theorem d187_79 : decode mt187.2.1 79 = .ok (.aload_n 0, 1) := by decide +kernel
theorem d187_80 : decode mt187.2.1 80 = .ok (.getfield 290, 3) := by decide +kernel
theorem d187_83 : decode mt187.2.1 83 = .ok (.goto 22, 3) := by decide +kernel
theorem d187_86 : decode mt187.2.1 86 = .ok (.iload_n 3, 1) := by decide +kernel
theorem d187_87 : decode mt187.2.1 87 = .ok (.aload_n 0, 1) := by decide +kernel
theorem d187_88 : decode mt187.2.1 88 = .ok (.getfield 290, 3) := by decide +kernel
theorem d187_91 : decode mt187.2.1 91 = .ok (.if_icmp .ge 12, 3) := by decide +kernel
theorem d187_94 : decode mt187.2.1 94 = .ok (.aload_n 0, 1) := by decide +kernel
theorem d187_95 : decode mt187.2.1 95 = .ok (.getfield 59, 3) := by decide +kernel
theorem d187_98 : decode mt187.2.1 98 = .ok (.iload_n 3, 1) := by decide +kernel
theorem d187_99 : decode mt187.2.1 99 = .ok (.iaload, 1) := by decide +kernel
theorem d187_100 : decode mt187.2.1 100 = .ok (.goto 5, 3) := by decide +kernel
theorem d187_103 : decode mt187.2.1 103 = .ok (.ldc 110, 2) := by decide +kernel
theorem d187_105 : decode mt187.2.1 105 = .ok (.ireturn, 1) := by decide +kernel
noncomputable def pg187_0 : List (Nat × aP) := [(0, oLdA 0 1),
  (1, oPush (.int 0) 2),
  (2, oPutI (fun k => k = 11) 0 5),
  (5, oLdA 0 6),
  (6, oLdI 1 7),
  (7, oCalV (fun k => if k = 11 then some 158 else none) 1 10),
  (10, oIf (fun x => x = 0) 44 13),
  (13, oLdA 0 14),
  (14, oGetF (fun k => k = 11) 5 17),
  (17, oPush (.int 46) 19),
  (19, oLdI 1 20),
  (20, oII (fun x y => x + y) 21),
  (21, oALdI 22),
  (22, oPush (.int 1) 23),
  (23, oIc (fun x y => x = y) 44 26),
  (26, oLdI 2 27),
  (27, oIL (fun x => x.toInt64) 28),
  (28, oPush (.long 0) 29),
  (29, oPush (.long 12) 32),
  (32, oCall 131 3 35),
  (35, oIf (fun x => x = 0) 44 38),
  (38, oLdI 3 39),
  (39, oPush (.int (-2)) 41),
  (41, oIc (fun x y => y ≤ x) 47 44),
  (44, oPush (.int (-1000001)) 46),
  (46, oRetI),
  (47, oLdA 0 48),
  (48, oPush (.int 0) 49),
  (49, oLdI 1 50),
  (50, oPush (.int 12) 52),
  (52, oLdI 2 53),
  (53, oCalV (fun k => if k = 11 then some 186 else none) 4 56),
  (56, oStI 4 58),
  (58, oLdI 4 60),
  (60, oPush (.int (-1000000)) 62),
  (62, oIc (fun x y => x = y) 71 65),
  (65, oLdI 3 66),
  (66, oPush (.int (-2)) 68),
  (68, oIc (fun x y => ¬ x = y) 74 71),
  (71, oLdI 4 73)]
theorem ok187_0 : ∀ q ∈ pg187_0, Sim mT mt187 q.1 q.2 ∧ Grow q.2 :=
  List.forall_mem_cons.mpr ⟨⟨sim_aload_n d187_0 rfl, gr_LdA 0 1⟩,
  List.forall_mem_cons.mpr ⟨⟨sim_iconst d187_1 (by decide), gr_Push (.int 0) 2⟩,
  List.forall_mem_cons.mpr ⟨⟨sim_putI d187_2 gf155w, gr_PutI (fun k => k = 11) 0 5⟩,
  List.forall_mem_cons.mpr ⟨⟨sim_aload_n d187_5 rfl, gr_LdA 0 6⟩,
  List.forall_mem_cons.mpr ⟨⟨sim_iload_n d187_6 rfl, gr_LdI 1 7⟩,
  List.forall_mem_cons.mpr ⟨⟨sim_virtual d187_7 vk119, gr_CalV (fun k => if k = 11 then some 158 else none) 1 10⟩,
  List.forall_mem_cons.mpr ⟨⟨sim_if_eq d187_10 (by decide), gr_If (fun x => x = 0) 44 13⟩,
  List.forall_mem_cons.mpr ⟨⟨sim_aload_n d187_13 rfl, gr_LdA 0 14⟩,
  List.forall_mem_cons.mpr ⟨⟨sim_getF d187_14 gf171, gr_GetF (fun k => k = 11) 5 17⟩,
  List.forall_mem_cons.mpr ⟨⟨sim_bipush d187_17 (by decide), gr_Push (.int 46) 19⟩,
  List.forall_mem_cons.mpr ⟨⟨sim_iload_n d187_19 rfl, gr_LdI 1 20⟩,
  List.forall_mem_cons.mpr ⟨⟨sim_iadd d187_20, gr_II (fun x y => x + y) 21⟩,
  List.forall_mem_cons.mpr ⟨⟨sim_iaload d187_21, gr_ALdI 22⟩,
  List.forall_mem_cons.mpr ⟨⟨sim_iconst d187_22 (by decide), gr_Push (.int 1) 23⟩,
  List.forall_mem_cons.mpr ⟨⟨sim_icmp_eq d187_23 (by decide), gr_Ic (fun x y => x = y) 44 26⟩,
  List.forall_mem_cons.mpr ⟨⟨sim_iload_n d187_26 rfl, gr_LdI 2 27⟩,
  List.forall_mem_cons.mpr ⟨⟨sim_i2l d187_27, gr_IL (fun x => x.toInt64) 28⟩,
  List.forall_mem_cons.mpr ⟨⟨sim_lconst d187_28 (by decide), gr_Push (.long 0) 29⟩,
  List.forall_mem_cons.mpr ⟨⟨sim_ldc2 d187_29 kw1245, gr_Push (.long 12) 32⟩,
  List.forall_mem_cons.mpr ⟨⟨sim_static (y := 131) d187_32 (Or.inl kw1038) kw1039 mo131, gr_Call 131 3 35⟩,
  List.forall_mem_cons.mpr ⟨⟨sim_if_eq d187_35 (by decide), gr_If (fun x => x = 0) 44 38⟩,
  List.forall_mem_cons.mpr ⟨⟨sim_iload_n d187_38 rfl, gr_LdI 3 39⟩,
  List.forall_mem_cons.mpr ⟨⟨sim_bipush d187_39 (by decide), gr_Push (.int (-2)) 41⟩,
  List.forall_mem_cons.mpr ⟨⟨sim_icmp_ge d187_41 (by decide), gr_Ic (fun x y => y ≤ x) 47 44⟩,
  List.forall_mem_cons.mpr ⟨⟨sim_ldc d187_44 kw1042, gr_Push (.int (-1000001)) 46⟩,
  List.forall_mem_cons.mpr ⟨⟨sim_ireturn d187_46 rfl, gr_RetI⟩,
  List.forall_mem_cons.mpr ⟨⟨sim_aload_n d187_47 rfl, gr_LdA 0 48⟩,
  List.forall_mem_cons.mpr ⟨⟨sim_iconst d187_48 (by decide), gr_Push (.int 0) 49⟩,
  List.forall_mem_cons.mpr ⟨⟨sim_iload_n d187_49 rfl, gr_LdI 1 50⟩,
  List.forall_mem_cons.mpr ⟨⟨sim_bipush d187_50 (by decide), gr_Push (.int 12) 52⟩,
  List.forall_mem_cons.mpr ⟨⟨sim_iload_n d187_52 rfl, gr_LdI 2 53⟩,
  List.forall_mem_cons.mpr ⟨⟨sim_virtual d187_53 vk133, gr_CalV (fun k => if k = 11 then some 186 else none) 4 56⟩,
  List.forall_mem_cons.mpr ⟨⟨sim_istore d187_56 (by decide), gr_StI 4 58⟩,
  List.forall_mem_cons.mpr ⟨⟨sim_iload d187_58, gr_LdI 4 60⟩,
  List.forall_mem_cons.mpr ⟨⟨sim_ldc d187_60 kw1083, gr_Push (.int (-1000000)) 62⟩,
  List.forall_mem_cons.mpr ⟨⟨sim_icmp_eq d187_62 (by decide), gr_Ic (fun x y => x = y) 71 65⟩,
  List.forall_mem_cons.mpr ⟨⟨sim_iload_n d187_65 rfl, gr_LdI 3 66⟩,
  List.forall_mem_cons.mpr ⟨⟨sim_bipush d187_66 (by decide), gr_Push (.int (-2)) 68⟩,
  List.forall_mem_cons.mpr ⟨⟨sim_icmp_ne d187_68 (by decide), gr_Ic (fun x y => ¬ x = y) 74 71⟩,
  List.forall_mem_cons.mpr ⟨⟨sim_iload d187_71, gr_LdI 4 73⟩, fun _ h => absurd h List.not_mem_nil⟩⟩⟩⟩⟩⟩⟩⟩⟩⟩⟩⟩⟩⟩⟩⟩⟩⟩⟩⟩⟩⟩⟩⟩⟩⟩⟩⟩⟩⟩⟩⟩⟩⟩⟩⟩⟩⟩⟩⟩
noncomputable def pg187_1 : List (Nat × aP) := [(73, oRetI),
  (74, oLdI 3 75),
  (75, oPush (.int (-1)) 76),
  (76, oIc (fun x y => ¬ x = y) 86 79),
  (79, oLdA 0 80),
  (80, oGetI (fun k => k = 11) 31 83),
  (83, oGo 105),
  (86, oLdI 3 87),
  (87, oLdA 0 88),
  (88, oGetI (fun k => k = 11) 31 91),
  (91, oIc (fun x y => y ≤ x) 103 94),
  (94, oLdA 0 95),
  (95, oGetF (fun k => k = 11) 30 98),
  (98, oLdI 3 99),
  (99, oALdI 100),
  (100, oGo 105),
  (103, oPush (.int (-1000000)) 105),
  (105, oRetI)]
theorem ok187_1 : ∀ q ∈ pg187_1, Sim mT mt187 q.1 q.2 ∧ Grow q.2 :=
  List.forall_mem_cons.mpr ⟨⟨sim_ireturn d187_73 rfl, gr_RetI⟩,
  List.forall_mem_cons.mpr ⟨⟨sim_iload_n d187_74 rfl, gr_LdI 3 75⟩,
  List.forall_mem_cons.mpr ⟨⟨sim_iconst d187_75 (by decide), gr_Push (.int (-1)) 76⟩,
  List.forall_mem_cons.mpr ⟨⟨sim_icmp_ne d187_76 (by decide), gr_Ic (fun x y => ¬ x = y) 86 79⟩,
  List.forall_mem_cons.mpr ⟨⟨sim_aload_n d187_79 rfl, gr_LdA 0 80⟩,
  List.forall_mem_cons.mpr ⟨⟨sim_getI d187_80 gf184, gr_GetI (fun k => k = 11) 31 83⟩,
  List.forall_mem_cons.mpr ⟨⟨sim_goto d187_83 (by decide), gr_Go 105⟩,
  List.forall_mem_cons.mpr ⟨⟨sim_iload_n d187_86 rfl, gr_LdI 3 87⟩,
  List.forall_mem_cons.mpr ⟨⟨sim_aload_n d187_87 rfl, gr_LdA 0 88⟩,
  List.forall_mem_cons.mpr ⟨⟨sim_getI d187_88 gf184, gr_GetI (fun k => k = 11) 31 91⟩,
  List.forall_mem_cons.mpr ⟨⟨sim_icmp_ge d187_91 (by decide), gr_Ic (fun x y => y ≤ x) 103 94⟩,
  List.forall_mem_cons.mpr ⟨⟨sim_aload_n d187_94 rfl, gr_LdA 0 95⟩,
  List.forall_mem_cons.mpr ⟨⟨sim_getF d187_95 gf185, gr_GetF (fun k => k = 11) 30 98⟩,
  List.forall_mem_cons.mpr ⟨⟨sim_iload_n d187_98 rfl, gr_LdI 3 99⟩,
  List.forall_mem_cons.mpr ⟨⟨sim_iaload d187_99, gr_ALdI 100⟩,
  List.forall_mem_cons.mpr ⟨⟨sim_goto d187_100 (by decide), gr_Go 105⟩,
  List.forall_mem_cons.mpr ⟨⟨sim_ldc d187_103 kw1083, gr_Push (.int (-1000000)) 105⟩,
  List.forall_mem_cons.mpr ⟨⟨sim_ireturn d187_105 rfl, gr_RetI⟩, fun _ h => absurd h List.not_mem_nil⟩⟩⟩⟩⟩⟩⟩⟩⟩⟩⟩⟩⟩⟩⟩⟩⟩⟩
noncomputable def pg187 : List (Nat × aP) := pg187_0 ++ (pg187_1)
theorem ok187 : ∀ q ∈ pg187, Sim mT mt187 q.1 q.2 ∧ Grow q.2 := List.forall_mem_append.mpr ⟨ok187_0, ok187_1⟩
theorem d188_0 : decode mt188.2.1 0 = .ok (.iload_n 0, 1) := by decide +kernel
theorem d188_1 : decode mt188.2.1 1 = .ok (.ldc 110, 2) := by decide +kernel
theorem d188_3 : decode mt188.2.1 3 = .ok (.if_icmp .ne 7, 3) := by decide +kernel
theorem d188_6 : decode mt188.2.1 6 = .ok (.iconst 0, 1) := by decide +kernel
theorem d188_7 : decode mt188.2.1 7 = .ok (.goto 4, 3) := by decide +kernel
theorem d188_10 : decode mt188.2.1 10 = .ok (.iload_n 0, 1) := by decide +kernel
theorem d188_11 : decode mt188.2.1 11 = .ok (.ireturn, 1) := by decide +kernel
noncomputable def pg188_0 : List (Nat × aP) := [(0, oLdI 0 1),
  (1, oPush (.int (-1000000)) 3),
  (3, oIc (fun x y => ¬ x = y) 10 6),
  (6, oPush (.int 0) 7),
  (7, oGo 11),
  (10, oLdI 0 11),
  (11, oRetI)]
theorem ok188_0 : ∀ q ∈ pg188_0, Sim mT mt188 q.1 q.2 ∧ Grow q.2 :=
  List.forall_mem_cons.mpr ⟨⟨sim_iload_n d188_0 rfl, gr_LdI 0 1⟩,
  List.forall_mem_cons.mpr ⟨⟨sim_ldc d188_1 kw1083, gr_Push (.int (-1000000)) 3⟩,
  List.forall_mem_cons.mpr ⟨⟨sim_icmp_ne d188_3 (by decide), gr_Ic (fun x y => ¬ x = y) 10 6⟩,
  List.forall_mem_cons.mpr ⟨⟨sim_iconst d188_6 (by decide), gr_Push (.int 0) 7⟩,
  List.forall_mem_cons.mpr ⟨⟨sim_goto d188_7 (by decide), gr_Go 11⟩,
  List.forall_mem_cons.mpr ⟨⟨sim_iload_n d188_10 rfl, gr_LdI 0 11⟩,
  List.forall_mem_cons.mpr ⟨⟨sim_ireturn d188_11 rfl, gr_RetI⟩, fun _ h => absurd h List.not_mem_nil⟩⟩⟩⟩⟩⟩⟩
noncomputable def pg188 : List (Nat × aP) := pg188_0
theorem ok188 : ∀ q ∈ pg188, Sim mT mt188 q.1 q.2 ∧ Grow q.2 := ok188_0
theorem d189_0 : decode mt189.2.1 0 = .ok (.iconst 0, 1) := by decide +kernel
theorem d189_1 : decode mt189.2.1 1 = .ok (.istore_n 2, 1) := by decide +kernel
theorem d189_2 : decode mt189.2.1 2 = .ok (.iconst (-1), 1) := by decide +kernel
theorem d189_3 : decode mt189.2.1 3 = .ok (.istore_n 3, 1) := by decide +kernel
theorem d189_4 : decode mt189.2.1 4 = .ok (.iconst 3, 1) := by decide +kernel
theorem d189_5 : decode mt189.2.1 5 = .ok (.istore 4, 2) := by decide +kernel
theorem d189_7 : decode mt189.2.1 7 = .ok (.iload 4, 2) := by decide +kernel
theorem d189_9 : decode mt189.2.1 9 = .ok (.ifCond .lt 39, 3) := by decide +kernel
theorem d189_12 : decode mt189.2.1 12 = .ok (.iload_n 1, 1) := by decide +kernel
theorem d189_13 : decode mt189.2.1 13 = .ok (.iload 4, 2) := by decide +kernel
theorem d189_15 : decode mt189.2.1 15 = .ok (.ishr, 1) := by decide +kernel
theorem d189_16 : decode mt189.2.1 16 = .ok (.iconst 1, 1) := by decide +kernel
theorem d189_17 : decode mt189.2.1 17 = .ok (.iand, 1) := by decide +kernel
theorem d189_18 : decode mt189.2.1 18 = .ok (.iconst 1, 1) := by decide +kernel
theorem d189_19 : decode mt189.2.1 19 = .ok (.if_icmp .ne 23, 3) := by decide +kernel
theorem d189_22 : decode mt189.2.1 22 = .ok (.iload_n 2, 1) := by decide +kernel
theorem d189_23 : decode mt189.2.1 23 = .ok (.aload_n 0, 1) := by decide +kernel
theorem d189_24 : decode mt189.2.1 24 = .ok (.getfield 19, 3) := by decide +kernel
theorem d189_27 : decode mt189.2.1 27 = .ok (.bipush 102, 2) := by decide +kernel
theorem d189_29 : decode mt189.2.1 29 = .ok (.iconst 2, 1) := by decide +kernel
theorem d189_30 : decode mt189.2.1 30 = .ok (.iload 4, 2) := by decide +kernel
theorem d189_32 : decode mt189.2.1 32 = .ok (.imul, 1) := by decide +kernel
theorem d189_33 : decode mt189.2.1 33 = .ok (.iadd, 1) := by decide +kernel
theorem d189_34 : decode mt189.2.1 34 = .ok (.iconst 1, 1) := by decide +kernel
theorem d189_35 : decode mt189.2.1 35 = .ok (.iadd, 1) := by decide +kernel
theorem d189_36 : decode mt189.2.1 36 = .ok (.iaload, 1) := by decide +kernel
theorem d189_37 : decode mt189.2.1 37 = .ok (.iadd, 1) := by decide +kernel
theorem d189_38 : decode mt189.2.1 38 = .ok (.istore_n 2, 1) := by decide +kernel
theorem d189_39 : decode mt189.2.1 39 = .ok (.iload 4, 2) := by decide +kernel
theorem d189_41 : decode mt189.2.1 41 = .ok (.istore_n 3, 1) := by decide +kernel
theorem d189_42 : decode mt189.2.1 42 = .ok (.iinc 4 (-1), 3) := by decide +kernel
theorem d189_45 : decode mt189.2.1 45 = .ok (.goto (-38), 3) := by decide +kernel
theorem d189_48 : decode mt189.2.1 48 = .ok (.aload_n 0, 1) := by decide +kernel
theorem d189_49 : decode mt189.2.1 49 = .ok (.iconst 0, 1) := by decide +kernel
theorem d189_50 : decode mt189.2.1 50 = .ok (.aload_n 0, 1) := by decide +kernel
theorem d189_51 : decode mt189.2.1 51 = .ok (.getfield 19, 3) := by decide +kernel
theorem d189_54 : decode mt189.2.1 54 = .ok (.bipush 102, 2) := by decide +kernel
theorem d189_56 : decode mt189.2.1 56 = .ok (.iconst 2, 1) := by decide +kernel
theorem d189_57 : decode mt189.2.1 57 = .ok (.iload_n 3, 1) := by decide +kernel
theorem d189_58 : decode mt189.2.1 58 = .ok (.imul, 1) := by decide +kernel
theorem d189_59 : decode mt189.2.1 59 = .ok (.iadd, 1) := by decide +kernel
theorem d189_60 : decode mt189.2.1 60 = .ok (.iaload, 1) := by decide +kernel
theorem d189_61 : decode mt189.2.1 61 = .ok (.bipush 12, 2) := by decide +kernel
theorem d189_63 : decode mt189.2.1 63 = .ok (.iload_n 2, 1) := by decide +kernel
theorem d189_64 : decode mt189.2.1 64 = .ok (.bipush 12, 2) := by decide +kernel
theorem d189_66 : decode mt189.2.1 66 = .ok (.if_icmp .le 8, 3) := by decide +kernel
theorem d189_69 : decode mt189.2.1 69 = .ok (.bipush 12, 2) := by decide +kernel
theorem d189_71 : decode mt189.2.1 71 = .ok (.goto 4, 3) := by decide +kernel
theorem d189_74 : decode mt189.2.1 74 = .ok (.iload_n 2, 1) := by decide +kernel
theorem d189_75 : decode mt189.2.1 75 = .ok (.invokevirtual 295, 3) := by decide +kernel
theorem d189_78 : decode mt189.2.1 78 = .ok (.invokestatic 299, 3) := by decide +kernel
theorem d189_81 : decode mt189.2.1 81 = .ok (.ireturn, 1) := by decide +kernel
noncomputable def pg189_0 : List (Nat × aP) := [(0, oPush (.int 0) 1),
  (1, oStI 2 2),
  (2, oPush (.int (-1)) 3),
  (3, oStI 3 4),
  (4, oPush (.int 3) 5),
  (5, oStI 4 7),
  (7, oLdI 4 9),
  (9, oIf (fun x => x < 0) 48 12),
  (12, oLdI 1 13),
  (13, oLdI 4 15),
  (15, oII (fun x y => x >>> (y &&& 31)) 16),
  (16, oPush (.int 1) 17),
  (17, oII (fun x y => x &&& y) 18),
  (18, oPush (.int 1) 19),
  (19, oIc (fun x y => ¬ x = y) 42 22),
  (22, oLdI 2 23),
  (23, oLdA 0 24),
  (24, oGetF (fun k => k = 11) 5 27),
  (27, oPush (.int 102) 29),
  (29, oPush (.int 2) 30),
  (30, oLdI 4 32),
  (32, oII (fun x y => x * y) 33),
  (33, oII (fun x y => x + y) 34),
  (34, oPush (.int 1) 35),
  (35, oII (fun x y => x + y) 36),
  (36, oALdI 37),
  (37, oII (fun x y => x + y) 38),
  (38, oStI 2 39),
  (39, oLdI 4 41),
  (41, oStI 3 42),
  (42, oInc 4 (-1) 45),
  (45, oGo 7),
  (48, oLdA 0 49),
  (49, oPush (.int 0) 50),
  (50, oLdA 0 51),
  (51, oGetF (fun k => k = 11) 5 54),
  (54, oPush (.int 102) 56),
  (56, oPush (.int 2) 57),
  (57, oLdI 3 58),
  (58, oII (fun x y => x * y) 59)]
theorem ok189_0 : ∀ q ∈ pg189_0, Sim mT mt189 q.1 q.2 ∧ Grow q.2 :=
  List.forall_mem_cons.mpr ⟨⟨sim_iconst d189_0 (by decide), gr_Push (.int 0) 1⟩,
  List.forall_mem_cons.mpr ⟨⟨sim_istore_n d189_1 rfl (by decide), gr_StI 2 2⟩,
  List.forall_mem_cons.mpr ⟨⟨sim_iconst d189_2 (by decide), gr_Push (.int (-1)) 3⟩,
  List.forall_mem_cons.mpr ⟨⟨sim_istore_n d189_3 rfl (by decide), gr_StI 3 4⟩,
  List.forall_mem_cons.mpr ⟨⟨sim_iconst d189_4 (by decide), gr_Push (.int 3) 5⟩,
  List.forall_mem_cons.mpr ⟨⟨sim_istore d189_5 (by decide), gr_StI 4 7⟩,
  List.forall_mem_cons.mpr ⟨⟨sim_iload d189_7, gr_LdI 4 9⟩,
  List.forall_mem_cons.mpr ⟨⟨sim_if_lt d189_9 (by decide), gr_If (fun x => x < 0) 48 12⟩,
  List.forall_mem_cons.mpr ⟨⟨sim_iload_n d189_12 rfl, gr_LdI 1 13⟩,
  List.forall_mem_cons.mpr ⟨⟨sim_iload d189_13, gr_LdI 4 15⟩,
  List.forall_mem_cons.mpr ⟨⟨sim_ishr d189_15, gr_II (fun x y => x >>> (y &&& 31)) 16⟩,
  List.forall_mem_cons.mpr ⟨⟨sim_iconst d189_16 (by decide), gr_Push (.int 1) 17⟩,
  List.forall_mem_cons.mpr ⟨⟨sim_iand d189_17, gr_II (fun x y => x &&& y) 18⟩,
  List.forall_mem_cons.mpr ⟨⟨sim_iconst d189_18 (by decide), gr_Push (.int 1) 19⟩,
  List.forall_mem_cons.mpr ⟨⟨sim_icmp_ne d189_19 (by decide), gr_Ic (fun x y => ¬ x = y) 42 22⟩,
  List.forall_mem_cons.mpr ⟨⟨sim_iload_n d189_22 rfl, gr_LdI 2 23⟩,
  List.forall_mem_cons.mpr ⟨⟨sim_aload_n d189_23 rfl, gr_LdA 0 24⟩,
  List.forall_mem_cons.mpr ⟨⟨sim_getF d189_24 gf171, gr_GetF (fun k => k = 11) 5 27⟩,
  List.forall_mem_cons.mpr ⟨⟨sim_bipush d189_27 (by decide), gr_Push (.int 102) 29⟩,
  List.forall_mem_cons.mpr ⟨⟨sim_iconst d189_29 (by decide), gr_Push (.int 2) 30⟩,
  List.forall_mem_cons.mpr ⟨⟨sim_iload d189_30, gr_LdI 4 32⟩,
  List.forall_mem_cons.mpr ⟨⟨sim_imul d189_32, gr_II (fun x y => x * y) 33⟩,
  List.forall_mem_cons.mpr ⟨⟨sim_iadd d189_33, gr_II (fun x y => x + y) 34⟩,
  List.forall_mem_cons.mpr ⟨⟨sim_iconst d189_34 (by decide), gr_Push (.int 1) 35⟩,
  List.forall_mem_cons.mpr ⟨⟨sim_iadd d189_35, gr_II (fun x y => x + y) 36⟩,
  List.forall_mem_cons.mpr ⟨⟨sim_iaload d189_36, gr_ALdI 37⟩,
  List.forall_mem_cons.mpr ⟨⟨sim_iadd d189_37, gr_II (fun x y => x + y) 38⟩,
  List.forall_mem_cons.mpr ⟨⟨sim_istore_n d189_38 rfl (by decide), gr_StI 2 39⟩,
  List.forall_mem_cons.mpr ⟨⟨sim_iload d189_39, gr_LdI 4 41⟩,
  List.forall_mem_cons.mpr ⟨⟨sim_istore_n d189_41 rfl (by decide), gr_StI 3 42⟩,
  List.forall_mem_cons.mpr ⟨⟨sim_iinc d189_42 (by decide) (by decide), gr_Inc 4 (-1) 45⟩,
  List.forall_mem_cons.mpr ⟨⟨sim_goto d189_45 (by decide), gr_Go 7⟩,
  List.forall_mem_cons.mpr ⟨⟨sim_aload_n d189_48 rfl, gr_LdA 0 49⟩,
  List.forall_mem_cons.mpr ⟨⟨sim_iconst d189_49 (by decide), gr_Push (.int 0) 50⟩,
  List.forall_mem_cons.mpr ⟨⟨sim_aload_n d189_50 rfl, gr_LdA 0 51⟩,
  List.forall_mem_cons.mpr ⟨⟨sim_getF d189_51 gf171, gr_GetF (fun k => k = 11) 5 54⟩,
  List.forall_mem_cons.mpr ⟨⟨sim_bipush d189_54 (by decide), gr_Push (.int 102) 56⟩,
  List.forall_mem_cons.mpr ⟨⟨sim_iconst d189_56 (by decide), gr_Push (.int 2) 57⟩,
  List.forall_mem_cons.mpr ⟨⟨sim_iload_n d189_57 rfl, gr_LdI 3 58⟩,
  List.forall_mem_cons.mpr ⟨⟨sim_imul d189_58, gr_II (fun x y => x * y) 59⟩, fun _ h => absurd h List.not_mem_nil⟩⟩⟩⟩⟩⟩⟩⟩⟩⟩⟩⟩⟩⟩⟩⟩⟩⟩⟩⟩⟩⟩⟩⟩⟩⟩⟩⟩⟩⟩⟩⟩⟩⟩⟩⟩⟩⟩⟩⟩
noncomputable def pg189_1 : List (Nat × aP) := [(59, oII (fun x y => x + y) 60),
  (60, oALdI 61),
  (61, oPush (.int 12) 63),
  (63, oLdI 2 64),
  (64, oPush (.int 12) 66),
  (66, oIc (fun x y => x ≤ y) 74 69),
  (69, oPush (.int 12) 71),
  (71, oGo 75),
  (74, oLdI 2 75),
  (75, oCalV (fun k => if k = 11 then some 186 else none) 4 78),
  (78, oCall 188 1 81),
  (81, oRetI)]
theorem ok189_1 : ∀ q ∈ pg189_1, Sim mT mt189 q.1 q.2 ∧ Grow q.2 :=
  List.forall_mem_cons.mpr ⟨⟨sim_iadd d189_59, gr_II (fun x y => x + y) 60⟩,
  List.forall_mem_cons.mpr ⟨⟨sim_iaload d189_60, gr_ALdI 61⟩,
  List.forall_mem_cons.mpr ⟨⟨sim_bipush d189_61 (by decide), gr_Push (.int 12) 63⟩,
  List.forall_mem_cons.mpr ⟨⟨sim_iload_n d189_63 rfl, gr_LdI 2 64⟩,
  List.forall_mem_cons.mpr ⟨⟨sim_bipush d189_64 (by decide), gr_Push (.int 12) 66⟩,
  List.forall_mem_cons.mpr ⟨⟨sim_icmp_le d189_66 (by decide), gr_Ic (fun x y => x ≤ y) 74 69⟩,
  List.forall_mem_cons.mpr ⟨⟨sim_bipush d189_69 (by decide), gr_Push (.int 12) 71⟩,
  List.forall_mem_cons.mpr ⟨⟨sim_goto d189_71 (by decide), gr_Go 75⟩,
  List.forall_mem_cons.mpr ⟨⟨sim_iload_n d189_74 rfl, gr_LdI 2 75⟩,
  List.forall_mem_cons.mpr ⟨⟨sim_virtual d189_75 vk133, gr_CalV (fun k => if k = 11 then some 186 else none) 4 78⟩,
  List.forall_mem_cons.mpr ⟨⟨sim_static (y := 188) d189_78 (Or.inl kw1277) kw1278 mo188, gr_Call 188 1 81⟩,
  List.forall_mem_cons.mpr ⟨⟨sim_ireturn d189_81 rfl, gr_RetI⟩, fun _ h => absurd h List.not_mem_nil⟩⟩⟩⟩⟩⟩⟩⟩⟩⟩⟩⟩
noncomputable def pg189 : List (Nat × aP) := pg189_0 ++ (pg189_1)
theorem ok189 : ∀ q ∈ pg189, Sim mT mt189 q.1 q.2 ∧ Grow q.2 := List.forall_mem_append.mpr ⟨ok189_0, ok189_1⟩
theorem d190_0 : decode mt190.2.1 0 = .ok (.aload_n 0, 1) := by decide +kernel
theorem d190_1 : decode mt190.2.1 1 = .ok (.iconst 0, 1) := by decide +kernel
theorem d190_2 : decode mt190.2.1 2 = .ok (.putfield 74, 3) := by decide +kernel
theorem d190_5 : decode mt190.2.1 5 = .ok (.iload_n 1, 1) := by decide +kernel
theorem d190_6 : decode mt190.2.1 6 = .ok (.i2l, 1) := by decide +kernel
theorem d190_7 : decode mt190.2.1 7 = .ok (.lconst 1, 1) := by decide +kernel
theorem d190_8 : decode mt190.2.1 8 = .ok (.iconst 1, 1) := by decide +kernel
theorem d190_9 : decode mt190.2.1 9 = .ok (.aload_n 0, 1) := by decide +kernel
theorem d190_10 : decode mt190.2.1 10 = .ok (.getfield 19, 3) := by decide +kernel
theorem d190_13 : decode mt190.2.1 13 = .ok (.iconst 3, 1) := by decide +kernel
theorem d190_14 : decode mt190.2.1 14 = .ok (.iaload, 1) := by decide +kernel
theorem d190_15 : decode mt190.2.1 15 = .ok (.ishl, 1) := by decide +kernel
theorem d190_16 : decode mt190.2.1 16 = .ok (.iconst 1, 1) := by decide +kernel
theorem d190_17 : decode mt190.2.1 17 = .ok (.isub, 1) := by decide +kernel
theorem d190_18 : decode mt190.2.1 18 = .ok (.i2l, 1) := by decide +kernel
theorem d190_19 : decode mt190.2.1 19 = .ok (.invokestatic 84, 3) := by decide +kernel
theorem d190_22 : decode mt190.2.1 22 = .ok (.ifCond .eq 11, 3) := by decide +kernel
theorem d190_25 : decode mt190.2.1 25 = .ok (.aload_n 0, 1) := by decide +kernel
theorem d190_26 : decode mt190.2.1 26 = .ok (.iload_n 1, 1) := by decide +kernel
theorem d190_27 : decode mt190.2.1 27 = .ok (.invokevirtual 302, 3) := by decide +kernel
theorem d190_30 : decode mt190.2.1 30 = .ok (.goto 5, 3) := by decide +kernel
theorem d190_33 : decode mt190.2.1 33 = .ok (.ldc 94, 2) := by decide +kernel
theorem d190_35 : decode mt190.2.1 35 = .ok (.ireturn, 1) := by decide +kernel
noncomputable def pg190_0 : List (Nat × aP) := [(0, oLdA 0 1),
  (1, oPush (.int 0) 2),
  (2, oPutI (fun k => k = 11) 0 5),
  (5, oLdI 1 6),
  (6, oIL (fun x => x.toInt64) 7),
  (7, oPush (.long 1) 8),
  (8, oPush (.int 1) 9),
  (9, oLdA 0 10),
  (10, oGetF (fun k => k = 11) 5 13),
  (13, oPush (.int 3) 14),
  (14, oALdI 15),
  (15, oII (fun x y => x <<< (y &&& 31)) 16),
  (16, oPush (.int 1) 17),
  (17, oII (fun x y => x - y) 18),
  (18, oIL (fun x => x.toInt64) 19),
  (19, oCall 131 3 22),
  (22, oIf (fun x => x = 0) 33 25),
  (25, oLdA 0 26),
  (26, oLdI 1 27),
  (27, oCalV (fun k => if k = 11 then some 189 else none) 1 30),
  (30, oGo 35),
  (33, oPush (.int (-1000001)) 35),
  (35, oRetI)]
theorem ok190_0 : ∀ q ∈ pg190_0, Sim mT mt190 q.1 q.2 ∧ Grow q.2 :=
  List.forall_mem_cons.mpr ⟨⟨sim_aload_n d190_0 rfl, gr_LdA 0 1⟩,
  List.forall_mem_cons.mpr ⟨⟨sim_iconst d190_1 (by decide), gr_Push (.int 0) 2⟩,
  List.forall_mem_cons.mpr ⟨⟨sim_putI d190_2 gf155w, gr_PutI (fun k => k = 11) 0 5⟩,
  List.forall_mem_cons.mpr ⟨⟨sim_iload_n d190_5 rfl, gr_LdI 1 6⟩,
  List.forall_mem_cons.mpr ⟨⟨sim_i2l d190_6, gr_IL (fun x => x.toInt64) 7⟩,
  List.forall_mem_cons.mpr ⟨⟨sim_lconst d190_7 (by decide), gr_Push (.long 1) 8⟩,
  List.forall_mem_cons.mpr ⟨⟨sim_iconst d190_8 (by decide), gr_Push (.int 1) 9⟩,
  List.forall_mem_cons.mpr ⟨⟨sim_aload_n d190_9 rfl, gr_LdA 0 10⟩,
  List.forall_mem_cons.mpr ⟨⟨sim_getF d190_10 gf171, gr_GetF (fun k => k = 11) 5 13⟩,
  List.forall_mem_cons.mpr ⟨⟨sim_iconst d190_13 (by decide), gr_Push (.int 3) 14⟩,
  List.forall_mem_cons.mpr ⟨⟨sim_iaload d190_14, gr_ALdI 15⟩,
  List.forall_mem_cons.mpr ⟨⟨sim_ishl d190_15, gr_II (fun x y => x <<< (y &&& 31)) 16⟩,
  List.forall_mem_cons.mpr ⟨⟨sim_iconst d190_16 (by decide), gr_Push (.int 1) 17⟩,
  List.forall_mem_cons.mpr ⟨⟨sim_isub d190_17, gr_II (fun x y => x - y) 18⟩,
  List.forall_mem_cons.mpr ⟨⟨sim_i2l d190_18, gr_IL (fun x => x.toInt64) 19⟩,
  List.forall_mem_cons.mpr ⟨⟨sim_static (y := 131) d190_19 (Or.inl kw1038) kw1039 mo131, gr_Call 131 3 22⟩,
  List.forall_mem_cons.mpr ⟨⟨sim_if_eq d190_22 (by decide), gr_If (fun x => x = 0) 33 25⟩,
  List.forall_mem_cons.mpr ⟨⟨sim_aload_n d190_25 rfl, gr_LdA 0 26⟩,
  List.forall_mem_cons.mpr ⟨⟨sim_iload_n d190_26 rfl, gr_LdI 1 27⟩,
  List.forall_mem_cons.mpr ⟨⟨sim_virtual d190_27 vk134, gr_CalV (fun k => if k = 11 then some 189 else none) 1 30⟩,
  List.forall_mem_cons.mpr ⟨⟨sim_goto d190_30 (by decide), gr_Go 35⟩,
  List.forall_mem_cons.mpr ⟨⟨sim_ldc d190_33 kw1042, gr_Push (.int (-1000001)) 35⟩,
  List.forall_mem_cons.mpr ⟨⟨sim_ireturn d190_35 rfl, gr_RetI⟩, fun _ h => absurd h List.not_mem_nil⟩⟩⟩⟩⟩⟩⟩⟩⟩⟩⟩⟩⟩⟩⟩⟩⟩⟩⟩⟩⟩⟩⟩
noncomputable def pg190 : List (Nat × aP) := pg190_0
theorem ok190 : ∀ q ∈ pg190, Sim mT mt190 q.1 q.2 ∧ Grow q.2 := ok190_0
theorem d191_0 : decode mt191.2.1 0 = .ok (.aload_n 0, 1) := by decide +kernel
theorem d191_1 : decode mt191.2.1 1 = .ok (.iconst 0, 1) := by decide +kernel
theorem d191_2 : decode mt191.2.1 2 = .ok (.putfield 74, 3) := by decide +kernel
theorem d191_5 : decode mt191.2.1 5 = .ok (.aload_n 0, 1) := by decide +kernel
theorem d191_6 : decode mt191.2.1 6 = .ok (.iload_n 1, 1) := by decide +kernel
theorem d191_7 : decode mt191.2.1 7 = .ok (.invokevirtual 244, 3) := by decide +kernel
theorem d191_10 : decode mt191.2.1 10 = .ok (.ifCond .eq 13, 3) := by decide +kernel
theorem d191_13 : decode mt191.2.1 13 = .ok (.aload_n 0, 1) := by decide +kernel
theorem d191_14 : decode mt191.2.1 14 = .ok (.getfield 19, 3) := by decide +kernel
theorem d191_17 : decode mt191.2.1 17 = .ok (.iconst 3, 1) := by decide +kernel
theorem d191_18 : decode mt191.2.1 18 = .ok (.iaload, 1) := by decide +kernel
theorem d191_19 : decode mt191.2.1 19 = .ok (.iconst 3, 1) := by decide +kernel
theorem d191_20 : decode mt191.2.1 20 = .ok (.if_icmp .le 6, 3) := by decide +kernel
theorem d191_23 : decode mt191.2.1 23 = .ok (.ldc 94, 2) := by decide +kernel
theorem d191_25 : decode mt191.2.1 25 = .ok (.ireturn, 1) := by decide +kernel
theorem d191_26 : decode mt191.2.1 26 = .ok (.iconst 1, 1) := by decide +kernel
theorem d191_27 : decode mt191.2.1 27 = .ok (.aload_n 0, 1) := by decide +kernel
theorem d191_28 : decode mt191.2.1 28 = .ok (.getfield 19, 3) := by decide +kernel
theorem d191_31 : decode mt191.2.1 31 = .ok (.iconst 3, 1) := by decide +kernel
theorem d191_32 : decode mt191.2.1 32 = .ok (.iaload, 1) := by decide +kernel
theorem d191_33 : decode mt191.2.1 33 = .ok (.ishl, 1) := by decide +kernel
theorem d191_34 : decode mt191.2.1 34 = .ok (.iconst 1, 1) := by decide +kernel
theorem d191_35 : decode mt191.2.1 35 = .ok (.isub, 1) := by decide +kernel
theorem d191_36 : decode mt191.2.1 36 = .ok (.istore_n 2, 1) := by decide +kernel
theorem d191_37 : decode mt191.2.1 37 = .ok (.iconst 1, 1) := by decide +kernel
theorem d191_38 : decode mt191.2.1 38 = .ok (.istore_n 3, 1) := by decide +kernel
theorem d191_39 : decode mt191.2.1 39 = .ok (.iload_n 3, 1) := by decide +kernel
theorem d191_40 : decode mt191.2.1 40 = .ok (.bipush 8, 2) := by decide +kernel
theorem d191_42 : decode mt191.2.1 42 = .ok (.if_icmp .ge 29, 3) := by decide +kernel
theorem d191_45 : decode mt191.2.1 45 = .ok (.aload_n 0, 1) := by decide +kernel
theorem d191_46 : decode mt191.2.1 46 = .ok (.getfield 62, 3) := by decide +kernel
theorem d191_49 : decode mt191.2.1 49 = .ok (.iload_n 3, 1) := by decide +kernel
theorem d191_50 : decode mt191.2.1 50 = .ok (.iload_n 3, 1) := by decide +kernel
theorem d191_51 : decode mt191.2.1 51 = .ok (.iload_n 2, 1) := by decide +kernel
theorem d191_52 : decode mt191.2.1 52 = .ok (.if_icmp .gt 11, 3) := by decide +kernel
theorem d191_55 : decode mt191.2.1 55 = .ok (.aload_n 0, 1) := by decide +kernel
theorem d191_56 : decode mt191.2.1 56 = .ok (.iload_n 3, 1) := by decide +kernel
theorem d191_57 : decode mt191.2.1 57 = .ok (.invokevirtual 302, 3) := by decide +kernel
theorem d191_60 : decode mt191.2.1 60 = .ok (.goto 4, 3) := by decide +kernel
theorem d191_63 : decode mt191.2.1 63 = .ok (.iconst 0, 1) := by decide +kernel
theorem d191_64 : decode mt191.2.1 64 = .ok (.iastore, 1) := by decide +kernel
theorem d191_65 : decode mt191.2.1 65 = .ok (.iinc 3 1, 3) := by decide +kernel
theorem d191_68 : decode mt191.2.1 68 = .ok (.goto (-29), 3) := by decide +kernel
theorem d191_71 : decode mt191.2.1 71 = .ok (.aload_n 0, 1) := by decide +kernel
theorem d191_72 : decode mt191.2.1 72 = .ok (.getfield 62, 3) := by decide +kernel
theorem d191_75 : decode mt191.2.1 75 = .ok (.iload_n 2, 1) := by decide +kernel
theorem d191_76 : decode mt191.2.1 76 = .ok (.iaload, 1) := by decide +kernel
theorem d191_77 : decode mt191.2.1 77 = .ok (.istore_n 3, 1) := by decide +kernel
theorem d191_78 : decode mt191.2.1 78 = .ok (.aload_n 0, 1) := by decide +kernel
theorem d191_79 : decode mt191.2.1 79 = .ok (.getfield 62, 3) := by decide +kernel
theorem d191_82 : decode mt191.2.1 82 = .ok (.iconst 1, 1) := by decide +kernel
theorem d191_83 : decode mt191.2.1 83 = .ok (.iaload, 1) := by decide +kernel
theorem d191_84 : decode mt191.2.1 84 = .ok (.istore 4, 2) := by decide +kernel
theorem d191_86 : decode mt191.2.1 86 = .ok (.iload 4, 2) := by decide +kernel
theorem d191_88 : decode mt191.2.1 88 = .ok (.iload_n 3, 1) := by decide +kernel
theorem d191_89 : decode mt191.2.1 89 = .ok (.if_icmp .gt 179, 3) := by decide +kernel
theorem d191_92 : decode mt191.2.1 92 = .ok (.aload_n 0, 1) := by decide +kernel
theorem d191_93 : decode mt191.2.1 93 = .ok (.getfield 62, 3) := by decide +kernel
theorem d191_96 : decode mt191.2.1 96 = .ok (.iconst 2, 1) := by decide +kernel
theorem d191_97 : decode mt191.2.1 97 = .ok (.iaload, 1) := by decide +kernel
theorem d191_98 : decode mt191.2.1 98 = .ok (.istore 5, 2) := by decide +kernel
theorem d191_100 : decode mt191.2.1 100 = .ok (.iload 4, 2) := by decide +kernel
theorem d191_102 : decode mt191.2.1 102 = .ok (.iload 5, 2) := by decide +kernel
theorem d191_104 : decode mt191.2.1 104 = .ok (.iadd, 1) := by decide +kernel
theorem d191_105 : decode mt191.2.1 105 = .ok (.iload_n 3, 1) := by decide +kernel
theorem d191_106 : decode mt191.2.1 106 = .ok (.if_icmp .gt 156, 3) := by decide +kernel
theorem d191_109 : decode mt191.2.1 109 = .ok (.iload_n 3, 1) := by decide +kernel
theorem d191_110 : decode mt191.2.1 110 = .ok (.iload 4, 2) := by decide +kernel
theorem d191_112 : decode mt191.2.1 112 = .ok (.isub, 1) := by decide +kernel
theorem d191_113 : decode mt191.2.1 113 = .ok (.iload 5, 2) := by decide +kernel
theorem d191_115 : decode mt191.2.1 115 = .ok (.isub, 1) := by decide +kernel
theorem d191_116 : decode mt191.2.1 116 = .ok (.istore 6, 2) := by decide +kernel
theorem d191_118 : decode mt191.2.1 118 = .ok (.aload_n 0, 1) := by decide +kernel
theorem d191_119 : decode mt191.2.1 119 = .ok (.getfield 19, 3) := by decide +kernel
theorem d191_122 : decode mt191.2.1 122 = .ok (.iconst 3, 1) := by decide +kernel
theorem d191_123 : decode mt191.2.1 123 = .ok (.iaload, 1) := by decide +kernel
theorem d191_124 : decode mt191.2.1 124 = .ok (.iconst 3, 1) := by decide +kernel
theorem d191_125 : decode mt191.2.1 125 = .ok (.if_icmp .ge 16, 3) := by decide +kernel
theorem d191_128 : decode mt191.2.1 128 = .ok (.iload 6, 2) := by decide +kernel
theorem d191_130 : decode mt191.2.1 130 = .ok (.ifCond .ne 7, 3) := by decide +kernel
theorem d191_133 : decode mt191.2.1 133 = .ok (.iconst 1, 1) := by decide +kernel
theorem d191_134 : decode mt191.2.1 134 = .ok (.goto 52, 3) := by decide +kernel
theorem d191_137 : decode mt191.2.1 137 = .ok (.iconst 0, 1) := by decide +kernel
theorem d191_138 : decode mt191.2.1 138 = .ok (.goto 48, 3) := by decide +kernel
theorem d191_141 : decode mt191.2.1 141 = .ok (.iload 6, 2) := by decide +kernel
theorem d191_143 : decode mt191.2.1 143 = .ok (.aload_n 0, 1) := by decide +kernel
theorem d191_144 : decode mt191.2.1 144 = .ok (.getfield 62, 3) := by decide +kernel
theorem d191_147 : decode mt191.2.1 147 = .ok (.iconst 4, 1) := by decide +kernel
theorem d191_148 : decode mt191.2.1 148 = .ok (.iaload, 1) := by decide +kernel
theorem d191_149 : decode mt191.2.1 149 = .ok (.if_icmp .lt 36, 3) := by decide +kernel
theorem d191_152 : decode mt191.2.1 152 = .ok (.iload 4, 2) := by decide +kernel
theorem d191_154 : decode mt191.2.1 154 = .ok (.iload 6, 2) := by decide +kernel
theorem d191_156 : decode mt191.2.1 156 = .ok (.iadd, 1) := by decide +kernel
theorem d191_157 : decode mt191.2.1 157 = .ok (.aload_n 0, 1) := by decide +kernel
theorem d191_158 : decode mt191.2.1 158 = .ok (.getfield 62, 3) := by decide +kernel
theorem d191_161 : decode mt191.2.1 161 = .ok (.iconst 5, 1) := by decide +kernel
theorem d191_162 : decode mt191.2.1 162 = .ok (.iaload, 1) := by decide +kernel
theorem d191_163 : decode mt191.2.1 163 = .ok (.if_icmp .lt 22, 3) := by decide +kernel
theorem d191_166 : decode mt191.2.1 166 = .ok (.iload 5, 2) := by decide +kernel
theorem d191_168 : decode mt191.2.1 168 = .ok (.iload 6, 2) := by decide +kernel
theorem d191_170 : decode mt191.2.1 170 = .ok (.iadd, 1) := by decide +kernel
theorem d191_171 : decode mt191.2.1 171 = .ok (.aload_n 0, 1) := by decide +kernel
theorem d191_172 : decode mt191.2.1 172 = .ok (.getfield 62, 3) := by decide +kernel
theorem d191_175 : decode mt191.2.1 175 = .ok (.bipush 6, 2) := by decide +kernel
theorem d191_177 : decode mt191.2.1 177 = .ok (.iaload, 1) := by decide +kernel
theorem d191_178 : decode mt191.2.1 178 = .ok (.if_icmp .lt 7, 3) := by decide +kernel
theorem d191_181 : decode mt191.2.1 181 = .ok (.iconst 1, 1) := by decide +kernel
theorem d191_182 : decode mt191.2.1 182 = .ok (.goto 4, 3) := by decide +kernel
theorem d191_185 : decode mt191.2.1 185 = .ok (.iconst 0, 1) := by decide +kernel
theorem d191_186 : decode mt191.2.1 186 = .ok (.istore 7, 2) := by decide +kernel
theorem d191_188 : decode mt191.2.1 188 = .ok (.iload 7, 2) := by decide +kernel
theorem d191_190 : decode mt191.2.1 190 = .ok (.ifCond .eq 36, 3) := by decide +kernel
theorem d191_193 : decode mt191.2.1 193 = .ok (.aload_n 0, 1) := by decide +kernel
theorem d191_194 : decode mt191.2.1 194 = .ok (.getfield 19, 3) := by decide +kernel
theorem d191_197 : decode mt191.2.1 197 = .ok (.iconst 3, 1) := by decide +kernel
theorem d191_198 : decode mt191.2.1 198 = .ok (.iaload, 1) := by decide +kernel
theorem d191_199 : decode mt191.2.1 199 = .ok (.iconst 1, 1) := by decide +kernel
theorem d191_200 : decode mt191.2.1 200 = .ok (.if_icmp .gt 8, 3) := by decide +kernel
theorem d191_203 : decode mt191.2.1 203 = .ok (.iload 5, 2) := by decide +kernel
theorem d191_205 : decode mt191.2.1 205 = .ok (.ifCond .ne 21, 3) := by decide +kernel
theorem d191_208 : decode mt191.2.1 208 = .ok (.iload 4, 2) := by decide +kernel
theorem d191_210 : decode mt191.2.1 210 = .ok (.iload 5, 2) := by decide +kernel
theorem d191_212 : decode mt191.2.1 212 = .ok (.iadd, 1) := by decide +kernel
theorem d191_213 : decode mt191.2.1 213 = .ok (.aload_n 0, 1) := by decide +kernel
theorem d191_214 : decode mt191.2.1 214 = .ok (.getfield 62, 3) := by decide +kernel
theorem d191_217 : decode mt191.2.1 217 = .ok (.iconst 3, 1) := by decide +kernel
theorem d191_218 : decode mt191.2.1 218 = .ok (.iaload, 1) := by decide +kernel
theorem d191_219 : decode mt191.2.1 219 = .ok (.if_icmp .lt 7, 3) := by decide +kernel
theorem d191_222 : decode mt191.2.1 222 = .ok (.iconst 1, 1) := by decide +kernel
theorem d191_223 : decode mt191.2.1 223 = .ok (.goto 4, 3) := by decide +kernel
theorem d191_226 : decode mt191.2.1 226 = .ok (.iconst 0, 1) := by decide +kernel
theorem d191_227 : decode mt191.2.1 227 = .ok (.istore 7, 2) := by decide +kernel
theorem d191_229 : decode mt191.2.1 229 = .ok (.iload 7, 2) := by decide +kernel
theorem d191_231 : decode mt191.2.1 231 = .ok (.ifCond .eq 25, 3) := by decide +kernel
theorem d191_234 : decode mt191.2.1 234 = .ok (.iload_n 1, 1) := by decide +kernel
theorem d191_235 : decode mt191.2.1 235 = .ok (.ifCond .ne 8, 3) := by decide +kernel
theorem d191_238 : decode mt191.2.1 238 = .ok (.iload 4, 2) := by decide +kernel
theorem d191_240 : decode mt191.2.1 240 = .ok (.goto 15, 3) := by decide +kernel
theorem d191_243 : decode mt191.2.1 243 = .ok (.iload_n 1, 1) := by decide +kernel
theorem d191_244 : decode mt191.2.1 244 = .ok (.iconst 1, 1) := by decide +kernel
theorem d191_245 : decode mt191.2.1 245 = .ok (.if_icmp .ne 8, 3) := by decide +kernel
theorem d191_248 : decode mt191.2.1 248 = .ok (.iload 5, 2) := by decide +kernel
theorem d191_250 : decode mt191.2.1 250 = .ok (.goto 5, 3) := by decide +kernel
theorem d191_253 : decode mt191.2.1 253 = .ok (.iload 6, 2) := by decide +kernel
theorem d191_255 : decode mt191.2.1 255 = .ok (.ireturn, 1) := by decide +kernel
theorem d191_256 : decode mt191.2.1 256 = .ok (.iinc 5 1, 3) := by decide +kernel
theorem d191_259 : decode mt191.2.1 259 = .ok (.goto (-159), 3) := by decide +kernel
theorem d191_262 : decode mt191.2.1 262 = .ok (.iinc 4 1, 3) := by decide +kernel
theorem d191_265 : decode mt191.2.1 265 = .ok (.goto (-179), 3) := by decide +kernel
theorem d191_268 : decode mt191.2.1 268 = .ok (.ldc 110, 2) := by decide +kernel
theorem d191_270 : decode mt191.2.1 270 = .ok (.ireturn, 1) := by decide +kernel
noncomputable def pg191_0 : List (Nat × aP) := [(0, oLdA 0 1),
  (1, oPush (.int 0) 2),
  (2, oPutI (fun k => k = 11) 0 5),
  (5, oLdA 0 6),
  (6, oLdI 1 7),
  (7, oCalV (fun k => if k = 11 then some 160 else none) 1 10),
  (10, oIf (fun x => x = 0) 23 13),
  (13, oLdA 0 14),
  (14, oGetF (fun k => k = 11) 5 17),
  (17, oPush (.int 3) 18),
  (18, oALdI 19),
  (19, oPush (.int 3) 20),
  (20, oIc (fun x y => x ≤ y) 26 23),
  (23, oPush (.int (-1000001)) 25),
  (25, oRetI),
  (26, oPush (.int 1) 27),
  (27, oLdA 0 28),
  (28, oGetF (fun k => k = 11) 5 31),
  (31, oPush (.int 3) 32),
  (32, oALdI 33),
  (33, oII (fun x y => x <<< (y &&& 31)) 34),
  (34, oPush (.int 1) 35),
  (35, oII (fun x y => x - y) 36),
  (36, oStI 2 37),
  (37, oPush (.int 1) 38),
  (38, oStI 3 39),
  (39, oLdI 3 40),
  (40, oPush (.int 8) 42),
  (42, oIc (fun x y => y ≤ x) 71 45),
  (45, oLdA 0 46),
  (46, oGetF (fun k => k = 11) 32 49),
  (49, oLdI 3 50),
  (50, oLdI 3 51),
  (51, oLdI 2 52),
  (52, oIc (fun x y => y < x) 63 55),
  (55, oLdA 0 56),
  (56, oLdI 3 57),
  (57, oCalV (fun k => if k = 11 then some 189 else none) 1 60),
  (60, oGo 64),
  (63, oPush (.int 0) 64)]
theorem ok191_0 : ∀ q ∈ pg191_0, Sim mT mt191 q.1 q.2 ∧ Grow q.2 :=
  List.forall_mem_cons.mpr ⟨⟨sim_aload_n d191_0 rfl, gr_LdA 0 1⟩,
  List.forall_mem_cons.mpr ⟨⟨sim_iconst d191_1 (by decide), gr_Push (.int 0) 2⟩,
  List.forall_mem_cons.mpr ⟨⟨sim_putI d191_2 gf155w, gr_PutI (fun k => k = 11) 0 5⟩,
  List.forall_mem_cons.mpr ⟨⟨sim_aload_n d191_5 rfl, gr_LdA 0 6⟩,
  List.forall_mem_cons.mpr ⟨⟨sim_iload_n d191_6 rfl, gr_LdI 1 7⟩,
  List.forall_mem_cons.mpr ⟨⟨sim_virtual d191_7 vk123, gr_CalV (fun k => if k = 11 then some 160 else none) 1 10⟩,
  List.forall_mem_cons.mpr ⟨⟨sim_if_eq d191_10 (by decide), gr_If (fun x => x = 0) 23 13⟩,
  List.forall_mem_cons.mpr ⟨⟨sim_aload_n d191_13 rfl, gr_LdA 0 14⟩,
  List.forall_mem_cons.mpr ⟨⟨sim_getF d191_14 gf171, gr_GetF (fun k => k = 11) 5 17⟩,
  List.forall_mem_cons.mpr ⟨⟨sim_iconst d191_17 (by decide), gr_Push (.int 3) 18⟩,
  List.forall_mem_cons.mpr ⟨⟨sim_iaload d191_18, gr_ALdI 19⟩,
  List.forall_mem_cons.mpr ⟨⟨sim_iconst d191_19 (by decide), gr_Push (.int 3) 20⟩,
  List.forall_mem_cons.mpr ⟨⟨sim_icmp_le d191_20 (by decide), gr_Ic (fun x y => x ≤ y) 26 23⟩,
  List.forall_mem_cons.mpr ⟨⟨sim_ldc d191_23 kw1042, gr_Push (.int (-1000001)) 25⟩,
  List.forall_mem_cons.mpr ⟨⟨sim_ireturn d191_25 rfl, gr_RetI⟩,
  List.forall_mem_cons.mpr ⟨⟨sim_iconst d191_26 (by decide), gr_Push (.int 1) 27⟩,
  List.forall_mem_cons.mpr ⟨⟨sim_aload_n d191_27 rfl, gr_LdA 0 28⟩,
  List.forall_mem_cons.mpr ⟨⟨sim_getF d191_28 gf171, gr_GetF (fun k => k = 11) 5 31⟩,
  List.forall_mem_cons.mpr ⟨⟨sim_iconst d191_31 (by decide), gr_Push (.int 3) 32⟩,
  List.forall_mem_cons.mpr ⟨⟨sim_iaload d191_32, gr_ALdI 33⟩,
  List.forall_mem_cons.mpr ⟨⟨sim_ishl d191_33, gr_II (fun x y => x <<< (y &&& 31)) 34⟩,
  List.forall_mem_cons.mpr ⟨⟨sim_iconst d191_34 (by decide), gr_Push (.int 1) 35⟩,
  List.forall_mem_cons.mpr ⟨⟨sim_isub d191_35, gr_II (fun x y => x - y) 36⟩,
  List.forall_mem_cons.mpr ⟨⟨sim_istore_n d191_36 rfl (by decide), gr_StI 2 37⟩,
  List.forall_mem_cons.mpr ⟨⟨sim_iconst d191_37 (by decide), gr_Push (.int 1) 38⟩,
  List.forall_mem_cons.mpr ⟨⟨sim_istore_n d191_38 rfl (by decide), gr_StI 3 39⟩,
  List.forall_mem_cons.mpr ⟨⟨sim_iload_n d191_39 rfl, gr_LdI 3 40⟩,
  List.forall_mem_cons.mpr ⟨⟨sim_bipush d191_40 (by decide), gr_Push (.int 8) 42⟩,
  List.forall_mem_cons.mpr ⟨⟨sim_icmp_ge d191_42 (by decide), gr_Ic (fun x y => y ≤ x) 71 45⟩,
  List.forall_mem_cons.mpr ⟨⟨sim_aload_n d191_45 rfl, gr_LdA 0 46⟩,
  List.forall_mem_cons.mpr ⟨⟨sim_getF d191_46 gf186, gr_GetF (fun k => k = 11) 32 49⟩,
  List.forall_mem_cons.mpr ⟨⟨sim_iload_n d191_49 rfl, gr_LdI 3 50⟩,
  List.forall_mem_cons.mpr ⟨⟨sim_iload_n d191_50 rfl, gr_LdI 3 51⟩,
  List.forall_mem_cons.mpr ⟨⟨sim_iload_n d191_51 rfl, gr_LdI 2 52⟩,
  List.forall_mem_cons.mpr ⟨⟨sim_icmp_gt d191_52 (by decide), gr_Ic (fun x y => y < x) 63 55⟩,
  List.forall_mem_cons.mpr ⟨⟨sim_aload_n d191_55 rfl, gr_LdA 0 56⟩,
  List.forall_mem_cons.mpr ⟨⟨sim_iload_n d191_56 rfl, gr_LdI 3 57⟩,
  List.forall_mem_cons.mpr ⟨⟨sim_virtual d191_57 vk134, gr_CalV (fun k => if k = 11 then some 189 else none) 1 60⟩,
  List.forall_mem_cons.mpr ⟨⟨sim_goto d191_60 (by decide), gr_Go 64⟩,
  List.forall_mem_cons.mpr ⟨⟨sim_iconst d191_63 (by decide), gr_Push (.int 0) 64⟩, fun _ h => absurd h List.not_mem_nil⟩⟩⟩⟩⟩⟩⟩⟩⟩⟩⟩⟩⟩⟩⟩⟩⟩⟩⟩⟩⟩⟩⟩⟩⟩⟩⟩⟩⟩⟩⟩⟩⟩⟩⟩⟩⟩⟩⟩⟩
noncomputable def pg191_1 : List (Nat × aP) := [(64, oAStI 65),
  (65, oInc 3 1 68),
  (68, oGo 39),
  (71, oLdA 0 72),
  (72, oGetF (fun k => k = 11) 32 75),
  (75, oLdI 2 76),
  (76, oALdI 77),
  (77, oStI 3 78),
  (78, oLdA 0 79),
  (79, oGetF (fun k => k = 11) 32 82),
  (82, oPush (.int 1) 83),
  (83, oALdI 84),
  (84, oStI 4 86),
  (86, oLdI 4 88),
  (88, oLdI 3 89),
  (89, oIc (fun x y => y < x) 268 92),
  (92, oLdA 0 93),
  (93, oGetF (fun k => k = 11) 32 96),
  (96, oPush (.int 2) 97),
  (97, oALdI 98),
  (98, oStI 5 100),
  (100, oLdI 4 102),
  (102, oLdI 5 104),
  (104, oII (fun x y => x + y) 105),
  (105, oLdI 3 106),
  (106, oIc (fun x y => y < x) 262 109),
  (109, oLdI 3 110),
  (110, oLdI 4 112),
  (112, oII (fun x y => x - y) 113),
  (113, oLdI 5 115),
  (115, oII (fun x y => x - y) 116),
  (116, oStI 6 118),
  (118, oLdA 0 119),
  (119, oGetF (fun k => k = 11) 5 122),
  (122, oPush (.int 3) 123),
  (123, oALdI 124),
  (124, oPush (.int 3) 125),
  (125, oIc (fun x y => y ≤ x) 141 128),
  (128, oLdI 6 130),
  (130, oIf (fun x => ¬ x = 0) 137 133)]
theorem ok191_1 : ∀ q ∈ pg191_1, Sim mT mt191 q.1 q.2 ∧ Grow q.2 :=
  List.forall_mem_cons.mpr ⟨⟨sim_iastore d191_64, gr_AStI 65⟩,
  List.forall_mem_cons.mpr ⟨⟨sim_iinc d191_65 (by decide) (by decide), gr_Inc 3 1 68⟩,
  List.forall_mem_cons.mpr ⟨⟨sim_goto d191_68 (by decide), gr_Go 39⟩,
  List.forall_mem_cons.mpr ⟨⟨sim_aload_n d191_71 rfl, gr_LdA 0 72⟩,
  List.forall_mem_cons.mpr ⟨⟨sim_getF d191_72 gf186, gr_GetF (fun k => k = 11) 32 75⟩,
  List.forall_mem_cons.mpr ⟨⟨sim_iload_n d191_75 rfl, gr_LdI 2 76⟩,
  List.forall_mem_cons.mpr ⟨⟨sim_iaload d191_76, gr_ALdI 77⟩,
  List.forall_mem_cons.mpr ⟨⟨sim_istore_n d191_77 rfl (by decide), gr_StI 3 78⟩,
  List.forall_mem_cons.mpr ⟨⟨sim_aload_n d191_78 rfl, gr_LdA 0 79⟩,
  List.forall_mem_cons.mpr ⟨⟨sim_getF d191_79 gf186, gr_GetF (fun k => k = 11) 32 82⟩,
  List.forall_mem_cons.mpr ⟨⟨sim_iconst d191_82 (by decide), gr_Push (.int 1) 83⟩,
  List.forall_mem_cons.mpr ⟨⟨sim_iaload d191_83, gr_ALdI 84⟩,
  List.forall_mem_cons.mpr ⟨⟨sim_istore d191_84 (by decide), gr_StI 4 86⟩,
  List.forall_mem_cons.mpr ⟨⟨sim_iload d191_86, gr_LdI 4 88⟩,
  List.forall_mem_cons.mpr ⟨⟨sim_iload_n d191_88 rfl, gr_LdI 3 89⟩,
  List.forall_mem_cons.mpr ⟨⟨sim_icmp_gt d191_89 (by decide), gr_Ic (fun x y => y < x) 268 92⟩,
  List.forall_mem_cons.mpr ⟨⟨sim_aload_n d191_92 rfl, gr_LdA 0 93⟩,
  List.forall_mem_cons.mpr ⟨⟨sim_getF d191_93 gf186, gr_GetF (fun k => k = 11) 32 96⟩,
  List.forall_mem_cons.mpr ⟨⟨sim_iconst d191_96 (by decide), gr_Push (.int 2) 97⟩,
  List.forall_mem_cons.mpr ⟨⟨sim_iaload d191_97, gr_ALdI 98⟩,
  List.forall_mem_cons.mpr ⟨⟨sim_istore d191_98 (by decide), gr_StI 5 100⟩,
  List.forall_mem_cons.mpr ⟨⟨sim_iload d191_100, gr_LdI 4 102⟩,
  List.forall_mem_cons.mpr ⟨⟨sim_iload d191_102, gr_LdI 5 104⟩,
  List.forall_mem_cons.mpr ⟨⟨sim_iadd d191_104, gr_II (fun x y => x + y) 105⟩,
  List.forall_mem_cons.mpr ⟨⟨sim_iload_n d191_105 rfl, gr_LdI 3 106⟩,
  List.forall_mem_cons.mpr ⟨⟨sim_icmp_gt d191_106 (by decide), gr_Ic (fun x y => y < x) 262 109⟩,
  List.forall_mem_cons.mpr ⟨⟨sim_iload_n d191_109 rfl, gr_LdI 3 110⟩,
  List.forall_mem_cons.mpr ⟨⟨sim_iload d191_110, gr_LdI 4 112⟩,
  List.forall_mem_cons.mpr ⟨⟨sim_isub d191_112, gr_II (fun x y => x - y) 113⟩,
  List.forall_mem_cons.mpr ⟨⟨sim_iload d191_113, gr_LdI 5 115⟩,
  List.forall_mem_cons.mpr ⟨⟨sim_isub d191_115, gr_II (fun x y => x - y) 116⟩,
  List.forall_mem_cons.mpr ⟨⟨sim_istore d191_116 (by decide), gr_StI 6 118⟩,
  List.forall_mem_cons.mpr ⟨⟨sim_aload_n d191_118 rfl, gr_LdA 0 119⟩,
  List.forall_mem_cons.mpr ⟨⟨sim_getF d191_119 gf171, gr_GetF (fun k => k = 11) 5 122⟩,
  List.forall_mem_cons.mpr ⟨⟨sim_iconst d191_122 (by decide), gr_Push (.int 3) 123⟩,
  List.forall_mem_cons.mpr ⟨⟨sim_iaload d191_123, gr_ALdI 124⟩,
  List.forall_mem_cons.mpr ⟨⟨sim_iconst d191_124 (by decide), gr_Push (.int 3) 125⟩,
  List.forall_mem_cons.mpr ⟨⟨sim_icmp_ge d191_125 (by decide), gr_Ic (fun x y => y ≤ x) 141 128⟩,
  List.forall_mem_cons.mpr ⟨⟨sim_iload d191_128, gr_LdI 6 130⟩,
  List.forall_mem_cons.mpr ⟨⟨sim_if_ne d191_130 (by decide), gr_If (fun x => ¬ x = 0) 137 133⟩, fun _ h => absurd h List.not_mem_nil⟩⟩⟩⟩⟩⟩⟩⟩⟩⟩⟩⟩⟩⟩⟩⟩⟩⟩⟩⟩⟩⟩⟩⟩⟩⟩⟩⟩⟩⟩⟩⟩⟩⟩⟩⟩⟩⟩⟩⟩
noncomputable def pg191_2 : List (Nat × aP) := [(133, oPush (.int 1) 134),
  (134, oGo 186),
  (137, oPush (.int 0) 138),
  (138, oGo 186),
  (141, oLdI 6 143),
  (143, oLdA 0 144),
  (144, oGetF (fun k => k = 11) 32 147),
  (147, oPush (.int 4) 148),
  (148, oALdI 149),
  (149, oIc (fun x y => x < y) 185 152),
  (152, oLdI 4 154),
  (154, oLdI 6 156),
  (156, oII (fun x y => x + y) 157),
  (157, oLdA 0 158),
  (158, oGetF (fun k => k = 11) 32 161),
  (161, oPush (.int 5) 162),
  (162, oALdI 163),
  (163, oIc (fun x y => x < y) 185 166),
  (166, oLdI 5 168),
  (168, oLdI 6 170),
  (170, oII (fun x y => x + y) 171),
  (171, oLdA 0 172),
  (172, oGetF (fun k => k = 11) 32 175),
  (175, oPush (.int 6) 177),
  (177, oALdI 178),
  (178, oIc (fun x y => x < y) 185 181),
  (181, oPush (.int 1) 182),
  (182, oGo 186),
  (185, oPush (.int 0) 186),
  (186, oStI 7 188),
  (188, oLdI 7 190),
  (190, oIf (fun x => x = 0) 226 193),
  (193, oLdA 0 194),
  (194, oGetF (fun k => k = 11) 5 197),
  (197, oPush (.int 3) 198),
  (198, oALdI 199),
  (199, oPush (.int 1) 200),
  (200, oIc (fun x y => y < x) 208 203),
  (203, oLdI 5 205),
  (205, oIf (fun x => ¬ x = 0) 226 208)]
theorem ok191_2 : ∀ q ∈ pg191_2, Sim mT mt191 q.1 q.2 ∧ Grow q.2 :=
  List.forall_mem_cons.mpr ⟨⟨sim_iconst d191_133 (by decide), gr_Push (.int 1) 134⟩,
  List.forall_mem_cons.mpr ⟨⟨sim_goto d191_134 (by decide), gr_Go 186⟩,
  List.forall_mem_cons.mpr ⟨⟨sim_iconst d191_137 (by decide), gr_Push (.int 0) 138⟩,
  List.forall_mem_cons.mpr ⟨⟨sim_goto d191_138 (by decide), gr_Go 186⟩,
  List.forall_mem_cons.mpr ⟨⟨sim_iload d191_141, gr_LdI 6 143⟩,
  List.forall_mem_cons.mpr ⟨⟨sim_aload_n d191_143 rfl, gr_LdA 0 144⟩,
  List.forall_mem_cons.mpr ⟨⟨sim_getF d191_144 gf186, gr_GetF (fun k => k = 11) 32 147⟩,
  List.forall_mem_cons.mpr ⟨⟨sim_iconst d191_147 (by decide), gr_Push (.int 4) 148⟩,
  List.forall_mem_cons.mpr ⟨⟨sim_iaload d191_148, gr_ALdI 149⟩,
  List.forall_mem_cons.mpr ⟨⟨sim_icmp_lt d191_149 (by decide), gr_Ic (fun x y => x < y) 185 152⟩,
  List.forall_mem_cons.mpr ⟨⟨sim_iload d191_152, gr_LdI 4 154⟩,
  List.forall_mem_cons.mpr ⟨⟨sim_iload d191_154, gr_LdI 6 156⟩,
  List.forall_mem_cons.mpr ⟨⟨sim_iadd d191_156, gr_II (fun x y => x + y) 157⟩,
  List.forall_mem_cons.mpr ⟨⟨sim_aload_n d191_157 rfl, gr_LdA 0 158⟩,
  List.forall_mem_cons.mpr ⟨⟨sim_getF d191_158 gf186, gr_GetF (fun k => k = 11) 32 161⟩,
  List.forall_mem_cons.mpr ⟨⟨sim_iconst d191_161 (by decide), gr_Push (.int 5) 162⟩,
  List.forall_mem_cons.mpr ⟨⟨sim_iaload d191_162, gr_ALdI 163⟩,
  List.forall_mem_cons.mpr ⟨⟨sim_icmp_lt d191_163 (by decide), gr_Ic (fun x y => x < y) 185 166⟩,
  List.forall_mem_cons.mpr ⟨⟨sim_iload d191_166, gr_LdI 5 168⟩,
  List.forall_mem_cons.mpr ⟨⟨sim_iload d191_168, gr_LdI 6 170⟩,
  List.forall_mem_cons.mpr ⟨⟨sim_iadd d191_170, gr_II (fun x y => x + y) 171⟩,
  List.forall_mem_cons.mpr ⟨⟨sim_aload_n d191_171 rfl, gr_LdA 0 172⟩,
  List.forall_mem_cons.mpr ⟨⟨sim_getF d191_172 gf186, gr_GetF (fun k => k = 11) 32 175⟩,
  List.forall_mem_cons.mpr ⟨⟨sim_bipush d191_175 (by decide), gr_Push (.int 6) 177⟩,
  List.forall_mem_cons.mpr ⟨⟨sim_iaload d191_177, gr_ALdI 178⟩,
  List.forall_mem_cons.mpr ⟨⟨sim_icmp_lt d191_178 (by decide), gr_Ic (fun x y => x < y) 185 181⟩,
  List.forall_mem_cons.mpr ⟨⟨sim_iconst d191_181 (by decide), gr_Push (.int 1) 182⟩,
  List.forall_mem_cons.mpr ⟨⟨sim_goto d191_182 (by decide), gr_Go 186⟩,
  List.forall_mem_cons.mpr ⟨⟨sim_iconst d191_185 (by decide), gr_Push (.int 0) 186⟩,
  List.forall_mem_cons.mpr ⟨⟨sim_istore d191_186 (by decide), gr_StI 7 188⟩,
  List.forall_mem_cons.mpr ⟨⟨sim_iload d191_188, gr_LdI 7 190⟩,
  List.forall_mem_cons.mpr ⟨⟨sim_if_eq d191_190 (by decide), gr_If (fun x => x = 0) 226 193⟩,
  List.forall_mem_cons.mpr ⟨⟨sim_aload_n d191_193 rfl, gr_LdA 0 194⟩,
  List.forall_mem_cons.mpr ⟨⟨sim_getF d191_194 gf171, gr_GetF (fun k => k = 11) 5 197⟩,
  List.forall_mem_cons.mpr ⟨⟨sim_iconst d191_197 (by decide), gr_Push (.int 3) 198⟩,
  List.forall_mem_cons.mpr ⟨⟨sim_iaload d191_198, gr_ALdI 199⟩,
  List.forall_mem_cons.mpr ⟨⟨sim_iconst d191_199 (by decide), gr_Push (.int 1) 200⟩,
  List.forall_mem_cons.mpr ⟨⟨sim_icmp_gt d191_200 (by decide), gr_Ic (fun x y => y < x) 208 203⟩,
  List.forall_mem_cons.mpr ⟨⟨sim_iload d191_203, gr_LdI 5 205⟩,
  List.forall_mem_cons.mpr ⟨⟨sim_if_ne d191_205 (by decide), gr_If (fun x => ¬ x = 0) 226 208⟩, fun _ h => absurd h List.not_mem_nil⟩⟩⟩⟩⟩⟩⟩⟩⟩⟩⟩⟩⟩⟩⟩⟩⟩⟩⟩⟩⟩⟩⟩⟩⟩⟩⟩⟩⟩⟩⟩⟩⟩⟩⟩⟩⟩⟩⟩⟩
noncomputable def pg191_3 : List (Nat × aP) := [(208, oLdI 4 210),
  (210, oLdI 5 212),
  (212, oII (fun x y => x + y) 213),
  (213, oLdA 0 214),
  (214, oGetF (fun k => k = 11) 32 217),
  (217, oPush (.int 3) 218),
  (218, oALdI 219),
  (219, oIc (fun x y => x < y) 226 222),
  (222, oPush (.int 1) 223),
  (223, oGo 227),
  (226, oPush (.int 0) 227),
  (227, oStI 7 229),
  (229, oLdI 7 231),
  (231, oIf (fun x => x = 0) 256 234),
  (234, oLdI 1 235),
  (235, oIf (fun x => ¬ x = 0) 243 238),
  (238, oLdI 4 240),
  (240, oGo 255),
  (243, oLdI 1 244),
  (244, oPush (.int 1) 245),
  (245, oIc (fun x y => ¬ x = y) 253 248),
  (248, oLdI 5 250),
  (250, oGo 255),
  (253, oLdI 6 255),
  (255, oRetI),
  (256, oInc 5 1 259),
  (259, oGo 100),
  (262, oInc 4 1 265),
  (265, oGo 86),
  (268, oPush (.int (-1000000)) 270),
  (270, oRetI)]
theorem ok191_3 : ∀ q ∈ pg191_3, Sim mT mt191 q.1 q.2 ∧ Grow q.2 :=
  List.forall_mem_cons.mpr ⟨⟨sim_iload d191_208, gr_LdI 4 210⟩,
  List.forall_mem_cons.mpr ⟨⟨sim_iload d191_210, gr_LdI 5 212⟩,
  List.forall_mem_cons.mpr ⟨⟨sim_iadd d191_212, gr_II (fun x y => x + y) 213⟩,
  List.forall_mem_cons.mpr ⟨⟨sim_aload_n d191_213 rfl, gr_LdA 0 214⟩,
  List.forall_mem_cons.mpr ⟨⟨sim_getF d191_214 gf186, gr_GetF (fun k => k = 11) 32 217⟩,
  List.forall_mem_cons.mpr ⟨⟨sim_iconst d191_217 (by decide), gr_Push (.int 3) 218⟩,
  List.forall_mem_cons.mpr ⟨⟨sim_iaload d191_218, gr_ALdI 219⟩,
  List.forall_mem_cons.mpr ⟨⟨sim_icmp_lt d191_219 (by decide), gr_Ic (fun x y => x < y) 226 222⟩,
  List.forall_mem_cons.mpr ⟨⟨sim_iconst d191_222 (by decide), gr_Push (.int 1) 223⟩,
  List.forall_mem_cons.mpr ⟨⟨sim_goto d191_223 (by decide), gr_Go 227⟩,
  List.forall_mem_cons.mpr ⟨⟨sim_iconst d191_226 (by decide), gr_Push (.int 0) 227⟩,
  List.forall_mem_cons.mpr ⟨⟨sim_istore d191_227 (by decide), gr_StI 7 229⟩,
  List.forall_mem_cons.mpr ⟨⟨sim_iload d191_229, gr_LdI 7 231⟩,
  List.forall_mem_cons.mpr ⟨⟨sim_if_eq d191_231 (by decide), gr_If (fun x => x = 0) 256 234⟩,
  List.forall_mem_cons.mpr ⟨⟨sim_iload_n d191_234 rfl, gr_LdI 1 235⟩,
  List.forall_mem_cons.mpr ⟨⟨sim_if_ne d191_235 (by decide), gr_If (fun x => ¬ x = 0) 243 238⟩,
  List.forall_mem_cons.mpr ⟨⟨sim_iload d191_238, gr_LdI 4 240⟩,
  List.forall_mem_cons.mpr ⟨⟨sim_goto d191_240 (by decide), gr_Go 255⟩,
  List.forall_mem_cons.mpr ⟨⟨sim_iload_n d191_243 rfl, gr_LdI 1 244⟩,
  List.forall_mem_cons.mpr ⟨⟨sim_iconst d191_244 (by decide), gr_Push (.int 1) 245⟩,
  List.forall_mem_cons.mpr ⟨⟨sim_icmp_ne d191_245 (by decide), gr_Ic (fun x y => ¬ x = y) 253 248⟩,
  List.forall_mem_cons.mpr ⟨⟨sim_iload d191_248, gr_LdI 5 250⟩,
  List.forall_mem_cons.mpr ⟨⟨sim_goto d191_250 (by decide), gr_Go 255⟩,
  List.forall_mem_cons.mpr ⟨⟨sim_iload d191_253, gr_LdI 6 255⟩,
  List.forall_mem_cons.mpr ⟨⟨sim_ireturn d191_255 rfl, gr_RetI⟩,
  List.forall_mem_cons.mpr ⟨⟨sim_iinc d191_256 (by decide) (by decide), gr_Inc 5 1 259⟩,
  List.forall_mem_cons.mpr ⟨⟨sim_goto d191_259 (by decide), gr_Go 100⟩,
  List.forall_mem_cons.mpr ⟨⟨sim_iinc d191_262 (by decide) (by decide), gr_Inc 4 1 265⟩,
  List.forall_mem_cons.mpr ⟨⟨sim_goto d191_265 (by decide), gr_Go 86⟩,
  List.forall_mem_cons.mpr ⟨⟨sim_ldc d191_268 kw1083, gr_Push (.int (-1000000)) 270⟩,
  List.forall_mem_cons.mpr ⟨⟨sim_ireturn d191_270 rfl, gr_RetI⟩, fun _ h => absurd h List.not_mem_nil⟩⟩⟩⟩⟩⟩⟩⟩⟩⟩⟩⟩⟩⟩⟩⟩⟩⟩⟩⟩⟩⟩⟩⟩⟩⟩⟩⟩⟩⟩⟩
noncomputable def pg191 : List (Nat × aP) := pg191_0 ++ (pg191_1 ++ (pg191_2 ++ (pg191_3)))
theorem ok191 : ∀ q ∈ pg191, Sim mT mt191 q.1 q.2 ∧ Grow q.2 := List.forall_mem_append.mpr ⟨ok191_0, List.forall_mem_append.mpr ⟨ok191_1, List.forall_mem_append.mpr ⟨ok191_2, ok191_3⟩⟩⟩
theorem d192_0 : decode mt192.2.1 0 = .ok (.aload_n 0, 1) := by decide +kernel
theorem d192_1 : decode mt192.2.1 1 = .ok (.iconst 0, 1) := by decide +kernel
theorem d192_2 : decode mt192.2.1 2 = .ok (.putfield 74, 3) := by decide +kernel
theorem d192_5 : decode mt192.2.1 5 = .ok (.aload_n 0, 1) := by decide +kernel
theorem d192_6 : decode mt192.2.1 6 = .ok (.iload_n 1, 1) := by decide +kernel
theorem d192_7 : decode mt192.2.1 7 = .ok (.invokevirtual 244, 3) := by decide +kernel
theorem d192_10 : decode mt192.2.1 10 = .ok (.ifCond .eq 34, 3) := by decide +kernel
theorem d192_13 : decode mt192.2.1 13 = .ok (.aload_n 0, 1) := by decide +kernel
theorem d192_14 : decode mt192.2.1 14 = .ok (.iload_n 2, 1) := by decide +kernel
theorem d192_15 : decode mt192.2.1 15 = .ok (.invokevirtual 244, 3) := by decide +kernel
theorem d192_18 : decode mt192.2.1 18 = .ok (.ifCond .eq 26, 3) := by decide +kernel
theorem d192_21 : decode mt192.2.1 21 = .ok (.iload_n 1, 1) := by decide +kernel
theorem d192_22 : decode mt192.2.1 22 = .ok (.iload_n 2, 1) := by decide +kernel
theorem d192_23 : decode mt192.2.1 23 = .ok (.if_icmp .eq 21, 3) := by decide +kernel
theorem d192_26 : decode mt192.2.1 26 = .ok (.aload_n 0, 1) := by decide +kernel
theorem d192_27 : decode mt192.2.1 27 = .ok (.iload_n 1, 1) := by decide +kernel
theorem d192_28 : decode mt192.2.1 28 = .ok (.invokevirtual 256, 3) := by decide +kernel
theorem d192_31 : decode mt192.2.1 31 = .ok (.ifCond .ne 13, 3) := by decide +kernel
theorem d192_34 : decode mt192.2.1 34 = .ok (.iload_n 3, 1) := by decide +kernel
theorem d192_35 : decode mt192.2.1 35 = .ok (.i2l, 1) := by decide +kernel
theorem d192_36 : decode mt192.2.1 36 = .ok (.lconst 0, 1) := by decide +kernel
theorem d192_37 : decode mt192.2.1 37 = .ok (.lconst 1, 1) := by decide +kernel
theorem d192_38 : decode mt192.2.1 38 = .ok (.invokestatic 84, 3) := by decide +kernel
theorem d192_41 : decode mt192.2.1 41 = .ok (.ifCond .ne 6, 3) := by decide +kernel
theorem d192_44 : decode mt192.2.1 44 = .ok (.ldc 94, 2) := by decide +kernel
theorem d192_46 : decode mt192.2.1 46 = .ok (.ireturn, 1) := by decide +kernel
theorem d192_47 : decode mt192.2.1 47 = .ok (.bipush 110, 2) := by decide +kernel
theorem d192_49 : decode mt192.2.1 49 = .ok (.bipush 21, 2) := by decide +kernel
theorem d192_51 : decode mt192.2.1 51 = .ok (.iload_n 1, 1) := by decide +kernel
theorem d192_52 : decode mt192.2.1 52 = .ok (.imul, 1) := by decide +kernel
theorem d192_53 : decode mt192.2.1 53 = .ok (.iadd, 1) := by decide +kernel
theorem d192_54 : decode mt192.2.1 54 = .ok (.istore 4, 2) := by decide +kernel
theorem d192_56 : decode mt192.2.1 56 = .ok (.ldc 110, 2) := by decide +kernel
theorem d192_58 : decode mt192.2.1 58 = .ok (.istore 5, 2) := by decide +kernel
theorem d192_60 : decode mt192.2.1 60 = .ok (.ldc 110, 2) := by decide +kernel
theorem d192_62 : decode mt192.2.1 62 = .ok (.istore 6, 2) := by decide +kernel
theorem d192_64 : decode mt192.2.1 64 = .ok (.aload_n 0, 1) := by decide +kernel
theorem d192_65 : decode mt192.2.1 65 = .ok (.iconst 0, 1) := by decide +kernel
theorem d192_66 : decode mt192.2.1 66 = .ok (.aload_n 0, 1) := by decide +kernel
theorem d192_67 : decode mt192.2.1 67 = .ok (.getfield 19, 3) := by decide +kernel
theorem d192_70 : decode mt192.2.1 70 = .ok (.bipush 102, 2) := by decide +kernel
theorem d192_72 : decode mt192.2.1 72 = .ok (.iconst 2, 1) := by decide +kernel
theorem d192_73 : decode mt192.2.1 73 = .ok (.iload_n 1, 1) := by decide +kernel
theorem d192_74 : decode mt192.2.1 74 = .ok (.imul, 1) := by decide +kernel
theorem d192_75 : decode mt192.2.1 75 = .ok (.iadd, 1) := by decide +kernel
theorem d192_76 : decode mt192.2.1 76 = .ok (.iaload, 1) := by decide +kernel
theorem d192_77 : decode mt192.2.1 77 = .ok (.bipush 8, 2) := by decide +kernel
theorem d192_79 : decode mt192.2.1 79 = .ok (.aload_n 0, 1) := by decide +kernel
theorem d192_80 : decode mt192.2.1 80 = .ok (.getfield 19, 3) := by decide +kernel
theorem d192_83 : decode mt192.2.1 83 = .ok (.bipush 102, 2) := by decide +kernel
theorem d192_85 : decode mt192.2.1 85 = .ok (.iconst 2, 1) := by decide +kernel
theorem d192_86 : decode mt192.2.1 86 = .ok (.iload_n 1, 1) := by decide +kernel
theorem d192_87 : decode mt192.2.1 87 = .ok (.imul, 1) := by decide +kernel
theorem d192_88 : decode mt192.2.1 88 = .ok (.iadd, 1) := by decide +kernel
theorem d192_89 : decode mt192.2.1 89 = .ok (.iconst 1, 1) := by decide +kernel
theorem d192_90 : decode mt192.2.1 90 = .ok (.iadd, 1) := by decide +kernel
theorem d192_91 : decode mt192.2.1 91 = .ok (.iaload, 1) := by decide +kernel
theorem d192_92 : decode mt192.2.1 92 = .ok (.invokevirtual 283, 3) := by decide +kernel
theorem d192_95 : decode mt192.2.1 95 = .ok (.aload_n 0, 1) := by decide +kernel
theorem d192_96 : decode mt192.2.1 96 = .ok (.iconst 0, 1) := by decide +kernel
theorem d192_97 : decode mt192.2.1 97 = .ok (.invokevirtual 287, 3) := by decide +kernel
theorem d192_100 : decode mt192.2.1 100 = .ok (.ifCond .eq 183, 3) := by decide +kernel
theorem d192_103 : decode mt192.2.1 103 = .ok (.aload_n 0, 1) := by decide +kernel
theorem d192_104 : decode mt192.2.1 104 = .ok (.aload_n 0, 1) := by decide +kernel
theorem d192_105 : decode mt192.2.1 105 = .ok (.getfield 270, 3) := by decide +kernel
theorem d192_108 : decode mt192.2.1 108 = .ok (.invokevirtual 234, 3) := by decide +kernel
theorem d192_111 : decode mt192.2.1 111 = .ok (.istore 7, 2) := by decide +kernel
theorem d192_113 : decode mt192.2.1 113 = .ok (.aload_n 0, 1) := by decide +kernel
theorem d192_114 : decode mt192.2.1 114 = .ok (.getfield 19, 3) := by decide +kernel
theorem d192_117 : decode mt192.2.1 117 = .ok (.iload 4, 2) := by decide +kernel
theorem d192_119 : decode mt192.2.1 119 = .ok (.aload_n 0, 1) := by decide +kernel
theorem d192_120 : decode mt192.2.1 120 = .ok (.getfield 56, 3) := by decide +kernel
theorem d192_123 : decode mt192.2.1 123 = .ok (.iconst 0, 1) := by decide +kernel
theorem d192_124 : decode mt192.2.1 124 = .ok (.iaload, 1) := by decide +kernel
theorem d192_125 : decode mt192.2.1 125 = .ok (.iastore, 1) := by decide +kernel
theorem d192_126 : decode mt192.2.1 126 = .ok (.iconst 0, 1) := by decide +kernel
theorem d192_127 : decode mt192.2.1 127 = .ok (.istore 8, 2) := by decide +kernel
theorem d192_129 : decode mt192.2.1 129 = .ok (.iload 8, 2) := by decide +kernel
theorem d192_131 : decode mt192.2.1 131 = .ok (.aload_n 0, 1) := by decide +kernel
theorem d192_132 : decode mt192.2.1 132 = .ok (.getfield 56, 3) := by decide +kernel
theorem d192_135 : decode mt192.2.1 135 = .ok (.iconst 0, 1) := by decide +kernel
theorem d192_136 : decode mt192.2.1 136 = .ok (.iaload, 1) := by decide +kernel
theorem d192_137 : decode mt192.2.1 137 = .ok (.if_icmp .ge 28, 3) := by decide +kernel
theorem d192_140 : decode mt192.2.1 140 = .ok (.aload_n 0, 1) := by decide +kernel
theorem d192_141 : decode mt192.2.1 141 = .ok (.getfield 19, 3) := by decide +kernel
theorem d192_144 : decode mt192.2.1 144 = .ok (.iload 4, 2) := by decide +kernel
theorem d192_146 : decode mt192.2.1 146 = .ok (.iconst 1, 1) := by decide +kernel
theorem d192_147 : decode mt192.2.1 147 = .ok (.iadd, 1) := by decide +kernel
theorem d192_148 : decode mt192.2.1 148 = .ok (.iload 8, 2) := by decide +kernel
theorem d192_150 : decode mt192.2.1 150 = .ok (.iadd, 1) := by decide +kernel
theorem d192_151 : decode mt192.2.1 151 = .ok (.aload_n 0, 1) := by decide +kernel
theorem d192_152 : decode mt192.2.1 152 = .ok (.getfield 38, 3) := by decide +kernel
theorem d192_155 : decode mt192.2.1 155 = .ok (.iload 8, 2) := by decide +kernel
theorem d192_157 : decode mt192.2.1 157 = .ok (.iaload, 1) := by decide +kernel
theorem d192_158 : decode mt192.2.1 158 = .ok (.iastore, 1) := by decide +kernel
theorem d192_159 : decode mt192.2.1 159 = .ok (.iinc 8 1, 3) := by decide +kernel
theorem d192_162 : decode mt192.2.1 162 = .ok (.goto (-33), 3) := by decide +kernel
theorem d192_165 : decode mt192.2.1 165 = .ok (.aload_n 0, 1) := by decide +kernel
theorem d192_166 : decode mt192.2.1 166 = .ok (.invokevirtual 206, 3) := by decide +kernel
theorem d192_169 : decode mt192.2.1 169 = .ok (.aload_n 0, 1) := by decide +kernel
theorem d192_170 : decode mt192.2.1 170 = .ok (.iconst 1, 1) := by decide +kernel
theorem d192_171 : decode mt192.2.1 171 = .ok (.aload_n 0, 1) := by decide +kernel
theorem d192_172 : decode mt192.2.1 172 = .ok (.getfield 19, 3) := by decide +kernel
theorem d192_175 : decode mt192.2.1 175 = .ok (.bipush 102, 2) := by decide +kernel
theorem d192_177 : decode mt192.2.1 177 = .ok (.iconst 2, 1) := by decide +kernel
theorem d192_178 : decode mt192.2.1 178 = .ok (.iload_n 2, 1) := by decide +kernel
theorem d192_179 : decode mt192.2.1 179 = .ok (.imul, 1) := by decide +kernel
theorem d192_180 : decode mt192.2.1 180 = .ok (.iadd, 1) := by decide +kernel
theorem d192_181 : decode mt192.2.1 181 = .ok (.iaload, 1) := by decide +kernel
theorem d192_182 : decode mt192.2.1 182 = .ok (.bipush 8, 2) := by decide +kernel
theorem d192_184 : decode mt192.2.1 184 = .ok (.aload_n 0, 1) := by decide +kernel
theorem d192_185 : decode mt192.2.1 185 = .ok (.getfield 19, 3) := by decide +kernel
theorem d192_188 : decode mt192.2.1 188 = .ok (.bipush 102, 2) := by decide +kernel
theorem d192_190 : decode mt192.2.1 190 = .ok (.iconst 2, 1) := by decide +kernel
theorem d192_191 : decode mt192.2.1 191 = .ok (.iload_n 2, 1) := by decide +kernel
theorem d192_192 : decode mt192.2.1 192 = .ok (.imul, 1) := by decide +kernel
theorem d192_193 : decode mt192.2.1 193 = .ok (.iadd, 1) := by decide +kernel
theorem d192_194 : decode mt192.2.1 194 = .ok (.iconst 1, 1) := by decide +kernel
theorem d192_195 : decode mt192.2.1 195 = .ok (.iadd, 1) := by decide +kernel
theorem d192_196 : decode mt192.2.1 196 = .ok (.iaload, 1) := by decide +kernel
theorem d192_197 : decode mt192.2.1 197 = .ok (.invokevirtual 295, 3) := by decide +kernel
theorem d192_200 : decode mt192.2.1 200 = .ok (.invokestatic 299, 3) := by decide +kernel
theorem d192_203 : decode mt192.2.1 203 = .ok (.istore 8, 2) := by decide +kernel
theorem d192_205 : decode mt192.2.1 205 = .ok (.aload_n 0, 1) := by decide +kernel
theorem d192_206 : decode mt192.2.1 206 = .ok (.getfield 19, 3) := by decide +kernel
theorem d192_209 : decode mt192.2.1 209 = .ok (.iload 4, 2) := by decide +kernel
theorem d192_211 : decode mt192.2.1 211 = .ok (.iconst (-1), 1) := by decide +kernel
theorem d192_212 : decode mt192.2.1 212 = .ok (.iastore, 1) := by decide +kernel
theorem d192_213 : decode mt192.2.1 213 = .ok (.aload_n 0, 1) := by decide +kernel
theorem d192_214 : decode mt192.2.1 214 = .ok (.invokevirtual 206, 3) := by decide +kernel
theorem d192_217 : decode mt192.2.1 217 = .ok (.iload 5, 2) := by decide +kernel
theorem d192_219 : decode mt192.2.1 219 = .ok (.ldc 110, 2) := by decide +kernel
theorem d192_221 : decode mt192.2.1 221 = .ok (.if_icmp .eq 24, 3) := by decide +kernel
theorem d192_224 : decode mt192.2.1 224 = .ok (.iload 8, 2) := by decide +kernel
theorem d192_226 : decode mt192.2.1 226 = .ok (.iload 5, 2) := by decide +kernel
theorem d192_228 : decode mt192.2.1 228 = .ok (.if_icmp .lt 17, 3) := by decide +kernel
theorem d192_231 : decode mt192.2.1 231 = .ok (.iload 8, 2) := by decide +kernel
theorem d192_233 : decode mt192.2.1 233 = .ok (.iload 5, 2) := by decide +kernel
theorem d192_235 : decode mt192.2.1 235 = .ok (.if_icmp .ne 14, 3) := by decide +kernel
theorem d192_238 : decode mt192.2.1 238 = .ok (.iload 7, 2) := by decide +kernel
theorem d192_240 : decode mt192.2.1 240 = .ok (.iload 6, 2) := by decide +kernel
theorem d192_242 : decode mt192.2.1 242 = .ok (.if_icmp .le 7, 3) := by decide +kernel
theorem d192_245 : decode mt192.2.1 245 = .ok (.iconst 1, 1) := by decide +kernel
theorem d192_246 : decode mt192.2.1 246 = .ok (.goto 4, 3) := by decide +kernel
theorem d192_249 : decode mt192.2.1 249 = .ok (.iconst 0, 1) := by decide +kernel
theorem d192_250 : decode mt192.2.1 250 = .ok (.istore 9, 2) := by decide +kernel
theorem d192_252 : decode mt192.2.1 252 = .ok (.iload 9, 2) := by decide +kernel
theorem d192_254 : decode mt192.2.1 254 = .ok (.ifCond .eq 8, 3) := by decide +kernel
theorem d192_257 : decode mt192.2.1 257 = .ok (.iload 8, 2) := by decide +kernel
theorem d192_259 : decode mt192.2.1 259 = .ok (.goto 5, 3) := by decide +kernel
theorem d192_262 : decode mt192.2.1 262 = .ok (.iload 5, 2) := by decide +kernel
theorem d192_264 : decode mt192.2.1 264 = .ok (.istore 5, 2) := by decide +kernel
theorem d192_266 : decode mt192.2.1 266 = .ok (.iload 9, 2) := by decide +kernel
theorem d192_268 : decode mt192.2.1 268 = .ok (.ifCond .eq 8, 3) := by decide +kernel
theorem d192_271 : decode mt192.2.1 271 = .ok (.iload 7, 2) := by decide +kernel
theorem d192_273 : decode mt192.2.1 273 = .ok (.goto 5, 3) := by decide +kernel
theorem d192_276 : decode mt192.2.1 276 = .ok (.iload 6, 2) := by decide +kernel
theorem d192_278 : decode mt192.2.1 278 = .ok (.istore 6, 2) := by decide +kernel
theorem d192_280 : decode mt192.2.1 280 = .ok (.goto (-185), 3) := by decide +kernel
theorem d192_283 : decode mt192.2.1 283 = .ok (.iload_n 3, 1) := by decide +kernel
theorem d192_284 : decode mt192.2.1 284 = .ok (.ifCond .ne 8, 3) := by decide +kernel
theorem d192_287 : decode mt192.2.1 287 = .ok (.iload 5, 2) := by decide +kernel
theorem d192_289 : decode mt192.2.1 289 = .ok (.goto 5, 3) := by decide +kernel
theorem d192_292 : decode mt192.2.1 292 = .ok (.iload 6, 2) := by decide +kernel
theorem d192_294 : decode mt192.2.1 294 = .ok (.ireturn, 1) := by decide +kernel
noncomputable def pg192_0 : List (Nat × aP) := [(0, oLdA 0 1),
  (1, oPush (.int 0) 2),
  (2, oPutI (fun k => k = 11) 0 5),
  (5, oLdA 0 6),
  (6, oLdI 1 7),
  (7, oCalV (fun k => if k = 11 then some 160 else none) 1 10),
  (10, oIf (fun x => x = 0) 44 13),
  (13, oLdA 0 14),
  (14, oLdI 2 15),
  (15, oCalV (fun k => if k = 11 then some 160 else none) 1 18),
  (18, oIf (fun x => x = 0) 44 21),
  (21, oLdI 1 22),
  (22, oLdI 2 23),
  (23, oIc (fun x y => x = y) 44 26),
  (26, oLdA 0 27),
  (27, oLdI 1 28),
  (28, oCalV (fun k => if k = 11 then some 175 else none) 1 31),
  (31, oIf (fun x => ¬ x = 0) 44 34),
  (34, oLdI 3 35),
  (35, oIL (fun x => x.toInt64) 36),
  (36, oPush (.long 0) 37),
  (37, oPush (.long 1) 38),
  (38, oCall 131 3 41),
  (41, oIf (fun x => ¬ x = 0) 47 44),
  (44, oPush (.int (-1000001)) 46),
  (46, oRetI),
  (47, oPush (.int 110) 49),
  (49, oPush (.int 21) 51),
  (51, oLdI 1 52),
  (52, oII (fun x y => x * y) 53),
  (53, oII (fun x y => x + y) 54),
  (54, oStI 4 56),
  (56, oPush (.int (-1000000)) 58),
  (58, oStI 5 60),
  (60, oPush (.int (-1000000)) 62),
  (62, oStI 6 64),
  (64, oLdA 0 65),
  (65, oPush (.int 0) 66),
  (66, oLdA 0 67),
  (67, oGetF (fun k => k = 11) 5 70)]
theorem ok192_0 : ∀ q ∈ pg192_0, Sim mT mt192 q.1 q.2 ∧ Grow q.2 :=
  List.forall_mem_cons.mpr ⟨⟨sim_aload_n d192_0 rfl, gr_LdA 0 1⟩,
  List.forall_mem_cons.mpr ⟨⟨sim_iconst d192_1 (by decide), gr_Push (.int 0) 2⟩,
  List.forall_mem_cons.mpr ⟨⟨sim_putI d192_2 gf155w, gr_PutI (fun k => k = 11) 0 5⟩,
  List.forall_mem_cons.mpr ⟨⟨sim_aload_n d192_5 rfl, gr_LdA 0 6⟩,
  List.forall_mem_cons.mpr ⟨⟨sim_iload_n d192_6 rfl, gr_LdI 1 7⟩,
  List.forall_mem_cons.mpr ⟨⟨sim_virtual d192_7 vk123, gr_CalV (fun k => if k = 11 then some 160 else none) 1 10⟩,
  List.forall_mem_cons.mpr ⟨⟨sim_if_eq d192_10 (by decide), gr_If (fun x => x = 0) 44 13⟩,
  List.forall_mem_cons.mpr ⟨⟨sim_aload_n d192_13 rfl, gr_LdA 0 14⟩,
  List.forall_mem_cons.mpr ⟨⟨sim_iload_n d192_14 rfl, gr_LdI 2 15⟩,
  List.forall_mem_cons.mpr ⟨⟨sim_virtual d192_15 vk123, gr_CalV (fun k => if k = 11 then some 160 else none) 1 18⟩,
  List.forall_mem_cons.mpr ⟨⟨sim_if_eq d192_18 (by decide), gr_If (fun x => x = 0) 44 21⟩,
  List.forall_mem_cons.mpr ⟨⟨sim_iload_n d192_21 rfl, gr_LdI 1 22⟩,
  List.forall_mem_cons.mpr ⟨⟨sim_iload_n d192_22 rfl, gr_LdI 2 23⟩,
  List.forall_mem_cons.mpr ⟨⟨sim_icmp_eq d192_23 (by decide), gr_Ic (fun x y => x = y) 44 26⟩,
  List.forall_mem_cons.mpr ⟨⟨sim_aload_n d192_26 rfl, gr_LdA 0 27⟩,
  List.forall_mem_cons.mpr ⟨⟨sim_iload_n d192_27 rfl, gr_LdI 1 28⟩,
  List.forall_mem_cons.mpr ⟨⟨sim_virtual d192_28 vk126, gr_CalV (fun k => if k = 11 then some 175 else none) 1 31⟩,
  List.forall_mem_cons.mpr ⟨⟨sim_if_ne d192_31 (by decide), gr_If (fun x => ¬ x = 0) 44 34⟩,
  List.forall_mem_cons.mpr ⟨⟨sim_iload_n d192_34 rfl, gr_LdI 3 35⟩,
  List.forall_mem_cons.mpr ⟨⟨sim_i2l d192_35, gr_IL (fun x => x.toInt64) 36⟩,
  List.forall_mem_cons.mpr ⟨⟨sim_lconst d192_36 (by decide), gr_Push (.long 0) 37⟩,
  List.forall_mem_cons.mpr ⟨⟨sim_lconst d192_37 (by decide), gr_Push (.long 1) 38⟩,
  List.forall_mem_cons.mpr ⟨⟨sim_static (y := 131) d192_38 (Or.inl kw1038) kw1039 mo131, gr_Call 131 3 41⟩,
  List.forall_mem_cons.mpr ⟨⟨sim_if_ne d192_41 (by decide), gr_If (fun x => ¬ x = 0) 47 44⟩,
  List.forall_mem_cons.mpr ⟨⟨sim_ldc d192_44 kw1042, gr_Push (.int (-1000001)) 46⟩,
  List.forall_mem_cons.mpr ⟨⟨sim_ireturn d192_46 rfl, gr_RetI⟩,
  List.forall_mem_cons.mpr ⟨⟨sim_bipush d192_47 (by decide), gr_Push (.int 110) 49⟩,
  List.forall_mem_cons.mpr ⟨⟨sim_bipush d192_49 (by decide), gr_Push (.int 21) 51⟩,
  List.forall_mem_cons.mpr ⟨⟨sim_iload_n d192_51 rfl, gr_LdI 1 52⟩,
  List.forall_mem_cons.mpr ⟨⟨sim_imul d192_52, gr_II (fun x y => x * y) 53⟩,
  List.forall_mem_cons.mpr ⟨⟨sim_iadd d192_53, gr_II (fun x y => x + y) 54⟩,
  List.forall_mem_cons.mpr ⟨⟨sim_istore d192_54 (by decide), gr_StI 4 56⟩,
  List.forall_mem_cons.mpr ⟨⟨sim_ldc d192_56 kw1083, gr_Push (.int (-1000000)) 58⟩,
  List.forall_mem_cons.mpr ⟨⟨sim_istore d192_58 (by decide), gr_StI 5 60⟩,
  List.forall_mem_cons.mpr ⟨⟨sim_ldc d192_60 kw1083, gr_Push (.int (-1000000)) 62⟩,
  List.forall_mem_cons.mpr ⟨⟨sim_istore d192_62 (by decide), gr_StI 6 64⟩,
  List.forall_mem_cons.mpr ⟨⟨sim_aload_n d192_64 rfl, gr_LdA 0 65⟩,
  List.forall_mem_cons.mpr ⟨⟨sim_iconst d192_65 (by decide), gr_Push (.int 0) 66⟩,
  List.forall_mem_cons.mpr ⟨⟨sim_aload_n d192_66 rfl, gr_LdA 0 67⟩,
  List.forall_mem_cons.mpr ⟨⟨sim_getF d192_67 gf171, gr_GetF (fun k => k = 11) 5 70⟩, fun _ h => absurd h List.not_mem_nil⟩⟩⟩⟩⟩⟩⟩⟩⟩⟩⟩⟩⟩⟩⟩⟩⟩⟩⟩⟩⟩⟩⟩⟩⟩⟩⟩⟩⟩⟩⟩⟩⟩⟩⟩⟩⟩⟩⟩⟩
noncomputable def pg192_1 : List (Nat × aP) := [(70, oPush (.int 102) 72),
  (72, oPush (.int 2) 73),
  (73, oLdI 1 74),
  (74, oII (fun x y => x * y) 75),
  (75, oII (fun x y => x + y) 76),
  (76, oALdI 77),
  (77, oPush (.int 8) 79),
  (79, oLdA 0 80),
  (80, oGetF (fun k => k = 11) 5 83),
  (83, oPush (.int 102) 85),
  (85, oPush (.int 2) 86),
  (86, oLdI 1 87),
  (87, oII (fun x y => x * y) 88),
  (88, oII (fun x y => x + y) 89),
  (89, oPush (.int 1) 90),
  (90, oII (fun x y => x + y) 91),
  (91, oALdI 92),
  (92, oCalV (fun k => if k = 11 then some 181 else none) 4 95),
  (95, oLdA 0 96),
  (96, oPush (.int 0) 97),
  (97, oCalV (fun k => if k = 11 then some 185 else none) 1 100),
  (100, oIf (fun x => x = 0) 283 103),
  (103, oLdA 0 104),
  (104, oLdA 0 105),
  (105, oGetL (fun k => k = 11) 29 108),
  (108, oCalV (fun k => if k = 11 then some 165 else none) 1 111),
  (111, oStI 7 113),
  (113, oLdA 0 114),
  (114, oGetF (fun k => k = 11) 5 117),
  (117, oLdI 4 119),
  (119, oLdA 0 120),
  (120, oGetF (fun k => k = 11) 28 123),
  (123, oPush (.int 0) 124),
  (124, oALdI 125),
  (125, oAStI 126),
  (126, oPush (.int 0) 127),
  (127, oStI 8 129),
  (129, oLdI 8 131),
  (131, oLdA 0 132),
  (132, oGetF (fun k => k = 11) 28 135)]
theorem ok192_1 : ∀ q ∈ pg192_1, Sim mT mt192 q.1 q.2 ∧ Grow q.2 :=
  List.forall_mem_cons.mpr ⟨⟨sim_bipush d192_70 (by decide), gr_Push (.int 102) 72⟩,
  List.forall_mem_cons.mpr ⟨⟨sim_iconst d192_72 (by decide), gr_Push (.int 2) 73⟩,
  List.forall_mem_cons.mpr ⟨⟨sim_iload_n d192_73 rfl, gr_LdI 1 74⟩,
  List.forall_mem_cons.mpr ⟨⟨sim_imul d192_74, gr_II (fun x y => x * y) 75⟩,
  List.forall_mem_cons.mpr ⟨⟨sim_iadd d192_75, gr_II (fun x y => x + y) 76⟩,
  List.forall_mem_cons.mpr ⟨⟨sim_iaload d192_76, gr_ALdI 77⟩,
  List.forall_mem_cons.mpr ⟨⟨sim_bipush d192_77 (by decide), gr_Push (.int 8) 79⟩,
  List.forall_mem_cons.mpr ⟨⟨sim_aload_n d192_79 rfl, gr_LdA 0 80⟩,
  List.forall_mem_cons.mpr ⟨⟨sim_getF d192_80 gf171, gr_GetF (fun k => k = 11) 5 83⟩,
  List.forall_mem_cons.mpr ⟨⟨sim_bipush d192_83 (by decide), gr_Push (.int 102) 85⟩,
  List.forall_mem_cons.mpr ⟨⟨sim_iconst d192_85 (by decide), gr_Push (.int 2) 86⟩,
  List.forall_mem_cons.mpr ⟨⟨sim_iload_n d192_86 rfl, gr_LdI 1 87⟩,
  List.forall_mem_cons.mpr ⟨⟨sim_imul d192_87, gr_II (fun x y => x * y) 88⟩,
  List.forall_mem_cons.mpr ⟨⟨sim_iadd d192_88, gr_II (fun x y => x + y) 89⟩,
  List.forall_mem_cons.mpr ⟨⟨sim_iconst d192_89 (by decide), gr_Push (.int 1) 90⟩,
  List.forall_mem_cons.mpr ⟨⟨sim_iadd d192_90, gr_II (fun x y => x + y) 91⟩,
  List.forall_mem_cons.mpr ⟨⟨sim_iaload d192_91, gr_ALdI 92⟩,
  List.forall_mem_cons.mpr ⟨⟨sim_virtual d192_92 vk131, gr_CalV (fun k => if k = 11 then some 181 else none) 4 95⟩,
  List.forall_mem_cons.mpr ⟨⟨sim_aload_n d192_95 rfl, gr_LdA 0 96⟩,
  List.forall_mem_cons.mpr ⟨⟨sim_iconst d192_96 (by decide), gr_Push (.int 0) 97⟩,
  List.forall_mem_cons.mpr ⟨⟨sim_virtual d192_97 vk132, gr_CalV (fun k => if k = 11 then some 185 else none) 1 100⟩,
  List.forall_mem_cons.mpr ⟨⟨sim_if_eq d192_100 (by decide), gr_If (fun x => x = 0) 283 103⟩,
  List.forall_mem_cons.mpr ⟨⟨sim_aload_n d192_103 rfl, gr_LdA 0 104⟩,
  List.forall_mem_cons.mpr ⟨⟨sim_aload_n d192_104 rfl, gr_LdA 0 105⟩,
  List.forall_mem_cons.mpr ⟨⟨sim_getL d192_105 gf182, gr_GetL (fun k => k = 11) 29 108⟩,
  List.forall_mem_cons.mpr ⟨⟨sim_virtual d192_108 vk121, gr_CalV (fun k => if k = 11 then some 165 else none) 1 111⟩,
  List.forall_mem_cons.mpr ⟨⟨sim_istore d192_111 (by decide), gr_StI 7 113⟩,
  List.forall_mem_cons.mpr ⟨⟨sim_aload_n d192_113 rfl, gr_LdA 0 114⟩,
  List.forall_mem_cons.mpr ⟨⟨sim_getF d192_114 gf171, gr_GetF (fun k => k = 11) 5 117⟩,
  List.forall_mem_cons.mpr ⟨⟨sim_iload d192_117, gr_LdI 4 119⟩,
  List.forall_mem_cons.mpr ⟨⟨sim_aload_n d192_119 rfl, gr_LdA 0 120⟩,
  List.forall_mem_cons.mpr ⟨⟨sim_getF d192_120 gf183, gr_GetF (fun k => k = 11) 28 123⟩,
  List.forall_mem_cons.mpr ⟨⟨sim_iconst d192_123 (by decide), gr_Push (.int 0) 124⟩,
  List.forall_mem_cons.mpr ⟨⟨sim_iaload d192_124, gr_ALdI 125⟩,
  List.forall_mem_cons.mpr ⟨⟨sim_iastore d192_125, gr_AStI 126⟩,
  List.forall_mem_cons.mpr ⟨⟨sim_iconst d192_126 (by decide), gr_Push (.int 0) 127⟩,
  List.forall_mem_cons.mpr ⟨⟨sim_istore d192_127 (by decide), gr_StI 8 129⟩,
  List.forall_mem_cons.mpr ⟨⟨sim_iload d192_129, gr_LdI 8 131⟩,
  List.forall_mem_cons.mpr ⟨⟨sim_aload_n d192_131 rfl, gr_LdA 0 132⟩,
  List.forall_mem_cons.mpr ⟨⟨sim_getF d192_132 gf183, gr_GetF (fun k => k = 11) 28 135⟩, fun _ h => absurd h List.not_mem_nil⟩⟩⟩⟩⟩⟩⟩⟩⟩⟩⟩⟩⟩⟩⟩⟩⟩⟩⟩⟩⟩⟩⟩⟩⟩⟩⟩⟩⟩⟩⟩⟩⟩⟩⟩⟩⟩⟩⟩⟩
noncomputable def pg192_2 : List (Nat × aP) := [(135, oPush (.int 0) 136),
  (136, oALdI 137),
  (137, oIc (fun x y => y ≤ x) 165 140),
  (140, oLdA 0 141),
  (141, oGetF (fun k => k = 11) 5 144),
  (144, oLdI 4 146),
  (146, oPush (.int 1) 147),
  (147, oII (fun x y => x + y) 148),
  (148, oLdI 8 150),
  (150, oII (fun x y => x + y) 151),
  (151, oLdA 0 152),
  (152, oGetF (fun k => k = 11) 22 155),
  (155, oLdI 8 157),
  (157, oALdI 158),
  (158, oAStI 159),
  (159, oInc 8 1 162),
  (162, oGo 129),
  (165, oLdA 0 166),
  (166, oCalV (fun k => if k = 11 then some 164 else none) 0 169),
  (169, oLdA 0 170),
  (170, oPush (.int 1) 171),
  (171, oLdA 0 172),
  (172, oGetF (fun k => k = 11) 5 175),
  (175, oPush (.int 102) 177),
  (177, oPush (.int 2) 178),
  (178, oLdI 2 179),
  (179, oII (fun x y => x * y) 180),
  (180, oII (fun x y => x + y) 181),
  (181, oALdI 182),
  (182, oPush (.int 8) 184),
  (184, oLdA 0 185),
  (185, oGetF (fun k => k = 11) 5 188),
  (188, oPush (.int 102) 190),
  (190, oPush (.int 2) 191),
  (191, oLdI 2 192),
  (192, oII (fun x y => x * y) 193),
  (193, oII (fun x y => x + y) 194),
  (194, oPush (.int 1) 195),
  (195, oII (fun x y => x + y) 196),
  (196, oALdI 197)]
theorem ok192_2 : ∀ q ∈ pg192_2, Sim mT mt192 q.1 q.2 ∧ Grow q.2 :=
  List.forall_mem_cons.mpr ⟨⟨sim_iconst d192_135 (by decide), gr_Push (.int 0) 136⟩,
  List.forall_mem_cons.mpr ⟨⟨sim_iaload d192_136, gr_ALdI 137⟩,
  List.forall_mem_cons.mpr ⟨⟨sim_icmp_ge d192_137 (by decide), gr_Ic (fun x y => y ≤ x) 165 140⟩,
  List.forall_mem_cons.mpr ⟨⟨sim_aload_n d192_140 rfl, gr_LdA 0 141⟩,
  List.forall_mem_cons.mpr ⟨⟨sim_getF d192_141 gf171, gr_GetF (fun k => k = 11) 5 144⟩,
  List.forall_mem_cons.mpr ⟨⟨sim_iload d192_144, gr_LdI 4 146⟩,
  List.forall_mem_cons.mpr ⟨⟨sim_iconst d192_146 (by decide), gr_Push (.int 1) 147⟩,
  List.forall_mem_cons.mpr ⟨⟨sim_iadd d192_147, gr_II (fun x y => x + y) 148⟩,
  List.forall_mem_cons.mpr ⟨⟨sim_iload d192_148, gr_LdI 8 150⟩,
  List.forall_mem_cons.mpr ⟨⟨sim_iadd d192_150, gr_II (fun x y => x + y) 151⟩,
  List.forall_mem_cons.mpr ⟨⟨sim_aload_n d192_151 rfl, gr_LdA 0 152⟩,
  List.forall_mem_cons.mpr ⟨⟨sim_getF d192_152 gf178, gr_GetF (fun k => k = 11) 22 155⟩,
  List.forall_mem_cons.mpr ⟨⟨sim_iload d192_155, gr_LdI 8 157⟩,
  List.forall_mem_cons.mpr ⟨⟨sim_iaload d192_157, gr_ALdI 158⟩,
  List.forall_mem_cons.mpr ⟨⟨sim_iastore d192_158, gr_AStI 159⟩,
  List.forall_mem_cons.mpr ⟨⟨sim_iinc d192_159 (by decide) (by decide), gr_Inc 8 1 162⟩,
  List.forall_mem_cons.mpr ⟨⟨sim_goto d192_162 (by decide), gr_Go 129⟩,
  List.forall_mem_cons.mpr ⟨⟨sim_aload_n d192_165 rfl, gr_LdA 0 166⟩,
  List.forall_mem_cons.mpr ⟨⟨sim_virtual d192_166 vk115, gr_CalV (fun k => if k = 11 then some 164 else none) 0 169⟩,
  List.forall_mem_cons.mpr ⟨⟨sim_aload_n d192_169 rfl, gr_LdA 0 170⟩,
  List.forall_mem_cons.mpr ⟨⟨sim_iconst d192_170 (by decide), gr_Push (.int 1) 171⟩,
  List.forall_mem_cons.mpr ⟨⟨sim_aload_n d192_171 rfl, gr_LdA 0 172⟩,
  List.forall_mem_cons.mpr ⟨⟨sim_getF d192_172 gf171, gr_GetF (fun k => k = 11) 5 175⟩,
  List.forall_mem_cons.mpr ⟨⟨sim_bipush d192_175 (by decide), gr_Push (.int 102) 177⟩,
  List.forall_mem_cons.mpr ⟨⟨sim_iconst d192_177 (by decide), gr_Push (.int 2) 178⟩,
  List.forall_mem_cons.mpr ⟨⟨sim_iload_n d192_178 rfl, gr_LdI 2 179⟩,
  List.forall_mem_cons.mpr ⟨⟨sim_imul d192_179, gr_II (fun x y => x * y) 180⟩,
  List.forall_mem_cons.mpr ⟨⟨sim_iadd d192_180, gr_II (fun x y => x + y) 181⟩,
  List.forall_mem_cons.mpr ⟨⟨sim_iaload d192_181, gr_ALdI 182⟩,
  List.forall_mem_cons.mpr ⟨⟨sim_bipush d192_182 (by decide), gr_Push (.int 8) 184⟩,
  List.forall_mem_cons.mpr ⟨⟨sim_aload_n d192_184 rfl, gr_LdA 0 185⟩,
  List.forall_mem_cons.mpr ⟨⟨sim_getF d192_185 gf171, gr_GetF (fun k => k = 11) 5 188⟩,
  List.forall_mem_cons.mpr ⟨⟨sim_bipush d192_188 (by decide), gr_Push (.int 102) 190⟩,
  List.forall_mem_cons.mpr ⟨⟨sim_iconst d192_190 (by decide), gr_Push (.int 2) 191⟩,
  List.forall_mem_cons.mpr ⟨⟨sim_iload_n d192_191 rfl, gr_LdI 2 192⟩,
  List.forall_mem_cons.mpr ⟨⟨sim_imul d192_192, gr_II (fun x y => x * y) 193⟩,
  List.forall_mem_cons.mpr ⟨⟨sim_iadd d192_193, gr_II (fun x y => x + y) 194⟩,
  List.forall_mem_cons.mpr ⟨⟨sim_iconst d192_194 (by decide), gr_Push (.int 1) 195⟩,
  List.forall_mem_cons.mpr ⟨⟨sim_iadd d192_195, gr_II (fun x y => x + y) 196⟩,
  List.forall_mem_cons.mpr ⟨⟨sim_iaload d192_196, gr_ALdI 197⟩, fun _ h => absurd h List.not_mem_nil⟩⟩⟩⟩⟩⟩⟩⟩⟩⟩⟩⟩⟩⟩⟩⟩⟩⟩⟩⟩⟩⟩⟩⟩⟩⟩⟩⟩⟩⟩⟩⟩⟩⟩⟩⟩⟩⟩⟩⟩
noncomputable def pg192_3 : List (Nat × aP) := [(197, oCalV (fun k => if k = 11 then some 186 else none) 4 200),
  (200, oCall 188 1 203),
  (203, oStI 8 205),
  (205, oLdA 0 206),
  (206, oGetF (fun k => k = 11) 5 209),
  (209, oLdI 4 211),
  (211, oPush (.int (-1)) 212),
  (212, oAStI 213),
  (213, oLdA 0 214),
  (214, oCalV (fun k => if k = 11 then some 164 else none) 0 217),
  (217, oLdI 5 219),
  (219, oPush (.int (-1000000)) 221),
  (221, oIc (fun x y => x = y) 245 224),
  (224, oLdI 8 226),
  (226, oLdI 5 228),
  (228, oIc (fun x y => x < y) 245 231),
  (231, oLdI 8 233),
  (233, oLdI 5 235),
  (235, oIc (fun x y => ¬ x = y) 249 238),
  (238, oLdI 7 240),
  (240, oLdI 6 242),
  (242, oIc (fun x y => x ≤ y) 249 245),
  (245, oPush (.int 1) 246),
  (246, oGo 250),
  (249, oPush (.int 0) 250),
  (250, oStI 9 252),
  (252, oLdI 9 254),
  (254, oIf (fun x => x = 0) 262 257),
  (257, oLdI 8 259),
  (259, oGo 264),
  (262, oLdI 5 264),
  (264, oStI 5 266),
  (266, oLdI 9 268),
  (268, oIf (fun x => x = 0) 276 271),
  (271, oLdI 7 273),
  (273, oGo 278),
  (276, oLdI 6 278),
  (278, oStI 6 280),
  (280, oGo 95),
  (283, oLdI 3 284)]
theorem ok192_3 : ∀ q ∈ pg192_3, Sim mT mt192 q.1 q.2 ∧ Grow q.2 :=
  List.forall_mem_cons.mpr ⟨⟨sim_virtual d192_197 vk133, gr_CalV (fun k => if k = 11 then some 186 else none) 4 200⟩,
  List.forall_mem_cons.mpr ⟨⟨sim_static (y := 188) d192_200 (Or.inl kw1277) kw1278 mo188, gr_Call 188 1 203⟩,
  List.forall_mem_cons.mpr ⟨⟨sim_istore d192_203 (by decide), gr_StI 8 205⟩,
  List.forall_mem_cons.mpr ⟨⟨sim_aload_n d192_205 rfl, gr_LdA 0 206⟩,
  List.forall_mem_cons.mpr ⟨⟨sim_getF d192_206 gf171, gr_GetF (fun k => k = 11) 5 209⟩,
  List.forall_mem_cons.mpr ⟨⟨sim_iload d192_209, gr_LdI 4 211⟩,
  List.forall_mem_cons.mpr ⟨⟨sim_iconst d192_211 (by decide), gr_Push (.int (-1)) 212⟩,
  List.forall_mem_cons.mpr ⟨⟨sim_iastore d192_212, gr_AStI 213⟩,
  List.forall_mem_cons.mpr ⟨⟨sim_aload_n d192_213 rfl, gr_LdA 0 214⟩,
  List.forall_mem_cons.mpr ⟨⟨sim_virtual d192_214 vk115, gr_CalV (fun k => if k = 11 then some 164 else none) 0 217⟩,
  List.forall_mem_cons.mpr ⟨⟨sim_iload d192_217, gr_LdI 5 219⟩,
  List.forall_mem_cons.mpr ⟨⟨sim_ldc d192_219 kw1083, gr_Push (.int (-1000000)) 221⟩,
  List.forall_mem_cons.mpr ⟨⟨sim_icmp_eq d192_221 (by decide), gr_Ic (fun x y => x = y) 245 224⟩,
  List.forall_mem_cons.mpr ⟨⟨sim_iload d192_224, gr_LdI 8 226⟩,
  List.forall_mem_cons.mpr ⟨⟨sim_iload d192_226, gr_LdI 5 228⟩,
  List.forall_mem_cons.mpr ⟨⟨sim_icmp_lt d192_228 (by decide), gr_Ic (fun x y => x < y) 245 231⟩,
  List.forall_mem_cons.mpr ⟨⟨sim_iload d192_231, gr_LdI 8 233⟩,
  List.forall_mem_cons.mpr ⟨⟨sim_iload d192_233, gr_LdI 5 235⟩,
  List.forall_mem_cons.mpr ⟨⟨sim_icmp_ne d192_235 (by decide), gr_Ic (fun x y => ¬ x = y) 249 238⟩,
  List.forall_mem_cons.mpr ⟨⟨sim_iload d192_238, gr_LdI 7 240⟩,
  List.forall_mem_cons.mpr ⟨⟨sim_iload d192_240, gr_LdI 6 242⟩,
  List.forall_mem_cons.mpr ⟨⟨sim_icmp_le d192_242 (by decide), gr_Ic (fun x y => x ≤ y) 249 245⟩,
  List.forall_mem_cons.mpr ⟨⟨sim_iconst d192_245 (by decide), gr_Push (.int 1) 246⟩,
  List.forall_mem_cons.mpr ⟨⟨sim_goto d192_246 (by decide), gr_Go 250⟩,
  List.forall_mem_cons.mpr ⟨⟨sim_iconst d192_249 (by decide), gr_Push (.int 0) 250⟩,
  List.forall_mem_cons.mpr ⟨⟨sim_istore d192_250 (by decide), gr_StI 9 252⟩,
  List.forall_mem_cons.mpr ⟨⟨sim_iload d192_252, gr_LdI 9 254⟩,
  List.forall_mem_cons.mpr ⟨⟨sim_if_eq d192_254 (by decide), gr_If (fun x => x = 0) 262 257⟩,
  List.forall_mem_cons.mpr ⟨⟨sim_iload d192_257, gr_LdI 8 259⟩,
  List.forall_mem_cons.mpr ⟨⟨sim_goto d192_259 (by decide), gr_Go 264⟩,
  List.forall_mem_cons.mpr ⟨⟨sim_iload d192_262, gr_LdI 5 264⟩,
  List.forall_mem_cons.mpr ⟨⟨sim_istore d192_264 (by decide), gr_StI 5 266⟩,
  List.forall_mem_cons.mpr ⟨⟨sim_iload d192_266, gr_LdI 9 268⟩,
  List.forall_mem_cons.mpr ⟨⟨sim_if_eq d192_268 (by decide), gr_If (fun x => x = 0) 276 271⟩,
  List.forall_mem_cons.mpr ⟨⟨sim_iload d192_271, gr_LdI 7 273⟩,
  List.forall_mem_cons.mpr ⟨⟨sim_goto d192_273 (by decide), gr_Go 278⟩,
  List.forall_mem_cons.mpr ⟨⟨sim_iload d192_276, gr_LdI 6 278⟩,
  List.forall_mem_cons.mpr ⟨⟨sim_istore d192_278 (by decide), gr_StI 6 280⟩,
  List.forall_mem_cons.mpr ⟨⟨sim_goto d192_280 (by decide), gr_Go 95⟩,
  List.forall_mem_cons.mpr ⟨⟨sim_iload_n d192_283 rfl, gr_LdI 3 284⟩, fun _ h => absurd h List.not_mem_nil⟩⟩⟩⟩⟩⟩⟩⟩⟩⟩⟩⟩⟩⟩⟩⟩⟩⟩⟩⟩⟩⟩⟩⟩⟩⟩⟩⟩⟩⟩⟩⟩⟩⟩⟩⟩⟩⟩⟩⟩
noncomputable def pg192_4 : List (Nat × aP) := [(284, oIf (fun x => ¬ x = 0) 292 287),
  (287, oLdI 5 289),
  (289, oGo 294),
  (292, oLdI 6 294),
  (294, oRetI)]
theorem ok192_4 : ∀ q ∈ pg192_4, Sim mT mt192 q.1 q.2 ∧ Grow q.2 :=
  List.forall_mem_cons.mpr ⟨⟨sim_if_ne d192_284 (by decide), gr_If (fun x => ¬ x = 0) 292 287⟩,
  List.forall_mem_cons.mpr ⟨⟨sim_iload d192_287, gr_LdI 5 289⟩,
  List.forall_mem_cons.mpr ⟨⟨sim_goto d192_289 (by decide), gr_Go 294⟩,
  List.forall_mem_cons.mpr ⟨⟨sim_iload d192_292, gr_LdI 6 294⟩,
  List.forall_mem_cons.mpr ⟨⟨sim_ireturn d192_294 rfl, gr_RetI⟩, fun _ h => absurd h List.not_mem_nil⟩⟩⟩⟩⟩
noncomputable def pg192 : List (Nat × aP) := pg192_0 ++ (pg192_1 ++ (pg192_2 ++ (pg192_3 ++ (pg192_4))))
theorem ok192 : ∀ q ∈ pg192, Sim mT mt192 q.1 q.2 ∧ Grow q.2 := List.forall_mem_append.mpr ⟨ok192_0, List.forall_mem_append.mpr ⟨ok192_1, List.forall_mem_append.mpr ⟨ok192_2, List.forall_mem_append.mpr ⟨ok192_3, ok192_4⟩⟩⟩⟩
