theorem d0_0 : decode mt0.2.1 0 = .ok (.aload_n 0, 1) := by decide +kernel
theorem d0_1 : decode mt0.2.1 1 = .ok (.invokespecial 3, 3) := by decide +kernel
theorem d0_4 : decode mt0.2.1 4 = .ok (.aload_n 0, 1) := by decide +kernel
theorem d0_5 : decode mt0.2.1 5 = .ok (.bipush 16, 2) := by decide +kernel
theorem d0_7 : decode mt0.2.1 7 = .ok (.newarray .int, 2) := by decide +kernel
theorem d0_9 : decode mt0.2.1 9 = .ok (.putfield 11, 3) := by decide +kernel
theorem d0_12 : decode mt0.2.1 12 = .ok (.return_, 1) := by decide +kernel
noncomputable def pg0_0 : List (Nat × aP) := [(0, oLdA 0 1),
  (1, oObj 4),
  (4, oLdA 0 5),
  (5, oPush (.int 16) 7),
  (7, oNewA (100 + 0) 9),
  (9, oPutF (fun k => k = 0) 0 12),
  (12, oRetV)]
theorem ok0_0 : ∀ q ∈ pg0_0, Sim mT mt0 q.1 q.2 ∧ Grow q.2 :=
  List.forall_mem_cons.mpr ⟨⟨sim_aload_n d0_0 rfl, gr_LdA 0 1⟩,
  List.forall_mem_cons.mpr ⟨⟨sim_obj d0_1 kw262 kw26 kw27, gr_Obj 4⟩,
  List.forall_mem_cons.mpr ⟨⟨sim_aload_n d0_4 rfl, gr_LdA 0 5⟩,
  List.forall_mem_cons.mpr ⟨⟨sim_bipush d0_5 (by decide), gr_Push (.int 16) 7⟩,
  List.forall_mem_cons.mpr ⟨⟨sim_newarray (t := 0) d0_7 kw130 (Or.inl ⟨rfl, rfl⟩), gr_NewA (100 + 0) 9⟩,
  List.forall_mem_cons.mpr ⟨⟨sim_putF d0_9 gf0f rfl, gr_PutF (fun k => k = 0) 0 12⟩,
  List.forall_mem_cons.mpr ⟨⟨sim_return d0_12 rfl, gr_RetV⟩, fun _ h => absurd h List.not_mem_nil⟩⟩⟩⟩⟩⟩⟩
noncomputable def pg0 : List (Nat × aP) := pg0_0
theorem ok0 : ∀ q ∈ pg0, Sim mT mt0 q.1 q.2 ∧ Grow q.2 := ok0_0
theorem d1_0 : decode mt1.2.1 0 = .ok (.iload_n 2, 1) := by decide +kernel
theorem d1_1 : decode mt1.2.1 1 = .ok (.invokestatic 15, 3) := by decide +kernel
theorem d1_4 : decode mt1.2.1 4 = .ok (.istore_n 3, 1) := by decide +kernel
theorem d1_5 : decode mt1.2.1 5 = .ok (.aload_n 0, 1) := by decide +kernel
theorem d1_6 : decode mt1.2.1 6 = .ok (.iconst 0, 1) := by decide +kernel
theorem d1_7 : decode mt1.2.1 7 = .ok (.putfield 19, 3) := by decide +kernel
theorem d1_10 : decode mt1.2.1 10 = .ok (.aload_n 0, 1) := by decide +kernel
theorem d1_11 : decode mt1.2.1 11 = .ok (.iload_n 2, 1) := by decide +kernel
theorem d1_12 : decode mt1.2.1 12 = .ok (.putfield 23, 3) := by decide +kernel
theorem d1_15 : decode mt1.2.1 15 = .ok (.aload_n 0, 1) := by decide +kernel
theorem d1_16 : decode mt1.2.1 16 = .ok (.aload_n 1, 1) := by decide +kernel
theorem d1_17 : decode mt1.2.1 17 = .ok (.lconst 1, 1) := by decide +kernel
theorem d1_18 : decode mt1.2.1 18 = .ok (.iload_n 3, 1) := by decide +kernel
theorem d1_19 : decode mt1.2.1 19 = .ok (.lshl, 1) := by decide +kernel
theorem d1_20 : decode mt1.2.1 20 = .ok (.invokevirtual 26, 3) := by decide +kernel
theorem d1_23 : decode mt1.2.1 23 = .ok (.putfield 32, 3) := by decide +kernel
theorem d1_26 : decode mt1.2.1 26 = .ok (.aload_n 0, 1) := by decide +kernel
theorem d1_27 : decode mt1.2.1 27 = .ok (.aload_n 1, 1) := by decide +kernel
theorem d1_28 : decode mt1.2.1 28 = .ok (.iload_n 3, 1) := by decide +kernel
theorem d1_29 : decode mt1.2.1 29 = .ok (.invokevirtual 35, 3) := by decide +kernel
theorem d1_32 : decode mt1.2.1 32 = .ok (.putfield 38, 3) := by decide +kernel
theorem d1_35 : decode mt1.2.1 35 = .ok (.aload_n 0, 1) := by decide +kernel
theorem d1_36 : decode mt1.2.1 36 = .ok (.aload_n 1, 1) := by decide +kernel
theorem d1_37 : decode mt1.2.1 37 = .ok (.iload_n 3, 1) := by decide +kernel
theorem d1_38 : decode mt1.2.1 38 = .ok (.invokevirtual 41, 3) := by decide +kernel
theorem d1_41 : decode mt1.2.1 41 = .ok (.putfield 44, 3) := by decide +kernel
theorem d1_44 : decode mt1.2.1 44 = .ok (.return_, 1) := by decide +kernel
noncomputable def pg1_0 : List (Nat × aP) := [(0, oLdI 2 1),
  (1, oCall 123 1 4),
  (4, oStI 3 5),
  (5, oLdA 0 6),
  (6, oPush (.int 0) 7),
  (7, oPutI (fun k => k = 0) 1 10),
  (10, oLdA 0 11),
  (11, oLdI 2 12),
  (12, oPutI (fun k => k = 0) 2 15),
  (15, oLdA 0 16),
  (16, oLdA 1 17),
  (17, oPush (.long 1) 18),
  (18, oLdI 3 19),
  (19, oLSh (fun x y => x <<< (y.toInt64 &&& 63)) 20),
  (20, oCalV (fun k => if k = 3 then some 36 else none) 1 23),
  (23, oPutI (fun k => k = 0) 3 26),
  (26, oLdA 0 27),
  (27, oLdA 1 28),
  (28, oLdI 3 29),
  (29, oCalV (fun k => if k = 3 then some 39 else none) 1 32),
  (32, oPutI (fun k => k = 0) 4 35),
  (35, oLdA 0 36),
  (36, oLdA 1 37),
  (37, oLdI 3 38),
  (38, oCalV (fun k => if k = 3 then some 37 else none) 1 41),
  (41, oPutI (fun k => k = 0) 5 44),
  (44, oRetV)]
theorem ok1_0 : ∀ q ∈ pg1_0, Sim mT mt1 q.1 q.2 ∧ Grow q.2 :=
  List.forall_mem_cons.mpr ⟨⟨sim_iload_n d1_0 rfl, gr_LdI 2 1⟩,
  List.forall_mem_cons.mpr ⟨⟨sim_static (y := 123) d1_1 (Or.inr ⟨_, kn857⟩) kw670 mo123, gr_Call 123 1 4⟩,
  List.forall_mem_cons.mpr ⟨⟨sim_istore_n d1_4 rfl (by decide), gr_StI 3 5⟩,
  List.forall_mem_cons.mpr ⟨⟨sim_aload_n d1_5 rfl, gr_LdA 0 6⟩,
  List.forall_mem_cons.mpr ⟨⟨sim_iconst d1_6 (by decide), gr_Push (.int 0) 7⟩,
  List.forall_mem_cons.mpr ⟨⟨sim_putI d1_7 gf1w, gr_PutI (fun k => k = 0) 1 10⟩,
  List.forall_mem_cons.mpr ⟨⟨sim_aload_n d1_10 rfl, gr_LdA 0 11⟩,
  List.forall_mem_cons.mpr ⟨⟨sim_iload_n d1_11 rfl, gr_LdI 2 12⟩,
  List.forall_mem_cons.mpr ⟨⟨sim_putI d1_12 gf2w, gr_PutI (fun k => k = 0) 2 15⟩,
  List.forall_mem_cons.mpr ⟨⟨sim_aload_n d1_15 rfl, gr_LdA 0 16⟩,
  List.forall_mem_cons.mpr ⟨⟨sim_aload_n d1_16 rfl, gr_LdA 1 17⟩,
  List.forall_mem_cons.mpr ⟨⟨sim_lconst d1_17 (by decide), gr_Push (.long 1) 18⟩,
  List.forall_mem_cons.mpr ⟨⟨sim_iload_n d1_18 rfl, gr_LdI 3 19⟩,
  List.forall_mem_cons.mpr ⟨⟨sim_lshl d1_19, gr_LSh (fun x y => x <<< (y.toInt64 &&& 63)) 20⟩,
  List.forall_mem_cons.mpr ⟨⟨sim_virtual d1_20 vk0, gr_CalV (fun k => if k = 3 then some 36 else none) 1 23⟩,
  List.forall_mem_cons.mpr ⟨⟨sim_putI d1_23 gf3w, gr_PutI (fun k => k = 0) 3 26⟩,
  List.forall_mem_cons.mpr ⟨⟨sim_aload_n d1_26 rfl, gr_LdA 0 27⟩,
  List.forall_mem_cons.mpr ⟨⟨sim_aload_n d1_27 rfl, gr_LdA 1 28⟩,
  List.forall_mem_cons.mpr ⟨⟨sim_iload_n d1_28 rfl, gr_LdI 3 29⟩,
  List.forall_mem_cons.mpr ⟨⟨sim_virtual d1_29 vk1, gr_CalV (fun k => if k = 3 then some 39 else none) 1 32⟩,
  List.forall_mem_cons.mpr ⟨⟨sim_putI d1_32 gf4w, gr_PutI (fun k => k = 0) 4 35⟩,
  List.forall_mem_cons.mpr ⟨⟨sim_aload_n d1_35 rfl, gr_LdA 0 36⟩,
  List.forall_mem_cons.mpr ⟨⟨sim_aload_n d1_36 rfl, gr_LdA 1 37⟩,
  List.forall_mem_cons.mpr ⟨⟨sim_iload_n d1_37 rfl, gr_LdI 3 38⟩,
  List.forall_mem_cons.mpr ⟨⟨sim_virtual d1_38 vk2, gr_CalV (fun k => if k = 3 then some 37 else none) 1 41⟩,
  List.forall_mem_cons.mpr ⟨⟨sim_putI d1_41 gf5w, gr_PutI (fun k => k = 0) 5 44⟩,
  List.forall_mem_cons.mpr ⟨⟨sim_return d1_44 rfl, gr_RetV⟩, fun _ h => absurd h List.not_mem_nil⟩⟩⟩⟩⟩⟩⟩⟩⟩⟩⟩⟩⟩⟩⟩⟩⟩⟩⟩⟩⟩⟩⟩⟩⟩⟩⟩
noncomputable def pg1 : List (Nat × aP) := pg1_0
theorem ok1 : ∀ q ∈ pg1, Sim mT mt1 q.1 q.2 ∧ Grow q.2 := ok1_0
theorem d2_0 : decode mt2.2.1 0 = .ok (.aload_n 0, 1) := by decide +kernel
theorem d2_1 : decode mt2.2.1 1 = .ok (.getfield 19, 3) := by decide +kernel
theorem d2_4 : decode mt2.2.1 4 = .ok (.bipush 16, 2) := by decide +kernel
theorem d2_6 : decode mt2.2.1 6 = .ok (.if_icmp .ge 23, 3) := by decide +kernel
theorem d2_9 : decode mt2.2.1 9 = .ok (.aload_n 0, 1) := by decide +kernel
theorem d2_10 : decode mt2.2.1 10 = .ok (.getfield 11, 3) := by decide +kernel
theorem d2_13 : decode mt2.2.1 13 = .ok (.aload_n 0, 1) := by decide +kernel
theorem d2_14 : decode mt2.2.1 14 = .ok (.getfield 19, 3) := by decide +kernel
theorem d2_17 : decode mt2.2.1 17 = .ok (.iload_n 1, 1) := by decide +kernel
theorem d2_18 : decode mt2.2.1 18 = .ok (.iastore, 1) := by decide +kernel
theorem d2_19 : decode mt2.2.1 19 = .ok (.aload_n 0, 1) := by decide +kernel
theorem d2_20 : decode mt2.2.1 20 = .ok (.dup, 1) := by decide +kernel
theorem d2_21 : decode mt2.2.1 21 = .ok (.getfield 19, 3) := by decide +kernel
theorem d2_24 : decode mt2.2.1 24 = .ok (.iconst 1, 1) := by decide +kernel
theorem d2_25 : decode mt2.2.1 25 = .ok (.iadd, 1) := by decide +kernel
theorem d2_26 : decode mt2.2.1 26 = .ok (.putfield 19, 3) := by decide +kernel
theorem d2_29 : decode mt2.2.1 29 = .ok (.return_, 1) := by decide +kernel
noncomputable def pg2_0 : List (Nat × aP) := [(0, oLdA 0 1),
  (1, oGetI (fun k => k = 0) 1 4),
  (4, oPush (.int 16) 6),
  (6, oIc (fun x y => y ≤ x) 29 9),
  (9, oLdA 0 10),
  (10, oGetF (fun k => k = 0) 0 13),
  (13, oLdA 0 14),
  (14, oGetI (fun k => k = 0) 1 17),
  (17, oLdI 1 18),
  (18, oAStI 19),
  (19, oLdA 0 20),
  (20, oDup 21),
  (21, oGetI (fun k => k = 0) 1 24),
  (24, oPush (.int 1) 25),
  (25, oII (fun x y => x + y) 26),
  (26, oPutI (fun k => k = 0) 1 29),
  (29, oRetV)]
theorem ok2_0 : ∀ q ∈ pg2_0, Sim mT mt2 q.1 q.2 ∧ Grow q.2 :=
  List.forall_mem_cons.mpr ⟨⟨sim_aload_n d2_0 rfl, gr_LdA 0 1⟩,
  List.forall_mem_cons.mpr ⟨⟨sim_getI d2_1 gf1, gr_GetI (fun k => k = 0) 1 4⟩,
  List.forall_mem_cons.mpr ⟨⟨sim_bipush d2_4 (by decide), gr_Push (.int 16) 6⟩,
  List.forall_mem_cons.mpr ⟨⟨sim_icmp_ge d2_6 (by decide), gr_Ic (fun x y => y ≤ x) 29 9⟩,
  List.forall_mem_cons.mpr ⟨⟨sim_aload_n d2_9 rfl, gr_LdA 0 10⟩,
  List.forall_mem_cons.mpr ⟨⟨sim_getF d2_10 gf6, gr_GetF (fun k => k = 0) 0 13⟩,
  List.forall_mem_cons.mpr ⟨⟨sim_aload_n d2_13 rfl, gr_LdA 0 14⟩,
  List.forall_mem_cons.mpr ⟨⟨sim_getI d2_14 gf1, gr_GetI (fun k => k = 0) 1 17⟩,
  List.forall_mem_cons.mpr ⟨⟨sim_iload_n d2_17 rfl, gr_LdI 1 18⟩,
  List.forall_mem_cons.mpr ⟨⟨sim_iastore d2_18, gr_AStI 19⟩,
  List.forall_mem_cons.mpr ⟨⟨sim_aload_n d2_19 rfl, gr_LdA 0 20⟩,
  List.forall_mem_cons.mpr ⟨⟨sim_dup d2_20, gr_Dup 21⟩,
  List.forall_mem_cons.mpr ⟨⟨sim_getI d2_21 gf1, gr_GetI (fun k => k = 0) 1 24⟩,
  List.forall_mem_cons.mpr ⟨⟨sim_iconst d2_24 (by decide), gr_Push (.int 1) 25⟩,
  List.forall_mem_cons.mpr ⟨⟨sim_iadd d2_25, gr_II (fun x y => x + y) 26⟩,
  List.forall_mem_cons.mpr ⟨⟨sim_putI d2_26 gf1w, gr_PutI (fun k => k = 0) 1 29⟩,
  List.forall_mem_cons.mpr ⟨⟨sim_return d2_29 rfl, gr_RetV⟩, fun _ h => absurd h List.not_mem_nil⟩⟩⟩⟩⟩⟩⟩⟩⟩⟩⟩⟩⟩⟩⟩⟩⟩
noncomputable def pg2 : List (Nat × aP) := pg2_0
theorem ok2 : ∀ q ∈ pg2, Sim mT mt2 q.1 q.2 ∧ Grow q.2 := ok2_0
theorem d3_0 : decode mt3.2.1 0 = .ok (.aload_n 0, 1) := by decide +kernel
theorem d3_1 : decode mt3.2.1 1 = .ok (.getfield 38, 3) := by decide +kernel
theorem d3_4 : decode mt3.2.1 4 = .ok (.tableswitch 73 1 5 #[68, 73, 63, 48, 36], 36) := by decide +kernel
theorem d3_40 : decode mt3.2.1 40 = .ok (.aload_n 0, 1) := by decide +kernel
theorem d3_41 : decode mt3.2.1 41 = .ok (.bipush 14, 2) := by decide +kernel
theorem d3_43 : decode mt3.2.1 43 = .ok (.invokevirtual 46, 3) := by decide +kernel
theorem d3_46 : decode mt3.2.1 46 = .ok (.aload_n 0, 1) := by decide +kernel
theorem d3_47 : decode mt3.2.1 47 = .ok (.invokevirtual 50, 3) := by decide +kernel
theorem d3_50 : decode mt3.2.1 50 = .ok (.ineg, 1) := by decide +kernel
theorem d3_51 : decode mt3.2.1 51 = .ok (.ireturn, 1) := by decide +kernel
theorem d3_52 : decode mt3.2.1 52 = .ok (.aload_n 0, 1) := by decide +kernel
theorem d3_53 : decode mt3.2.1 53 = .ok (.bipush 13, 2) := by decide +kernel
theorem d3_55 : decode mt3.2.1 55 = .ok (.invokevirtual 46, 3) := by decide +kernel
theorem d3_58 : decode mt3.2.1 58 = .ok (.aload_n 0, 1) := by decide +kernel
theorem d3_59 : decode mt3.2.1 59 = .ok (.invokevirtual 54, 3) := by decide +kernel
theorem d3_62 : decode mt3.2.1 62 = .ok (.sipush 1000, 3) := by decide +kernel
theorem d3_65 : decode mt3.2.1 65 = .ok (.iadd, 1) := by decide +kernel
theorem d3_66 : decode mt3.2.1 66 = .ok (.ireturn, 1) := by decide +kernel
theorem d3_67 : decode mt3.2.1 67 = .ok (.aload_n 0, 1) := by decide +kernel
theorem d3_68 : decode mt3.2.1 68 = .ok (.invokevirtual 50, 3) := by decide +kernel
theorem d3_71 : decode mt3.2.1 71 = .ok (.ireturn, 1) := by decide +kernel
theorem d3_72 : decode mt3.2.1 72 = .ok (.aload_n 0, 1) := by decide +kernel
theorem d3_73 : decode mt3.2.1 73 = .ok (.invokevirtual 54, 3) := by decide +kernel
theorem d3_76 : decode mt3.2.1 76 = .ok (.ireturn, 1) := by decide +kernel
theorem d3_77 : decode mt3.2.1 77 = .ok (.aload_n 0, 1) := by decide +kernel
theorem d3_78 : decode mt3.2.1 78 = .ok (.invokevirtual 57, 3) := by decide +kernel
theorem d3_81 : decode mt3.2.1 81 = .ok (.ireturn, 1) := by decide +kernel
noncomputable def pg3_0 : List (Nat × aP) := [(0, oLdA 0 1),
  (1, oGetI (fun k => k = 0) 4 4),
  (4, oSw 1 5 [72, 77, 67, 52, 40] 77),
  (40, oLdA 0 41),
  (41, oPush (.int 14) 43),
  (43, oCalV (fun k => if k = 0 then some 2 else none) 1 46),
  (46, oLdA 0 47),
  (47, oCalV (fun k => if k = 0 then some 6 else none) 0 50),
  (50, oI (fun x => -x) 51),
  (51, oRetI),
  (52, oLdA 0 53),
  (53, oPush (.int 13) 55),
  (55, oCalV (fun k => if k = 0 then some 2 else none) 1 58),
  (58, oLdA 0 59),
  (59, oCalV (fun k => if k = 0 then some 5 else none) 0 62),
  (62, oPush (.int 1000) 65),
  (65, oII (fun x y => x + y) 66),
  (66, oRetI),
  (67, oLdA 0 68),
  (68, oCalV (fun k => if k = 0 then some 6 else none) 0 71),
  (71, oRetI),
  (72, oLdA 0 73),
  (73, oCalV (fun k => if k = 0 then some 5 else none) 0 76),
  (76, oRetI),
  (77, oLdA 0 78),
  (78, oCalV (fun k => if k = 0 then some 4 else none) 0 81),
  (81, oRetI)]
theorem ok3_0 : ∀ q ∈ pg3_0, Sim mT mt3 q.1 q.2 ∧ Grow q.2 :=
  List.forall_mem_cons.mpr ⟨⟨sim_aload_n d3_0 rfl, gr_LdA 0 1⟩,
  List.forall_mem_cons.mpr ⟨⟨sim_getI d3_1 gf4, gr_GetI (fun k => k = 0) 4 4⟩,
  List.forall_mem_cons.mpr ⟨⟨sim_tsw d3_4 (by decide) (tsw_ok (by decide +kernel)), gr_Sw 1 5 [72, 77, 67, 52, 40] 77⟩,
  List.forall_mem_cons.mpr ⟨⟨sim_aload_n d3_40 rfl, gr_LdA 0 41⟩,
  List.forall_mem_cons.mpr ⟨⟨sim_bipush d3_41 (by decide), gr_Push (.int 14) 43⟩,
  List.forall_mem_cons.mpr ⟨⟨sim_virtual d3_43 vk3, gr_CalV (fun k => if k = 0 then some 2 else none) 1 46⟩,
  List.forall_mem_cons.mpr ⟨⟨sim_aload_n d3_46 rfl, gr_LdA 0 47⟩,
  List.forall_mem_cons.mpr ⟨⟨sim_virtual d3_47 vk4, gr_CalV (fun k => if k = 0 then some 6 else none) 0 50⟩,
  List.forall_mem_cons.mpr ⟨⟨sim_ineg d3_50, gr_I (fun x => -x) 51⟩,
  List.forall_mem_cons.mpr ⟨⟨sim_ireturn d3_51 rfl, gr_RetI⟩,
  List.forall_mem_cons.mpr ⟨⟨sim_aload_n d3_52 rfl, gr_LdA 0 53⟩,
  List.forall_mem_cons.mpr ⟨⟨sim_bipush d3_53 (by decide), gr_Push (.int 13) 55⟩,
  List.forall_mem_cons.mpr ⟨⟨sim_virtual d3_55 vk3, gr_CalV (fun k => if k = 0 then some 2 else none) 1 58⟩,
  List.forall_mem_cons.mpr ⟨⟨sim_aload_n d3_58 rfl, gr_LdA 0 59⟩,
  List.forall_mem_cons.mpr ⟨⟨sim_virtual d3_59 vk5, gr_CalV (fun k => if k = 0 then some 5 else none) 0 62⟩,
  List.forall_mem_cons.mpr ⟨⟨sim_sipush d3_62 (by decide), gr_Push (.int 1000) 65⟩,
  List.forall_mem_cons.mpr ⟨⟨sim_iadd d3_65, gr_II (fun x y => x + y) 66⟩,
  List.forall_mem_cons.mpr ⟨⟨sim_ireturn d3_66 rfl, gr_RetI⟩,
  List.forall_mem_cons.mpr ⟨⟨sim_aload_n d3_67 rfl, gr_LdA 0 68⟩,
  List.forall_mem_cons.mpr ⟨⟨sim_virtual d3_68 vk4, gr_CalV (fun k => if k = 0 then some 6 else none) 0 71⟩,
  List.forall_mem_cons.mpr ⟨⟨sim_ireturn d3_71 rfl, gr_RetI⟩,
  List.forall_mem_cons.mpr ⟨⟨sim_aload_n d3_72 rfl, gr_LdA 0 73⟩,
  List.forall_mem_cons.mpr ⟨⟨sim_virtual d3_73 vk5, gr_CalV (fun k => if k = 0 then some 5 else none) 0 76⟩,
  List.forall_mem_cons.mpr ⟨⟨sim_ireturn d3_76 rfl, gr_RetI⟩,
  List.forall_mem_cons.mpr ⟨⟨sim_aload_n d3_77 rfl, gr_LdA 0 78⟩,
  List.forall_mem_cons.mpr ⟨⟨sim_virtual d3_78 vk6, gr_CalV (fun k => if k = 0 then some 4 else none) 0 81⟩,
  List.forall_mem_cons.mpr ⟨⟨sim_ireturn d3_81 rfl, gr_RetI⟩, fun _ h => absurd h List.not_mem_nil⟩⟩⟩⟩⟩⟩⟩⟩⟩⟩⟩⟩⟩⟩⟩⟩⟩⟩⟩⟩⟩⟩⟩⟩⟩⟩⟩
noncomputable def pg3 : List (Nat × aP) := pg3_0
theorem ok3 : ∀ q ∈ pg3, Sim mT mt3 q.1 q.2 ∧ Grow q.2 := ok3_0
theorem d4_0 : decode mt4.2.1 0 = .ok (.aload_n 0, 1) := by decide +kernel
theorem d4_1 : decode mt4.2.1 1 = .ok (.bipush 10, 2) := by decide +kernel
theorem d4_3 : decode mt4.2.1 3 = .ok (.invokevirtual 46, 3) := by decide +kernel
theorem d4_6 : decode mt4.2.1 6 = .ok (.aload_n 0, 1) := by decide +kernel
theorem d4_7 : decode mt4.2.1 7 = .ok (.getfield 32, 3) := by decide +kernel
theorem d4_10 : decode mt4.2.1 10 = .ok (.ireturn, 1) := by decide +kernel
noncomputable def pg4_0 : List (Nat × aP) := [(0, oLdA 0 1),
  (1, oPush (.int 10) 3),
  (3, oCalV (fun k => if k = 0 then some 2 else none) 1 6),
  (6, oLdA 0 7),
  (7, oGetI (fun k => k = 0) 3 10),
  (10, oRetI)]
theorem ok4_0 : ∀ q ∈ pg4_0, Sim mT mt4 q.1 q.2 ∧ Grow q.2 :=
  List.forall_mem_cons.mpr ⟨⟨sim_aload_n d4_0 rfl, gr_LdA 0 1⟩,
  List.forall_mem_cons.mpr ⟨⟨sim_bipush d4_1 (by decide), gr_Push (.int 10) 3⟩,
  List.forall_mem_cons.mpr ⟨⟨sim_virtual d4_3 vk3, gr_CalV (fun k => if k = 0 then some 2 else none) 1 6⟩,
  List.forall_mem_cons.mpr ⟨⟨sim_aload_n d4_6 rfl, gr_LdA 0 7⟩,
  List.forall_mem_cons.mpr ⟨⟨sim_getI d4_7 gf3, gr_GetI (fun k => k = 0) 3 10⟩,
  List.forall_mem_cons.mpr ⟨⟨sim_ireturn d4_10 rfl, gr_RetI⟩, fun _ h => absurd h List.not_mem_nil⟩⟩⟩⟩⟩⟩
noncomputable def pg4 : List (Nat × aP) := pg4_0
theorem ok4 : ∀ q ∈ pg4, Sim mT mt4 q.1 q.2 ∧ Grow q.2 := ok4_0
theorem d5_0 : decode mt5.2.1 0 = .ok (.aload_n 0, 1) := by decide +kernel
theorem d5_1 : decode mt5.2.1 1 = .ok (.bipush 11, 2) := by decide +kernel
theorem d5_3 : decode mt5.2.1 3 = .ok (.invokevirtual 46, 3) := by decide +kernel
theorem d5_6 : decode mt5.2.1 6 = .ok (.aload_n 0, 1) := by decide +kernel
theorem d5_7 : decode mt5.2.1 7 = .ok (.invokevirtual 57, 3) := by decide +kernel
theorem d5_10 : decode mt5.2.1 10 = .ok (.istore_n 1, 1) := by decide +kernel
theorem d5_11 : decode mt5.2.1 11 = .ok (.iload_n 1, 1) := by decide +kernel
theorem d5_12 : decode mt5.2.1 12 = .ok (.aload_n 0, 1) := by decide +kernel
theorem d5_13 : decode mt5.2.1 13 = .ok (.invokevirtual 60, 3) := by decide +kernel
theorem d5_16 : decode mt5.2.1 16 = .ok (.iadd, 1) := by decide +kernel
theorem d5_17 : decode mt5.2.1 17 = .ok (.ireturn, 1) := by decide +kernel
noncomputable def pg5_0 : List (Nat × aP) := [(0, oLdA 0 1),
  (1, oPush (.int 11) 3),
  (3, oCalV (fun k => if k = 0 then some 2 else none) 1 6),
  (6, oLdA 0 7),
  (7, oCalV (fun k => if k = 0 then some 4 else none) 0 10),
  (10, oStI 1 11),
  (11, oLdI 1 12),
  (12, oLdA 0 13),
  (13, oCalV (fun k => if k = 0 then some 9 else none) 0 16),
  (16, oII (fun x y => x + y) 17),
  (17, oRetI)]
theorem ok5_0 : ∀ q ∈ pg5_0, Sim mT mt5 q.1 q.2 ∧ Grow q.2 :=
  List.forall_mem_cons.mpr ⟨⟨sim_aload_n d5_0 rfl, gr_LdA 0 1⟩,
  List.forall_mem_cons.mpr ⟨⟨sim_bipush d5_1 (by decide), gr_Push (.int 11) 3⟩,
  List.forall_mem_cons.mpr ⟨⟨sim_virtual d5_3 vk3, gr_CalV (fun k => if k = 0 then some 2 else none) 1 6⟩,
  List.forall_mem_cons.mpr ⟨⟨sim_aload_n d5_6 rfl, gr_LdA 0 7⟩,
  List.forall_mem_cons.mpr ⟨⟨sim_virtual d5_7 vk6, gr_CalV (fun k => if k = 0 then some 4 else none) 0 10⟩,
  List.forall_mem_cons.mpr ⟨⟨sim_istore_n d5_10 rfl (by decide), gr_StI 1 11⟩,
  List.forall_mem_cons.mpr ⟨⟨sim_iload_n d5_11 rfl, gr_LdI 1 12⟩,
  List.forall_mem_cons.mpr ⟨⟨sim_aload_n d5_12 rfl, gr_LdA 0 13⟩,
  List.forall_mem_cons.mpr ⟨⟨sim_virtual d5_13 vk7, gr_CalV (fun k => if k = 0 then some 9 else none) 0 16⟩,
  List.forall_mem_cons.mpr ⟨⟨sim_iadd d5_16, gr_II (fun x y => x + y) 17⟩,
  List.forall_mem_cons.mpr ⟨⟨sim_ireturn d5_17 rfl, gr_RetI⟩, fun _ h => absurd h List.not_mem_nil⟩⟩⟩⟩⟩⟩⟩⟩⟩⟩⟩
noncomputable def pg5 : List (Nat × aP) := pg5_0
theorem ok5 : ∀ q ∈ pg5, Sim mT mt5 q.1 q.2 ∧ Grow q.2 := ok5_0
theorem d6_0 : decode mt6.2.1 0 = .ok (.aload_n 0, 1) := by decide +kernel
theorem d6_1 : decode mt6.2.1 1 = .ok (.bipush 12, 2) := by decide +kernel
theorem d6_3 : decode mt6.2.1 3 = .ok (.invokevirtual 46, 3) := by decide +kernel
theorem d6_6 : decode mt6.2.1 6 = .ok (.iconst 2, 1) := by decide +kernel
theorem d6_7 : decode mt6.2.1 7 = .ok (.aload_n 0, 1) := by decide +kernel
theorem d6_8 : decode mt6.2.1 8 = .ok (.invokevirtual 54, 3) := by decide +kernel
theorem d6_11 : decode mt6.2.1 11 = .ok (.imul, 1) := by decide +kernel
theorem d6_12 : decode mt6.2.1 12 = .ok (.ireturn, 1) := by decide +kernel
noncomputable def pg6_0 : List (Nat × aP) := [(0, oLdA 0 1),
  (1, oPush (.int 12) 3),
  (3, oCalV (fun k => if k = 0 then some 2 else none) 1 6),
  (6, oPush (.int 2) 7),
  (7, oLdA 0 8),
  (8, oCalV (fun k => if k = 0 then some 5 else none) 0 11),
  (11, oII (fun x y => x * y) 12),
  (12, oRetI)]
theorem ok6_0 : ∀ q ∈ pg6_0, Sim mT mt6 q.1 q.2 ∧ Grow q.2 :=
  List.forall_mem_cons.mpr ⟨⟨sim_aload_n d6_0 rfl, gr_LdA 0 1⟩,
  List.forall_mem_cons.mpr ⟨⟨sim_bipush d6_1 (by decide), gr_Push (.int 12) 3⟩,
  List.forall_mem_cons.mpr ⟨⟨sim_virtual d6_3 vk3, gr_CalV (fun k => if k = 0 then some 2 else none) 1 6⟩,
  List.forall_mem_cons.mpr ⟨⟨sim_iconst d6_6 (by decide), gr_Push (.int 2) 7⟩,
  List.forall_mem_cons.mpr ⟨⟨sim_aload_n d6_7 rfl, gr_LdA 0 8⟩,
  List.forall_mem_cons.mpr ⟨⟨sim_virtual d6_8 vk5, gr_CalV (fun k => if k = 0 then some 5 else none) 0 11⟩,
  List.forall_mem_cons.mpr ⟨⟨sim_imul d6_11, gr_II (fun x y => x * y) 12⟩,
  List.forall_mem_cons.mpr ⟨⟨sim_ireturn d6_12 rfl, gr_RetI⟩, fun _ h => absurd h List.not_mem_nil⟩⟩⟩⟩⟩⟩⟩⟩
noncomputable def pg6 : List (Nat × aP) := pg6_0
theorem ok6 : ∀ q ∈ pg6, Sim mT mt6 q.1 q.2 ∧ Grow q.2 := ok6_0
theorem d7_0 : decode mt7.2.1 0 = .ok (.aload_n 0, 1) := by decide +kernel
theorem d7_1 : decode mt7.2.1 1 = .ok (.getfield 35, 3) := by decide +kernel
theorem d7_4 : decode mt7.2.1 4 = .ok (.ifCond .le 7, 3) := by decide +kernel
theorem d7_7 : decode mt7.2.1 7 = .ok (.iconst 1, 1) := by decide +kernel
theorem d7_8 : decode mt7.2.1 8 = .ok (.goto 4, 3) := by decide +kernel
theorem d7_11 : decode mt7.2.1 11 = .ok (.iconst 0, 1) := by decide +kernel
theorem d7_12 : decode mt7.2.1 12 = .ok (.ireturn, 1) := by decide +kernel
noncomputable def pg7_0 : List (Nat × aP) := [(0, oLdA 0 1),
  (1, oGetI (fun k => k = 3) 2 4),
  (4, oIf (fun x => x ≤ 0) 11 7),
  (7, oPush (.int 1) 8),
  (8, oGo 12),
  (11, oPush (.int 0) 12),
  (12, oRetN .boolean)]
theorem ok7_0 : ∀ q ∈ pg7_0, Sim mT mt7 q.1 q.2 ∧ Grow q.2 :=
  List.forall_mem_cons.mpr ⟨⟨sim_aload_n d7_0 rfl, gr_LdA 0 1⟩,
  List.forall_mem_cons.mpr ⟨⟨sim_getI d7_1 gf7, gr_GetI (fun k => k = 3) 2 4⟩,
  List.forall_mem_cons.mpr ⟨⟨sim_if_le d7_4 (by decide), gr_If (fun x => x ≤ 0) 11 7⟩,
  List.forall_mem_cons.mpr ⟨⟨sim_iconst d7_7 (by decide), gr_Push (.int 1) 8⟩,
  List.forall_mem_cons.mpr ⟨⟨sim_goto d7_8 (by decide), gr_Go 12⟩,
  List.forall_mem_cons.mpr ⟨⟨sim_iconst d7_11 (by decide), gr_Push (.int 0) 12⟩,
  List.forall_mem_cons.mpr ⟨⟨sim_nreturn d7_12 rfl (fun _ h => congrArg Value.int h), gr_RetN .boolean⟩, fun _ h => absurd h List.not_mem_nil⟩⟩⟩⟩⟩⟩⟩
noncomputable def pg7 : List (Nat × aP) := pg7_0
theorem ok7 : ∀ q ∈ pg7, Sim mT mt7 q.1 q.2 ∧ Grow q.2 := ok7_0
theorem d8_0 : decode mt8.2.1 0 = .ok (.aload_n 0, 1) := by decide +kernel
theorem d8_1 : decode mt8.2.1 1 = .ok (.getfield 35, 3) := by decide +kernel
theorem d8_4 : decode mt8.2.1 4 = .ok (.ifCond .le 7, 3) := by decide +kernel
theorem d8_7 : decode mt8.2.1 7 = .ok (.iconst 1, 1) := by decide +kernel
theorem d8_8 : decode mt8.2.1 8 = .ok (.goto 4, 3) := by decide +kernel
theorem d8_11 : decode mt8.2.1 11 = .ok (.iconst 0, 1) := by decide +kernel
theorem d8_12 : decode mt8.2.1 12 = .ok (.ireturn, 1) := by decide +kernel
noncomputable def pg8_0 : List (Nat × aP) := [(0, oLdA 0 1),
  (1, oGetI (fun k => k = 3) 2 4),
  (4, oIf (fun x => x ≤ 0) 11 7),
  (7, oPush (.int 1) 8),
  (8, oGo 12),
  (11, oPush (.int 0) 12),
  (12, oRetN .boolean)]
theorem ok8_0 : ∀ q ∈ pg8_0, Sim mT mt8 q.1 q.2 ∧ Grow q.2 :=
  List.forall_mem_cons.mpr ⟨⟨sim_aload_n d8_0 rfl, gr_LdA 0 1⟩,
  List.forall_mem_cons.mpr ⟨⟨sim_getI d8_1 gf7, gr_GetI (fun k => k = 3) 2 4⟩,
  List.forall_mem_cons.mpr ⟨⟨sim_if_le d8_4 (by decide), gr_If (fun x => x ≤ 0) 11 7⟩,
  List.forall_mem_cons.mpr ⟨⟨sim_iconst d8_7 (by decide), gr_Push (.int 1) 8⟩,
  List.forall_mem_cons.mpr ⟨⟨sim_goto d8_8 (by decide), gr_Go 12⟩,
  List.forall_mem_cons.mpr ⟨⟨sim_iconst d8_11 (by decide), gr_Push (.int 0) 12⟩,
  List.forall_mem_cons.mpr ⟨⟨sim_nreturn d8_12 rfl (fun _ h => congrArg Value.int h), gr_RetN .boolean⟩, fun _ h => absurd h List.not_mem_nil⟩⟩⟩⟩⟩⟩⟩
noncomputable def pg8 : List (Nat × aP) := pg8_0
theorem ok8 : ∀ q ∈ pg8, Sim mT mt8 q.1 q.2 ∧ Grow q.2 := ok8_0
theorem d9_0 : decode mt9.2.1 0 = .ok (.aload_n 0, 1) := by decide +kernel
theorem d9_1 : decode mt9.2.1 1 = .ok (.getfield 38, 3) := by decide +kernel
theorem d9_4 : decode mt9.2.1 4 = .ok (.tableswitch 85 2 5 #[63, 32, 51, 32], 32) := by decide +kernel
theorem d9_36 : decode mt9.2.1 36 = .ok (.aload_n 0, 1) := by decide +kernel
theorem d9_37 : decode mt9.2.1 37 = .ok (.bipush 22, 2) := by decide +kernel
theorem d9_39 : decode mt9.2.1 39 = .ok (.invokevirtual 46, 3) := by decide +kernel
theorem d9_42 : decode mt9.2.1 42 = .ok (.aload_n 0, 1) := by decide +kernel
theorem d9_43 : decode mt9.2.1 43 = .ok (.invokevirtual 63, 3) := by decide +kernel
theorem d9_46 : decode mt9.2.1 46 = .ok (.bipush 100, 2) := by decide +kernel
theorem d9_48 : decode mt9.2.1 48 = .ok (.aload_n 0, 1) := by decide +kernel
theorem d9_49 : decode mt9.2.1 49 = .ok (.getfield 44, 3) := by decide +kernel
theorem d9_52 : decode mt9.2.1 52 = .ok (.imul, 1) := by decide +kernel
theorem d9_53 : decode mt9.2.1 53 = .ok (.iadd, 1) := by decide +kernel
theorem d9_54 : decode mt9.2.1 54 = .ok (.ireturn, 1) := by decide +kernel
theorem d9_55 : decode mt9.2.1 55 = .ok (.aload_n 0, 1) := by decide +kernel
theorem d9_56 : decode mt9.2.1 56 = .ok (.bipush 23, 2) := by decide +kernel
theorem d9_58 : decode mt9.2.1 58 = .ok (.invokevirtual 46, 3) := by decide +kernel
theorem d9_61 : decode mt9.2.1 61 = .ok (.aload_n 0, 1) := by decide +kernel
theorem d9_62 : decode mt9.2.1 62 = .ok (.invokevirtual 63, 3) := by decide +kernel
theorem d9_65 : decode mt9.2.1 65 = .ok (.ineg, 1) := by decide +kernel
theorem d9_66 : decode mt9.2.1 66 = .ok (.ireturn, 1) := by decide +kernel
theorem d9_67 : decode mt9.2.1 67 = .ok (.aload_n 0, 1) := by decide +kernel
theorem d9_68 : decode mt9.2.1 68 = .ok (.bipush 21, 2) := by decide +kernel
theorem d9_70 : decode mt9.2.1 70 = .ok (.invokevirtual 46, 3) := by decide +kernel
theorem d9_73 : decode mt9.2.1 73 = .ok (.aload_n 0, 1) := by decide +kernel
theorem d9_74 : decode mt9.2.1 74 = .ok (.invokevirtual 63, 3) := by decide +kernel
theorem d9_77 : decode mt9.2.1 77 = .ok (.istore_n 1, 1) := by decide +kernel
theorem d9_78 : decode mt9.2.1 78 = .ok (.iload_n 1, 1) := by decide +kernel
theorem d9_79 : decode mt9.2.1 79 = .ok (.aload_n 0, 1) := by decide +kernel
theorem d9_80 : decode mt9.2.1 80 = .ok (.invokevirtual 57, 3) := by decide +kernel
theorem d9_83 : decode mt9.2.1 83 = .ok (.isub, 1) := by decide +kernel
theorem d9_84 : decode mt9.2.1 84 = .ok (.sipush 500, 3) := by decide +kernel
theorem d9_87 : decode mt9.2.1 87 = .ok (.isub, 1) := by decide +kernel
theorem d9_88 : decode mt9.2.1 88 = .ok (.ireturn, 1) := by decide +kernel
theorem d9_89 : decode mt9.2.1 89 = .ok (.aload_n 0, 1) := by decide +kernel
theorem d9_90 : decode mt9.2.1 90 = .ok (.invokevirtual 63, 3) := by decide +kernel
theorem d9_93 : decode mt9.2.1 93 = .ok (.ireturn, 1) := by decide +kernel
noncomputable def pg9_0 : List (Nat × aP) := [(0, oLdA 0 1),
  (1, oGetI (fun k => k = 0) 4 4),
  (4, oSw 2 5 [67, 36, 55, 36] 89),
  (36, oLdA 0 37),
  (37, oPush (.int 22) 39),
  (39, oCalV (fun k => if k = 0 then some 2 else none) 1 42),
  (42, oLdA 0 43),
  (43, oCalV (fun k => if k = 0 then some 10 else none) 0 46),
  (46, oPush (.int 100) 48),
  (48, oLdA 0 49),
  (49, oGetI (fun k => k = 0) 5 52),
  (52, oII (fun x y => x * y) 53),
  (53, oII (fun x y => x + y) 54),
  (54, oRetI),
  (55, oLdA 0 56),
  (56, oPush (.int 23) 58),
  (58, oCalV (fun k => if k = 0 then some 2 else none) 1 61),
  (61, oLdA 0 62),
  (62, oCalV (fun k => if k = 0 then some 10 else none) 0 65),
  (65, oI (fun x => -x) 66),
  (66, oRetI),
  (67, oLdA 0 68),
  (68, oPush (.int 21) 70),
  (70, oCalV (fun k => if k = 0 then some 2 else none) 1 73),
  (73, oLdA 0 74),
  (74, oCalV (fun k => if k = 0 then some 10 else none) 0 77),
  (77, oStI 1 78),
  (78, oLdI 1 79),
  (79, oLdA 0 80),
  (80, oCalV (fun k => if k = 0 then some 4 else none) 0 83),
  (83, oII (fun x y => x - y) 84),
  (84, oPush (.int 500) 87),
  (87, oII (fun x y => x - y) 88),
  (88, oRetI),
  (89, oLdA 0 90),
  (90, oCalV (fun k => if k = 0 then some 10 else none) 0 93),
  (93, oRetI)]
theorem ok9_0 : ∀ q ∈ pg9_0, Sim mT mt9 q.1 q.2 ∧ Grow q.2 :=
  List.forall_mem_cons.mpr ⟨⟨sim_aload_n d9_0 rfl, gr_LdA 0 1⟩,
  List.forall_mem_cons.mpr ⟨⟨sim_getI d9_1 gf4, gr_GetI (fun k => k = 0) 4 4⟩,
  List.forall_mem_cons.mpr ⟨⟨sim_tsw d9_4 (by decide) (tsw_ok (by decide +kernel)), gr_Sw 2 5 [67, 36, 55, 36] 89⟩,
  List.forall_mem_cons.mpr ⟨⟨sim_aload_n d9_36 rfl, gr_LdA 0 37⟩,
  List.forall_mem_cons.mpr ⟨⟨sim_bipush d9_37 (by decide), gr_Push (.int 22) 39⟩,
  List.forall_mem_cons.mpr ⟨⟨sim_virtual d9_39 vk3, gr_CalV (fun k => if k = 0 then some 2 else none) 1 42⟩,
  List.forall_mem_cons.mpr ⟨⟨sim_aload_n d9_42 rfl, gr_LdA 0 43⟩,
  List.forall_mem_cons.mpr ⟨⟨sim_virtual d9_43 vk8, gr_CalV (fun k => if k = 0 then some 10 else none) 0 46⟩,
  List.forall_mem_cons.mpr ⟨⟨sim_bipush d9_46 (by decide), gr_Push (.int 100) 48⟩,
  List.forall_mem_cons.mpr ⟨⟨sim_aload_n d9_48 rfl, gr_LdA 0 49⟩,
  List.forall_mem_cons.mpr ⟨⟨sim_getI d9_49 gf5, gr_GetI (fun k => k = 0) 5 52⟩,
  List.forall_mem_cons.mpr ⟨⟨sim_imul d9_52, gr_II (fun x y => x * y) 53⟩,
  List.forall_mem_cons.mpr ⟨⟨sim_iadd d9_53, gr_II (fun x y => x + y) 54⟩,
  List.forall_mem_cons.mpr ⟨⟨sim_ireturn d9_54 rfl, gr_RetI⟩,
  List.forall_mem_cons.mpr ⟨⟨sim_aload_n d9_55 rfl, gr_LdA 0 56⟩,
  List.forall_mem_cons.mpr ⟨⟨sim_bipush d9_56 (by decide), gr_Push (.int 23) 58⟩,
  List.forall_mem_cons.mpr ⟨⟨sim_virtual d9_58 vk3, gr_CalV (fun k => if k = 0 then some 2 else none) 1 61⟩,
  List.forall_mem_cons.mpr ⟨⟨sim_aload_n d9_61 rfl, gr_LdA 0 62⟩,
  List.forall_mem_cons.mpr ⟨⟨sim_virtual d9_62 vk8, gr_CalV (fun k => if k = 0 then some 10 else none) 0 65⟩,
  List.forall_mem_cons.mpr ⟨⟨sim_ineg d9_65, gr_I (fun x => -x) 66⟩,
  List.forall_mem_cons.mpr ⟨⟨sim_ireturn d9_66 rfl, gr_RetI⟩,
  List.forall_mem_cons.mpr ⟨⟨sim_aload_n d9_67 rfl, gr_LdA 0 68⟩,
  List.forall_mem_cons.mpr ⟨⟨sim_bipush d9_68 (by decide), gr_Push (.int 21) 70⟩,
  List.forall_mem_cons.mpr ⟨⟨sim_virtual d9_70 vk3, gr_CalV (fun k => if k = 0 then some 2 else none) 1 73⟩,
  List.forall_mem_cons.mpr ⟨⟨sim_aload_n d9_73 rfl, gr_LdA 0 74⟩,
  List.forall_mem_cons.mpr ⟨⟨sim_virtual d9_74 vk8, gr_CalV (fun k => if k = 0 then some 10 else none) 0 77⟩,
  List.forall_mem_cons.mpr ⟨⟨sim_istore_n d9_77 rfl (by decide), gr_StI 1 78⟩,
  List.forall_mem_cons.mpr ⟨⟨sim_iload_n d9_78 rfl, gr_LdI 1 79⟩,
  List.forall_mem_cons.mpr ⟨⟨sim_aload_n d9_79 rfl, gr_LdA 0 80⟩,
  List.forall_mem_cons.mpr ⟨⟨sim_virtual d9_80 vk6, gr_CalV (fun k => if k = 0 then some 4 else none) 0 83⟩,
  List.forall_mem_cons.mpr ⟨⟨sim_isub d9_83, gr_II (fun x y => x - y) 84⟩,
  List.forall_mem_cons.mpr ⟨⟨sim_sipush d9_84 (by decide), gr_Push (.int 500) 87⟩,
  List.forall_mem_cons.mpr ⟨⟨sim_isub d9_87, gr_II (fun x y => x - y) 88⟩,
  List.forall_mem_cons.mpr ⟨⟨sim_ireturn d9_88 rfl, gr_RetI⟩,
  List.forall_mem_cons.mpr ⟨⟨sim_aload_n d9_89 rfl, gr_LdA 0 90⟩,
  List.forall_mem_cons.mpr ⟨⟨sim_virtual d9_90 vk8, gr_CalV (fun k => if k = 0 then some 10 else none) 0 93⟩,
  List.forall_mem_cons.mpr ⟨⟨sim_ireturn d9_93 rfl, gr_RetI⟩, fun _ h => absurd h List.not_mem_nil⟩⟩⟩⟩⟩⟩⟩⟩⟩⟩⟩⟩⟩⟩⟩⟩⟩⟩⟩⟩⟩⟩⟩⟩⟩⟩⟩⟩⟩⟩⟩⟩⟩⟩⟩⟩⟩
noncomputable def pg9 : List (Nat × aP) := pg9_0
theorem ok9 : ∀ q ∈ pg9, Sim mT mt9 q.1 q.2 ∧ Grow q.2 := ok9_0
theorem d10_0 : decode mt10.2.1 0 = .ok (.aload_n 0, 1) := by decide +kernel
theorem d10_1 : decode mt10.2.1 1 = .ok (.bipush 20, 2) := by decide +kernel
theorem d10_3 : decode mt10.2.1 3 = .ok (.invokevirtual 46, 3) := by decide +kernel
theorem d10_6 : decode mt10.2.1 6 = .ok (.aload_n 0, 1) := by decide +kernel
theorem d10_7 : decode mt10.2.1 7 = .ok (.getfield 23, 3) := by decide +kernel
theorem d10_10 : decode mt10.2.1 10 = .ok (.ireturn, 1) := by decide +kernel
noncomputable def pg10_0 : List (Nat × aP) := [(0, oLdA 0 1),
  (1, oPush (.int 20) 3),
  (3, oCalV (fun k => if k = 0 then some 2 else none) 1 6),
  (6, oLdA 0 7),
  (7, oGetI (fun k => k = 0) 2 10),
  (10, oRetI)]
theorem ok10_0 : ∀ q ∈ pg10_0, Sim mT mt10 q.1 q.2 ∧ Grow q.2 :=
  List.forall_mem_cons.mpr ⟨⟨sim_aload_n d10_0 rfl, gr_LdA 0 1⟩,
  List.forall_mem_cons.mpr ⟨⟨sim_bipush d10_1 (by decide), gr_Push (.int 20) 3⟩,
  List.forall_mem_cons.mpr ⟨⟨sim_virtual d10_3 vk3, gr_CalV (fun k => if k = 0 then some 2 else none) 1 6⟩,
  List.forall_mem_cons.mpr ⟨⟨sim_aload_n d10_6 rfl, gr_LdA 0 7⟩,
  List.forall_mem_cons.mpr ⟨⟨sim_getI d10_7 gf2, gr_GetI (fun k => k = 0) 2 10⟩,
  List.forall_mem_cons.mpr ⟨⟨sim_ireturn d10_10 rfl, gr_RetI⟩, fun _ h => absurd h List.not_mem_nil⟩⟩⟩⟩⟩⟩
noncomputable def pg10 : List (Nat × aP) := pg10_0
theorem ok10 : ∀ q ∈ pg10, Sim mT mt10 q.1 q.2 ∧ Grow q.2 := ok10_0
theorem d11_0 : decode mt11.2.1 0 = .ok (.aload_n 0, 1) := by decide +kernel
theorem d11_1 : decode mt11.2.1 1 = .ok (.getfield 35, 3) := by decide +kernel
theorem d11_4 : decode mt11.2.1 4 = .ok (.ifCond .le 7, 3) := by decide +kernel
theorem d11_7 : decode mt11.2.1 7 = .ok (.iconst 1, 1) := by decide +kernel
theorem d11_8 : decode mt11.2.1 8 = .ok (.goto 4, 3) := by decide +kernel
theorem d11_11 : decode mt11.2.1 11 = .ok (.iconst 0, 1) := by decide +kernel
theorem d11_12 : decode mt11.2.1 12 = .ok (.ireturn, 1) := by decide +kernel
noncomputable def pg11_0 : List (Nat × aP) := [(0, oLdA 0 1),
  (1, oGetI (fun k => k = 3) 2 4),
  (4, oIf (fun x => x ≤ 0) 11 7),
  (7, oPush (.int 1) 8),
  (8, oGo 12),
  (11, oPush (.int 0) 12),
  (12, oRetN .boolean)]
theorem ok11_0 : ∀ q ∈ pg11_0, Sim mT mt11 q.1 q.2 ∧ Grow q.2 :=
  List.forall_mem_cons.mpr ⟨⟨sim_aload_n d11_0 rfl, gr_LdA 0 1⟩,
  List.forall_mem_cons.mpr ⟨⟨sim_getI d11_1 gf7, gr_GetI (fun k => k = 3) 2 4⟩,
  List.forall_mem_cons.mpr ⟨⟨sim_if_le d11_4 (by decide), gr_If (fun x => x ≤ 0) 11 7⟩,
  List.forall_mem_cons.mpr ⟨⟨sim_iconst d11_7 (by decide), gr_Push (.int 1) 8⟩,
  List.forall_mem_cons.mpr ⟨⟨sim_goto d11_8 (by decide), gr_Go 12⟩,
  List.forall_mem_cons.mpr ⟨⟨sim_iconst d11_11 (by decide), gr_Push (.int 0) 12⟩,
  List.forall_mem_cons.mpr ⟨⟨sim_nreturn d11_12 rfl (fun _ h => congrArg Value.int h), gr_RetN .boolean⟩, fun _ h => absurd h List.not_mem_nil⟩⟩⟩⟩⟩⟩⟩
noncomputable def pg11 : List (Nat × aP) := pg11_0
theorem ok11 : ∀ q ∈ pg11, Sim mT mt11 q.1 q.2 ∧ Grow q.2 := ok11_0
theorem d12_0 : decode mt12.2.1 0 = .ok (.aload_n 0, 1) := by decide +kernel
theorem d12_1 : decode mt12.2.1 1 = .ok (.invokespecial 3, 3) := by decide +kernel
theorem d12_4 : decode mt12.2.1 4 = .ok (.aload_n 0, 1) := by decide +kernel
theorem d12_5 : decode mt12.2.1 5 = .ok (.sipush 832, 3) := by decide +kernel
theorem d12_8 : decode mt12.2.1 8 = .ok (.newarray .int, 2) := by decide +kernel
theorem d12_10 : decode mt12.2.1 10 = .ok (.putfield 9, 3) := by decide +kernel
theorem d12_13 : decode mt12.2.1 13 = .ok (.aload_n 0, 1) := by decide +kernel
theorem d12_14 : decode mt12.2.1 14 = .ok (.sipush 832, 3) := by decide +kernel
theorem d12_17 : decode mt12.2.1 17 = .ok (.newarray .int, 2) := by decide +kernel
theorem d12_19 : decode mt12.2.1 19 = .ok (.putfield 15, 3) := by decide +kernel
theorem d12_22 : decode mt12.2.1 22 = .ok (.aload_n 0, 1) := by decide +kernel
theorem d12_23 : decode mt12.2.1 23 = .ok (.sipush 832, 3) := by decide +kernel
theorem d12_26 : decode mt12.2.1 26 = .ok (.newarray .long, 2) := by decide +kernel
theorem d12_28 : decode mt12.2.1 28 = .ok (.putfield 18, 3) := by decide +kernel
theorem d12_31 : decode mt12.2.1 31 = .ok (.return_, 1) := by decide +kernel
noncomputable def pg12_0 : List (Nat × aP) := [(0, oLdA 0 1),
  (1, oCalV (fun ci => if ci < 100 then some 77 else none) 0 4),
  (4, oLdA 0 5),
  (5, oPush (.int 832) 8),
  (8, oNewA (100 + 0) 10),
  (10, oPutF (fun k => k = 1) 3 13),
  (13, oLdA 0 14),
  (14, oPush (.int 832) 17),
  (17, oNewA (100 + 0) 19),
  (19, oPutF (fun k => k = 1) 4 22),
  (22, oLdA 0 23),
  (23, oPush (.int 832) 26),
  (26, oNewA (100 + 3) 28),
  (28, oPutF (fun k => k = 1) 5 31),
  (31, oRetV)]
theorem ok12_0 : ∀ q ∈ pg12_0, Sim mT mt12 q.1 q.2 ∧ Grow q.2 :=
  List.forall_mem_cons.mpr ⟨⟨sim_aload_n d12_0 rfl, gr_LdA 0 1⟩,
  List.forall_mem_cons.mpr ⟨⟨sim_special (y := 77) d12_1 (Or.inr ⟨_, kn175⟩) kw176 rfl rfl mo77, gr_CalV (fun ci => if ci < 100 then some 77 else none) 0 4⟩,
  List.forall_mem_cons.mpr ⟨⟨sim_aload_n d12_4 rfl, gr_LdA 0 5⟩,
  List.forall_mem_cons.mpr ⟨⟨sim_sipush d12_5 (by decide), gr_Push (.int 832) 8⟩,
  List.forall_mem_cons.mpr ⟨⟨sim_newarray (t := 0) d12_8 kw130 (Or.inl ⟨rfl, rfl⟩), gr_NewA (100 + 0) 10⟩,
  List.forall_mem_cons.mpr ⟨⟨sim_putF d12_10 gf8f rfl, gr_PutF (fun k => k = 1) 3 13⟩,
  List.forall_mem_cons.mpr ⟨⟨sim_aload_n d12_13 rfl, gr_LdA 0 14⟩,
  List.forall_mem_cons.mpr ⟨⟨sim_sipush d12_14 (by decide), gr_Push (.int 832) 17⟩,
  List.forall_mem_cons.mpr ⟨⟨sim_newarray (t := 0) d12_17 kw130 (Or.inl ⟨rfl, rfl⟩), gr_NewA (100 + 0) 19⟩,
  List.forall_mem_cons.mpr ⟨⟨sim_putF d12_19 gf9f rfl, gr_PutF (fun k => k = 1) 4 22⟩,
  List.forall_mem_cons.mpr ⟨⟨sim_aload_n d12_22 rfl, gr_LdA 0 23⟩,
  List.forall_mem_cons.mpr ⟨⟨sim_sipush d12_23 (by decide), gr_Push (.int 832) 26⟩,
  List.forall_mem_cons.mpr ⟨⟨sim_newarray (t := 3) d12_26 kw129 (Or.inr (Or.inr (Or.inr ⟨rfl, rfl⟩))), gr_NewA (100 + 3) 28⟩,
  List.forall_mem_cons.mpr ⟨⟨sim_putF d12_28 gf10f rfl, gr_PutF (fun k => k = 1) 5 31⟩,
  List.forall_mem_cons.mpr ⟨⟨sim_return d12_31 rfl, gr_RetV⟩, fun _ h => absurd h List.not_mem_nil⟩⟩⟩⟩⟩⟩⟩⟩⟩⟩⟩⟩⟩⟩⟩
noncomputable def pg12 : List (Nat × aP) := pg12_0
theorem ok12 : ∀ q ∈ pg12, Sim mT mt12 q.1 q.2 ∧ Grow q.2 := ok12_0
theorem d13_0 : decode mt13.2.1 0 = .ok (.aload_n 0, 1) := by decide +kernel
theorem d13_1 : decode mt13.2.1 1 = .ok (.lconst 0, 1) := by decide +kernel
theorem d13_2 : decode mt13.2.1 2 = .ok (.putfield 22, 3) := by decide +kernel
theorem d13_5 : decode mt13.2.1 5 = .ok (.return_, 1) := by decide +kernel
noncomputable def pg13_0 : List (Nat × aP) := [(0, oLdA 0 1),
  (1, oPush (.long 0) 2),
  (2, oPutL (fun k => k = 1) 6 5),
  (5, oRetV)]
theorem ok13_0 : ∀ q ∈ pg13_0, Sim mT mt13 q.1 q.2 ∧ Grow q.2 :=
  List.forall_mem_cons.mpr ⟨⟨sim_aload_n d13_0 rfl, gr_LdA 0 1⟩,
  List.forall_mem_cons.mpr ⟨⟨sim_lconst d13_1 (by decide), gr_Push (.long 0) 2⟩,
  List.forall_mem_cons.mpr ⟨⟨sim_putL d13_2 gf11, gr_PutL (fun k => k = 1) 6 5⟩,
  List.forall_mem_cons.mpr ⟨⟨sim_return d13_5 rfl, gr_RetV⟩, fun _ h => absurd h List.not_mem_nil⟩⟩⟩⟩
noncomputable def pg13 : List (Nat × aP) := pg13_0
theorem ok13 : ∀ q ∈ pg13, Sim mT mt13 q.1 q.2 ∧ Grow q.2 := ok13_0
theorem d14_0 : decode mt14.2.1 0 = .ok (.aload_n 0, 1) := by decide +kernel
theorem d14_1 : decode mt14.2.1 1 = .ok (.getfield 22, 3) := by decide +kernel
theorem d14_4 : decode mt14.2.1 4 = .ok (.iload_n 2, 1) := by decide +kernel
theorem d14_5 : decode mt14.2.1 5 = .ok (.invokestatic 26, 3) := by decide +kernel
theorem d14_8 : decode mt14.2.1 8 = .ok (.ifCond .eq 4, 3) := by decide +kernel
theorem d14_11 : decode mt14.2.1 11 = .ok (.return_, 1) := by decide +kernel
theorem d14_12 : decode mt14.2.1 12 = .ok (.aload_n 0, 1) := by decide +kernel
theorem d14_13 : decode mt14.2.1 13 = .ok (.iload_n 2, 1) := by decide +kernel
theorem d14_14 : decode mt14.2.1 14 = .ok (.bipush 13, 2) := by decide +kernel
theorem d14_16 : decode mt14.2.1 16 = .ok (.imul, 1) := by decide +kernel
theorem d14_17 : decode mt14.2.1 17 = .ok (.putfield 30, 3) := by decide +kernel
theorem d14_20 : decode mt14.2.1 20 = .ok (.iconst 0, 1) := by decide +kernel
theorem d14_21 : decode mt14.2.1 21 = .ok (.istore_n 3, 1) := by decide +kernel
theorem d14_22 : decode mt14.2.1 22 = .ok (.iload_n 3, 1) := by decide +kernel
theorem d14_23 : decode mt14.2.1 23 = .ok (.bipush 13, 2) := by decide +kernel
theorem d14_25 : decode mt14.2.1 25 = .ok (.if_icmp .ge 34, 3) := by decide +kernel
theorem d14_28 : decode mt14.2.1 28 = .ok (.aload_n 0, 1) := by decide +kernel
theorem d14_29 : decode mt14.2.1 29 = .ok (.getfield 9, 3) := by decide +kernel
theorem d14_32 : decode mt14.2.1 32 = .ok (.aload_n 0, 1) := by decide +kernel
theorem d14_33 : decode mt14.2.1 33 = .ok (.getfield 30, 3) := by decide +kernel
theorem d14_36 : decode mt14.2.1 36 = .ok (.iload_n 3, 1) := by decide +kernel
theorem d14_37 : decode mt14.2.1 37 = .ok (.iadd, 1) := by decide +kernel
theorem d14_38 : decode mt14.2.1 38 = .ok (.ldc 34, 2) := by decide +kernel
theorem d14_40 : decode mt14.2.1 40 = .ok (.iastore, 1) := by decide +kernel
theorem d14_41 : decode mt14.2.1 41 = .ok (.aload_n 0, 1) := by decide +kernel
theorem d14_42 : decode mt14.2.1 42 = .ok (.getfield 15, 3) := by decide +kernel
theorem d14_45 : decode mt14.2.1 45 = .ok (.aload_n 0, 1) := by decide +kernel
theorem d14_46 : decode mt14.2.1 46 = .ok (.getfield 30, 3) := by decide +kernel
theorem d14_49 : decode mt14.2.1 49 = .ok (.iload_n 3, 1) := by decide +kernel
theorem d14_50 : decode mt14.2.1 50 = .ok (.iadd, 1) := by decide +kernel
theorem d14_51 : decode mt14.2.1 51 = .ok (.iconst 0, 1) := by decide +kernel
theorem d14_52 : decode mt14.2.1 52 = .ok (.iastore, 1) := by decide +kernel
theorem d14_53 : decode mt14.2.1 53 = .ok (.iinc 3 1, 3) := by decide +kernel
theorem d14_56 : decode mt14.2.1 56 = .ok (.goto (-34), 3) := by decide +kernel
theorem d14_59 : decode mt14.2.1 59 = .ok (.aload_n 0, 1) := by decide +kernel
theorem d14_60 : decode mt14.2.1 60 = .ok (.aload_n 1, 1) := by decide +kernel
theorem d14_61 : decode mt14.2.1 61 = .ok (.iload_n 2, 1) := by decide +kernel
theorem d14_62 : decode mt14.2.1 62 = .ok (.bipush 12, 2) := by decide +kernel
theorem d14_64 : decode mt14.2.1 64 = .ok (.invokevirtual 35, 3) := by decide +kernel
theorem d14_67 : decode mt14.2.1 67 = .ok (.aload_n 0, 1) := by decide +kernel
theorem d14_68 : decode mt14.2.1 68 = .ok (.dup, 1) := by decide +kernel
theorem d14_69 : decode mt14.2.1 69 = .ok (.getfield 22, 3) := by decide +kernel
theorem d14_72 : decode mt14.2.1 72 = .ok (.lconst 1, 1) := by decide +kernel
theorem d14_73 : decode mt14.2.1 73 = .ok (.iload_n 2, 1) := by decide +kernel
theorem d14_74 : decode mt14.2.1 74 = .ok (.lshl, 1) := by decide +kernel
theorem d14_75 : decode mt14.2.1 75 = .ok (.lor, 1) := by decide +kernel
theorem d14_76 : decode mt14.2.1 76 = .ok (.putfield 22, 3) := by decide +kernel
theorem d14_79 : decode mt14.2.1 79 = .ok (.return_, 1) := by decide +kernel
noncomputable def pg14_0 : List (Nat × aP) := [(0, oLdA 0 1),
  (1, oGetL (fun k => k = 1) 6 4),
  (4, oLdI 2 5),
  (5, oCall 122 2 8),
  (8, oIf (fun x => x = 0) 12 11),
  (11, oRetV),
  (12, oLdA 0 13),
  (13, oLdI 2 14),
  (14, oPush (.int 13) 16),
  (16, oII (fun x y => x * y) 17),
  (17, oPutI (fun k => k = 1) 7 20),
  (20, oPush (.int 0) 21),
  (21, oStI 3 22),
  (22, oLdI 3 23),
  (23, oPush (.int 13) 25),
  (25, oIc (fun x y => y ≤ x) 59 28),
  (28, oLdA 0 29),
  (29, oGetF (fun k => k = 1) 3 32),
  (32, oLdA 0 33),
  (33, oGetI (fun k => k = 1) 7 36),
  (36, oLdI 3 37),
  (37, oII (fun x y => x + y) 38),
  (38, oPush (.int (-1000000)) 40),
  (40, oAStI 41),
  (41, oLdA 0 42),
  (42, oGetF (fun k => k = 1) 4 45),
  (45, oLdA 0 46),
  (46, oGetI (fun k => k = 1) 7 49),
  (49, oLdI 3 50),
  (50, oII (fun x y => x + y) 51),
  (51, oPush (.int 0) 52),
  (52, oAStI 53),
  (53, oInc 3 1 56),
  (56, oGo 22),
  (59, oLdA 0 60),
  (60, oLdA 1 61),
  (61, oLdI 2 62),
  (62, oPush (.int 12) 64),
  (64, oCalV (fun k => if k = 1 then some 78 else none) 3 67),
  (67, oLdA 0 68)]
theorem ok14_0 : ∀ q ∈ pg14_0, Sim mT mt14 q.1 q.2 ∧ Grow q.2 :=
  List.forall_mem_cons.mpr ⟨⟨sim_aload_n d14_0 rfl, gr_LdA 0 1⟩,
  List.forall_mem_cons.mpr ⟨⟨sim_getL d14_1 gf11, gr_GetL (fun k => k = 1) 6 4⟩,
  List.forall_mem_cons.mpr ⟨⟨sim_iload_n d14_4 rfl, gr_LdI 2 5⟩,
  List.forall_mem_cons.mpr ⟨⟨sim_static (y := 122) d14_5 (Or.inr ⟨_, kn686⟩) kw534 mo122, gr_Call 122 2 8⟩,
  List.forall_mem_cons.mpr ⟨⟨sim_if_eq d14_8 (by decide), gr_If (fun x => x = 0) 12 11⟩,
  List.forall_mem_cons.mpr ⟨⟨sim_return d14_11 rfl, gr_RetV⟩,
  List.forall_mem_cons.mpr ⟨⟨sim_aload_n d14_12 rfl, gr_LdA 0 13⟩,
  List.forall_mem_cons.mpr ⟨⟨sim_iload_n d14_13 rfl, gr_LdI 2 14⟩,
  List.forall_mem_cons.mpr ⟨⟨sim_bipush d14_14 (by decide), gr_Push (.int 13) 16⟩,
  List.forall_mem_cons.mpr ⟨⟨sim_imul d14_16, gr_II (fun x y => x * y) 17⟩,
  List.forall_mem_cons.mpr ⟨⟨sim_putI d14_17 gf12w, gr_PutI (fun k => k = 1) 7 20⟩,
  List.forall_mem_cons.mpr ⟨⟨sim_iconst d14_20 (by decide), gr_Push (.int 0) 21⟩,
  List.forall_mem_cons.mpr ⟨⟨sim_istore_n d14_21 rfl (by decide), gr_StI 3 22⟩,
  List.forall_mem_cons.mpr ⟨⟨sim_iload_n d14_22 rfl, gr_LdI 3 23⟩,
  List.forall_mem_cons.mpr ⟨⟨sim_bipush d14_23 (by decide), gr_Push (.int 13) 25⟩,
  List.forall_mem_cons.mpr ⟨⟨sim_icmp_ge d14_25 (by decide), gr_Ic (fun x y => y ≤ x) 59 28⟩,
  List.forall_mem_cons.mpr ⟨⟨sim_aload_n d14_28 rfl, gr_LdA 0 29⟩,
  List.forall_mem_cons.mpr ⟨⟨sim_getF d14_29 gf13, gr_GetF (fun k => k = 1) 3 32⟩,
  List.forall_mem_cons.mpr ⟨⟨sim_aload_n d14_32 rfl, gr_LdA 0 33⟩,
  List.forall_mem_cons.mpr ⟨⟨sim_getI d14_33 gf12, gr_GetI (fun k => k = 1) 7 36⟩,
  List.forall_mem_cons.mpr ⟨⟨sim_iload_n d14_36 rfl, gr_LdI 3 37⟩,
  List.forall_mem_cons.mpr ⟨⟨sim_iadd d14_37, gr_II (fun x y => x + y) 38⟩,
  List.forall_mem_cons.mpr ⟨⟨sim_ldc d14_38 kw687, gr_Push (.int (-1000000)) 40⟩,
  List.forall_mem_cons.mpr ⟨⟨sim_iastore d14_40, gr_AStI 41⟩,
  List.forall_mem_cons.mpr ⟨⟨sim_aload_n d14_41 rfl, gr_LdA 0 42⟩,
  List.forall_mem_cons.mpr ⟨⟨sim_getF d14_42 gf14, gr_GetF (fun k => k = 1) 4 45⟩,
  List.forall_mem_cons.mpr ⟨⟨sim_aload_n d14_45 rfl, gr_LdA 0 46⟩,
  List.forall_mem_cons.mpr ⟨⟨sim_getI d14_46 gf12, gr_GetI (fun k => k = 1) 7 49⟩,
  List.forall_mem_cons.mpr ⟨⟨sim_iload_n d14_49 rfl, gr_LdI 3 50⟩,
  List.forall_mem_cons.mpr ⟨⟨sim_iadd d14_50, gr_II (fun x y => x + y) 51⟩,
  List.forall_mem_cons.mpr ⟨⟨sim_iconst d14_51 (by decide), gr_Push (.int 0) 52⟩,
  List.forall_mem_cons.mpr ⟨⟨sim_iastore d14_52, gr_AStI 53⟩,
  List.forall_mem_cons.mpr ⟨⟨sim_iinc d14_53 (by decide) (by decide), gr_Inc 3 1 56⟩,
  List.forall_mem_cons.mpr ⟨⟨sim_goto d14_56 (by decide), gr_Go 22⟩,
  List.forall_mem_cons.mpr ⟨⟨sim_aload_n d14_59 rfl, gr_LdA 0 60⟩,
  List.forall_mem_cons.mpr ⟨⟨sim_aload_n d14_60 rfl, gr_LdA 1 61⟩,
  List.forall_mem_cons.mpr ⟨⟨sim_iload_n d14_61 rfl, gr_LdI 2 62⟩,
  List.forall_mem_cons.mpr ⟨⟨sim_bipush d14_62 (by decide), gr_Push (.int 12) 64⟩,
  List.forall_mem_cons.mpr ⟨⟨sim_virtual d14_64 vk9, gr_CalV (fun k => if k = 1 then some 78 else none) 3 67⟩,
  List.forall_mem_cons.mpr ⟨⟨sim_aload_n d14_67 rfl, gr_LdA 0 68⟩, fun _ h => absurd h List.not_mem_nil⟩⟩⟩⟩⟩⟩⟩⟩⟩⟩⟩⟩⟩⟩⟩⟩⟩⟩⟩⟩⟩⟩⟩⟩⟩⟩⟩⟩⟩⟩⟩⟩⟩⟩⟩⟩⟩⟩⟩⟩
noncomputable def pg14_1 : List (Nat × aP) := [(68, oDup 69),
  (69, oGetL (fun k => k = 1) 6 72),
  (72, oPush (.long 1) 73),
  (73, oLdI 2 74),
  (74, oLSh (fun x y => x <<< (y.toInt64 &&& 63)) 75),
  (75, oLL (fun x y => x ||| y) 76),
  (76, oPutL (fun k => k = 1) 6 79),
  (79, oRetV)]
theorem ok14_1 : ∀ q ∈ pg14_1, Sim mT mt14 q.1 q.2 ∧ Grow q.2 :=
  List.forall_mem_cons.mpr ⟨⟨sim_dup d14_68, gr_Dup 69⟩,
  List.forall_mem_cons.mpr ⟨⟨sim_getL d14_69 gf11, gr_GetL (fun k => k = 1) 6 72⟩,
  List.forall_mem_cons.mpr ⟨⟨sim_lconst d14_72 (by decide), gr_Push (.long 1) 73⟩,
  List.forall_mem_cons.mpr ⟨⟨sim_iload_n d14_73 rfl, gr_LdI 2 74⟩,
  List.forall_mem_cons.mpr ⟨⟨sim_lshl d14_74, gr_LSh (fun x y => x <<< (y.toInt64 &&& 63)) 75⟩,
  List.forall_mem_cons.mpr ⟨⟨sim_lor d14_75, gr_LL (fun x y => x ||| y) 76⟩,
  List.forall_mem_cons.mpr ⟨⟨sim_putL d14_76 gf11, gr_PutL (fun k => k = 1) 6 79⟩,
  List.forall_mem_cons.mpr ⟨⟨sim_return d14_79 rfl, gr_RetV⟩, fun _ h => absurd h List.not_mem_nil⟩⟩⟩⟩⟩⟩⟩⟩
noncomputable def pg14 : List (Nat × aP) := pg14_0 ++ (pg14_1)
theorem ok14 : ∀ q ∈ pg14, Sim mT mt14 q.1 q.2 ∧ Grow q.2 := List.forall_mem_append.mpr ⟨ok14_0, ok14_1⟩
theorem d15_0 : decode mt15.2.1 0 = .ok (.iload_n 1, 1) := by decide +kernel
theorem d15_1 : decode mt15.2.1 1 = .ok (.bipush 13, 2) := by decide +kernel
theorem d15_3 : decode mt15.2.1 3 = .ok (.imul, 1) := by decide +kernel
theorem d15_4 : decode mt15.2.1 4 = .ok (.iload_n 2, 1) := by decide +kernel
theorem d15_5 : decode mt15.2.1 5 = .ok (.iadd, 1) := by decide +kernel
theorem d15_6 : decode mt15.2.1 6 = .ok (.ireturn, 1) := by decide +kernel
noncomputable def pg15_0 : List (Nat × aP) := [(0, oLdI 1 1),
  (1, oPush (.int 13) 3),
  (3, oII (fun x y => x * y) 4),
  (4, oLdI 2 5),
  (5, oII (fun x y => x + y) 6),
  (6, oRetI)]
theorem ok15_0 : ∀ q ∈ pg15_0, Sim mT mt15 q.1 q.2 ∧ Grow q.2 :=
  List.forall_mem_cons.mpr ⟨⟨sim_iload_n d15_0 rfl, gr_LdI 1 1⟩,
  List.forall_mem_cons.mpr ⟨⟨sim_bipush d15_1 (by decide), gr_Push (.int 13) 3⟩,
  List.forall_mem_cons.mpr ⟨⟨sim_imul d15_3, gr_II (fun x y => x * y) 4⟩,
  List.forall_mem_cons.mpr ⟨⟨sim_iload_n d15_4 rfl, gr_LdI 2 5⟩,
  List.forall_mem_cons.mpr ⟨⟨sim_iadd d15_5, gr_II (fun x y => x + y) 6⟩,
  List.forall_mem_cons.mpr ⟨⟨sim_ireturn d15_6 rfl, gr_RetI⟩, fun _ h => absurd h List.not_mem_nil⟩⟩⟩⟩⟩⟩
noncomputable def pg15 : List (Nat × aP) := pg15_0
theorem ok15 : ∀ q ∈ pg15, Sim mT mt15 q.1 q.2 ∧ Grow q.2 := ok15_0
theorem d16_0 : decode mt16.2.1 0 = .ok (.aload_n 0, 1) := by decide +kernel
theorem d16_1 : decode mt16.2.1 1 = .ok (.iload_n 1, 1) := by decide +kernel
theorem d16_2 : decode mt16.2.1 2 = .ok (.iload_n 2, 1) := by decide +kernel
theorem d16_3 : decode mt16.2.1 3 = .ok (.invokevirtual 39, 3) := by decide +kernel
theorem d16_6 : decode mt16.2.1 6 = .ok (.istore_n 3, 1) := by decide +kernel
theorem d16_7 : decode mt16.2.1 7 = .ok (.aload_n 0, 1) := by decide +kernel
theorem d16_8 : decode mt16.2.1 8 = .ok (.getfield 15, 3) := by decide +kernel
theorem d16_11 : decode mt16.2.1 11 = .ok (.iload_n 3, 1) := by decide +kernel
theorem d16_12 : decode mt16.2.1 12 = .ok (.iaload, 1) := by decide +kernel
theorem d16_13 : decode mt16.2.1 13 = .ok (.ifCond .ne 7, 3) := by decide +kernel
theorem d16_16 : decode mt16.2.1 16 = .ok (.iconst 0, 1) := by decide +kernel
theorem d16_17 : decode mt16.2.1 17 = .ok (.goto 9, 3) := by decide +kernel
theorem d16_20 : decode mt16.2.1 20 = .ok (.aload_n 0, 1) := by decide +kernel
theorem d16_21 : decode mt16.2.1 21 = .ok (.getfield 9, 3) := by decide +kernel
theorem d16_24 : decode mt16.2.1 24 = .ok (.iload_n 3, 1) := by decide +kernel
theorem d16_25 : decode mt16.2.1 25 = .ok (.iaload, 1) := by decide +kernel
theorem d16_26 : decode mt16.2.1 26 = .ok (.ireturn, 1) := by decide +kernel
noncomputable def pg16_0 : List (Nat × aP) := [(0, oLdA 0 1),
  (1, oLdI 1 2),
  (2, oLdI 2 3),
  (3, oCalV (fun k => if k = 1 then some 15 else none) 2 6),
  (6, oStI 3 7),
  (7, oLdA 0 8),
  (8, oGetF (fun k => k = 1) 4 11),
  (11, oLdI 3 12),
  (12, oALdI 13),
  (13, oIf (fun x => ¬ x = 0) 20 16),
  (16, oPush (.int 0) 17),
  (17, oGo 26),
  (20, oLdA 0 21),
  (21, oGetF (fun k => k = 1) 3 24),
  (24, oLdI 3 25),
  (25, oALdI 26),
  (26, oRetI)]
theorem ok16_0 : ∀ q ∈ pg16_0, Sim mT mt16 q.1 q.2 ∧ Grow q.2 :=
  List.forall_mem_cons.mpr ⟨⟨sim_aload_n d16_0 rfl, gr_LdA 0 1⟩,
  List.forall_mem_cons.mpr ⟨⟨sim_iload_n d16_1 rfl, gr_LdI 1 2⟩,
  List.forall_mem_cons.mpr ⟨⟨sim_iload_n d16_2 rfl, gr_LdI 2 3⟩,
  List.forall_mem_cons.mpr ⟨⟨sim_virtual d16_3 vk10, gr_CalV (fun k => if k = 1 then some 15 else none) 2 6⟩,
  List.forall_mem_cons.mpr ⟨⟨sim_istore_n d16_6 rfl (by decide), gr_StI 3 7⟩,
  List.forall_mem_cons.mpr ⟨⟨sim_aload_n d16_7 rfl, gr_LdA 0 8⟩,
  List.forall_mem_cons.mpr ⟨⟨sim_getF d16_8 gf14, gr_GetF (fun k => k = 1) 4 11⟩,
  List.forall_mem_cons.mpr ⟨⟨sim_iload_n d16_11 rfl, gr_LdI 3 12⟩,
  List.forall_mem_cons.mpr ⟨⟨sim_iaload d16_12, gr_ALdI 13⟩,
  List.forall_mem_cons.mpr ⟨⟨sim_if_ne d16_13 (by decide), gr_If (fun x => ¬ x = 0) 20 16⟩,
  List.forall_mem_cons.mpr ⟨⟨sim_iconst d16_16 (by decide), gr_Push (.int 0) 17⟩,
  List.forall_mem_cons.mpr ⟨⟨sim_goto d16_17 (by decide), gr_Go 26⟩,
  List.forall_mem_cons.mpr ⟨⟨sim_aload_n d16_20 rfl, gr_LdA 0 21⟩,
  List.forall_mem_cons.mpr ⟨⟨sim_getF d16_21 gf13, gr_GetF (fun k => k = 1) 3 24⟩,
  List.forall_mem_cons.mpr ⟨⟨sim_iload_n d16_24 rfl, gr_LdI 3 25⟩,
  List.forall_mem_cons.mpr ⟨⟨sim_iaload d16_25, gr_ALdI 26⟩,
  List.forall_mem_cons.mpr ⟨⟨sim_ireturn d16_26 rfl, gr_RetI⟩, fun _ h => absurd h List.not_mem_nil⟩⟩⟩⟩⟩⟩⟩⟩⟩⟩⟩⟩⟩⟩⟩⟩⟩
noncomputable def pg16 : List (Nat × aP) := pg16_0
theorem ok16 : ∀ q ∈ pg16, Sim mT mt16 q.1 q.2 ∧ Grow q.2 := ok16_0
theorem d17_0 : decode mt17.2.1 0 = .ok (.aload_n 0, 1) := by decide +kernel
theorem d17_1 : decode mt17.2.1 1 = .ok (.getfield 43, 3) := by decide +kernel
theorem d17_4 : decode mt17.2.1 4 = .ok (.lload_n 1, 1) := by decide +kernel
theorem d17_5 : decode mt17.2.1 5 = .ok (.invokevirtual 47, 3) := by decide +kernel
theorem d17_8 : decode mt17.2.1 8 = .ok (.istore 8, 2) := by decide +kernel
theorem d17_10 : decode mt17.2.1 10 = .ok (.aload_n 0, 1) := by decide +kernel
theorem d17_11 : decode mt17.2.1 11 = .ok (.getfield 43, 3) := by decide +kernel
theorem d17_14 : decode mt17.2.1 14 = .ok (.lload_n 1, 1) := by decide +kernel
theorem d17_15 : decode mt17.2.1 15 = .ok (.lconst 0, 1) := by decide +kernel
theorem d17_16 : decode mt17.2.1 16 = .ok (.invokevirtual 53, 3) := by decide +kernel
theorem d17_19 : decode mt17.2.1 19 = .ok (.istore 9, 2) := by decide +kernel
theorem d17_21 : decode mt17.2.1 21 = .ok (.iload 9, 2) := by decide +kernel
theorem d17_23 : decode mt17.2.1 23 = .ok (.istore 10, 2) := by decide +kernel
theorem d17_25 : decode mt17.2.1 25 = .ok (.iload 10, 2) := by decide +kernel
theorem d17_27 : decode mt17.2.1 27 = .ok (.bipush 13, 2) := by decide +kernel
theorem d17_29 : decode mt17.2.1 29 = .ok (.if_icmp .ge 68, 3) := by decide +kernel
theorem d17_32 : decode mt17.2.1 32 = .ok (.aload_n 0, 1) := by decide +kernel
theorem d17_33 : decode mt17.2.1 33 = .ok (.getfield 9, 3) := by decide +kernel
theorem d17_36 : decode mt17.2.1 36 = .ok (.aload_n 0, 1) := by decide +kernel
theorem d17_37 : decode mt17.2.1 37 = .ok (.getfield 30, 3) := by decide +kernel
theorem d17_40 : decode mt17.2.1 40 = .ok (.iload 10, 2) := by decide +kernel
theorem d17_42 : decode mt17.2.1 42 = .ok (.iadd, 1) := by decide +kernel
theorem d17_43 : decode mt17.2.1 43 = .ok (.iaload, 1) := by decide +kernel
theorem d17_44 : decode mt17.2.1 44 = .ok (.iload 8, 2) := by decide +kernel
theorem d17_46 : decode mt17.2.1 46 = .ok (.if_icmp .ge 51, 3) := by decide +kernel
theorem d17_49 : decode mt17.2.1 49 = .ok (.aload_n 0, 1) := by decide +kernel
theorem d17_50 : decode mt17.2.1 50 = .ok (.getfield 9, 3) := by decide +kernel
theorem d17_53 : decode mt17.2.1 53 = .ok (.aload_n 0, 1) := by decide +kernel
theorem d17_54 : decode mt17.2.1 54 = .ok (.getfield 30, 3) := by decide +kernel
theorem d17_57 : decode mt17.2.1 57 = .ok (.iload 10, 2) := by decide +kernel
theorem d17_59 : decode mt17.2.1 59 = .ok (.iadd, 1) := by decide +kernel
theorem d17_60 : decode mt17.2.1 60 = .ok (.iload 8, 2) := by decide +kernel
theorem d17_62 : decode mt17.2.1 62 = .ok (.iastore, 1) := by decide +kernel
theorem d17_63 : decode mt17.2.1 63 = .ok (.aload_n 0, 1) := by decide +kernel
theorem d17_64 : decode mt17.2.1 64 = .ok (.getfield 15, 3) := by decide +kernel
theorem d17_67 : decode mt17.2.1 67 = .ok (.aload_n 0, 1) := by decide +kernel
theorem d17_68 : decode mt17.2.1 68 = .ok (.getfield 30, 3) := by decide +kernel
theorem d17_71 : decode mt17.2.1 71 = .ok (.iload 10, 2) := by decide +kernel
theorem d17_73 : decode mt17.2.1 73 = .ok (.iadd, 1) := by decide +kernel
theorem d17_74 : decode mt17.2.1 74 = .ok (.iload 7, 2) := by decide +kernel
theorem d17_76 : decode mt17.2.1 76 = .ok (.iastore, 1) := by decide +kernel
theorem d17_77 : decode mt17.2.1 77 = .ok (.aload_n 0, 1) := by decide +kernel
theorem d17_78 : decode mt17.2.1 78 = .ok (.getfield 18, 3) := by decide +kernel
theorem d17_81 : decode mt17.2.1 81 = .ok (.aload_n 0, 1) := by decide +kernel
theorem d17_82 : decode mt17.2.1 82 = .ok (.getfield 30, 3) := by decide +kernel
theorem d17_85 : decode mt17.2.1 85 = .ok (.iload 10, 2) := by decide +kernel
theorem d17_87 : decode mt17.2.1 87 = .ok (.iadd, 1) := by decide +kernel
theorem d17_88 : decode mt17.2.1 88 = .ok (.lload 5, 2) := by decide +kernel
theorem d17_90 : decode mt17.2.1 90 = .ok (.lastore, 1) := by decide +kernel
theorem d17_91 : decode mt17.2.1 91 = .ok (.iinc 10 1, 3) := by decide +kernel
theorem d17_94 : decode mt17.2.1 94 = .ok (.goto (-69), 3) := by decide +kernel
theorem d17_97 : decode mt17.2.1 97 = .ok (.return_, 1) := by decide +kernel
noncomputable def pg17_0 : List (Nat × aP) := [(0, oLdA 0 1),
  (1, oGetD (fun k => k = 1) 0 4),
  (4, oLdL 1 5),
  (5, oCalV (fun k => if k = 3 then some 36 else none) 1 8),
  (8, oStI 8 10),
  (10, oLdA 0 11),
  (11, oGetD (fun k => k = 1) 0 14),
  (14, oLdL 1 15),
  (15, oPush (.long 0) 16),
  (16, oCalV (fun k => if k = 3 then some 35 else none) 2 19),
  (19, oStI 9 21),
  (21, oLdI 9 23),
  (23, oStI 10 25),
  (25, oLdI 10 27),
  (27, oPush (.int 13) 29),
  (29, oIc (fun x y => y ≤ x) 97 32),
  (32, oLdA 0 33),
  (33, oGetF (fun k => k = 1) 3 36),
  (36, oLdA 0 37),
  (37, oGetI (fun k => k = 1) 7 40),
  (40, oLdI 10 42),
  (42, oII (fun x y => x + y) 43),
  (43, oALdI 44),
  (44, oLdI 8 46),
  (46, oIc (fun x y => y ≤ x) 97 49),
  (49, oLdA 0 50),
  (50, oGetF (fun k => k = 1) 3 53),
  (53, oLdA 0 54),
  (54, oGetI (fun k => k = 1) 7 57),
  (57, oLdI 10 59),
  (59, oII (fun x y => x + y) 60),
  (60, oLdI 8 62),
  (62, oAStI 63),
  (63, oLdA 0 64),
  (64, oGetF (fun k => k = 1) 4 67),
  (67, oLdA 0 68),
  (68, oGetI (fun k => k = 1) 7 71),
  (71, oLdI 10 73),
  (73, oII (fun x y => x + y) 74),
  (74, oLdI 7 76)]
theorem ok17_0 : ∀ q ∈ pg17_0, Sim mT mt17 q.1 q.2 ∧ Grow q.2 :=
  List.forall_mem_cons.mpr ⟨⟨sim_aload_n d17_0 rfl, gr_LdA 0 1⟩,
  List.forall_mem_cons.mpr ⟨⟨sim_getD d17_1 gf15, gr_GetD (fun k => k = 1) 0 4⟩,
  List.forall_mem_cons.mpr ⟨⟨sim_lload_n d17_4 rfl, gr_LdL 1 5⟩,
  List.forall_mem_cons.mpr ⟨⟨sim_virtual d17_5 vk11, gr_CalV (fun k => if k = 3 then some 36 else none) 1 8⟩,
  List.forall_mem_cons.mpr ⟨⟨sim_istore d17_8 (by decide), gr_StI 8 10⟩,
  List.forall_mem_cons.mpr ⟨⟨sim_aload_n d17_10 rfl, gr_LdA 0 11⟩,
  List.forall_mem_cons.mpr ⟨⟨sim_getD d17_11 gf15, gr_GetD (fun k => k = 1) 0 14⟩,
  List.forall_mem_cons.mpr ⟨⟨sim_lload_n d17_14 rfl, gr_LdL 1 15⟩,
  List.forall_mem_cons.mpr ⟨⟨sim_lconst d17_15 (by decide), gr_Push (.long 0) 16⟩,
  List.forall_mem_cons.mpr ⟨⟨sim_virtual d17_16 vk12, gr_CalV (fun k => if k = 3 then some 35 else none) 2 19⟩,
  List.forall_mem_cons.mpr ⟨⟨sim_istore d17_19 (by decide), gr_StI 9 21⟩,
  List.forall_mem_cons.mpr ⟨⟨sim_iload d17_21, gr_LdI 9 23⟩,
  List.forall_mem_cons.mpr ⟨⟨sim_istore d17_23 (by decide), gr_StI 10 25⟩,
  List.forall_mem_cons.mpr ⟨⟨sim_iload d17_25, gr_LdI 10 27⟩,
  List.forall_mem_cons.mpr ⟨⟨sim_bipush d17_27 (by decide), gr_Push (.int 13) 29⟩,
  List.forall_mem_cons.mpr ⟨⟨sim_icmp_ge d17_29 (by decide), gr_Ic (fun x y => y ≤ x) 97 32⟩,
  List.forall_mem_cons.mpr ⟨⟨sim_aload_n d17_32 rfl, gr_LdA 0 33⟩,
  List.forall_mem_cons.mpr ⟨⟨sim_getF d17_33 gf13, gr_GetF (fun k => k = 1) 3 36⟩,
  List.forall_mem_cons.mpr ⟨⟨sim_aload_n d17_36 rfl, gr_LdA 0 37⟩,
  List.forall_mem_cons.mpr ⟨⟨sim_getI d17_37 gf12, gr_GetI (fun k => k = 1) 7 40⟩,
  List.forall_mem_cons.mpr ⟨⟨sim_iload d17_40, gr_LdI 10 42⟩,
  List.forall_mem_cons.mpr ⟨⟨sim_iadd d17_42, gr_II (fun x y => x + y) 43⟩,
  List.forall_mem_cons.mpr ⟨⟨sim_iaload d17_43, gr_ALdI 44⟩,
  List.forall_mem_cons.mpr ⟨⟨sim_iload d17_44, gr_LdI 8 46⟩,
  List.forall_mem_cons.mpr ⟨⟨sim_icmp_ge d17_46 (by decide), gr_Ic (fun x y => y ≤ x) 97 49⟩,
  List.forall_mem_cons.mpr ⟨⟨sim_aload_n d17_49 rfl, gr_LdA 0 50⟩,
  List.forall_mem_cons.mpr ⟨⟨sim_getF d17_50 gf13, gr_GetF (fun k => k = 1) 3 53⟩,
  List.forall_mem_cons.mpr ⟨⟨sim_aload_n d17_53 rfl, gr_LdA 0 54⟩,
  List.forall_mem_cons.mpr ⟨⟨sim_getI d17_54 gf12, gr_GetI (fun k => k = 1) 7 57⟩,
  List.forall_mem_cons.mpr ⟨⟨sim_iload d17_57, gr_LdI 10 59⟩,
  List.forall_mem_cons.mpr ⟨⟨sim_iadd d17_59, gr_II (fun x y => x + y) 60⟩,
  List.forall_mem_cons.mpr ⟨⟨sim_iload d17_60, gr_LdI 8 62⟩,
  List.forall_mem_cons.mpr ⟨⟨sim_iastore d17_62, gr_AStI 63⟩,
  List.forall_mem_cons.mpr ⟨⟨sim_aload_n d17_63 rfl, gr_LdA 0 64⟩,
  List.forall_mem_cons.mpr ⟨⟨sim_getF d17_64 gf14, gr_GetF (fun k => k = 1) 4 67⟩,
  List.forall_mem_cons.mpr ⟨⟨sim_aload_n d17_67 rfl, gr_LdA 0 68⟩,
  List.forall_mem_cons.mpr ⟨⟨sim_getI d17_68 gf12, gr_GetI (fun k => k = 1) 7 71⟩,
  List.forall_mem_cons.mpr ⟨⟨sim_iload d17_71, gr_LdI 10 73⟩,
  List.forall_mem_cons.mpr ⟨⟨sim_iadd d17_73, gr_II (fun x y => x + y) 74⟩,
  List.forall_mem_cons.mpr ⟨⟨sim_iload d17_74, gr_LdI 7 76⟩, fun _ h => absurd h List.not_mem_nil⟩⟩⟩⟩⟩⟩⟩⟩⟩⟩⟩⟩⟩⟩⟩⟩⟩⟩⟩⟩⟩⟩⟩⟩⟩⟩⟩⟩⟩⟩⟩⟩⟩⟩⟩⟩⟩⟩⟩⟩
noncomputable def pg17_1 : List (Nat × aP) := [(76, oAStI 77),
  (77, oLdA 0 78),
  (78, oGetF (fun k => k = 1) 5 81),
  (81, oLdA 0 82),
  (82, oGetI (fun k => k = 1) 7 85),
  (85, oLdI 10 87),
  (87, oII (fun x y => x + y) 88),
  (88, oLdL 5 90),
  (90, oAStL 91),
  (91, oInc 10 1 94),
  (94, oGo 25),
  (97, oRetV)]
theorem ok17_1 : ∀ q ∈ pg17_1, Sim mT mt17 q.1 q.2 ∧ Grow q.2 :=
  List.forall_mem_cons.mpr ⟨⟨sim_iastore d17_76, gr_AStI 77⟩,
  List.forall_mem_cons.mpr ⟨⟨sim_aload_n d17_77 rfl, gr_LdA 0 78⟩,
  List.forall_mem_cons.mpr ⟨⟨sim_getF d17_78 gf16, gr_GetF (fun k => k = 1) 5 81⟩,
  List.forall_mem_cons.mpr ⟨⟨sim_aload_n d17_81 rfl, gr_LdA 0 82⟩,
  List.forall_mem_cons.mpr ⟨⟨sim_getI d17_82 gf12, gr_GetI (fun k => k = 1) 7 85⟩,
  List.forall_mem_cons.mpr ⟨⟨sim_iload d17_85, gr_LdI 10 87⟩,
  List.forall_mem_cons.mpr ⟨⟨sim_iadd d17_87, gr_II (fun x y => x + y) 88⟩,
  List.forall_mem_cons.mpr ⟨⟨sim_lload d17_88, gr_LdL 5 90⟩,
  List.forall_mem_cons.mpr ⟨⟨sim_lastore d17_90, gr_AStL 91⟩,
  List.forall_mem_cons.mpr ⟨⟨sim_iinc d17_91 (by decide) (by decide), gr_Inc 10 1 94⟩,
  List.forall_mem_cons.mpr ⟨⟨sim_goto d17_94 (by decide), gr_Go 25⟩,
  List.forall_mem_cons.mpr ⟨⟨sim_return d17_97 rfl, gr_RetV⟩, fun _ h => absurd h List.not_mem_nil⟩⟩⟩⟩⟩⟩⟩⟩⟩⟩⟩⟩
noncomputable def pg17 : List (Nat × aP) := pg17_0 ++ (pg17_1)
theorem ok17 : ∀ q ∈ pg17, Sim mT mt17 q.1 q.2 ∧ Grow q.2 := List.forall_mem_append.mpr ⟨ok17_0, ok17_1⟩
theorem d18_0 : decode mt18.2.1 0 = .ok (.aload_n 0, 1) := by decide +kernel
theorem d18_1 : decode mt18.2.1 1 = .ok (.invokespecial 3, 3) := by decide +kernel
theorem d18_4 : decode mt18.2.1 4 = .ok (.return_, 1) := by decide +kernel
noncomputable def pg18_0 : List (Nat × aP) := [(0, oLdA 0 1),
  (1, oCalV (fun ci => if ci < 100 then some 77 else none) 0 4),
  (4, oRetV)]
theorem ok18_0 : ∀ q ∈ pg18_0, Sim mT mt18 q.1 q.2 ∧ Grow q.2 :=
  List.forall_mem_cons.mpr ⟨⟨sim_aload_n d18_0 rfl, gr_LdA 0 1⟩,
  List.forall_mem_cons.mpr ⟨⟨sim_special (y := 77) d18_1 (Or.inr ⟨_, kn240⟩) kw176 rfl rfl mo77, gr_CalV (fun ci => if ci < 100 then some 77 else none) 0 4⟩,
  List.forall_mem_cons.mpr ⟨⟨sim_return d18_4 rfl, gr_RetV⟩, fun _ h => absurd h List.not_mem_nil⟩⟩⟩
noncomputable def pg18 : List (Nat × aP) := pg18_0
theorem ok18 : ∀ q ∈ pg18, Sim mT mt18 q.1 q.2 ∧ Grow q.2 := ok18_0
theorem d19_0 : decode mt19.2.1 0 = .ok (.aload_n 0, 1) := by decide +kernel
theorem d19_1 : decode mt19.2.1 1 = .ok (.lconst 0, 1) := by decide +kernel
theorem d19_2 : decode mt19.2.1 2 = .ok (.putfield 9, 3) := by decide +kernel
theorem d19_5 : decode mt19.2.1 5 = .ok (.aload_n 0, 1) := by decide +kernel
theorem d19_6 : decode mt19.2.1 6 = .ok (.lconst 0, 1) := by decide +kernel
theorem d19_7 : decode mt19.2.1 7 = .ok (.putfield 15, 3) := by decide +kernel
theorem d19_10 : decode mt19.2.1 10 = .ok (.iconst 0, 1) := by decide +kernel
theorem d19_11 : decode mt19.2.1 11 = .ok (.istore 5, 2) := by decide +kernel
theorem d19_13 : decode mt19.2.1 13 = .ok (.iload 5, 2) := by decide +kernel
theorem d19_15 : decode mt19.2.1 15 = .ok (.iload_n 3, 1) := by decide +kernel
theorem d19_16 : decode mt19.2.1 16 = .ok (.iload 4, 2) := by decide +kernel
theorem d19_18 : decode mt19.2.1 18 = .ok (.iadd, 1) := by decide +kernel
theorem d19_19 : decode mt19.2.1 19 = .ok (.if_icmp .ge 85, 3) := by decide +kernel
theorem d19_22 : decode mt19.2.1 22 = .ok (.aload_n 2, 1) := by decide +kernel
theorem d19_23 : decode mt19.2.1 23 = .ok (.getfield 18, 3) := by decide +kernel
theorem d19_26 : decode mt19.2.1 26 = .ok (.iload 5, 2) := by decide +kernel
theorem d19_28 : decode mt19.2.1 28 = .ok (.iaload, 1) := by decide +kernel
theorem d19_29 : decode mt19.2.1 29 = .ok (.istore 6, 2) := by decide +kernel
theorem d19_31 : decode mt19.2.1 31 = .ok (.iload 5, 2) := by decide +kernel
theorem d19_33 : decode mt19.2.1 33 = .ok (.iload_n 3, 1) := by decide +kernel
theorem d19_34 : decode mt19.2.1 34 = .ok (.if_icmp .ge 15, 3) := by decide +kernel
theorem d19_37 : decode mt19.2.1 37 = .ok (.aload_n 1, 1) := by decide +kernel
theorem d19_38 : decode mt19.2.1 38 = .ok (.iload 6, 2) := by decide +kernel
theorem d19_40 : decode mt19.2.1 40 = .ok (.invokevirtual 24, 3) := by decide +kernel
theorem d19_43 : decode mt19.2.1 43 = .ok (.ifCond .ne 17, 3) := by decide +kernel
theorem d19_46 : decode mt19.2.1 46 = .ok (.goto 12, 3) := by decide +kernel
theorem d19_49 : decode mt19.2.1 49 = .ok (.aload_n 1, 1) := by decide +kernel
theorem d19_50 : decode mt19.2.1 50 = .ok (.iload 6, 2) := by decide +kernel
theorem d19_52 : decode mt19.2.1 52 = .ok (.invokevirtual 30, 3) := by decide +kernel
theorem d19_55 : decode mt19.2.1 55 = .ok (.ifCond .ne 5, 3) := by decide +kernel
theorem d19_58 : decode mt19.2.1 58 = .ok (.iconst 0, 1) := by decide +kernel
theorem d19_59 : decode mt19.2.1 59 = .ok (.ireturn, 1) := by decide +kernel
theorem d19_60 : decode mt19.2.1 60 = .ok (.iload 5, 2) := by decide +kernel
theorem d19_62 : decode mt19.2.1 62 = .ok (.iload_n 3, 1) := by decide +kernel
theorem d19_63 : decode mt19.2.1 63 = .ok (.if_icmp .ge 19, 3) := by decide +kernel
theorem d19_66 : decode mt19.2.1 66 = .ok (.aload_n 0, 1) := by decide +kernel
theorem d19_67 : decode mt19.2.1 67 = .ok (.dup, 1) := by decide +kernel
theorem d19_68 : decode mt19.2.1 68 = .ok (.getfield 9, 3) := by decide +kernel
theorem d19_71 : decode mt19.2.1 71 = .ok (.lconst 1, 1) := by decide +kernel
theorem d19_72 : decode mt19.2.1 72 = .ok (.iload 6, 2) := by decide +kernel
theorem d19_74 : decode mt19.2.1 74 = .ok (.lshl, 1) := by decide +kernel
theorem d19_75 : decode mt19.2.1 75 = .ok (.lor, 1) := by decide +kernel
theorem d19_76 : decode mt19.2.1 76 = .ok (.putfield 9, 3) := by decide +kernel
theorem d19_79 : decode mt19.2.1 79 = .ok (.goto 19, 3) := by decide +kernel
theorem d19_82 : decode mt19.2.1 82 = .ok (.aload_n 0, 1) := by decide +kernel
theorem d19_83 : decode mt19.2.1 83 = .ok (.dup, 1) := by decide +kernel
theorem d19_84 : decode mt19.2.1 84 = .ok (.getfield 15, 3) := by decide +kernel
theorem d19_87 : decode mt19.2.1 87 = .ok (.lconst 1, 1) := by decide +kernel
theorem d19_88 : decode mt19.2.1 88 = .ok (.iload 6, 2) := by decide +kernel
theorem d19_90 : decode mt19.2.1 90 = .ok (.invokestatic 33, 3) := by decide +kernel
theorem d19_93 : decode mt19.2.1 93 = .ok (.lshl, 1) := by decide +kernel
theorem d19_94 : decode mt19.2.1 94 = .ok (.lor, 1) := by decide +kernel
theorem d19_95 : decode mt19.2.1 95 = .ok (.putfield 15, 3) := by decide +kernel
theorem d19_98 : decode mt19.2.1 98 = .ok (.iinc 5 1, 3) := by decide +kernel
theorem d19_101 : decode mt19.2.1 101 = .ok (.goto (-88), 3) := by decide +kernel
theorem d19_104 : decode mt19.2.1 104 = .ok (.iconst 1, 1) := by decide +kernel
theorem d19_105 : decode mt19.2.1 105 = .ok (.ireturn, 1) := by decide +kernel
noncomputable def pg19_0 : List (Nat × aP) := [(0, oLdA 0 1),
  (1, oPush (.long 0) 2),
  (2, oPutL (fun k => k = 2) 3 5),
  (5, oLdA 0 6),
  (6, oPush (.long 0) 7),
  (7, oPutL (fun k => k = 2) 4 10),
  (10, oPush (.int 0) 11),
  (11, oStI 5 13),
  (13, oLdI 5 15),
  (15, oLdI 3 16),
  (16, oLdI 4 18),
  (18, oII (fun x y => x + y) 19),
  (19, oIc (fun x y => y ≤ x) 104 22),
  (22, oLdA 2 23),
  (23, oGetF (fun k => k = 6) 0 26),
  (26, oLdI 5 28),
  (28, oALdI 29),
  (29, oStI 6 31),
  (31, oLdI 5 33),
  (33, oLdI 3 34),
  (34, oIc (fun x y => y ≤ x) 49 37),
  (37, oLdA 1 38),
  (38, oLdI 6 40),
  (40, oCalV (fun k => if k = 3 then some 28 else none) 1 43),
  (43, oIf (fun x => ¬ x = 0) 60 46),
  (46, oGo 58),
  (49, oLdA 1 50),
  (50, oLdI 6 52),
  (52, oCalV (fun k => if k = 3 then some 29 else none) 1 55),
  (55, oIf (fun x => ¬ x = 0) 60 58),
  (58, oPush (.int 0) 59),
  (59, oRetN .boolean),
  (60, oLdI 5 62),
  (62, oLdI 3 63),
  (63, oIc (fun x y => y ≤ x) 82 66),
  (66, oLdA 0 67),
  (67, oDup 68),
  (68, oGetL (fun k => k = 2) 3 71),
  (71, oPush (.long 1) 72),
  (72, oLdI 6 74)]
theorem ok19_0 : ∀ q ∈ pg19_0, Sim mT mt19 q.1 q.2 ∧ Grow q.2 :=
  List.forall_mem_cons.mpr ⟨⟨sim_aload_n d19_0 rfl, gr_LdA 0 1⟩,
  List.forall_mem_cons.mpr ⟨⟨sim_lconst d19_1 (by decide), gr_Push (.long 0) 2⟩,
  List.forall_mem_cons.mpr ⟨⟨sim_putL d19_2 gf17, gr_PutL (fun k => k = 2) 3 5⟩,
  List.forall_mem_cons.mpr ⟨⟨sim_aload_n d19_5 rfl, gr_LdA 0 6⟩,
  List.forall_mem_cons.mpr ⟨⟨sim_lconst d19_6 (by decide), gr_Push (.long 0) 7⟩,
  List.forall_mem_cons.mpr ⟨⟨sim_putL d19_7 gf18, gr_PutL (fun k => k = 2) 4 10⟩,
  List.forall_mem_cons.mpr ⟨⟨sim_iconst d19_10 (by decide), gr_Push (.int 0) 11⟩,
  List.forall_mem_cons.mpr ⟨⟨sim_istore d19_11 (by decide), gr_StI 5 13⟩,
  List.forall_mem_cons.mpr ⟨⟨sim_iload d19_13, gr_LdI 5 15⟩,
  List.forall_mem_cons.mpr ⟨⟨sim_iload_n d19_15 rfl, gr_LdI 3 16⟩,
  List.forall_mem_cons.mpr ⟨⟨sim_iload d19_16, gr_LdI 4 18⟩,
  List.forall_mem_cons.mpr ⟨⟨sim_iadd d19_18, gr_II (fun x y => x + y) 19⟩,
  List.forall_mem_cons.mpr ⟨⟨sim_icmp_ge d19_19 (by decide), gr_Ic (fun x y => y ≤ x) 104 22⟩,
  List.forall_mem_cons.mpr ⟨⟨sim_aload_n d19_22 rfl, gr_LdA 2 23⟩,
  List.forall_mem_cons.mpr ⟨⟨sim_getF d19_23 gf19, gr_GetF (fun k => k = 6) 0 26⟩,
  List.forall_mem_cons.mpr ⟨⟨sim_iload d19_26, gr_LdI 5 28⟩,
  List.forall_mem_cons.mpr ⟨⟨sim_iaload d19_28, gr_ALdI 29⟩,
  List.forall_mem_cons.mpr ⟨⟨sim_istore d19_29 (by decide), gr_StI 6 31⟩,
  List.forall_mem_cons.mpr ⟨⟨sim_iload d19_31, gr_LdI 5 33⟩,
  List.forall_mem_cons.mpr ⟨⟨sim_iload_n d19_33 rfl, gr_LdI 3 34⟩,
  List.forall_mem_cons.mpr ⟨⟨sim_icmp_ge d19_34 (by decide), gr_Ic (fun x y => y ≤ x) 49 37⟩,
  List.forall_mem_cons.mpr ⟨⟨sim_aload_n d19_37 rfl, gr_LdA 1 38⟩,
  List.forall_mem_cons.mpr ⟨⟨sim_iload d19_38, gr_LdI 6 40⟩,
  List.forall_mem_cons.mpr ⟨⟨sim_virtual d19_40 vk13, gr_CalV (fun k => if k = 3 then some 28 else none) 1 43⟩,
  List.forall_mem_cons.mpr ⟨⟨sim_if_ne d19_43 (by decide), gr_If (fun x => ¬ x = 0) 60 46⟩,
  List.forall_mem_cons.mpr ⟨⟨sim_goto d19_46 (by decide), gr_Go 58⟩,
  List.forall_mem_cons.mpr ⟨⟨sim_aload_n d19_49 rfl, gr_LdA 1 50⟩,
  List.forall_mem_cons.mpr ⟨⟨sim_iload d19_50, gr_LdI 6 52⟩,
  List.forall_mem_cons.mpr ⟨⟨sim_virtual d19_52 vk14, gr_CalV (fun k => if k = 3 then some 29 else none) 1 55⟩,
  List.forall_mem_cons.mpr ⟨⟨sim_if_ne d19_55 (by decide), gr_If (fun x => ¬ x = 0) 60 58⟩,
  List.forall_mem_cons.mpr ⟨⟨sim_iconst d19_58 (by decide), gr_Push (.int 0) 59⟩,
  List.forall_mem_cons.mpr ⟨⟨sim_nreturn d19_59 rfl (fun _ h => congrArg Value.int h), gr_RetN .boolean⟩,
  List.forall_mem_cons.mpr ⟨⟨sim_iload d19_60, gr_LdI 5 62⟩,
  List.forall_mem_cons.mpr ⟨⟨sim_iload_n d19_62 rfl, gr_LdI 3 63⟩,
  List.forall_mem_cons.mpr ⟨⟨sim_icmp_ge d19_63 (by decide), gr_Ic (fun x y => y ≤ x) 82 66⟩,
  List.forall_mem_cons.mpr ⟨⟨sim_aload_n d19_66 rfl, gr_LdA 0 67⟩,
  List.forall_mem_cons.mpr ⟨⟨sim_dup d19_67, gr_Dup 68⟩,
  List.forall_mem_cons.mpr ⟨⟨sim_getL d19_68 gf17, gr_GetL (fun k => k = 2) 3 71⟩,
  List.forall_mem_cons.mpr ⟨⟨sim_lconst d19_71 (by decide), gr_Push (.long 1) 72⟩,
  List.forall_mem_cons.mpr ⟨⟨sim_iload d19_72, gr_LdI 6 74⟩, fun _ h => absurd h List.not_mem_nil⟩⟩⟩⟩⟩⟩⟩⟩⟩⟩⟩⟩⟩⟩⟩⟩⟩⟩⟩⟩⟩⟩⟩⟩⟩⟩⟩⟩⟩⟩⟩⟩⟩⟩⟩⟩⟩⟩⟩⟩
noncomputable def pg19_1 : List (Nat × aP) := [(74, oLSh (fun x y => x <<< (y.toInt64 &&& 63)) 75),
  (75, oLL (fun x y => x ||| y) 76),
  (76, oPutL (fun k => k = 2) 3 79),
  (79, oGo 98),
  (82, oLdA 0 83),
  (83, oDup 84),
  (84, oGetL (fun k => k = 2) 4 87),
  (87, oPush (.long 1) 88),
  (88, oLdI 6 90),
  (90, oCall 123 1 93),
  (93, oLSh (fun x y => x <<< (y.toInt64 &&& 63)) 94),
  (94, oLL (fun x y => x ||| y) 95),
  (95, oPutL (fun k => k = 2) 4 98),
  (98, oInc 5 1 101),
  (101, oGo 13),
  (104, oPush (.int 1) 105),
  (105, oRetN .boolean)]
theorem ok19_1 : ∀ q ∈ pg19_1, Sim mT mt19 q.1 q.2 ∧ Grow q.2 :=
  List.forall_mem_cons.mpr ⟨⟨sim_lshl d19_74, gr_LSh (fun x y => x <<< (y.toInt64 &&& 63)) 75⟩,
  List.forall_mem_cons.mpr ⟨⟨sim_lor d19_75, gr_LL (fun x y => x ||| y) 76⟩,
  List.forall_mem_cons.mpr ⟨⟨sim_putL d19_76 gf17, gr_PutL (fun k => k = 2) 3 79⟩,
  List.forall_mem_cons.mpr ⟨⟨sim_goto d19_79 (by decide), gr_Go 98⟩,
  List.forall_mem_cons.mpr ⟨⟨sim_aload_n d19_82 rfl, gr_LdA 0 83⟩,
  List.forall_mem_cons.mpr ⟨⟨sim_dup d19_83, gr_Dup 84⟩,
  List.forall_mem_cons.mpr ⟨⟨sim_getL d19_84 gf18, gr_GetL (fun k => k = 2) 4 87⟩,
  List.forall_mem_cons.mpr ⟨⟨sim_lconst d19_87 (by decide), gr_Push (.long 1) 88⟩,
  List.forall_mem_cons.mpr ⟨⟨sim_iload d19_88, gr_LdI 6 90⟩,
  List.forall_mem_cons.mpr ⟨⟨sim_static (y := 123) d19_90 (Or.inr ⟨_, kn813⟩) kw670 mo123, gr_Call 123 1 93⟩,
  List.forall_mem_cons.mpr ⟨⟨sim_lshl d19_93, gr_LSh (fun x y => x <<< (y.toInt64 &&& 63)) 94⟩,
  List.forall_mem_cons.mpr ⟨⟨sim_lor d19_94, gr_LL (fun x y => x ||| y) 95⟩,
  List.forall_mem_cons.mpr ⟨⟨sim_putL d19_95 gf18, gr_PutL (fun k => k = 2) 4 98⟩,
  List.forall_mem_cons.mpr ⟨⟨sim_iinc d19_98 (by decide) (by decide), gr_Inc 5 1 101⟩,
  List.forall_mem_cons.mpr ⟨⟨sim_goto d19_101 (by decide), gr_Go 13⟩,
  List.forall_mem_cons.mpr ⟨⟨sim_iconst d19_104 (by decide), gr_Push (.int 1) 105⟩,
  List.forall_mem_cons.mpr ⟨⟨sim_nreturn d19_105 rfl (fun _ h => congrArg Value.int h), gr_RetN .boolean⟩, fun _ h => absurd h List.not_mem_nil⟩⟩⟩⟩⟩⟩⟩⟩⟩⟩⟩⟩⟩⟩⟩⟩⟩
noncomputable def pg19 : List (Nat × aP) := pg19_0 ++ (pg19_1)
theorem ok19 : ∀ q ∈ pg19, Sim mT mt19 q.1 q.2 ∧ Grow q.2 := List.forall_mem_append.mpr ⟨ok19_0, ok19_1⟩
theorem d20_0 : decode mt20.2.1 0 = .ok (.aload_n 0, 1) := by decide +kernel
theorem d20_1 : decode mt20.2.1 1 = .ok (.aload_n 1, 1) := by decide +kernel
theorem d20_2 : decode mt20.2.1 2 = .ok (.getfield 37, 3) := by decide +kernel
theorem d20_5 : decode mt20.2.1 5 = .ok (.iload_n 2, 1) := by decide +kernel
theorem d20_6 : decode mt20.2.1 6 = .ok (.iaload, 1) := by decide +kernel
theorem d20_7 : decode mt20.2.1 7 = .ok (.putfield 40, 3) := by decide +kernel
theorem d20_10 : decode mt20.2.1 10 = .ok (.aload_n 0, 1) := by decide +kernel
theorem d20_11 : decode mt20.2.1 11 = .ok (.iconst 0, 1) := by decide +kernel
theorem d20_12 : decode mt20.2.1 12 = .ok (.putfield 44, 3) := by decide +kernel
theorem d20_15 : decode mt20.2.1 15 = .ok (.aload_n 0, 1) := by decide +kernel
theorem d20_16 : decode mt20.2.1 16 = .ok (.aload_n 1, 1) := by decide +kernel
theorem d20_17 : decode mt20.2.1 17 = .ok (.aload_n 1, 1) := by decide +kernel
theorem d20_18 : decode mt20.2.1 18 = .ok (.getfield 47, 3) := by decide +kernel
theorem d20_21 : decode mt20.2.1 21 = .ok (.iload_n 2, 1) := by decide +kernel
theorem d20_22 : decode mt20.2.1 22 = .ok (.iaload, 1) := by decide +kernel
theorem d20_23 : decode mt20.2.1 23 = .ok (.bipush 10, 2) := by decide +kernel
theorem d20_25 : decode mt20.2.1 25 = .ok (.invokevirtual 50, 3) := by decide +kernel
theorem d20_28 : decode mt20.2.1 28 = .ok (.aload_n 0, 1) := by decide +kernel
theorem d20_29 : decode mt20.2.1 29 = .ok (.getfield 44, 3) := by decide +kernel
theorem d20_32 : decode mt20.2.1 32 = .ok (.ireturn, 1) := by decide +kernel
noncomputable def pg20_0 : List (Nat × aP) := [(0, oLdA 0 1),
  (1, oLdA 1 2),
  (2, oGetF (fun k => k = 3) 7 5),
  (5, oLdI 2 6),
  (6, oALdI 7),
  (7, oPutI (fun k => k = 2) 5 10),
  (10, oLdA 0 11),
  (11, oPush (.int 0) 12),
  (12, oPutI (fun k => k = 2) 6 15),
  (15, oLdA 0 16),
  (16, oLdA 1 17),
  (17, oLdA 1 18),
  (18, oGetF (fun k => k = 3) 6 21),
  (21, oLdI 2 22),
  (22, oALdI 23),
  (23, oPush (.int 10) 25),
  (25, oCalV (fun k => if k = 2 then some 78 else none) 3 28),
  (28, oLdA 0 29),
  (29, oGetI (fun k => k = 2) 6 32),
  (32, oRetI)]
theorem ok20_0 : ∀ q ∈ pg20_0, Sim mT mt20 q.1 q.2 ∧ Grow q.2 :=
  List.forall_mem_cons.mpr ⟨⟨sim_aload_n d20_0 rfl, gr_LdA 0 1⟩,
  List.forall_mem_cons.mpr ⟨⟨sim_aload_n d20_1 rfl, gr_LdA 1 2⟩,
  List.forall_mem_cons.mpr ⟨⟨sim_getF d20_2 gf20, gr_GetF (fun k => k = 3) 7 5⟩,
  List.forall_mem_cons.mpr ⟨⟨sim_iload_n d20_5 rfl, gr_LdI 2 6⟩,
  List.forall_mem_cons.mpr ⟨⟨sim_iaload d20_6, gr_ALdI 7⟩,
  List.forall_mem_cons.mpr ⟨⟨sim_putI d20_7 gf21w, gr_PutI (fun k => k = 2) 5 10⟩,
  List.forall_mem_cons.mpr ⟨⟨sim_aload_n d20_10 rfl, gr_LdA 0 11⟩,
  List.forall_mem_cons.mpr ⟨⟨sim_iconst d20_11 (by decide), gr_Push (.int 0) 12⟩,
  List.forall_mem_cons.mpr ⟨⟨sim_putI d20_12 gf22w, gr_PutI (fun k => k = 2) 6 15⟩,
  List.forall_mem_cons.mpr ⟨⟨sim_aload_n d20_15 rfl, gr_LdA 0 16⟩,
  List.forall_mem_cons.mpr ⟨⟨sim_aload_n d20_16 rfl, gr_LdA 1 17⟩,
  List.forall_mem_cons.mpr ⟨⟨sim_aload_n d20_17 rfl, gr_LdA 1 18⟩,
  List.forall_mem_cons.mpr ⟨⟨sim_getF d20_18 gf23, gr_GetF (fun k => k = 3) 6 21⟩,
  List.forall_mem_cons.mpr ⟨⟨sim_iload_n d20_21 rfl, gr_LdI 2 22⟩,
  List.forall_mem_cons.mpr ⟨⟨sim_iaload d20_22, gr_ALdI 23⟩,
  List.forall_mem_cons.mpr ⟨⟨sim_bipush d20_23 (by decide), gr_Push (.int 10) 25⟩,
  List.forall_mem_cons.mpr ⟨⟨sim_virtual d20_25 vk15, gr_CalV (fun k => if k = 2 then some 78 else none) 3 28⟩,
  List.forall_mem_cons.mpr ⟨⟨sim_aload_n d20_28 rfl, gr_LdA 0 29⟩,
  List.forall_mem_cons.mpr ⟨⟨sim_getI d20_29 gf22, gr_GetI (fun k => k = 2) 6 32⟩,
  List.forall_mem_cons.mpr ⟨⟨sim_ireturn d20_32 rfl, gr_RetI⟩, fun _ h => absurd h List.not_mem_nil⟩⟩⟩⟩⟩⟩⟩⟩⟩⟩⟩⟩⟩⟩⟩⟩⟩⟩⟩⟩
noncomputable def pg20 : List (Nat × aP) := pg20_0
theorem ok20 : ∀ q ∈ pg20, Sim mT mt20 q.1 q.2 ∧ Grow q.2 := ok20_0
theorem d21_0 : decode mt21.2.1 0 = .ok (.aload_n 0, 1) := by decide +kernel
theorem d21_1 : decode mt21.2.1 1 = .ok (.getfield 9, 3) := by decide +kernel
theorem d21_4 : decode mt21.2.1 4 = .ok (.lload_n 3, 1) := by decide +kernel
theorem d21_5 : decode mt21.2.1 5 = .ok (.ldc2_w 54, 3) := by decide +kernel
theorem d21_8 : decode mt21.2.1 8 = .ok (.lxor, 1) := by decide +kernel
theorem d21_9 : decode mt21.2.1 9 = .ok (.land, 1) := by decide +kernel
theorem d21_10 : decode mt21.2.1 10 = .ok (.lconst 0, 1) := by decide +kernel
theorem d21_11 : decode mt21.2.1 11 = .ok (.lcmp, 1) := by decide +kernel
theorem d21_12 : decode mt21.2.1 12 = .ok (.ifCond .ne 22, 3) := by decide +kernel
theorem d21_15 : decode mt21.2.1 15 = .ok (.aload_n 0, 1) := by decide +kernel
theorem d21_16 : decode mt21.2.1 16 = .ok (.getfield 15, 3) := by decide +kernel
theorem d21_19 : decode mt21.2.1 19 = .ok (.lload_n 1, 1) := by decide +kernel
theorem d21_20 : decode mt21.2.1 20 = .ok (.ldc2_w 54, 3) := by decide +kernel
theorem d21_23 : decode mt21.2.1 23 = .ok (.lxor, 1) := by decide +kernel
theorem d21_24 : decode mt21.2.1 24 = .ok (.land, 1) := by decide +kernel
theorem d21_25 : decode mt21.2.1 25 = .ok (.lconst 0, 1) := by decide +kernel
theorem d21_26 : decode mt21.2.1 26 = .ok (.lcmp, 1) := by decide +kernel
theorem d21_27 : decode mt21.2.1 27 = .ok (.ifCond .ne 7, 3) := by decide +kernel
theorem d21_30 : decode mt21.2.1 30 = .ok (.iconst 1, 1) := by decide +kernel
theorem d21_31 : decode mt21.2.1 31 = .ok (.goto 4, 3) := by decide +kernel
theorem d21_34 : decode mt21.2.1 34 = .ok (.iconst 0, 1) := by decide +kernel
theorem d21_35 : decode mt21.2.1 35 = .ok (.istore 8, 2) := by decide +kernel
theorem d21_37 : decode mt21.2.1 37 = .ok (.iload 8, 2) := by decide +kernel
theorem d21_39 : decode mt21.2.1 39 = .ok (.ifCond .eq 29, 3) := by decide +kernel
theorem d21_42 : decode mt21.2.1 42 = .ok (.aload_n 0, 1) := by decide +kernel
theorem d21_43 : decode mt21.2.1 43 = .ok (.getfield 56, 3) := by decide +kernel
theorem d21_46 : decode mt21.2.1 46 = .ok (.lload_n 1, 1) := by decide +kernel
theorem d21_47 : decode mt21.2.1 47 = .ok (.lconst 0, 1) := by decide +kernel
theorem d21_48 : decode mt21.2.1 48 = .ok (.invokevirtual 60, 3) := by decide +kernel
theorem d21_51 : decode mt21.2.1 51 = .ok (.aload_n 0, 1) := by decide +kernel
theorem d21_52 : decode mt21.2.1 52 = .ok (.getfield 40, 3) := by decide +kernel
theorem d21_55 : decode mt21.2.1 55 = .ok (.if_icmp .gt 13, 3) := by decide +kernel
theorem d21_58 : decode mt21.2.1 58 = .ok (.aload_n 0, 1) := by decide +kernel
theorem d21_59 : decode mt21.2.1 59 = .ok (.dup, 1) := by decide +kernel
theorem d21_60 : decode mt21.2.1 60 = .ok (.getfield 44, 3) := by decide +kernel
theorem d21_63 : decode mt21.2.1 63 = .ok (.iconst 1, 1) := by decide +kernel
theorem d21_64 : decode mt21.2.1 64 = .ok (.iadd, 1) := by decide +kernel
theorem d21_65 : decode mt21.2.1 65 = .ok (.putfield 44, 3) := by decide +kernel
theorem d21_68 : decode mt21.2.1 68 = .ok (.return_, 1) := by decide +kernel
noncomputable def pg21_0 : List (Nat × aP) := [(0, oLdA 0 1),
  (1, oGetL (fun k => k = 2) 3 4),
  (4, oLdL 3 5),
  (5, oPush (.long (-1)) 8),
  (8, oLL (fun x y => x ^^^ y) 9),
  (9, oLL (fun x y => x &&& y) 10),
  (10, oPush (.long 0) 11),
  (11, oLcmp 12),
  (12, oIf (fun x => ¬ x = 0) 34 15),
  (15, oLdA 0 16),
  (16, oGetL (fun k => k = 2) 4 19),
  (19, oLdL 1 20),
  (20, oPush (.long (-1)) 23),
  (23, oLL (fun x y => x ^^^ y) 24),
  (24, oLL (fun x y => x &&& y) 25),
  (25, oPush (.long 0) 26),
  (26, oLcmp 27),
  (27, oIf (fun x => ¬ x = 0) 34 30),
  (30, oPush (.int 1) 31),
  (31, oGo 35),
  (34, oPush (.int 0) 35),
  (35, oStI 8 37),
  (37, oLdI 8 39),
  (39, oIf (fun x => x = 0) 68 42),
  (42, oLdA 0 43),
  (43, oGetD (fun k => k = 2) 0 46),
  (46, oLdL 1 47),
  (47, oPush (.long 0) 48),
  (48, oCalV (fun k => if k = 3 then some 35 else none) 2 51),
  (51, oLdA 0 52),
  (52, oGetI (fun k => k = 2) 5 55),
  (55, oIc (fun x y => y < x) 68 58),
  (58, oLdA 0 59),
  (59, oDup 60),
  (60, oGetI (fun k => k = 2) 6 63),
  (63, oPush (.int 1) 64),
  (64, oII (fun x y => x + y) 65),
  (65, oPutI (fun k => k = 2) 6 68),
  (68, oRetV)]
theorem ok21_0 : ∀ q ∈ pg21_0, Sim mT mt21 q.1 q.2 ∧ Grow q.2 :=
  List.forall_mem_cons.mpr ⟨⟨sim_aload_n d21_0 rfl, gr_LdA 0 1⟩,
  List.forall_mem_cons.mpr ⟨⟨sim_getL d21_1 gf17, gr_GetL (fun k => k = 2) 3 4⟩,
  List.forall_mem_cons.mpr ⟨⟨sim_lload_n d21_4 rfl, gr_LdL 3 5⟩,
  List.forall_mem_cons.mpr ⟨⟨sim_ldc2 d21_5 kw716, gr_Push (.long (-1)) 8⟩,
  List.forall_mem_cons.mpr ⟨⟨sim_lxor d21_8, gr_LL (fun x y => x ^^^ y) 9⟩,
  List.forall_mem_cons.mpr ⟨⟨sim_land d21_9, gr_LL (fun x y => x &&& y) 10⟩,
  List.forall_mem_cons.mpr ⟨⟨sim_lconst d21_10 (by decide), gr_Push (.long 0) 11⟩,
  List.forall_mem_cons.mpr ⟨⟨sim_lcmp d21_11, gr_Lcmp 12⟩,
  List.forall_mem_cons.mpr ⟨⟨sim_if_ne d21_12 (by decide), gr_If (fun x => ¬ x = 0) 34 15⟩,
  List.forall_mem_cons.mpr ⟨⟨sim_aload_n d21_15 rfl, gr_LdA 0 16⟩,
  List.forall_mem_cons.mpr ⟨⟨sim_getL d21_16 gf18, gr_GetL (fun k => k = 2) 4 19⟩,
  List.forall_mem_cons.mpr ⟨⟨sim_lload_n d21_19 rfl, gr_LdL 1 20⟩,
  List.forall_mem_cons.mpr ⟨⟨sim_ldc2 d21_20 kw716, gr_Push (.long (-1)) 23⟩,
  List.forall_mem_cons.mpr ⟨⟨sim_lxor d21_23, gr_LL (fun x y => x ^^^ y) 24⟩,
  List.forall_mem_cons.mpr ⟨⟨sim_land d21_24, gr_LL (fun x y => x &&& y) 25⟩,
  List.forall_mem_cons.mpr ⟨⟨sim_lconst d21_25 (by decide), gr_Push (.long 0) 26⟩,
  List.forall_mem_cons.mpr ⟨⟨sim_lcmp d21_26, gr_Lcmp 27⟩,
  List.forall_mem_cons.mpr ⟨⟨sim_if_ne d21_27 (by decide), gr_If (fun x => ¬ x = 0) 34 30⟩,
  List.forall_mem_cons.mpr ⟨⟨sim_iconst d21_30 (by decide), gr_Push (.int 1) 31⟩,
  List.forall_mem_cons.mpr ⟨⟨sim_goto d21_31 (by decide), gr_Go 35⟩,
  List.forall_mem_cons.mpr ⟨⟨sim_iconst d21_34 (by decide), gr_Push (.int 0) 35⟩,
  List.forall_mem_cons.mpr ⟨⟨sim_istore d21_35 (by decide), gr_StI 8 37⟩,
  List.forall_mem_cons.mpr ⟨⟨sim_iload d21_37, gr_LdI 8 39⟩,
  List.forall_mem_cons.mpr ⟨⟨sim_if_eq d21_39 (by decide), gr_If (fun x => x = 0) 68 42⟩,
  List.forall_mem_cons.mpr ⟨⟨sim_aload_n d21_42 rfl, gr_LdA 0 43⟩,
  List.forall_mem_cons.mpr ⟨⟨sim_getD d21_43 gf24, gr_GetD (fun k => k = 2) 0 46⟩,
  List.forall_mem_cons.mpr ⟨⟨sim_lload_n d21_46 rfl, gr_LdL 1 47⟩,
  List.forall_mem_cons.mpr ⟨⟨sim_lconst d21_47 (by decide), gr_Push (.long 0) 48⟩,
  List.forall_mem_cons.mpr ⟨⟨sim_virtual d21_48 vk16, gr_CalV (fun k => if k = 3 then some 35 else none) 2 51⟩,
  List.forall_mem_cons.mpr ⟨⟨sim_aload_n d21_51 rfl, gr_LdA 0 52⟩,
  List.forall_mem_cons.mpr ⟨⟨sim_getI d21_52 gf21, gr_GetI (fun k => k = 2) 5 55⟩,
  List.forall_mem_cons.mpr ⟨⟨sim_icmp_gt d21_55 (by decide), gr_Ic (fun x y => y < x) 68 58⟩,
  List.forall_mem_cons.mpr ⟨⟨sim_aload_n d21_58 rfl, gr_LdA 0 59⟩,
  List.forall_mem_cons.mpr ⟨⟨sim_dup d21_59, gr_Dup 60⟩,
  List.forall_mem_cons.mpr ⟨⟨sim_getI d21_60 gf22, gr_GetI (fun k => k = 2) 6 63⟩,
  List.forall_mem_cons.mpr ⟨⟨sim_iconst d21_63 (by decide), gr_Push (.int 1) 64⟩,
  List.forall_mem_cons.mpr ⟨⟨sim_iadd d21_64, gr_II (fun x y => x + y) 65⟩,
  List.forall_mem_cons.mpr ⟨⟨sim_putI d21_65 gf22w, gr_PutI (fun k => k = 2) 6 68⟩,
  List.forall_mem_cons.mpr ⟨⟨sim_return d21_68 rfl, gr_RetV⟩, fun _ h => absurd h List.not_mem_nil⟩⟩⟩⟩⟩⟩⟩⟩⟩⟩⟩⟩⟩⟩⟩⟩⟩⟩⟩⟩⟩⟩⟩⟩⟩⟩⟩⟩⟩⟩⟩⟩⟩⟩⟩⟩⟩⟩⟩
noncomputable def pg21 : List (Nat × aP) := pg21_0
theorem ok21 : ∀ q ∈ pg21, Sim mT mt21 q.1 q.2 ∧ Grow q.2 := ok21_0
theorem d22_0 : decode mt22.2.1 0 = .ok (.aload_n 0, 1) := by decide +kernel
theorem d22_1 : decode mt22.2.1 1 = .ok (.invokespecial 3, 3) := by decide +kernel
theorem d22_4 : decode mt22.2.1 4 = .ok (.aload_n 0, 1) := by decide +kernel
theorem d22_5 : decode mt22.2.1 5 = .ok (.iconst 4, 1) := by decide +kernel
theorem d22_6 : decode mt22.2.1 6 = .ok (.newarray .long, 2) := by decide +kernel
theorem d22_8 : decode mt22.2.1 8 = .ok (.putfield 11, 3) := by decide +kernel
theorem d22_11 : decode mt22.2.1 11 = .ok (.aload_n 0, 1) := by decide +kernel
theorem d22_12 : decode mt22.2.1 12 = .ok (.iconst 4, 1) := by decide +kernel
theorem d22_13 : decode mt22.2.1 13 = .ok (.newarray .int, 2) := by decide +kernel
theorem d22_15 : decode mt22.2.1 15 = .ok (.putfield 15, 3) := by decide +kernel
theorem d22_18 : decode mt22.2.1 18 = .ok (.aload_n 0, 1) := by decide +kernel
theorem d22_19 : decode mt22.2.1 19 = .ok (.iconst 4, 1) := by decide +kernel
theorem d22_20 : decode mt22.2.1 20 = .ok (.newarray .int, 2) := by decide +kernel
theorem d22_22 : decode mt22.2.1 22 = .ok (.putfield 19, 3) := by decide +kernel
theorem d22_25 : decode mt22.2.1 25 = .ok (.aload_n 0, 1) := by decide +kernel
theorem d22_26 : decode mt22.2.1 26 = .ok (.iconst 4, 1) := by decide +kernel
theorem d22_27 : decode mt22.2.1 27 = .ok (.newarray .long, 2) := by decide +kernel
theorem d22_29 : decode mt22.2.1 29 = .ok (.putfield 22, 3) := by decide +kernel
theorem d22_32 : decode mt22.2.1 32 = .ok (.aload_n 0, 1) := by decide +kernel
theorem d22_33 : decode mt22.2.1 33 = .ok (.iconst 4, 1) := by decide +kernel
theorem d22_34 : decode mt22.2.1 34 = .ok (.newarray .long, 2) := by decide +kernel
theorem d22_36 : decode mt22.2.1 36 = .ok (.putfield 25, 3) := by decide +kernel
theorem d22_39 : decode mt22.2.1 39 = .ok (.return_, 1) := by decide +kernel
noncomputable def pg22_0 : List (Nat × aP) := [(0, oLdA 0 1),
  (1, oObj 4),
  (4, oLdA 0 5),
  (5, oPush (.int 4) 6),
  (6, oNewA (100 + 3) 8),
  (8, oPutF (fun k => k = 3) 5 11),
  (11, oLdA 0 12),
  (12, oPush (.int 4) 13),
  (13, oNewA (100 + 0) 15),
  (15, oPutF (fun k => k = 3) 6 18),
  (18, oLdA 0 19),
  (19, oPush (.int 4) 20),
  (20, oNewA (100 + 0) 22),
  (22, oPutF (fun k => k = 3) 7 25),
  (25, oLdA 0 26),
  (26, oPush (.int 4) 27),
  (27, oNewA (100 + 3) 29),
  (29, oPutF (fun k => k = 3) 8 32),
  (32, oLdA 0 33),
  (33, oPush (.int 4) 34),
  (34, oNewA (100 + 3) 36),
  (36, oPutF (fun k => k = 3) 9 39),
  (39, oRetV)]
theorem ok22_0 : ∀ q ∈ pg22_0, Sim mT mt22 q.1 q.2 ∧ Grow q.2 :=
  List.forall_mem_cons.mpr ⟨⟨sim_aload_n d22_0 rfl, gr_LdA 0 1⟩,
  List.forall_mem_cons.mpr ⟨⟨sim_obj d22_1 kw69 kw26 kw27, gr_Obj 4⟩,
  List.forall_mem_cons.mpr ⟨⟨sim_aload_n d22_4 rfl, gr_LdA 0 5⟩,
  List.forall_mem_cons.mpr ⟨⟨sim_iconst d22_5 (by decide), gr_Push (.int 4) 6⟩,
  List.forall_mem_cons.mpr ⟨⟨sim_newarray (t := 3) d22_6 kw129 (Or.inr (Or.inr (Or.inr ⟨rfl, rfl⟩))), gr_NewA (100 + 3) 8⟩,
  List.forall_mem_cons.mpr ⟨⟨sim_putF d22_8 gf25f rfl, gr_PutF (fun k => k = 3) 5 11⟩,
  List.forall_mem_cons.mpr ⟨⟨sim_aload_n d22_11 rfl, gr_LdA 0 12⟩,
  List.forall_mem_cons.mpr ⟨⟨sim_iconst d22_12 (by decide), gr_Push (.int 4) 13⟩,
  List.forall_mem_cons.mpr ⟨⟨sim_newarray (t := 0) d22_13 kw130 (Or.inl ⟨rfl, rfl⟩), gr_NewA (100 + 0) 15⟩,
  List.forall_mem_cons.mpr ⟨⟨sim_putF d22_15 gf26f rfl, gr_PutF (fun k => k = 3) 6 18⟩,
  List.forall_mem_cons.mpr ⟨⟨sim_aload_n d22_18 rfl, gr_LdA 0 19⟩,
  List.forall_mem_cons.mpr ⟨⟨sim_iconst d22_19 (by decide), gr_Push (.int 4) 20⟩,
  List.forall_mem_cons.mpr ⟨⟨sim_newarray (t := 0) d22_20 kw130 (Or.inl ⟨rfl, rfl⟩), gr_NewA (100 + 0) 22⟩,
  List.forall_mem_cons.mpr ⟨⟨sim_putF d22_22 gf27f rfl, gr_PutF (fun k => k = 3) 7 25⟩,
  List.forall_mem_cons.mpr ⟨⟨sim_aload_n d22_25 rfl, gr_LdA 0 26⟩,
  List.forall_mem_cons.mpr ⟨⟨sim_iconst d22_26 (by decide), gr_Push (.int 4) 27⟩,
  List.forall_mem_cons.mpr ⟨⟨sim_newarray (t := 3) d22_27 kw129 (Or.inr (Or.inr (Or.inr ⟨rfl, rfl⟩))), gr_NewA (100 + 3) 29⟩,
  List.forall_mem_cons.mpr ⟨⟨sim_putF d22_29 gf28f rfl, gr_PutF (fun k => k = 3) 8 32⟩,
  List.forall_mem_cons.mpr ⟨⟨sim_aload_n d22_32 rfl, gr_LdA 0 33⟩,
  List.forall_mem_cons.mpr ⟨⟨sim_iconst d22_33 (by decide), gr_Push (.int 4) 34⟩,
  List.forall_mem_cons.mpr ⟨⟨sim_newarray (t := 3) d22_34 kw129 (Or.inr (Or.inr (Or.inr ⟨rfl, rfl⟩))), gr_NewA (100 + 3) 36⟩,
  List.forall_mem_cons.mpr ⟨⟨sim_putF d22_36 gf29f rfl, gr_PutF (fun k => k = 3) 9 39⟩,
  List.forall_mem_cons.mpr ⟨⟨sim_return d22_39 rfl, gr_RetV⟩, fun _ h => absurd h List.not_mem_nil⟩⟩⟩⟩⟩⟩⟩⟩⟩⟩⟩⟩⟩⟩⟩⟩⟩⟩⟩⟩⟩⟩⟩
noncomputable def pg22 : List (Nat × aP) := pg22_0
theorem ok22 : ∀ q ∈ pg22, Sim mT mt22 q.1 q.2 ∧ Grow q.2 := ok22_0
theorem d23_0 : decode mt23.2.1 0 = .ok (.aload_n 0, 1) := by decide +kernel
theorem d23_1 : decode mt23.2.1 1 = .ok (.iconst 0, 1) := by decide +kernel
theorem d23_2 : decode mt23.2.1 2 = .ok (.putfield 28, 3) := by decide +kernel
theorem d23_5 : decode mt23.2.1 5 = .ok (.aload_n 0, 1) := by decide +kernel
theorem d23_6 : decode mt23.2.1 6 = .ok (.iconst 0, 1) := by decide +kernel
theorem d23_7 : decode mt23.2.1 7 = .ok (.putfield 32, 3) := by decide +kernel
theorem d23_10 : decode mt23.2.1 10 = .ok (.aload_n 0, 1) := by decide +kernel
theorem d23_11 : decode mt23.2.1 11 = .ok (.iconst 0, 1) := by decide +kernel
theorem d23_12 : decode mt23.2.1 12 = .ok (.putfield 35, 3) := by decide +kernel
theorem d23_15 : decode mt23.2.1 15 = .ok (.aload_n 0, 1) := by decide +kernel
theorem d23_16 : decode mt23.2.1 16 = .ok (.lconst 0, 1) := by decide +kernel
theorem d23_17 : decode mt23.2.1 17 = .ok (.putfield 38, 3) := by decide +kernel
theorem d23_20 : decode mt23.2.1 20 = .ok (.aload_n 0, 1) := by decide +kernel
theorem d23_21 : decode mt23.2.1 21 = .ok (.lconst 0, 1) := by decide +kernel
theorem d23_22 : decode mt23.2.1 22 = .ok (.putfield 42, 3) := by decide +kernel
theorem d23_25 : decode mt23.2.1 25 = .ok (.iconst 0, 1) := by decide +kernel
theorem d23_26 : decode mt23.2.1 26 = .ok (.istore_n 1, 1) := by decide +kernel
theorem d23_27 : decode mt23.2.1 27 = .ok (.iload_n 1, 1) := by decide +kernel
theorem d23_28 : decode mt23.2.1 28 = .ok (.iconst 4, 1) := by decide +kernel
theorem d23_29 : decode mt23.2.1 29 = .ok (.if_icmp .ge 16, 3) := by decide +kernel
theorem d23_32 : decode mt23.2.1 32 = .ok (.aload_n 0, 1) := by decide +kernel
theorem d23_33 : decode mt23.2.1 33 = .ok (.getfield 11, 3) := by decide +kernel
theorem d23_36 : decode mt23.2.1 36 = .ok (.iload_n 1, 1) := by decide +kernel
theorem d23_37 : decode mt23.2.1 37 = .ok (.lconst 0, 1) := by decide +kernel
theorem d23_38 : decode mt23.2.1 38 = .ok (.lastore, 1) := by decide +kernel
theorem d23_39 : decode mt23.2.1 39 = .ok (.iinc 1 1, 3) := by decide +kernel
theorem d23_42 : decode mt23.2.1 42 = .ok (.goto (-15), 3) := by decide +kernel
theorem d23_45 : decode mt23.2.1 45 = .ok (.iconst 0, 1) := by decide +kernel
theorem d23_46 : decode mt23.2.1 46 = .ok (.istore_n 1, 1) := by decide +kernel
theorem d23_47 : decode mt23.2.1 47 = .ok (.iload_n 1, 1) := by decide +kernel
theorem d23_48 : decode mt23.2.1 48 = .ok (.iconst 4, 1) := by decide +kernel
theorem d23_49 : decode mt23.2.1 49 = .ok (.if_icmp .ge 16, 3) := by decide +kernel
theorem d23_52 : decode mt23.2.1 52 = .ok (.aload_n 0, 1) := by decide +kernel
theorem d23_53 : decode mt23.2.1 53 = .ok (.getfield 22, 3) := by decide +kernel
theorem d23_56 : decode mt23.2.1 56 = .ok (.iload_n 1, 1) := by decide +kernel
theorem d23_57 : decode mt23.2.1 57 = .ok (.lconst 0, 1) := by decide +kernel
theorem d23_58 : decode mt23.2.1 58 = .ok (.lastore, 1) := by decide +kernel
theorem d23_59 : decode mt23.2.1 59 = .ok (.iinc 1 1, 3) := by decide +kernel
theorem d23_62 : decode mt23.2.1 62 = .ok (.goto (-15), 3) := by decide +kernel
theorem d23_65 : decode mt23.2.1 65 = .ok (.return_, 1) := by decide +kernel
noncomputable def pg23_0 : List (Nat × aP) := [(0, oLdA 0 1),
  (1, oPush (.int 0) 2),
  (2, oPutI (fun k => k = 3) 0 5),
  (5, oLdA 0 6),
  (6, oPush (.int 0) 7),
  (7, oPutI (fun k => k = 3) 1 10),
  (10, oLdA 0 11),
  (11, oPush (.int 0) 12),
  (12, oPutI (fun k => k = 3) 2 15),
  (15, oLdA 0 16),
  (16, oPush (.long 0) 17),
  (17, oPutL (fun k => k = 3) 3 20),
  (20, oLdA 0 21),
  (21, oPush (.long 0) 22),
  (22, oPutL (fun k => k = 3) 4 25),
  (25, oPush (.int 0) 26),
  (26, oStI 1 27),
  (27, oLdI 1 28),
  (28, oPush (.int 4) 29),
  (29, oIc (fun x y => y ≤ x) 45 32),
  (32, oLdA 0 33),
  (33, oGetF (fun k => k = 3) 5 36),
  (36, oLdI 1 37),
  (37, oPush (.long 0) 38),
  (38, oAStL 39),
  (39, oInc 1 1 42),
  (42, oGo 27),
  (45, oPush (.int 0) 46),
  (46, oStI 1 47),
  (47, oLdI 1 48),
  (48, oPush (.int 4) 49),
  (49, oIc (fun x y => y ≤ x) 65 52),
  (52, oLdA 0 53),
  (53, oGetF (fun k => k = 3) 8 56),
  (56, oLdI 1 57),
  (57, oPush (.long 0) 58),
  (58, oAStL 59),
  (59, oInc 1 1 62),
  (62, oGo 47),
  (65, oRetV)]
theorem ok23_0 : ∀ q ∈ pg23_0, Sim mT mt23 q.1 q.2 ∧ Grow q.2 :=
  List.forall_mem_cons.mpr ⟨⟨sim_aload_n d23_0 rfl, gr_LdA 0 1⟩,
  List.forall_mem_cons.mpr ⟨⟨sim_iconst d23_1 (by decide), gr_Push (.int 0) 2⟩,
  List.forall_mem_cons.mpr ⟨⟨sim_putI d23_2 gf30w, gr_PutI (fun k => k = 3) 0 5⟩,
  List.forall_mem_cons.mpr ⟨⟨sim_aload_n d23_5 rfl, gr_LdA 0 6⟩,
  List.forall_mem_cons.mpr ⟨⟨sim_iconst d23_6 (by decide), gr_Push (.int 0) 7⟩,
  List.forall_mem_cons.mpr ⟨⟨sim_putI d23_7 gf31w, gr_PutI (fun k => k = 3) 1 10⟩,
  List.forall_mem_cons.mpr ⟨⟨sim_aload_n d23_10 rfl, gr_LdA 0 11⟩,
  List.forall_mem_cons.mpr ⟨⟨sim_iconst d23_11 (by decide), gr_Push (.int 0) 12⟩,
  List.forall_mem_cons.mpr ⟨⟨sim_putI d23_12 gf7w, gr_PutI (fun k => k = 3) 2 15⟩,
  List.forall_mem_cons.mpr ⟨⟨sim_aload_n d23_15 rfl, gr_LdA 0 16⟩,
  List.forall_mem_cons.mpr ⟨⟨sim_lconst d23_16 (by decide), gr_Push (.long 0) 17⟩,
  List.forall_mem_cons.mpr ⟨⟨sim_putL d23_17 gf32, gr_PutL (fun k => k = 3) 3 20⟩,
  List.forall_mem_cons.mpr ⟨⟨sim_aload_n d23_20 rfl, gr_LdA 0 21⟩,
  List.forall_mem_cons.mpr ⟨⟨sim_lconst d23_21 (by decide), gr_Push (.long 0) 22⟩,
  List.forall_mem_cons.mpr ⟨⟨sim_putL d23_22 gf33, gr_PutL (fun k => k = 3) 4 25⟩,
  List.forall_mem_cons.mpr ⟨⟨sim_iconst d23_25 (by decide), gr_Push (.int 0) 26⟩,
  List.forall_mem_cons.mpr ⟨⟨sim_istore_n d23_26 rfl (by decide), gr_StI 1 27⟩,
  List.forall_mem_cons.mpr ⟨⟨sim_iload_n d23_27 rfl, gr_LdI 1 28⟩,
  List.forall_mem_cons.mpr ⟨⟨sim_iconst d23_28 (by decide), gr_Push (.int 4) 29⟩,
  List.forall_mem_cons.mpr ⟨⟨sim_icmp_ge d23_29 (by decide), gr_Ic (fun x y => y ≤ x) 45 32⟩,
  List.forall_mem_cons.mpr ⟨⟨sim_aload_n d23_32 rfl, gr_LdA 0 33⟩,
  List.forall_mem_cons.mpr ⟨⟨sim_getF d23_33 gf34, gr_GetF (fun k => k = 3) 5 36⟩,
  List.forall_mem_cons.mpr ⟨⟨sim_iload_n d23_36 rfl, gr_LdI 1 37⟩,
  List.forall_mem_cons.mpr ⟨⟨sim_lconst d23_37 (by decide), gr_Push (.long 0) 38⟩,
  List.forall_mem_cons.mpr ⟨⟨sim_lastore d23_38, gr_AStL 39⟩,
  List.forall_mem_cons.mpr ⟨⟨sim_iinc d23_39 (by decide) (by decide), gr_Inc 1 1 42⟩,
  List.forall_mem_cons.mpr ⟨⟨sim_goto d23_42 (by decide), gr_Go 27⟩,
  List.forall_mem_cons.mpr ⟨⟨sim_iconst d23_45 (by decide), gr_Push (.int 0) 46⟩,
  List.forall_mem_cons.mpr ⟨⟨sim_istore_n d23_46 rfl (by decide), gr_StI 1 47⟩,
  List.forall_mem_cons.mpr ⟨⟨sim_iload_n d23_47 rfl, gr_LdI 1 48⟩,
  List.forall_mem_cons.mpr ⟨⟨sim_iconst d23_48 (by decide), gr_Push (.int 4) 49⟩,
  List.forall_mem_cons.mpr ⟨⟨sim_icmp_ge d23_49 (by decide), gr_Ic (fun x y => y ≤ x) 65 52⟩,
  List.forall_mem_cons.mpr ⟨⟨sim_aload_n d23_52 rfl, gr_LdA 0 53⟩,
  List.forall_mem_cons.mpr ⟨⟨sim_getF d23_53 gf35, gr_GetF (fun k => k = 3) 8 56⟩,
  List.forall_mem_cons.mpr ⟨⟨sim_iload_n d23_56 rfl, gr_LdI 1 57⟩,
  List.forall_mem_cons.mpr ⟨⟨sim_lconst d23_57 (by decide), gr_Push (.long 0) 58⟩,
  List.forall_mem_cons.mpr ⟨⟨sim_lastore d23_58, gr_AStL 59⟩,
  List.forall_mem_cons.mpr ⟨⟨sim_iinc d23_59 (by decide) (by decide), gr_Inc 1 1 62⟩,
  List.forall_mem_cons.mpr ⟨⟨sim_goto d23_62 (by decide), gr_Go 47⟩,
  List.forall_mem_cons.mpr ⟨⟨sim_return d23_65 rfl, gr_RetV⟩, fun _ h => absurd h List.not_mem_nil⟩⟩⟩⟩⟩⟩⟩⟩⟩⟩⟩⟩⟩⟩⟩⟩⟩⟩⟩⟩⟩⟩⟩⟩⟩⟩⟩⟩⟩⟩⟩⟩⟩⟩⟩⟩⟩⟩⟩⟩
noncomputable def pg23 : List (Nat × aP) := pg23_0
theorem ok23 : ∀ q ∈ pg23, Sim mT mt23 q.1 q.2 ∧ Grow q.2 := ok23_0
theorem d24_0 : decode mt24.2.1 0 = .ok (.aload_n 0, 1) := by decide +kernel
theorem d24_1 : decode mt24.2.1 1 = .ok (.aload_n 1, 1) := by decide +kernel
theorem d24_2 : decode mt24.2.1 2 = .ok (.getfield 28, 3) := by decide +kernel
theorem d24_5 : decode mt24.2.1 5 = .ok (.putfield 28, 3) := by decide +kernel
theorem d24_8 : decode mt24.2.1 8 = .ok (.aload_n 0, 1) := by decide +kernel
theorem d24_9 : decode mt24.2.1 9 = .ok (.aload_n 1, 1) := by decide +kernel
theorem d24_10 : decode mt24.2.1 10 = .ok (.getfield 32, 3) := by decide +kernel
theorem d24_13 : decode mt24.2.1 13 = .ok (.putfield 32, 3) := by decide +kernel
theorem d24_16 : decode mt24.2.1 16 = .ok (.aload_n 0, 1) := by decide +kernel
theorem d24_17 : decode mt24.2.1 17 = .ok (.aload_n 1, 1) := by decide +kernel
theorem d24_18 : decode mt24.2.1 18 = .ok (.getfield 35, 3) := by decide +kernel
theorem d24_21 : decode mt24.2.1 21 = .ok (.putfield 35, 3) := by decide +kernel
theorem d24_24 : decode mt24.2.1 24 = .ok (.aload_n 0, 1) := by decide +kernel
theorem d24_25 : decode mt24.2.1 25 = .ok (.aload_n 1, 1) := by decide +kernel
theorem d24_26 : decode mt24.2.1 26 = .ok (.getfield 38, 3) := by decide +kernel
theorem d24_29 : decode mt24.2.1 29 = .ok (.putfield 38, 3) := by decide +kernel
theorem d24_32 : decode mt24.2.1 32 = .ok (.aload_n 0, 1) := by decide +kernel
theorem d24_33 : decode mt24.2.1 33 = .ok (.aload_n 1, 1) := by decide +kernel
theorem d24_34 : decode mt24.2.1 34 = .ok (.getfield 42, 3) := by decide +kernel
theorem d24_37 : decode mt24.2.1 37 = .ok (.putfield 42, 3) := by decide +kernel
theorem d24_40 : decode mt24.2.1 40 = .ok (.aload_n 1, 1) := by decide +kernel
theorem d24_41 : decode mt24.2.1 41 = .ok (.getfield 11, 3) := by decide +kernel
theorem d24_44 : decode mt24.2.1 44 = .ok (.iconst 0, 1) := by decide +kernel
theorem d24_45 : decode mt24.2.1 45 = .ok (.aload_n 0, 1) := by decide +kernel
theorem d24_46 : decode mt24.2.1 46 = .ok (.getfield 11, 3) := by decide +kernel
theorem d24_49 : decode mt24.2.1 49 = .ok (.iconst 0, 1) := by decide +kernel
theorem d24_50 : decode mt24.2.1 50 = .ok (.iconst 4, 1) := by decide +kernel
theorem d24_51 : decode mt24.2.1 51 = .ok (.invokestatic 45, 3) := by decide +kernel
theorem d24_54 : decode mt24.2.1 54 = .ok (.aload_n 1, 1) := by decide +kernel
theorem d24_55 : decode mt24.2.1 55 = .ok (.getfield 15, 3) := by decide +kernel
theorem d24_58 : decode mt24.2.1 58 = .ok (.iconst 0, 1) := by decide +kernel
theorem d24_59 : decode mt24.2.1 59 = .ok (.aload_n 0, 1) := by decide +kernel
theorem d24_60 : decode mt24.2.1 60 = .ok (.getfield 15, 3) := by decide +kernel
theorem d24_63 : decode mt24.2.1 63 = .ok (.iconst 0, 1) := by decide +kernel
theorem d24_64 : decode mt24.2.1 64 = .ok (.iconst 4, 1) := by decide +kernel
theorem d24_65 : decode mt24.2.1 65 = .ok (.invokestatic 45, 3) := by decide +kernel
theorem d24_68 : decode mt24.2.1 68 = .ok (.aload_n 1, 1) := by decide +kernel
theorem d24_69 : decode mt24.2.1 69 = .ok (.getfield 19, 3) := by decide +kernel
theorem d24_72 : decode mt24.2.1 72 = .ok (.iconst 0, 1) := by decide +kernel
theorem d24_73 : decode mt24.2.1 73 = .ok (.aload_n 0, 1) := by decide +kernel
theorem d24_74 : decode mt24.2.1 74 = .ok (.getfield 19, 3) := by decide +kernel
theorem d24_77 : decode mt24.2.1 77 = .ok (.iconst 0, 1) := by decide +kernel
theorem d24_78 : decode mt24.2.1 78 = .ok (.iconst 4, 1) := by decide +kernel
theorem d24_79 : decode mt24.2.1 79 = .ok (.invokestatic 45, 3) := by decide +kernel
theorem d24_82 : decode mt24.2.1 82 = .ok (.aload_n 1, 1) := by decide +kernel
theorem d24_83 : decode mt24.2.1 83 = .ok (.getfield 22, 3) := by decide +kernel
theorem d24_86 : decode mt24.2.1 86 = .ok (.iconst 0, 1) := by decide +kernel
theorem d24_87 : decode mt24.2.1 87 = .ok (.aload_n 0, 1) := by decide +kernel
theorem d24_88 : decode mt24.2.1 88 = .ok (.getfield 22, 3) := by decide +kernel
theorem d24_91 : decode mt24.2.1 91 = .ok (.iconst 0, 1) := by decide +kernel
theorem d24_92 : decode mt24.2.1 92 = .ok (.iconst 4, 1) := by decide +kernel
theorem d24_93 : decode mt24.2.1 93 = .ok (.invokestatic 45, 3) := by decide +kernel
theorem d24_96 : decode mt24.2.1 96 = .ok (.aload_n 1, 1) := by decide +kernel
theorem d24_97 : decode mt24.2.1 97 = .ok (.getfield 25, 3) := by decide +kernel
theorem d24_100 : decode mt24.2.1 100 = .ok (.iconst 0, 1) := by decide +kernel
theorem d24_101 : decode mt24.2.1 101 = .ok (.aload_n 0, 1) := by decide +kernel
theorem d24_102 : decode mt24.2.1 102 = .ok (.getfield 25, 3) := by decide +kernel
theorem d24_105 : decode mt24.2.1 105 = .ok (.iconst 0, 1) := by decide +kernel
theorem d24_106 : decode mt24.2.1 106 = .ok (.iconst 4, 1) := by decide +kernel
theorem d24_107 : decode mt24.2.1 107 = .ok (.invokestatic 45, 3) := by decide +kernel
theorem d24_110 : decode mt24.2.1 110 = .ok (.aload_n 0, 1) := by decide +kernel
theorem d24_111 : decode mt24.2.1 111 = .ok (.aload_n 1, 1) := by decide +kernel
theorem d24_112 : decode mt24.2.1 112 = .ok (.getfield 51, 3) := by decide +kernel
theorem d24_115 : decode mt24.2.1 115 = .ok (.putfield 51, 3) := by decide +kernel
theorem d24_118 : decode mt24.2.1 118 = .ok (.aload_n 0, 1) := by decide +kernel
theorem d24_119 : decode mt24.2.1 119 = .ok (.aload_n 1, 1) := by decide +kernel
theorem d24_120 : decode mt24.2.1 120 = .ok (.getfield 54, 3) := by decide +kernel
theorem d24_123 : decode mt24.2.1 123 = .ok (.putfield 54, 3) := by decide +kernel
theorem d24_126 : decode mt24.2.1 126 = .ok (.aload_n 0, 1) := by decide +kernel
theorem d24_127 : decode mt24.2.1 127 = .ok (.aload_n 1, 1) := by decide +kernel
theorem d24_128 : decode mt24.2.1 128 = .ok (.getfield 57, 3) := by decide +kernel
theorem d24_131 : decode mt24.2.1 131 = .ok (.putfield 57, 3) := by decide +kernel
theorem d24_134 : decode mt24.2.1 134 = .ok (.return_, 1) := by decide +kernel
noncomputable def pg24_0 : List (Nat × aP) := [(0, oLdA 0 1),
  (1, oLdA 1 2),
  (2, oGetI (fun k => k = 3) 0 5),
  (5, oPutI (fun k => k = 3) 0 8),
  (8, oLdA 0 9),
  (9, oLdA 1 10),
  (10, oGetI (fun k => k = 3) 1 13),
  (13, oPutI (fun k => k = 3) 1 16),
  (16, oLdA 0 17),
  (17, oLdA 1 18),
  (18, oGetI (fun k => k = 3) 2 21),
  (21, oPutI (fun k => k = 3) 2 24),
  (24, oLdA 0 25),
  (25, oLdA 1 26),
  (26, oGetL (fun k => k = 3) 3 29),
  (29, oPutL (fun k => k = 3) 3 32),
  (32, oLdA 0 33),
  (33, oLdA 1 34),
  (34, oGetL (fun k => k = 3) 4 37),
  (37, oPutL (fun k => k = 3) 4 40),
  (40, oLdA 1 41),
  (41, oGetF (fun k => k = 3) 5 44),
  (44, oPush (.int 0) 45),
  (45, oLdA 0 46),
  (46, oGetF (fun k => k = 3) 5 49),
  (49, oPush (.int 0) 50),
  (50, oPush (.int 4) 51),
  (51, oCopy 54),
  (54, oLdA 1 55),
  (55, oGetF (fun k => k = 3) 6 58),
  (58, oPush (.int 0) 59),
  (59, oLdA 0 60),
  (60, oGetF (fun k => k = 3) 6 63),
  (63, oPush (.int 0) 64),
  (64, oPush (.int 4) 65),
  (65, oCopy 68),
  (68, oLdA 1 69),
  (69, oGetF (fun k => k = 3) 7 72),
  (72, oPush (.int 0) 73),
  (73, oLdA 0 74)]
theorem ok24_0 : ∀ q ∈ pg24_0, Sim mT mt24 q.1 q.2 ∧ Grow q.2 :=
  List.forall_mem_cons.mpr ⟨⟨sim_aload_n d24_0 rfl, gr_LdA 0 1⟩,
  List.forall_mem_cons.mpr ⟨⟨sim_aload_n d24_1 rfl, gr_LdA 1 2⟩,
  List.forall_mem_cons.mpr ⟨⟨sim_getI d24_2 gf30, gr_GetI (fun k => k = 3) 0 5⟩,
  List.forall_mem_cons.mpr ⟨⟨sim_putI d24_5 gf30w, gr_PutI (fun k => k = 3) 0 8⟩,
  List.forall_mem_cons.mpr ⟨⟨sim_aload_n d24_8 rfl, gr_LdA 0 9⟩,
  List.forall_mem_cons.mpr ⟨⟨sim_aload_n d24_9 rfl, gr_LdA 1 10⟩,
  List.forall_mem_cons.mpr ⟨⟨sim_getI d24_10 gf31, gr_GetI (fun k => k = 3) 1 13⟩,
  List.forall_mem_cons.mpr ⟨⟨sim_putI d24_13 gf31w, gr_PutI (fun k => k = 3) 1 16⟩,
  List.forall_mem_cons.mpr ⟨⟨sim_aload_n d24_16 rfl, gr_LdA 0 17⟩,
  List.forall_mem_cons.mpr ⟨⟨sim_aload_n d24_17 rfl, gr_LdA 1 18⟩,
  List.forall_mem_cons.mpr ⟨⟨sim_getI d24_18 gf7, gr_GetI (fun k => k = 3) 2 21⟩,
  List.forall_mem_cons.mpr ⟨⟨sim_putI d24_21 gf7w, gr_PutI (fun k => k = 3) 2 24⟩,
  List.forall_mem_cons.mpr ⟨⟨sim_aload_n d24_24 rfl, gr_LdA 0 25⟩,
  List.forall_mem_cons.mpr ⟨⟨sim_aload_n d24_25 rfl, gr_LdA 1 26⟩,
  List.forall_mem_cons.mpr ⟨⟨sim_getL d24_26 gf32, gr_GetL (fun k => k = 3) 3 29⟩,
  List.forall_mem_cons.mpr ⟨⟨sim_putL d24_29 gf32, gr_PutL (fun k => k = 3) 3 32⟩,
  List.forall_mem_cons.mpr ⟨⟨sim_aload_n d24_32 rfl, gr_LdA 0 33⟩,
  List.forall_mem_cons.mpr ⟨⟨sim_aload_n d24_33 rfl, gr_LdA 1 34⟩,
  List.forall_mem_cons.mpr ⟨⟨sim_getL d24_34 gf33, gr_GetL (fun k => k = 3) 4 37⟩,
  List.forall_mem_cons.mpr ⟨⟨sim_putL d24_37 gf33, gr_PutL (fun k => k = 3) 4 40⟩,
  List.forall_mem_cons.mpr ⟨⟨sim_aload_n d24_40 rfl, gr_LdA 1 41⟩,
  List.forall_mem_cons.mpr ⟨⟨sim_getF d24_41 gf34, gr_GetF (fun k => k = 3) 5 44⟩,
  List.forall_mem_cons.mpr ⟨⟨sim_iconst d24_44 (by decide), gr_Push (.int 0) 45⟩,
  List.forall_mem_cons.mpr ⟨⟨sim_aload_n d24_45 rfl, gr_LdA 0 46⟩,
  List.forall_mem_cons.mpr ⟨⟨sim_getF d24_46 gf34, gr_GetF (fun k => k = 3) 5 49⟩,
  List.forall_mem_cons.mpr ⟨⟨sim_iconst d24_49 (by decide), gr_Push (.int 0) 50⟩,
  List.forall_mem_cons.mpr ⟨⟨sim_iconst d24_50 (by decide), gr_Push (.int 4) 51⟩,
  List.forall_mem_cons.mpr ⟨⟨sim_copy d24_51 kw566 kw384 kw383 kw13, gr_Copy 54⟩,
  List.forall_mem_cons.mpr ⟨⟨sim_aload_n d24_54 rfl, gr_LdA 1 55⟩,
  List.forall_mem_cons.mpr ⟨⟨sim_getF d24_55 gf36, gr_GetF (fun k => k = 3) 6 58⟩,
  List.forall_mem_cons.mpr ⟨⟨sim_iconst d24_58 (by decide), gr_Push (.int 0) 59⟩,
  List.forall_mem_cons.mpr ⟨⟨sim_aload_n d24_59 rfl, gr_LdA 0 60⟩,
  List.forall_mem_cons.mpr ⟨⟨sim_getF d24_60 gf36, gr_GetF (fun k => k = 3) 6 63⟩,
  List.forall_mem_cons.mpr ⟨⟨sim_iconst d24_63 (by decide), gr_Push (.int 0) 64⟩,
  List.forall_mem_cons.mpr ⟨⟨sim_iconst d24_64 (by decide), gr_Push (.int 4) 65⟩,
  List.forall_mem_cons.mpr ⟨⟨sim_copy d24_65 kw566 kw384 kw383 kw13, gr_Copy 68⟩,
  List.forall_mem_cons.mpr ⟨⟨sim_aload_n d24_68 rfl, gr_LdA 1 69⟩,
  List.forall_mem_cons.mpr ⟨⟨sim_getF d24_69 gf37, gr_GetF (fun k => k = 3) 7 72⟩,
  List.forall_mem_cons.mpr ⟨⟨sim_iconst d24_72 (by decide), gr_Push (.int 0) 73⟩,
  List.forall_mem_cons.mpr ⟨⟨sim_aload_n d24_73 rfl, gr_LdA 0 74⟩, fun _ h => absurd h List.not_mem_nil⟩⟩⟩⟩⟩⟩⟩⟩⟩⟩⟩⟩⟩⟩⟩⟩⟩⟩⟩⟩⟩⟩⟩⟩⟩⟩⟩⟩⟩⟩⟩⟩⟩⟩⟩⟩⟩⟩⟩⟩
noncomputable def pg24_1 : List (Nat × aP) := [(74, oGetF (fun k => k = 3) 7 77),
  (77, oPush (.int 0) 78),
  (78, oPush (.int 4) 79),
  (79, oCopy 82),
  (82, oLdA 1 83),
  (83, oGetF (fun k => k = 3) 8 86),
  (86, oPush (.int 0) 87),
  (87, oLdA 0 88),
  (88, oGetF (fun k => k = 3) 8 91),
  (91, oPush (.int 0) 92),
  (92, oPush (.int 4) 93),
  (93, oCopy 96),
  (96, oLdA 1 97),
  (97, oGetF (fun k => k = 3) 9 100),
  (100, oPush (.int 0) 101),
  (101, oLdA 0 102),
  (102, oGetF (fun k => k = 3) 9 105),
  (105, oPush (.int 0) 106),
  (106, oPush (.int 4) 107),
  (107, oCopy 110),
  (110, oLdA 0 111),
  (111, oLdA 1 112),
  (112, oGetL (fun k => k = 3) 10 115),
  (115, oPutL (fun k => k = 3) 10 118),
  (118, oLdA 0 119),
  (119, oLdA 1 120),
  (120, oGetL (fun k => k = 3) 11 123),
  (123, oPutL (fun k => k = 3) 11 126),
  (126, oLdA 0 127),
  (127, oLdA 1 128),
  (128, oGetL (fun k => k = 3) 12 131),
  (131, oPutL (fun k => k = 3) 12 134),
  (134, oRetV)]
theorem ok24_1 : ∀ q ∈ pg24_1, Sim mT mt24 q.1 q.2 ∧ Grow q.2 :=
  List.forall_mem_cons.mpr ⟨⟨sim_getF d24_74 gf37, gr_GetF (fun k => k = 3) 7 77⟩,
  List.forall_mem_cons.mpr ⟨⟨sim_iconst d24_77 (by decide), gr_Push (.int 0) 78⟩,
  List.forall_mem_cons.mpr ⟨⟨sim_iconst d24_78 (by decide), gr_Push (.int 4) 79⟩,
  List.forall_mem_cons.mpr ⟨⟨sim_copy d24_79 kw566 kw384 kw383 kw13, gr_Copy 82⟩,
  List.forall_mem_cons.mpr ⟨⟨sim_aload_n d24_82 rfl, gr_LdA 1 83⟩,
  List.forall_mem_cons.mpr ⟨⟨sim_getF d24_83 gf35, gr_GetF (fun k => k = 3) 8 86⟩,
  List.forall_mem_cons.mpr ⟨⟨sim_iconst d24_86 (by decide), gr_Push (.int 0) 87⟩,
  List.forall_mem_cons.mpr ⟨⟨sim_aload_n d24_87 rfl, gr_LdA 0 88⟩,
  List.forall_mem_cons.mpr ⟨⟨sim_getF d24_88 gf35, gr_GetF (fun k => k = 3) 8 91⟩,
  List.forall_mem_cons.mpr ⟨⟨sim_iconst d24_91 (by decide), gr_Push (.int 0) 92⟩,
  List.forall_mem_cons.mpr ⟨⟨sim_iconst d24_92 (by decide), gr_Push (.int 4) 93⟩,
  List.forall_mem_cons.mpr ⟨⟨sim_copy d24_93 kw566 kw384 kw383 kw13, gr_Copy 96⟩,
  List.forall_mem_cons.mpr ⟨⟨sim_aload_n d24_96 rfl, gr_LdA 1 97⟩,
  List.forall_mem_cons.mpr ⟨⟨sim_getF d24_97 gf38, gr_GetF (fun k => k = 3) 9 100⟩,
  List.forall_mem_cons.mpr ⟨⟨sim_iconst d24_100 (by decide), gr_Push (.int 0) 101⟩,
  List.forall_mem_cons.mpr ⟨⟨sim_aload_n d24_101 rfl, gr_LdA 0 102⟩,
  List.forall_mem_cons.mpr ⟨⟨sim_getF d24_102 gf38, gr_GetF (fun k => k = 3) 9 105⟩,
  List.forall_mem_cons.mpr ⟨⟨sim_iconst d24_105 (by decide), gr_Push (.int 0) 106⟩,
  List.forall_mem_cons.mpr ⟨⟨sim_iconst d24_106 (by decide), gr_Push (.int 4) 107⟩,
  List.forall_mem_cons.mpr ⟨⟨sim_copy d24_107 kw566 kw384 kw383 kw13, gr_Copy 110⟩,
  List.forall_mem_cons.mpr ⟨⟨sim_aload_n d24_110 rfl, gr_LdA 0 111⟩,
  List.forall_mem_cons.mpr ⟨⟨sim_aload_n d24_111 rfl, gr_LdA 1 112⟩,
  List.forall_mem_cons.mpr ⟨⟨sim_getL d24_112 gf39, gr_GetL (fun k => k = 3) 10 115⟩,
  List.forall_mem_cons.mpr ⟨⟨sim_putL d24_115 gf39, gr_PutL (fun k => k = 3) 10 118⟩,
  List.forall_mem_cons.mpr ⟨⟨sim_aload_n d24_118 rfl, gr_LdA 0 119⟩,
  List.forall_mem_cons.mpr ⟨⟨sim_aload_n d24_119 rfl, gr_LdA 1 120⟩,
  List.forall_mem_cons.mpr ⟨⟨sim_getL d24_120 gf40, gr_GetL (fun k => k = 3) 11 123⟩,
  List.forall_mem_cons.mpr ⟨⟨sim_putL d24_123 gf40, gr_PutL (fun k => k = 3) 11 126⟩,
  List.forall_mem_cons.mpr ⟨⟨sim_aload_n d24_126 rfl, gr_LdA 0 127⟩,
  List.forall_mem_cons.mpr ⟨⟨sim_aload_n d24_127 rfl, gr_LdA 1 128⟩,
  List.forall_mem_cons.mpr ⟨⟨sim_getL d24_128 gf41, gr_GetL (fun k => k = 3) 12 131⟩,
  List.forall_mem_cons.mpr ⟨⟨sim_putL d24_131 gf41, gr_PutL (fun k => k = 3) 12 134⟩,
  List.forall_mem_cons.mpr ⟨⟨sim_return d24_134 rfl, gr_RetV⟩, fun _ h => absurd h List.not_mem_nil⟩⟩⟩⟩⟩⟩⟩⟩⟩⟩⟩⟩⟩⟩⟩⟩⟩⟩⟩⟩⟩⟩⟩⟩⟩⟩⟩⟩⟩⟩⟩⟩⟩
noncomputable def pg24 : List (Nat × aP) := pg24_0 ++ (pg24_1)
theorem ok24 : ∀ q ∈ pg24, Sim mT mt24 q.1 q.2 ∧ Grow q.2 := List.forall_mem_append.mpr ⟨ok24_0, ok24_1⟩
theorem d25_0 : decode mt25.2.1 0 = .ok (.aload_n 0, 1) := by decide +kernel
theorem d25_1 : decode mt25.2.1 1 = .ok (.getfield 35, 3) := by decide +kernel
theorem d25_4 : decode mt25.2.1 4 = .ok (.ifCond .le 7, 3) := by decide +kernel
theorem d25_7 : decode mt25.2.1 7 = .ok (.iconst 1, 1) := by decide +kernel
theorem d25_8 : decode mt25.2.1 8 = .ok (.goto 4, 3) := by decide +kernel
theorem d25_11 : decode mt25.2.1 11 = .ok (.iconst 0, 1) := by decide +kernel
theorem d25_12 : decode mt25.2.1 12 = .ok (.ireturn, 1) := by decide +kernel
noncomputable def pg25_0 : List (Nat × aP) := [(0, oLdA 0 1),
  (1, oGetI (fun k => k = 3) 2 4),
  (4, oIf (fun x => x ≤ 0) 11 7),
  (7, oPush (.int 1) 8),
  (8, oGo 12),
  (11, oPush (.int 0) 12),
  (12, oRetN .boolean)]
theorem ok25_0 : ∀ q ∈ pg25_0, Sim mT mt25 q.1 q.2 ∧ Grow q.2 :=
  List.forall_mem_cons.mpr ⟨⟨sim_aload_n d25_0 rfl, gr_LdA 0 1⟩,
  List.forall_mem_cons.mpr ⟨⟨sim_getI d25_1 gf7, gr_GetI (fun k => k = 3) 2 4⟩,
  List.forall_mem_cons.mpr ⟨⟨sim_if_le d25_4 (by decide), gr_If (fun x => x ≤ 0) 11 7⟩,
  List.forall_mem_cons.mpr ⟨⟨sim_iconst d25_7 (by decide), gr_Push (.int 1) 8⟩,
  List.forall_mem_cons.mpr ⟨⟨sim_goto d25_8 (by decide), gr_Go 12⟩,
  List.forall_mem_cons.mpr ⟨⟨sim_iconst d25_11 (by decide), gr_Push (.int 0) 12⟩,
  List.forall_mem_cons.mpr ⟨⟨sim_nreturn d25_12 rfl (fun _ h => congrArg Value.int h), gr_RetN .boolean⟩, fun _ h => absurd h List.not_mem_nil⟩⟩⟩⟩⟩⟩⟩
noncomputable def pg25 : List (Nat × aP) := pg25_0
theorem ok25 : ∀ q ∈ pg25, Sim mT mt25 q.1 q.2 ∧ Grow q.2 := ok25_0
theorem d26_0 : decode mt26.2.1 0 = .ok (.iload_n 1, 1) := by decide +kernel
theorem d26_1 : decode mt26.2.1 1 = .ok (.ifCond .lt 15, 3) := by decide +kernel
theorem d26_4 : decode mt26.2.1 4 = .ok (.iload_n 1, 1) := by decide +kernel
theorem d26_5 : decode mt26.2.1 5 = .ok (.aload_n 0, 1) := by decide +kernel
theorem d26_6 : decode mt26.2.1 6 = .ok (.getfield 35, 3) := by decide +kernel
theorem d26_9 : decode mt26.2.1 9 = .ok (.if_icmp .ge 7, 3) := by decide +kernel
theorem d26_12 : decode mt26.2.1 12 = .ok (.iconst 1, 1) := by decide +kernel
theorem d26_13 : decode mt26.2.1 13 = .ok (.goto 4, 3) := by decide +kernel
theorem d26_16 : decode mt26.2.1 16 = .ok (.iconst 0, 1) := by decide +kernel
theorem d26_17 : decode mt26.2.1 17 = .ok (.ireturn, 1) := by decide +kernel
noncomputable def pg26_0 : List (Nat × aP) := [(0, oLdI 1 1),
  (1, oIf (fun x => x < 0) 16 4),
  (4, oLdI 1 5),
  (5, oLdA 0 6),
  (6, oGetI (fun k => k = 3) 2 9),
  (9, oIc (fun x y => y ≤ x) 16 12),
  (12, oPush (.int 1) 13),
  (13, oGo 17),
  (16, oPush (.int 0) 17),
  (17, oRetN .boolean)]
theorem ok26_0 : ∀ q ∈ pg26_0, Sim mT mt26 q.1 q.2 ∧ Grow q.2 :=
  List.forall_mem_cons.mpr ⟨⟨sim_iload_n d26_0 rfl, gr_LdI 1 1⟩,
  List.forall_mem_cons.mpr ⟨⟨sim_if_lt d26_1 (by decide), gr_If (fun x => x < 0) 16 4⟩,
  List.forall_mem_cons.mpr ⟨⟨sim_iload_n d26_4 rfl, gr_LdI 1 5⟩,
  List.forall_mem_cons.mpr ⟨⟨sim_aload_n d26_5 rfl, gr_LdA 0 6⟩,
  List.forall_mem_cons.mpr ⟨⟨sim_getI d26_6 gf7, gr_GetI (fun k => k = 3) 2 9⟩,
  List.forall_mem_cons.mpr ⟨⟨sim_icmp_ge d26_9 (by decide), gr_Ic (fun x y => y ≤ x) 16 12⟩,
  List.forall_mem_cons.mpr ⟨⟨sim_iconst d26_12 (by decide), gr_Push (.int 1) 13⟩,
  List.forall_mem_cons.mpr ⟨⟨sim_goto d26_13 (by decide), gr_Go 17⟩,
  List.forall_mem_cons.mpr ⟨⟨sim_iconst d26_16 (by decide), gr_Push (.int 0) 17⟩,
  List.forall_mem_cons.mpr ⟨⟨sim_nreturn d26_17 rfl (fun _ h => congrArg Value.int h), gr_RetN .boolean⟩, fun _ h => absurd h List.not_mem_nil⟩⟩⟩⟩⟩⟩⟩⟩⟩⟩
noncomputable def pg26 : List (Nat × aP) := pg26_0
theorem ok26 : ∀ q ∈ pg26, Sim mT mt26 q.1 q.2 ∧ Grow q.2 := ok26_0
theorem d27_0 : decode mt27.2.1 0 = .ok (.aload_n 0, 1) := by decide +kernel
theorem d27_1 : decode mt27.2.1 1 = .ok (.getfield 22, 3) := by decide +kernel
theorem d27_4 : decode mt27.2.1 4 = .ok (.iload_n 1, 1) := by decide +kernel
theorem d27_5 : decode mt27.2.1 5 = .ok (.laload, 1) := by decide +kernel
theorem d27_6 : decode mt27.2.1 6 = .ok (.lconst 0, 1) := by decide +kernel
theorem d27_7 : decode mt27.2.1 7 = .ok (.lcmp, 1) := by decide +kernel
theorem d27_8 : decode mt27.2.1 8 = .ok (.ifCond .eq 7, 3) := by decide +kernel
theorem d27_11 : decode mt27.2.1 11 = .ok (.iconst 1, 1) := by decide +kernel
theorem d27_12 : decode mt27.2.1 12 = .ok (.goto 4, 3) := by decide +kernel
theorem d27_15 : decode mt27.2.1 15 = .ok (.iconst 0, 1) := by decide +kernel
theorem d27_16 : decode mt27.2.1 16 = .ok (.ireturn, 1) := by decide +kernel
noncomputable def pg27_0 : List (Nat × aP) := [(0, oLdA 0 1),
  (1, oGetF (fun k => k = 3) 8 4),
  (4, oLdI 1 5),
  (5, oALdL 6),
  (6, oPush (.long 0) 7),
  (7, oLcmp 8),
  (8, oIf (fun x => x = 0) 15 11),
  (11, oPush (.int 1) 12),
  (12, oGo 16),
  (15, oPush (.int 0) 16),
  (16, oRetN .boolean)]
theorem ok27_0 : ∀ q ∈ pg27_0, Sim mT mt27 q.1 q.2 ∧ Grow q.2 :=
  List.forall_mem_cons.mpr ⟨⟨sim_aload_n d27_0 rfl, gr_LdA 0 1⟩,
  List.forall_mem_cons.mpr ⟨⟨sim_getF d27_1 gf35, gr_GetF (fun k => k = 3) 8 4⟩,
  List.forall_mem_cons.mpr ⟨⟨sim_iload_n d27_4 rfl, gr_LdI 1 5⟩,
  List.forall_mem_cons.mpr ⟨⟨sim_laload d27_5, gr_ALdL 6⟩,
  List.forall_mem_cons.mpr ⟨⟨sim_lconst d27_6 (by decide), gr_Push (.long 0) 7⟩,
  List.forall_mem_cons.mpr ⟨⟨sim_lcmp d27_7, gr_Lcmp 8⟩,
  List.forall_mem_cons.mpr ⟨⟨sim_if_eq d27_8 (by decide), gr_If (fun x => x = 0) 15 11⟩,
  List.forall_mem_cons.mpr ⟨⟨sim_iconst d27_11 (by decide), gr_Push (.int 1) 12⟩,
  List.forall_mem_cons.mpr ⟨⟨sim_goto d27_12 (by decide), gr_Go 16⟩,
  List.forall_mem_cons.mpr ⟨⟨sim_iconst d27_15 (by decide), gr_Push (.int 0) 16⟩,
  List.forall_mem_cons.mpr ⟨⟨sim_nreturn d27_16 rfl (fun _ h => congrArg Value.int h), gr_RetN .boolean⟩, fun _ h => absurd h List.not_mem_nil⟩⟩⟩⟩⟩⟩⟩⟩⟩⟩⟩
noncomputable def pg27 : List (Nat × aP) := pg27_0
theorem ok27 : ∀ q ∈ pg27, Sim mT mt27 q.1 q.2 ∧ Grow q.2 := ok27_0
theorem d28_0 : decode mt28.2.1 0 = .ok (.aload_n 0, 1) := by decide +kernel
theorem d28_1 : decode mt28.2.1 1 = .ok (.invokevirtual 60, 3) := by decide +kernel
theorem d28_4 : decode mt28.2.1 4 = .ok (.ifCond .eq 32, 3) := by decide +kernel
theorem d28_7 : decode mt28.2.1 7 = .ok (.iload_n 1, 1) := by decide +kernel
theorem d28_8 : decode mt28.2.1 8 = .ok (.ifCond .lt 28, 3) := by decide +kernel
theorem d28_11 : decode mt28.2.1 11 = .ok (.iload_n 1, 1) := by decide +kernel
theorem d28_12 : decode mt28.2.1 12 = .ok (.bipush 7, 2) := by decide +kernel
theorem d28_14 : decode mt28.2.1 14 = .ok (.iand, 1) := by decide +kernel
theorem d28_15 : decode mt28.2.1 15 = .ok (.aload_n 0, 1) := by decide +kernel
theorem d28_16 : decode mt28.2.1 16 = .ok (.getfield 28, 3) := by decide +kernel
theorem d28_19 : decode mt28.2.1 19 = .ok (.if_icmp .gt 17, 3) := by decide +kernel
theorem d28_22 : decode mt28.2.1 22 = .ok (.iload_n 1, 1) := by decide +kernel
theorem d28_23 : decode mt28.2.1 23 = .ok (.iconst 3, 1) := by decide +kernel
theorem d28_24 : decode mt28.2.1 24 = .ok (.ishr, 1) := by decide +kernel
theorem d28_25 : decode mt28.2.1 25 = .ok (.aload_n 0, 1) := by decide +kernel
theorem d28_26 : decode mt28.2.1 26 = .ok (.getfield 32, 3) := by decide +kernel
theorem d28_29 : decode mt28.2.1 29 = .ok (.if_icmp .gt 7, 3) := by decide +kernel
theorem d28_32 : decode mt28.2.1 32 = .ok (.iconst 1, 1) := by decide +kernel
theorem d28_33 : decode mt28.2.1 33 = .ok (.goto 4, 3) := by decide +kernel
theorem d28_36 : decode mt28.2.1 36 = .ok (.iconst 0, 1) := by decide +kernel
theorem d28_37 : decode mt28.2.1 37 = .ok (.ireturn, 1) := by decide +kernel
noncomputable def pg28_0 : List (Nat × aP) := [(0, oLdA 0 1),
  (1, oCalV (fun k => if k = 3 then some 25 else none) 0 4),
  (4, oIf (fun x => x = 0) 36 7),
  (7, oLdI 1 8),
  (8, oIf (fun x => x < 0) 36 11),
  (11, oLdI 1 12),
  (12, oPush (.int 7) 14),
  (14, oII (fun x y => x &&& y) 15),
  (15, oLdA 0 16),
  (16, oGetI (fun k => k = 3) 0 19),
  (19, oIc (fun x y => y < x) 36 22),
  (22, oLdI 1 23),
  (23, oPush (.int 3) 24),
  (24, oII (fun x y => x >>> (y &&& 31)) 25),
  (25, oLdA 0 26),
  (26, oGetI (fun k => k = 3) 1 29),
  (29, oIc (fun x y => y < x) 36 32),
  (32, oPush (.int 1) 33),
  (33, oGo 37),
  (36, oPush (.int 0) 37),
  (37, oRetN .boolean)]
theorem ok28_0 : ∀ q ∈ pg28_0, Sim mT mt28 q.1 q.2 ∧ Grow q.2 :=
  List.forall_mem_cons.mpr ⟨⟨sim_aload_n d28_0 rfl, gr_LdA 0 1⟩,
  List.forall_mem_cons.mpr ⟨⟨sim_virtual d28_1 vk17, gr_CalV (fun k => if k = 3 then some 25 else none) 0 4⟩,
  List.forall_mem_cons.mpr ⟨⟨sim_if_eq d28_4 (by decide), gr_If (fun x => x = 0) 36 7⟩,
  List.forall_mem_cons.mpr ⟨⟨sim_iload_n d28_7 rfl, gr_LdI 1 8⟩,
  List.forall_mem_cons.mpr ⟨⟨sim_if_lt d28_8 (by decide), gr_If (fun x => x < 0) 36 11⟩,
  List.forall_mem_cons.mpr ⟨⟨sim_iload_n d28_11 rfl, gr_LdI 1 12⟩,
  List.forall_mem_cons.mpr ⟨⟨sim_bipush d28_12 (by decide), gr_Push (.int 7) 14⟩,
  List.forall_mem_cons.mpr ⟨⟨sim_iand d28_14, gr_II (fun x y => x &&& y) 15⟩,
  List.forall_mem_cons.mpr ⟨⟨sim_aload_n d28_15 rfl, gr_LdA 0 16⟩,
  List.forall_mem_cons.mpr ⟨⟨sim_getI d28_16 gf30, gr_GetI (fun k => k = 3) 0 19⟩,
  List.forall_mem_cons.mpr ⟨⟨sim_icmp_gt d28_19 (by decide), gr_Ic (fun x y => y < x) 36 22⟩,
  List.forall_mem_cons.mpr ⟨⟨sim_iload_n d28_22 rfl, gr_LdI 1 23⟩,
  List.forall_mem_cons.mpr ⟨⟨sim_iconst d28_23 (by decide), gr_Push (.int 3) 24⟩,
  List.forall_mem_cons.mpr ⟨⟨sim_ishr d28_24, gr_II (fun x y => x >>> (y &&& 31)) 25⟩,
  List.forall_mem_cons.mpr ⟨⟨sim_aload_n d28_25 rfl, gr_LdA 0 26⟩,
  List.forall_mem_cons.mpr ⟨⟨sim_getI d28_26 gf31, gr_GetI (fun k => k = 3) 1 29⟩,
  List.forall_mem_cons.mpr ⟨⟨sim_icmp_gt d28_29 (by decide), gr_Ic (fun x y => y < x) 36 32⟩,
  List.forall_mem_cons.mpr ⟨⟨sim_iconst d28_32 (by decide), gr_Push (.int 1) 33⟩,
  List.forall_mem_cons.mpr ⟨⟨sim_goto d28_33 (by decide), gr_Go 37⟩,
  List.forall_mem_cons.mpr ⟨⟨sim_iconst d28_36 (by decide), gr_Push (.int 0) 37⟩,
  List.forall_mem_cons.mpr ⟨⟨sim_nreturn d28_37 rfl (fun _ h => congrArg Value.int h), gr_RetN .boolean⟩, fun _ h => absurd h List.not_mem_nil⟩⟩⟩⟩⟩⟩⟩⟩⟩⟩⟩⟩⟩⟩⟩⟩⟩⟩⟩⟩⟩
noncomputable def pg28 : List (Nat × aP) := pg28_0
theorem ok28 : ∀ q ∈ pg28, Sim mT mt28 q.1 q.2 ∧ Grow q.2 := ok28_0
theorem d29_0 : decode mt29.2.1 0 = .ok (.iload_n 1, 1) := by decide +kernel
theorem d29_1 : decode mt29.2.1 1 = .ok (.ifCond .lt 29, 3) := by decide +kernel
theorem d29_4 : decode mt29.2.1 4 = .ok (.iload_n 1, 1) := by decide +kernel
theorem d29_5 : decode mt29.2.1 5 = .ok (.bipush 7, 2) := by decide +kernel
theorem d29_7 : decode mt29.2.1 7 = .ok (.irem, 1) := by decide +kernel
theorem d29_8 : decode mt29.2.1 8 = .ok (.aload_n 0, 1) := by decide +kernel
theorem d29_9 : decode mt29.2.1 9 = .ok (.getfield 28, 3) := by decide +kernel
theorem d29_12 : decode mt29.2.1 12 = .ok (.if_icmp .ge 18, 3) := by decide +kernel
theorem d29_15 : decode mt29.2.1 15 = .ok (.iload_n 1, 1) := by decide +kernel
theorem d29_16 : decode mt29.2.1 16 = .ok (.bipush 7, 2) := by decide +kernel
theorem d29_18 : decode mt29.2.1 18 = .ok (.idiv, 1) := by decide +kernel
theorem d29_19 : decode mt29.2.1 19 = .ok (.aload_n 0, 1) := by decide +kernel
theorem d29_20 : decode mt29.2.1 20 = .ok (.getfield 32, 3) := by decide +kernel
theorem d29_23 : decode mt29.2.1 23 = .ok (.if_icmp .ge 7, 3) := by decide +kernel
theorem d29_26 : decode mt29.2.1 26 = .ok (.iconst 1, 1) := by decide +kernel
theorem d29_27 : decode mt29.2.1 27 = .ok (.goto 4, 3) := by decide +kernel
theorem d29_30 : decode mt29.2.1 30 = .ok (.iconst 0, 1) := by decide +kernel
theorem d29_31 : decode mt29.2.1 31 = .ok (.ireturn, 1) := by decide +kernel
noncomputable def pg29_0 : List (Nat × aP) := [(0, oLdI 1 1),
  (1, oIf (fun x => x < 0) 30 4),
  (4, oLdI 1 5),
  (5, oPush (.int 7) 7),
  (7, oIId (fun x y => x - x / y * y) 8),
  (8, oLdA 0 9),
  (9, oGetI (fun k => k = 3) 0 12),
  (12, oIc (fun x y => y ≤ x) 30 15),
  (15, oLdI 1 16),
  (16, oPush (.int 7) 18),
  (18, oIId (fun x y => x / y) 19),
  (19, oLdA 0 20),
  (20, oGetI (fun k => k = 3) 1 23),
  (23, oIc (fun x y => y ≤ x) 30 26),
  (26, oPush (.int 1) 27),
  (27, oGo 31),
  (30, oPush (.int 0) 31),
  (31, oRetN .boolean)]
theorem ok29_0 : ∀ q ∈ pg29_0, Sim mT mt29 q.1 q.2 ∧ Grow q.2 :=
  List.forall_mem_cons.mpr ⟨⟨sim_iload_n d29_0 rfl, gr_LdI 1 1⟩,
  List.forall_mem_cons.mpr ⟨⟨sim_if_lt d29_1 (by decide), gr_If (fun x => x < 0) 30 4⟩,
  List.forall_mem_cons.mpr ⟨⟨sim_iload_n d29_4 rfl, gr_LdI 1 5⟩,
  List.forall_mem_cons.mpr ⟨⟨sim_bipush d29_5 (by decide), gr_Push (.int 7) 7⟩,
  List.forall_mem_cons.mpr ⟨⟨sim_irem d29_7, gr_IId (fun x y => x - x / y * y) 8⟩,
  List.forall_mem_cons.mpr ⟨⟨sim_aload_n d29_8 rfl, gr_LdA 0 9⟩,
  List.forall_mem_cons.mpr ⟨⟨sim_getI d29_9 gf30, gr_GetI (fun k => k = 3) 0 12⟩,
  List.forall_mem_cons.mpr ⟨⟨sim_icmp_ge d29_12 (by decide), gr_Ic (fun x y => y ≤ x) 30 15⟩,
  List.forall_mem_cons.mpr ⟨⟨sim_iload_n d29_15 rfl, gr_LdI 1 16⟩,
  List.forall_mem_cons.mpr ⟨⟨sim_bipush d29_16 (by decide), gr_Push (.int 7) 18⟩,
  List.forall_mem_cons.mpr ⟨⟨sim_idiv d29_18, gr_IId (fun x y => x / y) 19⟩,
  List.forall_mem_cons.mpr ⟨⟨sim_aload_n d29_19 rfl, gr_LdA 0 20⟩,
  List.forall_mem_cons.mpr ⟨⟨sim_getI d29_20 gf31, gr_GetI (fun k => k = 3) 1 23⟩,
  List.forall_mem_cons.mpr ⟨⟨sim_icmp_ge d29_23 (by decide), gr_Ic (fun x y => y ≤ x) 30 26⟩,
  List.forall_mem_cons.mpr ⟨⟨sim_iconst d29_26 (by decide), gr_Push (.int 1) 27⟩,
  List.forall_mem_cons.mpr ⟨⟨sim_goto d29_27 (by decide), gr_Go 31⟩,
  List.forall_mem_cons.mpr ⟨⟨sim_iconst d29_30 (by decide), gr_Push (.int 0) 31⟩,
  List.forall_mem_cons.mpr ⟨⟨sim_nreturn d29_31 rfl (fun _ h => congrArg Value.int h), gr_RetN .boolean⟩, fun _ h => absurd h List.not_mem_nil⟩⟩⟩⟩⟩⟩⟩⟩⟩⟩⟩⟩⟩⟩⟩⟩⟩⟩
noncomputable def pg29 : List (Nat × aP) := pg29_0
theorem ok29 : ∀ q ∈ pg29, Sim mT mt29 q.1 q.2 ∧ Grow q.2 := ok29_0
theorem d30_0 : decode mt30.2.1 0 = .ok (.iload_n 2, 1) := by decide +kernel
theorem d30_1 : decode mt30.2.1 1 = .ok (.bipush 119, 2) := by decide +kernel
theorem d30_3 : decode mt30.2.1 3 = .ok (.if_icmp .ne 16, 3) := by decide +kernel
theorem d30_6 : decode mt30.2.1 6 = .ok (.aload_n 0, 1) := by decide +kernel
theorem d30_7 : decode mt30.2.1 7 = .ok (.dup, 1) := by decide +kernel
theorem d30_8 : decode mt30.2.1 8 = .ok (.getfield 38, 3) := by decide +kernel
theorem d30_11 : decode mt30.2.1 11 = .ok (.lconst 1, 1) := by decide +kernel
theorem d30_12 : decode mt30.2.1 12 = .ok (.iload_n 1, 1) := by decide +kernel
theorem d30_13 : decode mt30.2.1 13 = .ok (.lshl, 1) := by decide +kernel
theorem d30_14 : decode mt30.2.1 14 = .ok (.lor, 1) := by decide +kernel
theorem d30_15 : decode mt30.2.1 15 = .ok (.putfield 38, 3) := by decide +kernel
theorem d30_18 : decode mt30.2.1 18 = .ok (.return_, 1) := by decide +kernel
theorem d30_19 : decode mt30.2.1 19 = .ok (.iconst 0, 1) := by decide +kernel
theorem d30_20 : decode mt30.2.1 20 = .ok (.istore_n 3, 1) := by decide +kernel
theorem d30_21 : decode mt30.2.1 21 = .ok (.iload_n 3, 1) := by decide +kernel
theorem d30_22 : decode mt30.2.1 22 = .ok (.iconst 4, 1) := by decide +kernel
theorem d30_23 : decode mt30.2.1 23 = .ok (.if_icmp .ge 29, 3) := by decide +kernel
theorem d30_26 : decode mt30.2.1 26 = .ok (.aload_n 0, 1) := by decide +kernel
theorem d30_27 : decode mt30.2.1 27 = .ok (.getfield 11, 3) := by decide +kernel
theorem d30_30 : decode mt30.2.1 30 = .ok (.iload_n 3, 1) := by decide +kernel
theorem d30_31 : decode mt30.2.1 31 = .ok (.dup2, 1) := by decide +kernel
theorem d30_32 : decode mt30.2.1 32 = .ok (.laload, 1) := by decide +kernel
theorem d30_33 : decode mt30.2.1 33 = .ok (.iload_n 2, 1) := by decide +kernel
theorem d30_34 : decode mt30.2.1 34 = .ok (.bipush 97, 2) := by decide +kernel
theorem d30_36 : decode mt30.2.1 36 = .ok (.isub, 1) := by decide +kernel
theorem d30_37 : decode mt30.2.1 37 = .ok (.iload_n 3, 1) := by decide +kernel
theorem d30_38 : decode mt30.2.1 38 = .ok (.ishr, 1) := by decide +kernel
theorem d30_39 : decode mt30.2.1 39 = .ok (.iconst 1, 1) := by decide +kernel
theorem d30_40 : decode mt30.2.1 40 = .ok (.iand, 1) := by decide +kernel
theorem d30_41 : decode mt30.2.1 41 = .ok (.i2l, 1) := by decide +kernel
theorem d30_42 : decode mt30.2.1 42 = .ok (.iload_n 1, 1) := by decide +kernel
theorem d30_43 : decode mt30.2.1 43 = .ok (.lshl, 1) := by decide +kernel
theorem d30_44 : decode mt30.2.1 44 = .ok (.lor, 1) := by decide +kernel
theorem d30_45 : decode mt30.2.1 45 = .ok (.lastore, 1) := by decide +kernel
theorem d30_46 : decode mt30.2.1 46 = .ok (.iinc 3 1, 3) := by decide +kernel
theorem d30_49 : decode mt30.2.1 49 = .ok (.goto (-28), 3) := by decide +kernel
theorem d30_52 : decode mt30.2.1 52 = .ok (.return_, 1) := by decide +kernel
noncomputable def pg30_0 : List (Nat × aP) := [(0, oLdI 2 1),
  (1, oPush (.int 119) 3),
  (3, oIc (fun x y => ¬ x = y) 19 6),
  (6, oLdA 0 7),
  (7, oDup 8),
  (8, oGetL (fun k => k = 3) 3 11),
  (11, oPush (.long 1) 12),
  (12, oLdI 1 13),
  (13, oLSh (fun x y => x <<< (y.toInt64 &&& 63)) 14),
  (14, oLL (fun x y => x ||| y) 15),
  (15, oPutL (fun k => k = 3) 3 18),
  (18, oRetV),
  (19, oPush (.int 0) 20),
  (20, oStI 3 21),
  (21, oLdI 3 22),
  (22, oPush (.int 4) 23),
  (23, oIc (fun x y => y ≤ x) 52 26),
  (26, oLdA 0 27),
  (27, oGetF (fun k => k = 3) 5 30),
  (30, oLdI 3 31),
  (31, oDup2 32),
  (32, oALdL 33),
  (33, oLdI 2 34),
  (34, oPush (.int 97) 36),
  (36, oII (fun x y => x - y) 37),
  (37, oLdI 3 38),
  (38, oII (fun x y => x >>> (y &&& 31)) 39),
  (39, oPush (.int 1) 40),
  (40, oII (fun x y => x &&& y) 41),
  (41, oIL (fun x => x.toInt64) 42),
  (42, oLdI 1 43),
  (43, oLSh (fun x y => x <<< (y.toInt64 &&& 63)) 44),
  (44, oLL (fun x y => x ||| y) 45),
  (45, oAStL 46),
  (46, oInc 3 1 49),
  (49, oGo 21),
  (52, oRetV)]
theorem ok30_0 : ∀ q ∈ pg30_0, Sim mT mt30 q.1 q.2 ∧ Grow q.2 :=
  List.forall_mem_cons.mpr ⟨⟨sim_iload_n d30_0 rfl, gr_LdI 2 1⟩,
  List.forall_mem_cons.mpr ⟨⟨sim_bipush d30_1 (by decide), gr_Push (.int 119) 3⟩,
  List.forall_mem_cons.mpr ⟨⟨sim_icmp_ne d30_3 (by decide), gr_Ic (fun x y => ¬ x = y) 19 6⟩,
  List.forall_mem_cons.mpr ⟨⟨sim_aload_n d30_6 rfl, gr_LdA 0 7⟩,
  List.forall_mem_cons.mpr ⟨⟨sim_dup d30_7, gr_Dup 8⟩,
  List.forall_mem_cons.mpr ⟨⟨sim_getL d30_8 gf32, gr_GetL (fun k => k = 3) 3 11⟩,
  List.forall_mem_cons.mpr ⟨⟨sim_lconst d30_11 (by decide), gr_Push (.long 1) 12⟩,
  List.forall_mem_cons.mpr ⟨⟨sim_iload_n d30_12 rfl, gr_LdI 1 13⟩,
  List.forall_mem_cons.mpr ⟨⟨sim_lshl d30_13, gr_LSh (fun x y => x <<< (y.toInt64 &&& 63)) 14⟩,
  List.forall_mem_cons.mpr ⟨⟨sim_lor d30_14, gr_LL (fun x y => x ||| y) 15⟩,
  List.forall_mem_cons.mpr ⟨⟨sim_putL d30_15 gf32, gr_PutL (fun k => k = 3) 3 18⟩,
  List.forall_mem_cons.mpr ⟨⟨sim_return d30_18 rfl, gr_RetV⟩,
  List.forall_mem_cons.mpr ⟨⟨sim_iconst d30_19 (by decide), gr_Push (.int 0) 20⟩,
  List.forall_mem_cons.mpr ⟨⟨sim_istore_n d30_20 rfl (by decide), gr_StI 3 21⟩,
  List.forall_mem_cons.mpr ⟨⟨sim_iload_n d30_21 rfl, gr_LdI 3 22⟩,
  List.forall_mem_cons.mpr ⟨⟨sim_iconst d30_22 (by decide), gr_Push (.int 4) 23⟩,
  List.forall_mem_cons.mpr ⟨⟨sim_icmp_ge d30_23 (by decide), gr_Ic (fun x y => y ≤ x) 52 26⟩,
  List.forall_mem_cons.mpr ⟨⟨sim_aload_n d30_26 rfl, gr_LdA 0 27⟩,
  List.forall_mem_cons.mpr ⟨⟨sim_getF d30_27 gf34, gr_GetF (fun k => k = 3) 5 30⟩,
  List.forall_mem_cons.mpr ⟨⟨sim_iload_n d30_30 rfl, gr_LdI 3 31⟩,
  List.forall_mem_cons.mpr ⟨⟨sim_dup2 d30_31, gr_Dup2 32⟩,
  List.forall_mem_cons.mpr ⟨⟨sim_laload d30_32, gr_ALdL 33⟩,
  List.forall_mem_cons.mpr ⟨⟨sim_iload_n d30_33 rfl, gr_LdI 2 34⟩,
  List.forall_mem_cons.mpr ⟨⟨sim_bipush d30_34 (by decide), gr_Push (.int 97) 36⟩,
  List.forall_mem_cons.mpr ⟨⟨sim_isub d30_36, gr_II (fun x y => x - y) 37⟩,
  List.forall_mem_cons.mpr ⟨⟨sim_iload_n d30_37 rfl, gr_LdI 3 38⟩,
  List.forall_mem_cons.mpr ⟨⟨sim_ishr d30_38, gr_II (fun x y => x >>> (y &&& 31)) 39⟩,
  List.forall_mem_cons.mpr ⟨⟨sim_iconst d30_39 (by decide), gr_Push (.int 1) 40⟩,
  List.forall_mem_cons.mpr ⟨⟨sim_iand d30_40, gr_II (fun x y => x &&& y) 41⟩,
  List.forall_mem_cons.mpr ⟨⟨sim_i2l d30_41, gr_IL (fun x => x.toInt64) 42⟩,
  List.forall_mem_cons.mpr ⟨⟨sim_iload_n d30_42 rfl, gr_LdI 1 43⟩,
  List.forall_mem_cons.mpr ⟨⟨sim_lshl d30_43, gr_LSh (fun x y => x <<< (y.toInt64 &&& 63)) 44⟩,
  List.forall_mem_cons.mpr ⟨⟨sim_lor d30_44, gr_LL (fun x y => x ||| y) 45⟩,
  List.forall_mem_cons.mpr ⟨⟨sim_lastore d30_45, gr_AStL 46⟩,
  List.forall_mem_cons.mpr ⟨⟨sim_iinc d30_46 (by decide) (by decide), gr_Inc 3 1 49⟩,
  List.forall_mem_cons.mpr ⟨⟨sim_goto d30_49 (by decide), gr_Go 21⟩,
  List.forall_mem_cons.mpr ⟨⟨sim_return d30_52 rfl, gr_RetV⟩, fun _ h => absurd h List.not_mem_nil⟩⟩⟩⟩⟩⟩⟩⟩⟩⟩⟩⟩⟩⟩⟩⟩⟩⟩⟩⟩⟩⟩⟩⟩⟩⟩⟩⟩⟩⟩⟩⟩⟩⟩⟩⟩⟩
noncomputable def pg30 : List (Nat × aP) := pg30_0
theorem ok30 : ∀ q ∈ pg30, Sim mT mt30 q.1 q.2 ∧ Grow q.2 := ok30_0
theorem d31_0 : decode mt31.2.1 0 = .ok (.lconst 0, 1) := by decide +kernel
theorem d31_1 : decode mt31.2.1 1 = .ok (.lstore_n 1, 1) := by decide +kernel
theorem d31_2 : decode mt31.2.1 2 = .ok (.iconst 0, 1) := by decide +kernel
theorem d31_3 : decode mt31.2.1 3 = .ok (.istore_n 3, 1) := by decide +kernel
theorem d31_4 : decode mt31.2.1 4 = .ok (.iload_n 3, 1) := by decide +kernel
theorem d31_5 : decode mt31.2.1 5 = .ok (.bipush 64, 2) := by decide +kernel
theorem d31_7 : decode mt31.2.1 7 = .ok (.if_icmp .ge 34, 3) := by decide +kernel
theorem d31_10 : decode mt31.2.1 10 = .ok (.aload_n 0, 1) := by decide +kernel
theorem d31_11 : decode mt31.2.1 11 = .ok (.iload_n 3, 1) := by decide +kernel
theorem d31_12 : decode mt31.2.1 12 = .ok (.invokevirtual 64, 3) := by decide +kernel
theorem d31_15 : decode mt31.2.1 15 = .ok (.ifCond .eq 20, 3) := by decide +kernel
theorem d31_18 : decode mt31.2.1 18 = .ok (.aload_n 0, 1) := by decide +kernel
theorem d31_19 : decode mt31.2.1 19 = .ok (.getfield 42, 3) := by decide +kernel
theorem d31_22 : decode mt31.2.1 22 = .ok (.iload_n 3, 1) := by decide +kernel
theorem d31_23 : decode mt31.2.1 23 = .ok (.invokestatic 68, 3) := by decide +kernel
theorem d31_26 : decode mt31.2.1 26 = .ok (.ifCond .ne 9, 3) := by decide +kernel
theorem d31_29 : decode mt31.2.1 29 = .ok (.lload_n 1, 1) := by decide +kernel
theorem d31_30 : decode mt31.2.1 30 = .ok (.lconst 1, 1) := by decide +kernel
theorem d31_31 : decode mt31.2.1 31 = .ok (.iload_n 3, 1) := by decide +kernel
theorem d31_32 : decode mt31.2.1 32 = .ok (.lshl, 1) := by decide +kernel
theorem d31_33 : decode mt31.2.1 33 = .ok (.lor, 1) := by decide +kernel
theorem d31_34 : decode mt31.2.1 34 = .ok (.lstore_n 1, 1) := by decide +kernel
theorem d31_35 : decode mt31.2.1 35 = .ok (.iinc 3 1, 3) := by decide +kernel
theorem d31_38 : decode mt31.2.1 38 = .ok (.goto (-34), 3) := by decide +kernel
theorem d31_41 : decode mt31.2.1 41 = .ok (.aload_n 0, 1) := by decide +kernel
theorem d31_42 : decode mt31.2.1 42 = .ok (.getfield 25, 3) := by decide +kernel
theorem d31_45 : decode mt31.2.1 45 = .ok (.iconst 0, 1) := by decide +kernel
theorem d31_46 : decode mt31.2.1 46 = .ok (.lload_n 1, 1) := by decide +kernel
theorem d31_47 : decode mt31.2.1 47 = .ok (.bipush 8, 2) := by decide +kernel
theorem d31_49 : decode mt31.2.1 49 = .ok (.lshl, 1) := by decide +kernel
theorem d31_50 : decode mt31.2.1 50 = .ok (.lastore, 1) := by decide +kernel
theorem d31_51 : decode mt31.2.1 51 = .ok (.aload_n 0, 1) := by decide +kernel
theorem d31_52 : decode mt31.2.1 52 = .ok (.getfield 25, 3) := by decide +kernel
theorem d31_55 : decode mt31.2.1 55 = .ok (.iconst 1, 1) := by decide +kernel
theorem d31_56 : decode mt31.2.1 56 = .ok (.lload_n 1, 1) := by decide +kernel
theorem d31_57 : decode mt31.2.1 57 = .ok (.iconst 1, 1) := by decide +kernel
theorem d31_58 : decode mt31.2.1 58 = .ok (.lushr, 1) := by decide +kernel
theorem d31_59 : decode mt31.2.1 59 = .ok (.ldc2_w 72, 3) := by decide +kernel
theorem d31_62 : decode mt31.2.1 62 = .ok (.land, 1) := by decide +kernel
theorem d31_63 : decode mt31.2.1 63 = .ok (.lastore, 1) := by decide +kernel
theorem d31_64 : decode mt31.2.1 64 = .ok (.aload_n 0, 1) := by decide +kernel
theorem d31_65 : decode mt31.2.1 65 = .ok (.getfield 25, 3) := by decide +kernel
theorem d31_68 : decode mt31.2.1 68 = .ok (.iconst 2, 1) := by decide +kernel
theorem d31_69 : decode mt31.2.1 69 = .ok (.lload_n 1, 1) := by decide +kernel
theorem d31_70 : decode mt31.2.1 70 = .ok (.bipush 8, 2) := by decide +kernel
theorem d31_72 : decode mt31.2.1 72 = .ok (.lushr, 1) := by decide +kernel
theorem d31_73 : decode mt31.2.1 73 = .ok (.lastore, 1) := by decide +kernel
theorem d31_74 : decode mt31.2.1 74 = .ok (.aload_n 0, 1) := by decide +kernel
theorem d31_75 : decode mt31.2.1 75 = .ok (.getfield 25, 3) := by decide +kernel
theorem d31_78 : decode mt31.2.1 78 = .ok (.iconst 3, 1) := by decide +kernel
theorem d31_79 : decode mt31.2.1 79 = .ok (.lload_n 1, 1) := by decide +kernel
theorem d31_80 : decode mt31.2.1 80 = .ok (.iconst 1, 1) := by decide +kernel
theorem d31_81 : decode mt31.2.1 81 = .ok (.lshl, 1) := by decide +kernel
theorem d31_82 : decode mt31.2.1 82 = .ok (.ldc2_w 74, 3) := by decide +kernel
theorem d31_85 : decode mt31.2.1 85 = .ok (.land, 1) := by decide +kernel
theorem d31_86 : decode mt31.2.1 86 = .ok (.lastore, 1) := by decide +kernel
theorem d31_87 : decode mt31.2.1 87 = .ok (.return_, 1) := by decide +kernel
noncomputable def pg31_0 : List (Nat × aP) := [(0, oPush (.long 0) 1),
  (1, oStL 1 2),
  (2, oPush (.int 0) 3),
  (3, oStI 3 4),
  (4, oLdI 3 5),
  (5, oPush (.int 64) 7),
  (7, oIc (fun x y => y ≤ x) 41 10),
  (10, oLdA 0 11),
  (11, oLdI 3 12),
  (12, oCalV (fun k => if k = 3 then some 28 else none) 1 15),
  (15, oIf (fun x => x = 0) 35 18),
  (18, oLdA 0 19),
  (19, oGetL (fun k => k = 3) 4 22),
  (22, oLdI 3 23),
  (23, oCall 122 2 26),
  (26, oIf (fun x => ¬ x = 0) 35 29),
  (29, oLdL 1 30),
  (30, oPush (.long 1) 31),
  (31, oLdI 3 32),
  (32, oLSh (fun x y => x <<< (y.toInt64 &&& 63)) 33),
  (33, oLL (fun x y => x ||| y) 34),
  (34, oStL 1 35),
  (35, oInc 3 1 38),
  (38, oGo 4),
  (41, oLdA 0 42),
  (42, oGetF (fun k => k = 3) 9 45),
  (45, oPush (.int 0) 46),
  (46, oLdL 1 47),
  (47, oPush (.int 8) 49),
  (49, oLSh (fun x y => x <<< (y.toInt64 &&& 63)) 50),
  (50, oAStL 51),
  (51, oLdA 0 52),
  (52, oGetF (fun k => k = 3) 9 55),
  (55, oPush (.int 1) 56),
  (56, oLdL 1 57),
  (57, oPush (.int 1) 58),
  (58, oLSh (fun x y => (x.toUInt64 >>> (y.toInt64.toUInt64 &&& Int64.toUInt64 63)).toInt64) 59),
  (59, oPush (.long 9187201950435737471) 62),
  (62, oLL (fun x y => x &&& y) 63),
  (63, oAStL 64)]
theorem ok31_0 : ∀ q ∈ pg31_0, Sim mT mt31 q.1 q.2 ∧ Grow q.2 :=
  List.forall_mem_cons.mpr ⟨⟨sim_lconst d31_0 (by decide), gr_Push (.long 0) 1⟩,
  List.forall_mem_cons.mpr ⟨⟨sim_lstore_n d31_1 rfl (by decide), gr_StL 1 2⟩,
  List.forall_mem_cons.mpr ⟨⟨sim_iconst d31_2 (by decide), gr_Push (.int 0) 3⟩,
  List.forall_mem_cons.mpr ⟨⟨sim_istore_n d31_3 rfl (by decide), gr_StI 3 4⟩,
  List.forall_mem_cons.mpr ⟨⟨sim_iload_n d31_4 rfl, gr_LdI 3 5⟩,
  List.forall_mem_cons.mpr ⟨⟨sim_bipush d31_5 (by decide), gr_Push (.int 64) 7⟩,
  List.forall_mem_cons.mpr ⟨⟨sim_icmp_ge d31_7 (by decide), gr_Ic (fun x y => y ≤ x) 41 10⟩,
  List.forall_mem_cons.mpr ⟨⟨sim_aload_n d31_10 rfl, gr_LdA 0 11⟩,
  List.forall_mem_cons.mpr ⟨⟨sim_iload_n d31_11 rfl, gr_LdI 3 12⟩,
  List.forall_mem_cons.mpr ⟨⟨sim_virtual d31_12 vk18, gr_CalV (fun k => if k = 3 then some 28 else none) 1 15⟩,
  List.forall_mem_cons.mpr ⟨⟨sim_if_eq d31_15 (by decide), gr_If (fun x => x = 0) 35 18⟩,
  List.forall_mem_cons.mpr ⟨⟨sim_aload_n d31_18 rfl, gr_LdA 0 19⟩,
  List.forall_mem_cons.mpr ⟨⟨sim_getL d31_19 gf33, gr_GetL (fun k => k = 3) 4 22⟩,
  List.forall_mem_cons.mpr ⟨⟨sim_iload_n d31_22 rfl, gr_LdI 3 23⟩,
  List.forall_mem_cons.mpr ⟨⟨sim_static (y := 122) d31_23 (Or.inr ⟨_, kn548⟩) kw534 mo122, gr_Call 122 2 26⟩,
  List.forall_mem_cons.mpr ⟨⟨sim_if_ne d31_26 (by decide), gr_If (fun x => ¬ x = 0) 35 29⟩,
  List.forall_mem_cons.mpr ⟨⟨sim_lload_n d31_29 rfl, gr_LdL 1 30⟩,
  List.forall_mem_cons.mpr ⟨⟨sim_lconst d31_30 (by decide), gr_Push (.long 1) 31⟩,
  List.forall_mem_cons.mpr ⟨⟨sim_iload_n d31_31 rfl, gr_LdI 3 32⟩,
  List.forall_mem_cons.mpr ⟨⟨sim_lshl d31_32, gr_LSh (fun x y => x <<< (y.toInt64 &&& 63)) 33⟩,
  List.forall_mem_cons.mpr ⟨⟨sim_lor d31_33, gr_LL (fun x y => x ||| y) 34⟩,
  List.forall_mem_cons.mpr ⟨⟨sim_lstore_n d31_34 rfl (by decide), gr_StL 1 35⟩,
  List.forall_mem_cons.mpr ⟨⟨sim_iinc d31_35 (by decide) (by decide), gr_Inc 3 1 38⟩,
  List.forall_mem_cons.mpr ⟨⟨sim_goto d31_38 (by decide), gr_Go 4⟩,
  List.forall_mem_cons.mpr ⟨⟨sim_aload_n d31_41 rfl, gr_LdA 0 42⟩,
  List.forall_mem_cons.mpr ⟨⟨sim_getF d31_42 gf38, gr_GetF (fun k => k = 3) 9 45⟩,
  List.forall_mem_cons.mpr ⟨⟨sim_iconst d31_45 (by decide), gr_Push (.int 0) 46⟩,
  List.forall_mem_cons.mpr ⟨⟨sim_lload_n d31_46 rfl, gr_LdL 1 47⟩,
  List.forall_mem_cons.mpr ⟨⟨sim_bipush d31_47 (by decide), gr_Push (.int 8) 49⟩,
  List.forall_mem_cons.mpr ⟨⟨sim_lshl d31_49, gr_LSh (fun x y => x <<< (y.toInt64 &&& 63)) 50⟩,
  List.forall_mem_cons.mpr ⟨⟨sim_lastore d31_50, gr_AStL 51⟩,
  List.forall_mem_cons.mpr ⟨⟨sim_aload_n d31_51 rfl, gr_LdA 0 52⟩,
  List.forall_mem_cons.mpr ⟨⟨sim_getF d31_52 gf38, gr_GetF (fun k => k = 3) 9 55⟩,
  List.forall_mem_cons.mpr ⟨⟨sim_iconst d31_55 (by decide), gr_Push (.int 1) 56⟩,
  List.forall_mem_cons.mpr ⟨⟨sim_lload_n d31_56 rfl, gr_LdL 1 57⟩,
  List.forall_mem_cons.mpr ⟨⟨sim_iconst d31_57 (by decide), gr_Push (.int 1) 58⟩,
  List.forall_mem_cons.mpr ⟨⟨sim_lushr d31_58, gr_LSh (fun x y => (x.toUInt64 >>> (y.toInt64.toUInt64 &&& Int64.toUInt64 63)).toInt64) 59⟩,
  List.forall_mem_cons.mpr ⟨⟨sim_ldc2 d31_59 kw549, gr_Push (.long 9187201950435737471) 62⟩,
  List.forall_mem_cons.mpr ⟨⟨sim_land d31_62, gr_LL (fun x y => x &&& y) 63⟩,
  List.forall_mem_cons.mpr ⟨⟨sim_lastore d31_63, gr_AStL 64⟩, fun _ h => absurd h List.not_mem_nil⟩⟩⟩⟩⟩⟩⟩⟩⟩⟩⟩⟩⟩⟩⟩⟩⟩⟩⟩⟩⟩⟩⟩⟩⟩⟩⟩⟩⟩⟩⟩⟩⟩⟩⟩⟩⟩⟩⟩⟩
noncomputable def pg31_1 : List (Nat × aP) := [(64, oLdA 0 65),
  (65, oGetF (fun k => k = 3) 9 68),
  (68, oPush (.int 2) 69),
  (69, oLdL 1 70),
  (70, oPush (.int 8) 72),
  (72, oLSh (fun x y => (x.toUInt64 >>> (y.toInt64.toUInt64 &&& Int64.toUInt64 63)).toInt64) 73),
  (73, oAStL 74),
  (74, oLdA 0 75),
  (75, oGetF (fun k => k = 3) 9 78),
  (78, oPush (.int 3) 79),
  (79, oLdL 1 80),
  (80, oPush (.int 1) 81),
  (81, oLSh (fun x y => x <<< (y.toInt64 &&& 63)) 82),
  (82, oPush (.long (-72340172838076674)) 85),
  (85, oLL (fun x y => x &&& y) 86),
  (86, oAStL 87),
  (87, oRetV)]
theorem ok31_1 : ∀ q ∈ pg31_1, Sim mT mt31 q.1 q.2 ∧ Grow q.2 :=
  List.forall_mem_cons.mpr ⟨⟨sim_aload_n d31_64 rfl, gr_LdA 0 65⟩,
  List.forall_mem_cons.mpr ⟨⟨sim_getF d31_65 gf38, gr_GetF (fun k => k = 3) 9 68⟩,
  List.forall_mem_cons.mpr ⟨⟨sim_iconst d31_68 (by decide), gr_Push (.int 2) 69⟩,
  List.forall_mem_cons.mpr ⟨⟨sim_lload_n d31_69 rfl, gr_LdL 1 70⟩,
  List.forall_mem_cons.mpr ⟨⟨sim_bipush d31_70 (by decide), gr_Push (.int 8) 72⟩,
  List.forall_mem_cons.mpr ⟨⟨sim_lushr d31_72, gr_LSh (fun x y => (x.toUInt64 >>> (y.toInt64.toUInt64 &&& Int64.toUInt64 63)).toInt64) 73⟩,
  List.forall_mem_cons.mpr ⟨⟨sim_lastore d31_73, gr_AStL 74⟩,
  List.forall_mem_cons.mpr ⟨⟨sim_aload_n d31_74 rfl, gr_LdA 0 75⟩,
  List.forall_mem_cons.mpr ⟨⟨sim_getF d31_75 gf38, gr_GetF (fun k => k = 3) 9 78⟩,
  List.forall_mem_cons.mpr ⟨⟨sim_iconst d31_78 (by decide), gr_Push (.int 3) 79⟩,
  List.forall_mem_cons.mpr ⟨⟨sim_lload_n d31_79 rfl, gr_LdL 1 80⟩,
  List.forall_mem_cons.mpr ⟨⟨sim_iconst d31_80 (by decide), gr_Push (.int 1) 81⟩,
  List.forall_mem_cons.mpr ⟨⟨sim_lshl d31_81, gr_LSh (fun x y => x <<< (y.toInt64 &&& 63)) 82⟩,
  List.forall_mem_cons.mpr ⟨⟨sim_ldc2 d31_82 kw550, gr_Push (.long (-72340172838076674)) 85⟩,
  List.forall_mem_cons.mpr ⟨⟨sim_land d31_85, gr_LL (fun x y => x &&& y) 86⟩,
  List.forall_mem_cons.mpr ⟨⟨sim_lastore d31_86, gr_AStL 87⟩,
  List.forall_mem_cons.mpr ⟨⟨sim_return d31_87 rfl, gr_RetV⟩, fun _ h => absurd h List.not_mem_nil⟩⟩⟩⟩⟩⟩⟩⟩⟩⟩⟩⟩⟩⟩⟩⟩⟩
noncomputable def pg31 : List (Nat × aP) := pg31_0 ++ (pg31_1)
theorem ok31 : ∀ q ∈ pg31, Sim mT mt31 q.1 q.2 ∧ Grow q.2 := List.forall_mem_append.mpr ⟨ok31_0, ok31_1⟩
theorem d32_0 : decode mt32.2.1 0 = .ok (.aload_n 0, 1) := by decide +kernel
theorem d32_1 : decode mt32.2.1 1 = .ok (.lconst 0, 1) := by decide +kernel
theorem d32_2 : decode mt32.2.1 2 = .ok (.putfield 51, 3) := by decide +kernel
theorem d32_5 : decode mt32.2.1 5 = .ok (.aload_n 0, 1) := by decide +kernel
theorem d32_6 : decode mt32.2.1 6 = .ok (.aload_n 0, 1) := by decide +kernel
theorem d32_7 : decode mt32.2.1 7 = .ok (.getfield 38, 3) := by decide +kernel
theorem d32_10 : decode mt32.2.1 10 = .ok (.invokestatic 76, 3) := by decide +kernel
theorem d32_13 : decode mt32.2.1 13 = .ok (.putfield 54, 3) := by decide +kernel
theorem d32_16 : decode mt32.2.1 16 = .ok (.aload_n 0, 1) := by decide +kernel
theorem d32_17 : decode mt32.2.1 17 = .ok (.aload_n 0, 1) := by decide +kernel
theorem d32_18 : decode mt32.2.1 18 = .ok (.getfield 38, 3) := by decide +kernel
theorem d32_21 : decode mt32.2.1 21 = .ok (.invokestatic 80, 3) := by decide +kernel
theorem d32_24 : decode mt32.2.1 24 = .ok (.putfield 57, 3) := by decide +kernel
theorem d32_27 : decode mt32.2.1 27 = .ok (.iconst 0, 1) := by decide +kernel
theorem d32_28 : decode mt32.2.1 28 = .ok (.istore_n 1, 1) := by decide +kernel
theorem d32_29 : decode mt32.2.1 29 = .ok (.iload_n 1, 1) := by decide +kernel
theorem d32_30 : decode mt32.2.1 30 = .ok (.aload_n 0, 1) := by decide +kernel
theorem d32_31 : decode mt32.2.1 31 = .ok (.getfield 35, 3) := by decide +kernel
theorem d32_34 : decode mt32.2.1 34 = .ok (.if_icmp .ge 60, 3) := by decide +kernel
theorem d32_37 : decode mt32.2.1 37 = .ok (.aload_n 0, 1) := by decide +kernel
theorem d32_38 : decode mt32.2.1 38 = .ok (.dup, 1) := by decide +kernel
theorem d32_39 : decode mt32.2.1 39 = .ok (.getfield 51, 3) := by decide +kernel
theorem d32_42 : decode mt32.2.1 42 = .ok (.aload_n 0, 1) := by decide +kernel
theorem d32_43 : decode mt32.2.1 43 = .ok (.getfield 22, 3) := by decide +kernel
theorem d32_46 : decode mt32.2.1 46 = .ok (.iload_n 1, 1) := by decide +kernel
theorem d32_47 : decode mt32.2.1 47 = .ok (.laload, 1) := by decide +kernel
theorem d32_48 : decode mt32.2.1 48 = .ok (.lor, 1) := by decide +kernel
theorem d32_49 : decode mt32.2.1 49 = .ok (.putfield 51, 3) := by decide +kernel
theorem d32_52 : decode mt32.2.1 52 = .ok (.aload_n 0, 1) := by decide +kernel
theorem d32_53 : decode mt32.2.1 53 = .ok (.dup, 1) := by decide +kernel
theorem d32_54 : decode mt32.2.1 54 = .ok (.getfield 54, 3) := by decide +kernel
theorem d32_57 : decode mt32.2.1 57 = .ok (.aload_n 0, 1) := by decide +kernel
theorem d32_58 : decode mt32.2.1 58 = .ok (.getfield 22, 3) := by decide +kernel
theorem d32_61 : decode mt32.2.1 61 = .ok (.iload_n 1, 1) := by decide +kernel
theorem d32_62 : decode mt32.2.1 62 = .ok (.laload, 1) := by decide +kernel
theorem d32_63 : decode mt32.2.1 63 = .ok (.invokestatic 76, 3) := by decide +kernel
theorem d32_66 : decode mt32.2.1 66 = .ok (.lor, 1) := by decide +kernel
theorem d32_67 : decode mt32.2.1 67 = .ok (.putfield 54, 3) := by decide +kernel
theorem d32_70 : decode mt32.2.1 70 = .ok (.aload_n 0, 1) := by decide +kernel
theorem d32_71 : decode mt32.2.1 71 = .ok (.dup, 1) := by decide +kernel
theorem d32_72 : decode mt32.2.1 72 = .ok (.getfield 57, 3) := by decide +kernel
theorem d32_75 : decode mt32.2.1 75 = .ok (.aload_n 0, 1) := by decide +kernel
theorem d32_76 : decode mt32.2.1 76 = .ok (.getfield 22, 3) := by decide +kernel
theorem d32_79 : decode mt32.2.1 79 = .ok (.iload_n 1, 1) := by decide +kernel
theorem d32_80 : decode mt32.2.1 80 = .ok (.laload, 1) := by decide +kernel
theorem d32_81 : decode mt32.2.1 81 = .ok (.invokestatic 80, 3) := by decide +kernel
theorem d32_84 : decode mt32.2.1 84 = .ok (.lor, 1) := by decide +kernel
theorem d32_85 : decode mt32.2.1 85 = .ok (.putfield 57, 3) := by decide +kernel
theorem d32_88 : decode mt32.2.1 88 = .ok (.iinc 1 1, 3) := by decide +kernel
theorem d32_91 : decode mt32.2.1 91 = .ok (.goto (-62), 3) := by decide +kernel
theorem d32_94 : decode mt32.2.1 94 = .ok (.return_, 1) := by decide +kernel
noncomputable def pg32_0 : List (Nat × aP) := [(0, oLdA 0 1),
  (1, oPush (.long 0) 2),
  (2, oPutL (fun k => k = 3) 10 5),
  (5, oLdA 0 6),
  (6, oLdA 0 7),
  (7, oGetL (fun k => k = 3) 3 10),
  (10, oCall 125 1 13),
  (13, oPutL (fun k => k = 3) 11 16),
  (16, oLdA 0 17),
  (17, oLdA 0 18),
  (18, oGetL (fun k => k = 3) 3 21),
  (21, oCall 126 1 24),
  (24, oPutL (fun k => k = 3) 12 27),
  (27, oPush (.int 0) 28),
  (28, oStI 1 29),
  (29, oLdI 1 30),
  (30, oLdA 0 31),
  (31, oGetI (fun k => k = 3) 2 34),
  (34, oIc (fun x y => y ≤ x) 94 37),
  (37, oLdA 0 38),
  (38, oDup 39),
  (39, oGetL (fun k => k = 3) 10 42),
  (42, oLdA 0 43),
  (43, oGetF (fun k => k = 3) 8 46),
  (46, oLdI 1 47),
  (47, oALdL 48),
  (48, oLL (fun x y => x ||| y) 49),
  (49, oPutL (fun k => k = 3) 10 52),
  (52, oLdA 0 53),
  (53, oDup 54),
  (54, oGetL (fun k => k = 3) 11 57),
  (57, oLdA 0 58),
  (58, oGetF (fun k => k = 3) 8 61),
  (61, oLdI 1 62),
  (62, oALdL 63),
  (63, oCall 125 1 66),
  (66, oLL (fun x y => x ||| y) 67),
  (67, oPutL (fun k => k = 3) 11 70),
  (70, oLdA 0 71),
  (71, oDup 72)]
theorem ok32_0 : ∀ q ∈ pg32_0, Sim mT mt32 q.1 q.2 ∧ Grow q.2 :=
  List.forall_mem_cons.mpr ⟨⟨sim_aload_n d32_0 rfl, gr_LdA 0 1⟩,
  List.forall_mem_cons.mpr ⟨⟨sim_lconst d32_1 (by decide), gr_Push (.long 0) 2⟩,
  List.forall_mem_cons.mpr ⟨⟨sim_putL d32_2 gf39, gr_PutL (fun k => k = 3) 10 5⟩,
  List.forall_mem_cons.mpr ⟨⟨sim_aload_n d32_5 rfl, gr_LdA 0 6⟩,
  List.forall_mem_cons.mpr ⟨⟨sim_aload_n d32_6 rfl, gr_LdA 0 7⟩,
  List.forall_mem_cons.mpr ⟨⟨sim_getL d32_7 gf32, gr_GetL (fun k => k = 3) 3 10⟩,
  List.forall_mem_cons.mpr ⟨⟨sim_static (y := 125) d32_10 (Or.inr ⟨_, kn555⟩) kw556 mo125, gr_Call 125 1 13⟩,
  List.forall_mem_cons.mpr ⟨⟨sim_putL d32_13 gf40, gr_PutL (fun k => k = 3) 11 16⟩,
  List.forall_mem_cons.mpr ⟨⟨sim_aload_n d32_16 rfl, gr_LdA 0 17⟩,
  List.forall_mem_cons.mpr ⟨⟨sim_aload_n d32_17 rfl, gr_LdA 0 18⟩,
  List.forall_mem_cons.mpr ⟨⟨sim_getL d32_18 gf32, gr_GetL (fun k => k = 3) 3 21⟩,
  List.forall_mem_cons.mpr ⟨⟨sim_static (y := 126) d32_21 (Or.inr ⟨_, kn558⟩) kw559 mo126, gr_Call 126 1 24⟩,
  List.forall_mem_cons.mpr ⟨⟨sim_putL d32_24 gf41, gr_PutL (fun k => k = 3) 12 27⟩,
  List.forall_mem_cons.mpr ⟨⟨sim_iconst d32_27 (by decide), gr_Push (.int 0) 28⟩,
  List.forall_mem_cons.mpr ⟨⟨sim_istore_n d32_28 rfl (by decide), gr_StI 1 29⟩,
  List.forall_mem_cons.mpr ⟨⟨sim_iload_n d32_29 rfl, gr_LdI 1 30⟩,
  List.forall_mem_cons.mpr ⟨⟨sim_aload_n d32_30 rfl, gr_LdA 0 31⟩,
  List.forall_mem_cons.mpr ⟨⟨sim_getI d32_31 gf7, gr_GetI (fun k => k = 3) 2 34⟩,
  List.forall_mem_cons.mpr ⟨⟨sim_icmp_ge d32_34 (by decide), gr_Ic (fun x y => y ≤ x) 94 37⟩,
  List.forall_mem_cons.mpr ⟨⟨sim_aload_n d32_37 rfl, gr_LdA 0 38⟩,
  List.forall_mem_cons.mpr ⟨⟨sim_dup d32_38, gr_Dup 39⟩,
  List.forall_mem_cons.mpr ⟨⟨sim_getL d32_39 gf39, gr_GetL (fun k => k = 3) 10 42⟩,
  List.forall_mem_cons.mpr ⟨⟨sim_aload_n d32_42 rfl, gr_LdA 0 43⟩,
  List.forall_mem_cons.mpr ⟨⟨sim_getF d32_43 gf35, gr_GetF (fun k => k = 3) 8 46⟩,
  List.forall_mem_cons.mpr ⟨⟨sim_iload_n d32_46 rfl, gr_LdI 1 47⟩,
  List.forall_mem_cons.mpr ⟨⟨sim_laload d32_47, gr_ALdL 48⟩,
  List.forall_mem_cons.mpr ⟨⟨sim_lor d32_48, gr_LL (fun x y => x ||| y) 49⟩,
  List.forall_mem_cons.mpr ⟨⟨sim_putL d32_49 gf39, gr_PutL (fun k => k = 3) 10 52⟩,
  List.forall_mem_cons.mpr ⟨⟨sim_aload_n d32_52 rfl, gr_LdA 0 53⟩,
  List.forall_mem_cons.mpr ⟨⟨sim_dup d32_53, gr_Dup 54⟩,
  List.forall_mem_cons.mpr ⟨⟨sim_getL d32_54 gf40, gr_GetL (fun k => k = 3) 11 57⟩,
  List.forall_mem_cons.mpr ⟨⟨sim_aload_n d32_57 rfl, gr_LdA 0 58⟩,
  List.forall_mem_cons.mpr ⟨⟨sim_getF d32_58 gf35, gr_GetF (fun k => k = 3) 8 61⟩,
  List.forall_mem_cons.mpr ⟨⟨sim_iload_n d32_61 rfl, gr_LdI 1 62⟩,
  List.forall_mem_cons.mpr ⟨⟨sim_laload d32_62, gr_ALdL 63⟩,
  List.forall_mem_cons.mpr ⟨⟨sim_static (y := 125) d32_63 (Or.inr ⟨_, kn555⟩) kw556 mo125, gr_Call 125 1 66⟩,
  List.forall_mem_cons.mpr ⟨⟨sim_lor d32_66, gr_LL (fun x y => x ||| y) 67⟩,
  List.forall_mem_cons.mpr ⟨⟨sim_putL d32_67 gf40, gr_PutL (fun k => k = 3) 11 70⟩,
  List.forall_mem_cons.mpr ⟨⟨sim_aload_n d32_70 rfl, gr_LdA 0 71⟩,
  List.forall_mem_cons.mpr ⟨⟨sim_dup d32_71, gr_Dup 72⟩, fun _ h => absurd h List.not_mem_nil⟩⟩⟩⟩⟩⟩⟩⟩⟩⟩⟩⟩⟩⟩⟩⟩⟩⟩⟩⟩⟩⟩⟩⟩⟩⟩⟩⟩⟩⟩⟩⟩⟩⟩⟩⟩⟩⟩⟩⟩
noncomputable def pg32_1 : List (Nat × aP) := [(72, oGetL (fun k => k = 3) 12 75),
  (75, oLdA 0 76),
  (76, oGetF (fun k => k = 3) 8 79),
  (79, oLdI 1 80),
  (80, oALdL 81),
  (81, oCall 126 1 84),
  (84, oLL (fun x y => x ||| y) 85),
  (85, oPutL (fun k => k = 3) 12 88),
  (88, oInc 1 1 91),
  (91, oGo 29),
  (94, oRetV)]
theorem ok32_1 : ∀ q ∈ pg32_1, Sim mT mt32 q.1 q.2 ∧ Grow q.2 :=
  List.forall_mem_cons.mpr ⟨⟨sim_getL d32_72 gf41, gr_GetL (fun k => k = 3) 12 75⟩,
  List.forall_mem_cons.mpr ⟨⟨sim_aload_n d32_75 rfl, gr_LdA 0 76⟩,
  List.forall_mem_cons.mpr ⟨⟨sim_getF d32_76 gf35, gr_GetF (fun k => k = 3) 8 79⟩,
  List.forall_mem_cons.mpr ⟨⟨sim_iload_n d32_79 rfl, gr_LdI 1 80⟩,
  List.forall_mem_cons.mpr ⟨⟨sim_laload d32_80, gr_ALdL 81⟩,
  List.forall_mem_cons.mpr ⟨⟨sim_static (y := 126) d32_81 (Or.inr ⟨_, kn558⟩) kw559 mo126, gr_Call 126 1 84⟩,
  List.forall_mem_cons.mpr ⟨⟨sim_lor d32_84, gr_LL (fun x y => x ||| y) 85⟩,
  List.forall_mem_cons.mpr ⟨⟨sim_putL d32_85 gf41, gr_PutL (fun k => k = 3) 12 88⟩,
  List.forall_mem_cons.mpr ⟨⟨sim_iinc d32_88 (by decide) (by decide), gr_Inc 1 1 91⟩,
  List.forall_mem_cons.mpr ⟨⟨sim_goto d32_91 (by decide), gr_Go 29⟩,
  List.forall_mem_cons.mpr ⟨⟨sim_return d32_94 rfl, gr_RetV⟩, fun _ h => absurd h List.not_mem_nil⟩⟩⟩⟩⟩⟩⟩⟩⟩⟩⟩
noncomputable def pg32 : List (Nat × aP) := pg32_0 ++ (pg32_1)
theorem ok32 : ∀ q ∈ pg32, Sim mT mt32 q.1 q.2 ∧ Grow q.2 := List.forall_mem_append.mpr ⟨ok32_0, ok32_1⟩
theorem d33_0 : decode mt33.2.1 0 = .ok (.aload_n 0, 1) := by decide +kernel
theorem d33_1 : decode mt33.2.1 1 = .ok (.getfield 25, 3) := by decide +kernel
theorem d33_4 : decode mt33.2.1 4 = .ok (.iload_n 2, 1) := by decide +kernel
theorem d33_5 : decode mt33.2.1 5 = .ok (.laload, 1) := by decide +kernel
theorem d33_6 : decode mt33.2.1 6 = .ok (.iload_n 1, 1) := by decide +kernel
theorem d33_7 : decode mt33.2.1 7 = .ok (.invokestatic 68, 3) := by decide +kernel
theorem d33_10 : decode mt33.2.1 10 = .ok (.ireturn, 1) := by decide +kernel
noncomputable def pg33_0 : List (Nat × aP) := [(0, oLdA 0 1),
  (1, oGetF (fun k => k = 3) 9 4),
  (4, oLdI 2 5),
  (5, oALdL 6),
  (6, oLdI 1 7),
  (7, oCall 122 2 10),
  (10, oRetN .boolean)]
theorem ok33_0 : ∀ q ∈ pg33_0, Sim mT mt33 q.1 q.2 ∧ Grow q.2 :=
  List.forall_mem_cons.mpr ⟨⟨sim_aload_n d33_0 rfl, gr_LdA 0 1⟩,
  List.forall_mem_cons.mpr ⟨⟨sim_getF d33_1 gf38, gr_GetF (fun k => k = 3) 9 4⟩,
  List.forall_mem_cons.mpr ⟨⟨sim_iload_n d33_4 rfl, gr_LdI 2 5⟩,
  List.forall_mem_cons.mpr ⟨⟨sim_laload d33_5, gr_ALdL 6⟩,
  List.forall_mem_cons.mpr ⟨⟨sim_iload_n d33_6 rfl, gr_LdI 1 7⟩,
  List.forall_mem_cons.mpr ⟨⟨sim_static (y := 122) d33_7 (Or.inr ⟨_, kn548⟩) kw534 mo122, gr_Call 122 2 10⟩,
  List.forall_mem_cons.mpr ⟨⟨sim_nreturn d33_10 rfl (fun _ h => congrArg Value.int h), gr_RetN .boolean⟩, fun _ h => absurd h List.not_mem_nil⟩⟩⟩⟩⟩⟩⟩
noncomputable def pg33 : List (Nat × aP) := pg33_0
theorem ok33 : ∀ q ∈ pg33, Sim mT mt33 q.1 q.2 ∧ Grow q.2 := ok33_0
theorem d34_0 : decode mt34.2.1 0 = .ok (.iload_n 2, 1) := by decide +kernel
theorem d34_1 : decode mt34.2.1 1 = .ok (.iconst 1, 1) := by decide +kernel
theorem d34_2 : decode mt34.2.1 2 = .ok (.if_icmp .eq 8, 3) := by decide +kernel
theorem d34_5 : decode mt34.2.1 5 = .ok (.iload_n 2, 1) := by decide +kernel
theorem d34_6 : decode mt34.2.1 6 = .ok (.iconst 3, 1) := by decide +kernel
theorem d34_7 : decode mt34.2.1 7 = .ok (.if_icmp .ne 7, 3) := by decide +kernel
theorem d34_10 : decode mt34.2.1 10 = .ok (.iconst 1, 1) := by decide +kernel
theorem d34_11 : decode mt34.2.1 11 = .ok (.goto 4, 3) := by decide +kernel
theorem d34_14 : decode mt34.2.1 14 = .ok (.iconst 0, 1) := by decide +kernel
theorem d34_15 : decode mt34.2.1 15 = .ok (.istore_n 3, 1) := by decide +kernel
theorem d34_16 : decode mt34.2.1 16 = .ok (.iload_n 2, 1) := by decide +kernel
theorem d34_17 : decode mt34.2.1 17 = .ok (.ifCond .eq 8, 3) := by decide +kernel
theorem d34_20 : decode mt34.2.1 20 = .ok (.iload_n 2, 1) := by decide +kernel
theorem d34_21 : decode mt34.2.1 21 = .ok (.iconst 3, 1) := by decide +kernel
theorem d34_22 : decode mt34.2.1 22 = .ok (.if_icmp .ne 13, 3) := by decide +kernel
theorem d34_25 : decode mt34.2.1 25 = .ok (.iload_n 1, 1) := by decide +kernel
theorem d34_26 : decode mt34.2.1 26 = .ok (.getstatic 83, 3) := by decide +kernel
theorem d34_29 : decode mt34.2.1 29 = .ok (.iload_n 2, 1) := by decide +kernel
theorem d34_30 : decode mt34.2.1 30 = .ok (.iaload, 1) := by decide +kernel
theorem d34_31 : decode mt34.2.1 31 = .ok (.iadd, 1) := by decide +kernel
theorem d34_32 : decode mt34.2.1 32 = .ok (.goto 4, 3) := by decide +kernel
theorem d34_35 : decode mt34.2.1 35 = .ok (.iload_n 1, 1) := by decide +kernel
theorem d34_36 : decode mt34.2.1 36 = .ok (.istore 4, 2) := by decide +kernel
theorem d34_38 : decode mt34.2.1 38 = .ok (.iload_n 3, 1) := by decide +kernel
theorem d34_39 : decode mt34.2.1 39 = .ok (.ifCond .eq 10, 3) := by decide +kernel
theorem d34_42 : decode mt34.2.1 42 = .ok (.aload_n 0, 1) := by decide +kernel
theorem d34_43 : decode mt34.2.1 43 = .ok (.getfield 54, 3) := by decide +kernel
theorem d34_46 : decode mt34.2.1 46 = .ok (.goto 7, 3) := by decide +kernel
theorem d34_49 : decode mt34.2.1 49 = .ok (.aload_n 0, 1) := by decide +kernel
theorem d34_50 : decode mt34.2.1 50 = .ok (.getfield 57, 3) := by decide +kernel
theorem d34_53 : decode mt34.2.1 53 = .ok (.iload 4, 2) := by decide +kernel
theorem d34_55 : decode mt34.2.1 55 = .ok (.invokestatic 68, 3) := by decide +kernel
theorem d34_58 : decode mt34.2.1 58 = .ok (.ifCond .eq 7, 3) := by decide +kernel
theorem d34_61 : decode mt34.2.1 61 = .ok (.iconst 0, 1) := by decide +kernel
theorem d34_62 : decode mt34.2.1 62 = .ok (.goto 4, 3) := by decide +kernel
theorem d34_65 : decode mt34.2.1 65 = .ok (.iconst 1, 1) := by decide +kernel
theorem d34_66 : decode mt34.2.1 66 = .ok (.ireturn, 1) := by decide +kernel
noncomputable def pg34_0 : List (Nat × aP) := [(0, oLdI 2 1),
  (1, oPush (.int 1) 2),
  (2, oIc (fun x y => x = y) 10 5),
  (5, oLdI 2 6),
  (6, oPush (.int 3) 7),
  (7, oIc (fun x y => ¬ x = y) 14 10),
  (10, oPush (.int 1) 11),
  (11, oGo 15),
  (14, oPush (.int 0) 15),
  (15, oStI 3 16),
  (16, oLdI 2 17),
  (17, oIf (fun x => x = 0) 25 20),
  (20, oLdI 2 21),
  (21, oPush (.int 3) 22),
  (22, oIc (fun x y => ¬ x = y) 35 25),
  (25, oLdI 1 26),
  (26, oPush (.ref 1) 29),
  (29, oLdI 2 30),
  (30, oALdI 31),
  (31, oII (fun x y => x + y) 32),
  (32, oGo 36),
  (35, oLdI 1 36),
  (36, oStI 4 38),
  (38, oLdI 3 39),
  (39, oIf (fun x => x = 0) 49 42),
  (42, oLdA 0 43),
  (43, oGetL (fun k => k = 3) 11 46),
  (46, oGo 53),
  (49, oLdA 0 50),
  (50, oGetL (fun k => k = 3) 12 53),
  (53, oLdI 4 55),
  (55, oCall 122 2 58),
  (58, oIf (fun x => x = 0) 65 61),
  (61, oPush (.int 0) 62),
  (62, oGo 66),
  (65, oPush (.int 1) 66),
  (66, oRetI)]
theorem ok34_0 : ∀ q ∈ pg34_0, Sim mT mt34 q.1 q.2 ∧ Grow q.2 :=
  List.forall_mem_cons.mpr ⟨⟨sim_iload_n d34_0 rfl, gr_LdI 2 1⟩,
  List.forall_mem_cons.mpr ⟨⟨sim_iconst d34_1 (by decide), gr_Push (.int 1) 2⟩,
  List.forall_mem_cons.mpr ⟨⟨sim_icmp_eq d34_2 (by decide), gr_Ic (fun x y => x = y) 10 5⟩,
  List.forall_mem_cons.mpr ⟨⟨sim_iload_n d34_5 rfl, gr_LdI 2 6⟩,
  List.forall_mem_cons.mpr ⟨⟨sim_iconst d34_6 (by decide), gr_Push (.int 3) 7⟩,
  List.forall_mem_cons.mpr ⟨⟨sim_icmp_ne d34_7 (by decide), gr_Ic (fun x y => ¬ x = y) 14 10⟩,
  List.forall_mem_cons.mpr ⟨⟨sim_iconst d34_10 (by decide), gr_Push (.int 1) 11⟩,
  List.forall_mem_cons.mpr ⟨⟨sim_goto d34_11 (by decide), gr_Go 15⟩,
  List.forall_mem_cons.mpr ⟨⟨sim_iconst d34_14 (by decide), gr_Push (.int 0) 15⟩,
  List.forall_mem_cons.mpr ⟨⟨sim_istore_n d34_15 rfl (by decide), gr_StI 3 16⟩,
  List.forall_mem_cons.mpr ⟨⟨sim_iload_n d34_16 rfl, gr_LdI 2 17⟩,
  List.forall_mem_cons.mpr ⟨⟨sim_if_eq d34_17 (by decide), gr_If (fun x => x = 0) 25 20⟩,
  List.forall_mem_cons.mpr ⟨⟨sim_iload_n d34_20 rfl, gr_LdI 2 21⟩,
  List.forall_mem_cons.mpr ⟨⟨sim_iconst d34_21 (by decide), gr_Push (.int 3) 22⟩,
  List.forall_mem_cons.mpr ⟨⟨sim_icmp_ne d34_22 (by decide), gr_Ic (fun x y => ¬ x = y) 35 25⟩,
  List.forall_mem_cons.mpr ⟨⟨sim_iload_n d34_25 rfl, gr_LdI 1 26⟩,
  List.forall_mem_cons.mpr ⟨⟨sim_strides d34_26 kn588, gr_Push (.ref 1) 29⟩,
  List.forall_mem_cons.mpr ⟨⟨sim_iload_n d34_29 rfl, gr_LdI 2 30⟩,
  List.forall_mem_cons.mpr ⟨⟨sim_iaload d34_30, gr_ALdI 31⟩,
  List.forall_mem_cons.mpr ⟨⟨sim_iadd d34_31, gr_II (fun x y => x + y) 32⟩,
  List.forall_mem_cons.mpr ⟨⟨sim_goto d34_32 (by decide), gr_Go 36⟩,
  List.forall_mem_cons.mpr ⟨⟨sim_iload_n d34_35 rfl, gr_LdI 1 36⟩,
  List.forall_mem_cons.mpr ⟨⟨sim_istore d34_36 (by decide), gr_StI 4 38⟩,
  List.forall_mem_cons.mpr ⟨⟨sim_iload_n d34_38 rfl, gr_LdI 3 39⟩,
  List.forall_mem_cons.mpr ⟨⟨sim_if_eq d34_39 (by decide), gr_If (fun x => x = 0) 49 42⟩,
  List.forall_mem_cons.mpr ⟨⟨sim_aload_n d34_42 rfl, gr_LdA 0 43⟩,
  List.forall_mem_cons.mpr ⟨⟨sim_getL d34_43 gf40, gr_GetL (fun k => k = 3) 11 46⟩,
  List.forall_mem_cons.mpr ⟨⟨sim_goto d34_46 (by decide), gr_Go 53⟩,
  List.forall_mem_cons.mpr ⟨⟨sim_aload_n d34_49 rfl, gr_LdA 0 50⟩,
  List.forall_mem_cons.mpr ⟨⟨sim_getL d34_50 gf41, gr_GetL (fun k => k = 3) 12 53⟩,
  List.forall_mem_cons.mpr ⟨⟨sim_iload d34_53, gr_LdI 4 55⟩,
  List.forall_mem_cons.mpr ⟨⟨sim_static (y := 122) d34_55 (Or.inr ⟨_, kn548⟩) kw534 mo122, gr_Call 122 2 58⟩,
  List.forall_mem_cons.mpr ⟨⟨sim_if_eq d34_58 (by decide), gr_If (fun x => x = 0) 65 61⟩,
  List.forall_mem_cons.mpr ⟨⟨sim_iconst d34_61 (by decide), gr_Push (.int 0) 62⟩,
  List.forall_mem_cons.mpr ⟨⟨sim_goto d34_62 (by decide), gr_Go 66⟩,
  List.forall_mem_cons.mpr ⟨⟨sim_iconst d34_65 (by decide), gr_Push (.int 1) 66⟩,
  List.forall_mem_cons.mpr ⟨⟨sim_ireturn d34_66 rfl, gr_RetI⟩, fun _ h => absurd h List.not_mem_nil⟩⟩⟩⟩⟩⟩⟩⟩⟩⟩⟩⟩⟩⟩⟩⟩⟩⟩⟩⟩⟩⟩⟩⟩⟩⟩⟩⟩⟩⟩⟩⟩⟩⟩⟩⟩⟩
noncomputable def pg34 : List (Nat × aP) := pg34_0
theorem ok34 : ∀ q ∈ pg34, Sim mT mt34 q.1 q.2 ∧ Grow q.2 := ok34_0
theorem d35_0 : decode mt35.2.1 0 = .ok (.lload_n 1, 1) := by decide +kernel
theorem d35_1 : decode mt35.2.1 1 = .ok (.invokestatic 76, 3) := by decide +kernel
theorem d35_4 : decode mt35.2.1 4 = .ok (.aload_n 0, 1) := by decide +kernel
theorem d35_5 : decode mt35.2.1 5 = .ok (.getfield 54, 3) := by decide +kernel
theorem d35_8 : decode mt35.2.1 8 = .ok (.ldc2_w 86, 3) := by decide +kernel
theorem d35_11 : decode mt35.2.1 11 = .ok (.lxor, 1) := by decide +kernel
theorem d35_12 : decode mt35.2.1 12 = .ok (.land, 1) := by decide +kernel
theorem d35_13 : decode mt35.2.1 13 = .ok (.lload_n 3, 1) := by decide +kernel
theorem d35_14 : decode mt35.2.1 14 = .ok (.invokestatic 76, 3) := by decide +kernel
theorem d35_17 : decode mt35.2.1 17 = .ok (.ldc2_w 86, 3) := by decide +kernel
theorem d35_20 : decode mt35.2.1 20 = .ok (.lxor, 1) := by decide +kernel
theorem d35_21 : decode mt35.2.1 21 = .ok (.land, 1) := by decide +kernel
theorem d35_22 : decode mt35.2.1 22 = .ok (.lstore 5, 2) := by decide +kernel
theorem d35_24 : decode mt35.2.1 24 = .ok (.lload_n 1, 1) := by decide +kernel
theorem d35_25 : decode mt35.2.1 25 = .ok (.invokestatic 80, 3) := by decide +kernel
theorem d35_28 : decode mt35.2.1 28 = .ok (.aload_n 0, 1) := by decide +kernel
theorem d35_29 : decode mt35.2.1 29 = .ok (.getfield 57, 3) := by decide +kernel
theorem d35_32 : decode mt35.2.1 32 = .ok (.ldc2_w 86, 3) := by decide +kernel
theorem d35_35 : decode mt35.2.1 35 = .ok (.lxor, 1) := by decide +kernel
theorem d35_36 : decode mt35.2.1 36 = .ok (.land, 1) := by decide +kernel
theorem d35_37 : decode mt35.2.1 37 = .ok (.lload_n 3, 1) := by decide +kernel
theorem d35_38 : decode mt35.2.1 38 = .ok (.invokestatic 80, 3) := by decide +kernel
theorem d35_41 : decode mt35.2.1 41 = .ok (.ldc2_w 86, 3) := by decide +kernel
theorem d35_44 : decode mt35.2.1 44 = .ok (.lxor, 1) := by decide +kernel
theorem d35_45 : decode mt35.2.1 45 = .ok (.land, 1) := by decide +kernel
theorem d35_46 : decode mt35.2.1 46 = .ok (.lstore 7, 2) := by decide +kernel
theorem d35_48 : decode mt35.2.1 48 = .ok (.lload 5, 2) := by decide +kernel
theorem d35_50 : decode mt35.2.1 50 = .ok (.invokestatic 88, 3) := by decide +kernel
theorem d35_53 : decode mt35.2.1 53 = .ok (.lload 7, 2) := by decide +kernel
theorem d35_55 : decode mt35.2.1 55 = .ok (.invokestatic 88, 3) := by decide +kernel
theorem d35_58 : decode mt35.2.1 58 = .ok (.iadd, 1) := by decide +kernel
theorem d35_59 : decode mt35.2.1 59 = .ok (.ireturn, 1) := by decide +kernel
noncomputable def pg35_0 : List (Nat × aP) := [(0, oLdL 1 1),
  (1, oCall 125 1 4),
  (4, oLdA 0 5),
  (5, oGetL (fun k => k = 3) 11 8),
  (8, oPush (.long (-1)) 11),
  (11, oLL (fun x y => x ^^^ y) 12),
  (12, oLL (fun x y => x &&& y) 13),
  (13, oLdL 3 14),
  (14, oCall 125 1 17),
  (17, oPush (.long (-1)) 20),
  (20, oLL (fun x y => x ^^^ y) 21),
  (21, oLL (fun x y => x &&& y) 22),
  (22, oStL 5 24),
  (24, oLdL 1 25),
  (25, oCall 126 1 28),
  (28, oLdA 0 29),
  (29, oGetL (fun k => k = 3) 12 32),
  (32, oPush (.long (-1)) 35),
  (35, oLL (fun x y => x ^^^ y) 36),
  (36, oLL (fun x y => x &&& y) 37),
  (37, oLdL 3 38),
  (38, oCall 126 1 41),
  (41, oPush (.long (-1)) 44),
  (44, oLL (fun x y => x ^^^ y) 45),
  (45, oLL (fun x y => x &&& y) 46),
  (46, oStL 7 48),
  (48, oLdL 5 50),
  (50, oCall 210 1 53),
  (53, oLdL 7 55),
  (55, oCall 210 1 58),
  (58, oII (fun x y => x + y) 59),
  (59, oRetI)]
theorem ok35_0 : ∀ q ∈ pg35_0, Sim mT mt35 q.1 q.2 ∧ Grow q.2 :=
  List.forall_mem_cons.mpr ⟨⟨sim_lload_n d35_0 rfl, gr_LdL 1 1⟩,
  List.forall_mem_cons.mpr ⟨⟨sim_static (y := 125) d35_1 (Or.inr ⟨_, kn555⟩) kw556 mo125, gr_Call 125 1 4⟩,
  List.forall_mem_cons.mpr ⟨⟨sim_aload_n d35_4 rfl, gr_LdA 0 5⟩,
  List.forall_mem_cons.mpr ⟨⟨sim_getL d35_5 gf40, gr_GetL (fun k => k = 3) 11 8⟩,
  List.forall_mem_cons.mpr ⟨⟨sim_ldc2 d35_8 kw712, gr_Push (.long (-1)) 11⟩,
  List.forall_mem_cons.mpr ⟨⟨sim_lxor d35_11, gr_LL (fun x y => x ^^^ y) 12⟩,
  List.forall_mem_cons.mpr ⟨⟨sim_land d35_12, gr_LL (fun x y => x &&& y) 13⟩,
  List.forall_mem_cons.mpr ⟨⟨sim_lload_n d35_13 rfl, gr_LdL 3 14⟩,
  List.forall_mem_cons.mpr ⟨⟨sim_static (y := 125) d35_14 (Or.inr ⟨_, kn555⟩) kw556 mo125, gr_Call 125 1 17⟩,
  List.forall_mem_cons.mpr ⟨⟨sim_ldc2 d35_17 kw712, gr_Push (.long (-1)) 20⟩,
  List.forall_mem_cons.mpr ⟨⟨sim_lxor d35_20, gr_LL (fun x y => x ^^^ y) 21⟩,
  List.forall_mem_cons.mpr ⟨⟨sim_land d35_21, gr_LL (fun x y => x &&& y) 22⟩,
  List.forall_mem_cons.mpr ⟨⟨sim_lstore d35_22 (by decide), gr_StL 5 24⟩,
  List.forall_mem_cons.mpr ⟨⟨sim_lload_n d35_24 rfl, gr_LdL 1 25⟩,
  List.forall_mem_cons.mpr ⟨⟨sim_static (y := 126) d35_25 (Or.inr ⟨_, kn558⟩) kw559 mo126, gr_Call 126 1 28⟩,
  List.forall_mem_cons.mpr ⟨⟨sim_aload_n d35_28 rfl, gr_LdA 0 29⟩,
  List.forall_mem_cons.mpr ⟨⟨sim_getL d35_29 gf41, gr_GetL (fun k => k = 3) 12 32⟩,
  List.forall_mem_cons.mpr ⟨⟨sim_ldc2 d35_32 kw712, gr_Push (.long (-1)) 35⟩,
  List.forall_mem_cons.mpr ⟨⟨sim_lxor d35_35, gr_LL (fun x y => x ^^^ y) 36⟩,
  List.forall_mem_cons.mpr ⟨⟨sim_land d35_36, gr_LL (fun x y => x &&& y) 37⟩,
  List.forall_mem_cons.mpr ⟨⟨sim_lload_n d35_37 rfl, gr_LdL 3 38⟩,
  List.forall_mem_cons.mpr ⟨⟨sim_static (y := 126) d35_38 (Or.inr ⟨_, kn558⟩) kw559 mo126, gr_Call 126 1 41⟩,
  List.forall_mem_cons.mpr ⟨⟨sim_ldc2 d35_41 kw712, gr_Push (.long (-1)) 44⟩,
  List.forall_mem_cons.mpr ⟨⟨sim_lxor d35_44, gr_LL (fun x y => x ^^^ y) 45⟩,
  List.forall_mem_cons.mpr ⟨⟨sim_land d35_45, gr_LL (fun x y => x &&& y) 46⟩,
  List.forall_mem_cons.mpr ⟨⟨sim_lstore d35_46 (by decide), gr_StL 7 48⟩,
  List.forall_mem_cons.mpr ⟨⟨sim_lload d35_48, gr_LdL 5 50⟩,
  List.forall_mem_cons.mpr ⟨⟨sim_static (y := 210) d35_50 (Or.inl kw632) kw633 mo210, gr_Call 210 1 53⟩,
  List.forall_mem_cons.mpr ⟨⟨sim_lload d35_53, gr_LdL 7 55⟩,
  List.forall_mem_cons.mpr ⟨⟨sim_static (y := 210) d35_55 (Or.inl kw632) kw633 mo210, gr_Call 210 1 58⟩,
  List.forall_mem_cons.mpr ⟨⟨sim_iadd d35_58, gr_II (fun x y => x + y) 59⟩,
  List.forall_mem_cons.mpr ⟨⟨sim_ireturn d35_59 rfl, gr_RetI⟩, fun _ h => absurd h List.not_mem_nil⟩⟩⟩⟩⟩⟩⟩⟩⟩⟩⟩⟩⟩⟩⟩⟩⟩⟩⟩⟩⟩⟩⟩⟩⟩⟩⟩⟩⟩⟩⟩⟩
noncomputable def pg35 : List (Nat × aP) := pg35_0
theorem ok35 : ∀ q ∈ pg35, Sim mT mt35 q.1 q.2 ∧ Grow q.2 := ok35_0
theorem d36_0 : decode mt36.2.1 0 = .ok (.iconst 0, 1) := by decide +kernel
theorem d36_1 : decode mt36.2.1 1 = .ok (.istore_n 3, 1) := by decide +kernel
theorem d36_2 : decode mt36.2.1 2 = .ok (.iconst 0, 1) := by decide +kernel
theorem d36_3 : decode mt36.2.1 3 = .ok (.istore 4, 2) := by decide +kernel
theorem d36_5 : decode mt36.2.1 5 = .ok (.iload 4, 2) := by decide +kernel
theorem d36_7 : decode mt36.2.1 7 = .ok (.iconst 4, 1) := by decide +kernel
theorem d36_8 : decode mt36.2.1 8 = .ok (.if_icmp .ge 27, 3) := by decide +kernel
theorem d36_11 : decode mt36.2.1 11 = .ok (.iload_n 3, 1) := by decide +kernel
theorem d36_12 : decode mt36.2.1 12 = .ok (.lload_n 1, 1) := by decide +kernel
theorem d36_13 : decode mt36.2.1 13 = .ok (.aload_n 0, 1) := by decide +kernel
theorem d36_14 : decode mt36.2.1 14 = .ok (.getfield 11, 3) := by decide +kernel
theorem d36_17 : decode mt36.2.1 17 = .ok (.iload 4, 2) := by decide +kernel
theorem d36_19 : decode mt36.2.1 19 = .ok (.laload, 1) := by decide +kernel
theorem d36_20 : decode mt36.2.1 20 = .ok (.land, 1) := by decide +kernel
theorem d36_21 : decode mt36.2.1 21 = .ok (.invokestatic 88, 3) := by decide +kernel
theorem d36_24 : decode mt36.2.1 24 = .ok (.iload 4, 2) := by decide +kernel
theorem d36_26 : decode mt36.2.1 26 = .ok (.ishl, 1) := by decide +kernel
theorem d36_27 : decode mt36.2.1 27 = .ok (.iadd, 1) := by decide +kernel
theorem d36_28 : decode mt36.2.1 28 = .ok (.istore_n 3, 1) := by decide +kernel
theorem d36_29 : decode mt36.2.1 29 = .ok (.iinc 4 1, 3) := by decide +kernel
theorem d36_32 : decode mt36.2.1 32 = .ok (.goto (-27), 3) := by decide +kernel
theorem d36_35 : decode mt36.2.1 35 = .ok (.iload_n 3, 1) := by decide +kernel
theorem d36_36 : decode mt36.2.1 36 = .ok (.ireturn, 1) := by decide +kernel
noncomputable def pg36_0 : List (Nat × aP) := [(0, oPush (.int 0) 1),
  (1, oStI 3 2),
  (2, oPush (.int 0) 3),
  (3, oStI 4 5),
  (5, oLdI 4 7),
  (7, oPush (.int 4) 8),
  (8, oIc (fun x y => y ≤ x) 35 11),
  (11, oLdI 3 12),
  (12, oLdL 1 13),
  (13, oLdA 0 14),
  (14, oGetF (fun k => k = 3) 5 17),
  (17, oLdI 4 19),
  (19, oALdL 20),
  (20, oLL (fun x y => x &&& y) 21),
  (21, oCall 210 1 24),
  (24, oLdI 4 26),
  (26, oII (fun x y => x <<< (y &&& 31)) 27),
  (27, oII (fun x y => x + y) 28),
  (28, oStI 3 29),
  (29, oInc 4 1 32),
  (32, oGo 5),
  (35, oLdI 3 36),
  (36, oRetI)]
theorem ok36_0 : ∀ q ∈ pg36_0, Sim mT mt36 q.1 q.2 ∧ Grow q.2 :=
  List.forall_mem_cons.mpr ⟨⟨sim_iconst d36_0 (by decide), gr_Push (.int 0) 1⟩,
  List.forall_mem_cons.mpr ⟨⟨sim_istore_n d36_1 rfl (by decide), gr_StI 3 2⟩,
  List.forall_mem_cons.mpr ⟨⟨sim_iconst d36_2 (by decide), gr_Push (.int 0) 3⟩,
  List.forall_mem_cons.mpr ⟨⟨sim_istore d36_3 (by decide), gr_StI 4 5⟩,
  List.forall_mem_cons.mpr ⟨⟨sim_iload d36_5, gr_LdI 4 7⟩,
  List.forall_mem_cons.mpr ⟨⟨sim_iconst d36_7 (by decide), gr_Push (.int 4) 8⟩,
  List.forall_mem_cons.mpr ⟨⟨sim_icmp_ge d36_8 (by decide), gr_Ic (fun x y => y ≤ x) 35 11⟩,
  List.forall_mem_cons.mpr ⟨⟨sim_iload_n d36_11 rfl, gr_LdI 3 12⟩,
  List.forall_mem_cons.mpr ⟨⟨sim_lload_n d36_12 rfl, gr_LdL 1 13⟩,
  List.forall_mem_cons.mpr ⟨⟨sim_aload_n d36_13 rfl, gr_LdA 0 14⟩,
  List.forall_mem_cons.mpr ⟨⟨sim_getF d36_14 gf34, gr_GetF (fun k => k = 3) 5 17⟩,
  List.forall_mem_cons.mpr ⟨⟨sim_iload d36_17, gr_LdI 4 19⟩,
  List.forall_mem_cons.mpr ⟨⟨sim_laload d36_19, gr_ALdL 20⟩,
  List.forall_mem_cons.mpr ⟨⟨sim_land d36_20, gr_LL (fun x y => x &&& y) 21⟩,
  List.forall_mem_cons.mpr ⟨⟨sim_static (y := 210) d36_21 (Or.inl kw632) kw633 mo210, gr_Call 210 1 24⟩,
  List.forall_mem_cons.mpr ⟨⟨sim_iload d36_24, gr_LdI 4 26⟩,
  List.forall_mem_cons.mpr ⟨⟨sim_ishl d36_26, gr_II (fun x y => x <<< (y &&& 31)) 27⟩,
  List.forall_mem_cons.mpr ⟨⟨sim_iadd d36_27, gr_II (fun x y => x + y) 28⟩,
  List.forall_mem_cons.mpr ⟨⟨sim_istore_n d36_28 rfl (by decide), gr_StI 3 29⟩,
  List.forall_mem_cons.mpr ⟨⟨sim_iinc d36_29 (by decide) (by decide), gr_Inc 4 1 32⟩,
  List.forall_mem_cons.mpr ⟨⟨sim_goto d36_32 (by decide), gr_Go 5⟩,
  List.forall_mem_cons.mpr ⟨⟨sim_iload_n d36_35 rfl, gr_LdI 3 36⟩,
  List.forall_mem_cons.mpr ⟨⟨sim_ireturn d36_36 rfl, gr_RetI⟩, fun _ h => absurd h List.not_mem_nil⟩⟩⟩⟩⟩⟩⟩⟩⟩⟩⟩⟩⟩⟩⟩⟩⟩⟩⟩⟩⟩⟩⟩
noncomputable def pg36 : List (Nat × aP) := pg36_0
theorem ok36 : ∀ q ∈ pg36, Sim mT mt36 q.1 q.2 ∧ Grow q.2 := ok36_0
theorem d37_0 : decode mt37.2.1 0 = .ok (.iconst 0, 1) := by decide +kernel
theorem d37_1 : decode mt37.2.1 1 = .ok (.istore_n 2, 1) := by decide +kernel
theorem d37_2 : decode mt37.2.1 2 = .ok (.iload_n 2, 1) := by decide +kernel
theorem d37_3 : decode mt37.2.1 3 = .ok (.aload_n 0, 1) := by decide +kernel
theorem d37_4 : decode mt37.2.1 4 = .ok (.getfield 35, 3) := by decide +kernel
theorem d37_7 : decode mt37.2.1 7 = .ok (.if_icmp .ge 24, 3) := by decide +kernel
theorem d37_10 : decode mt37.2.1 10 = .ok (.aload_n 0, 1) := by decide +kernel
theorem d37_11 : decode mt37.2.1 11 = .ok (.getfield 22, 3) := by decide +kernel
theorem d37_14 : decode mt37.2.1 14 = .ok (.iload_n 2, 1) := by decide +kernel
theorem d37_15 : decode mt37.2.1 15 = .ok (.laload, 1) := by decide +kernel
theorem d37_16 : decode mt37.2.1 16 = .ok (.iload_n 1, 1) := by decide +kernel
theorem d37_17 : decode mt37.2.1 17 = .ok (.invokestatic 68, 3) := by decide +kernel
theorem d37_20 : decode mt37.2.1 20 = .ok (.ifCond .eq 5, 3) := by decide +kernel
theorem d37_23 : decode mt37.2.1 23 = .ok (.iload_n 2, 1) := by decide +kernel
theorem d37_24 : decode mt37.2.1 24 = .ok (.ireturn, 1) := by decide +kernel
theorem d37_25 : decode mt37.2.1 25 = .ok (.iinc 2 1, 3) := by decide +kernel
theorem d37_28 : decode mt37.2.1 28 = .ok (.goto (-26), 3) := by decide +kernel
theorem d37_31 : decode mt37.2.1 31 = .ok (.ldc 94, 2) := by decide +kernel
theorem d37_33 : decode mt37.2.1 33 = .ok (.ireturn, 1) := by decide +kernel
noncomputable def pg37_0 : List (Nat × aP) := [(0, oPush (.int 0) 1),
  (1, oStI 2 2),
  (2, oLdI 2 3),
  (3, oLdA 0 4),
  (4, oGetI (fun k => k = 3) 2 7),
  (7, oIc (fun x y => y ≤ x) 31 10),
  (10, oLdA 0 11),
  (11, oGetF (fun k => k = 3) 8 14),
  (14, oLdI 2 15),
  (15, oALdL 16),
  (16, oLdI 1 17),
  (17, oCall 122 2 20),
  (20, oIf (fun x => x = 0) 25 23),
  (23, oLdI 2 24),
  (24, oRetI),
  (25, oInc 2 1 28),
  (28, oGo 2),
  (31, oPush (.int (-1000000)) 33),
  (33, oRetI)]
theorem ok37_0 : ∀ q ∈ pg37_0, Sim mT mt37 q.1 q.2 ∧ Grow q.2 :=
  List.forall_mem_cons.mpr ⟨⟨sim_iconst d37_0 (by decide), gr_Push (.int 0) 1⟩,
  List.forall_mem_cons.mpr ⟨⟨sim_istore_n d37_1 rfl (by decide), gr_StI 2 2⟩,
  List.forall_mem_cons.mpr ⟨⟨sim_iload_n d37_2 rfl, gr_LdI 2 3⟩,
  List.forall_mem_cons.mpr ⟨⟨sim_aload_n d37_3 rfl, gr_LdA 0 4⟩,
  List.forall_mem_cons.mpr ⟨⟨sim_getI d37_4 gf7, gr_GetI (fun k => k = 3) 2 7⟩,
  List.forall_mem_cons.mpr ⟨⟨sim_icmp_ge d37_7 (by decide), gr_Ic (fun x y => y ≤ x) 31 10⟩,
  List.forall_mem_cons.mpr ⟨⟨sim_aload_n d37_10 rfl, gr_LdA 0 11⟩,
  List.forall_mem_cons.mpr ⟨⟨sim_getF d37_11 gf35, gr_GetF (fun k => k = 3) 8 14⟩,
  List.forall_mem_cons.mpr ⟨⟨sim_iload_n d37_14 rfl, gr_LdI 2 15⟩,
  List.forall_mem_cons.mpr ⟨⟨sim_laload d37_15, gr_ALdL 16⟩,
  List.forall_mem_cons.mpr ⟨⟨sim_iload_n d37_16 rfl, gr_LdI 1 17⟩,
  List.forall_mem_cons.mpr ⟨⟨sim_static (y := 122) d37_17 (Or.inr ⟨_, kn548⟩) kw534 mo122, gr_Call 122 2 20⟩,
  List.forall_mem_cons.mpr ⟨⟨sim_if_eq d37_20 (by decide), gr_If (fun x => x = 0) 25 23⟩,
  List.forall_mem_cons.mpr ⟨⟨sim_iload_n d37_23 rfl, gr_LdI 2 24⟩,
  List.forall_mem_cons.mpr ⟨⟨sim_ireturn d37_24 rfl, gr_RetI⟩,
  List.forall_mem_cons.mpr ⟨⟨sim_iinc d37_25 (by decide) (by decide), gr_Inc 2 1 28⟩,
  List.forall_mem_cons.mpr ⟨⟨sim_goto d37_28 (by decide), gr_Go 2⟩,
  List.forall_mem_cons.mpr ⟨⟨sim_ldc d37_31 kw676, gr_Push (.int (-1000000)) 33⟩,
  List.forall_mem_cons.mpr ⟨⟨sim_ireturn d37_33 rfl, gr_RetI⟩, fun _ h => absurd h List.not_mem_nil⟩⟩⟩⟩⟩⟩⟩⟩⟩⟩⟩⟩⟩⟩⟩⟩⟩⟩⟩
noncomputable def pg37 : List (Nat × aP) := pg37_0
theorem ok37 : ∀ q ∈ pg37, Sim mT mt37 q.1 q.2 ∧ Grow q.2 := ok37_0
theorem d38_0 : decode mt38.2.1 0 = .ok (.iconst 0, 1) := by decide +kernel
theorem d38_1 : decode mt38.2.1 1 = .ok (.istore_n 1, 1) := by decide +kernel
theorem d38_2 : decode mt38.2.1 2 = .ok (.iconst 0, 1) := by decide +kernel
theorem d38_3 : decode mt38.2.1 3 = .ok (.istore_n 2, 1) := by decide +kernel
theorem d38_4 : decode mt38.2.1 4 = .ok (.iload_n 2, 1) := by decide +kernel
theorem d38_5 : decode mt38.2.1 5 = .ok (.aload_n 0, 1) := by decide +kernel
theorem d38_6 : decode mt38.2.1 6 = .ok (.getfield 35, 3) := by decide +kernel
theorem d38_9 : decode mt38.2.1 9 = .ok (.if_icmp .ge 20, 3) := by decide +kernel
theorem d38_12 : decode mt38.2.1 12 = .ok (.aload_n 0, 1) := by decide +kernel
theorem d38_13 : decode mt38.2.1 13 = .ok (.iload_n 2, 1) := by decide +kernel
theorem d38_14 : decode mt38.2.1 14 = .ok (.invokevirtual 95, 3) := by decide +kernel
theorem d38_17 : decode mt38.2.1 17 = .ok (.ifCond .eq 6, 3) := by decide +kernel
theorem d38_20 : decode mt38.2.1 20 = .ok (.iinc 1 1, 3) := by decide +kernel
theorem d38_23 : decode mt38.2.1 23 = .ok (.iinc 2 1, 3) := by decide +kernel
theorem d38_26 : decode mt38.2.1 26 = .ok (.goto (-22), 3) := by decide +kernel
theorem d38_29 : decode mt38.2.1 29 = .ok (.iload_n 1, 1) := by decide +kernel
theorem d38_30 : decode mt38.2.1 30 = .ok (.ireturn, 1) := by decide +kernel
noncomputable def pg38_0 : List (Nat × aP) := [(0, oPush (.int 0) 1),
  (1, oStI 1 2),
  (2, oPush (.int 0) 3),
  (3, oStI 2 4),
  (4, oLdI 2 5),
  (5, oLdA 0 6),
  (6, oGetI (fun k => k = 3) 2 9),
  (9, oIc (fun x y => y ≤ x) 29 12),
  (12, oLdA 0 13),
  (13, oLdI 2 14),
  (14, oCalV (fun k => if k = 3 then some 27 else none) 1 17),
  (17, oIf (fun x => x = 0) 23 20),
  (20, oInc 1 1 23),
  (23, oInc 2 1 26),
  (26, oGo 4),
  (29, oLdI 1 30),
  (30, oRetI)]
theorem ok38_0 : ∀ q ∈ pg38_0, Sim mT mt38 q.1 q.2 ∧ Grow q.2 :=
  List.forall_mem_cons.mpr ⟨⟨sim_iconst d38_0 (by decide), gr_Push (.int 0) 1⟩,
  List.forall_mem_cons.mpr ⟨⟨sim_istore_n d38_1 rfl (by decide), gr_StI 1 2⟩,
  List.forall_mem_cons.mpr ⟨⟨sim_iconst d38_2 (by decide), gr_Push (.int 0) 3⟩,
  List.forall_mem_cons.mpr ⟨⟨sim_istore_n d38_3 rfl (by decide), gr_StI 2 4⟩,
  List.forall_mem_cons.mpr ⟨⟨sim_iload_n d38_4 rfl, gr_LdI 2 5⟩,
  List.forall_mem_cons.mpr ⟨⟨sim_aload_n d38_5 rfl, gr_LdA 0 6⟩,
  List.forall_mem_cons.mpr ⟨⟨sim_getI d38_6 gf7, gr_GetI (fun k => k = 3) 2 9⟩,
  List.forall_mem_cons.mpr ⟨⟨sim_icmp_ge d38_9 (by decide), gr_Ic (fun x y => y ≤ x) 29 12⟩,
  List.forall_mem_cons.mpr ⟨⟨sim_aload_n d38_12 rfl, gr_LdA 0 13⟩,
  List.forall_mem_cons.mpr ⟨⟨sim_iload_n d38_13 rfl, gr_LdI 2 14⟩,
  List.forall_mem_cons.mpr ⟨⟨sim_virtual d38_14 vk19, gr_CalV (fun k => if k = 3 then some 27 else none) 1 17⟩,
  List.forall_mem_cons.mpr ⟨⟨sim_if_eq d38_17 (by decide), gr_If (fun x => x = 0) 23 20⟩,
  List.forall_mem_cons.mpr ⟨⟨sim_iinc d38_20 (by decide) (by decide), gr_Inc 1 1 23⟩,
  List.forall_mem_cons.mpr ⟨⟨sim_iinc d38_23 (by decide) (by decide), gr_Inc 2 1 26⟩,
  List.forall_mem_cons.mpr ⟨⟨sim_goto d38_26 (by decide), gr_Go 4⟩,
  List.forall_mem_cons.mpr ⟨⟨sim_iload_n d38_29 rfl, gr_LdI 1 30⟩,
  List.forall_mem_cons.mpr ⟨⟨sim_ireturn d38_30 rfl, gr_RetI⟩, fun _ h => absurd h List.not_mem_nil⟩⟩⟩⟩⟩⟩⟩⟩⟩⟩⟩⟩⟩⟩⟩⟩⟩
noncomputable def pg38 : List (Nat × aP) := pg38_0
theorem ok38 : ∀ q ∈ pg38, Sim mT mt38 q.1 q.2 ∧ Grow q.2 := ok38_0
