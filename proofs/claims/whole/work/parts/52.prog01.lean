theorem d39_0 : decode mt39.2.1 0 = .ok (.aload_n 0, 1) := by decide +kernel
theorem d39_1 : decode mt39.2.1 1 = .ok (.getfield 38, 3) := by decide +kernel
theorem d39_4 : decode mt39.2.1 4 = .ok (.iload_n 1, 1) := by decide +kernel
theorem d39_5 : decode mt39.2.1 5 = .ok (.invokestatic 68, 3) := by decide +kernel
theorem d39_8 : decode mt39.2.1 8 = .ok (.ifCond .eq 5, 3) := by decide +kernel
theorem d39_11 : decode mt39.2.1 11 = .ok (.iconst 2, 1) := by decide +kernel
theorem d39_12 : decode mt39.2.1 12 = .ok (.ireturn, 1) := by decide +kernel
theorem d39_13 : decode mt39.2.1 13 = .ok (.aload_n 0, 1) := by decide +kernel
theorem d39_14 : decode mt39.2.1 14 = .ok (.lconst 1, 1) := by decide +kernel
theorem d39_15 : decode mt39.2.1 15 = .ok (.iload_n 1, 1) := by decide +kernel
theorem d39_16 : decode mt39.2.1 16 = .ok (.lshl, 1) := by decide +kernel
theorem d39_17 : decode mt39.2.1 17 = .ok (.invokevirtual 98, 3) := by decide +kernel
theorem d39_20 : decode mt39.2.1 20 = .ok (.bipush 7, 2) := by decide +kernel
theorem d39_22 : decode mt39.2.1 22 = .ok (.if_icmp .lt 7, 3) := by decide +kernel
theorem d39_25 : decode mt39.2.1 25 = .ok (.iconst 1, 1) := by decide +kernel
theorem d39_26 : decode mt39.2.1 26 = .ok (.goto 4, 3) := by decide +kernel
theorem d39_29 : decode mt39.2.1 29 = .ok (.iconst 0, 1) := by decide +kernel
theorem d39_30 : decode mt39.2.1 30 = .ok (.istore_n 2, 1) := by decide +kernel
theorem d39_31 : decode mt39.2.1 31 = .ok (.aload_n 0, 1) := by decide +kernel
theorem d39_32 : decode mt39.2.1 32 = .ok (.getfield 51, 3) := by decide +kernel
theorem d39_35 : decode mt39.2.1 35 = .ok (.iload_n 1, 1) := by decide +kernel
theorem d39_36 : decode mt39.2.1 36 = .ok (.invokestatic 68, 3) := by decide +kernel
theorem d39_39 : decode mt39.2.1 39 = .ok (.ifCond .eq 13, 3) := by decide +kernel
theorem d39_42 : decode mt39.2.1 42 = .ok (.iload_n 2, 1) := by decide +kernel
theorem d39_43 : decode mt39.2.1 43 = .ok (.ifCond .eq 7, 3) := by decide +kernel
theorem d39_46 : decode mt39.2.1 46 = .ok (.iconst 5, 1) := by decide +kernel
theorem d39_47 : decode mt39.2.1 47 = .ok (.goto 4, 3) := by decide +kernel
theorem d39_50 : decode mt39.2.1 50 = .ok (.iconst 3, 1) := by decide +kernel
theorem d39_51 : decode mt39.2.1 51 = .ok (.ireturn, 1) := by decide +kernel
theorem d39_52 : decode mt39.2.1 52 = .ok (.iload_n 2, 1) := by decide +kernel
theorem d39_53 : decode mt39.2.1 53 = .ok (.ifCond .eq 7, 3) := by decide +kernel
theorem d39_56 : decode mt39.2.1 56 = .ok (.iconst 4, 1) := by decide +kernel
theorem d39_57 : decode mt39.2.1 57 = .ok (.goto 4, 3) := by decide +kernel
theorem d39_60 : decode mt39.2.1 60 = .ok (.iconst 1, 1) := by decide +kernel
theorem d39_61 : decode mt39.2.1 61 = .ok (.ireturn, 1) := by decide +kernel
noncomputable def pg39_0 : List (Nat × aP) := [(0, oLdA 0 1),
  (1, oGetL (fun k => k = 3) 3 4),
  (4, oLdI 1 5),
  (5, oCall 122 2 8),
  (8, oIf (fun x => x = 0) 13 11),
  (11, oPush (.int 2) 12),
  (12, oRetI),
  (13, oLdA 0 14),
  (14, oPush (.long 1) 15),
  (15, oLdI 1 16),
  (16, oLSh (fun x y => x <<< (y.toInt64 &&& 63)) 17),
  (17, oCalV (fun k => if k = 3 then some 36 else none) 1 20),
  (20, oPush (.int 7) 22),
  (22, oIc (fun x y => x < y) 29 25),
  (25, oPush (.int 1) 26),
  (26, oGo 30),
  (29, oPush (.int 0) 30),
  (30, oStI 2 31),
  (31, oLdA 0 32),
  (32, oGetL (fun k => k = 3) 10 35),
  (35, oLdI 1 36),
  (36, oCall 122 2 39),
  (39, oIf (fun x => x = 0) 52 42),
  (42, oLdI 2 43),
  (43, oIf (fun x => x = 0) 50 46),
  (46, oPush (.int 5) 47),
  (47, oGo 51),
  (50, oPush (.int 3) 51),
  (51, oRetI),
  (52, oLdI 2 53),
  (53, oIf (fun x => x = 0) 60 56),
  (56, oPush (.int 4) 57),
  (57, oGo 61),
  (60, oPush (.int 1) 61),
  (61, oRetI)]
theorem ok39_0 : ∀ q ∈ pg39_0, Sim mT mt39 q.1 q.2 ∧ Grow q.2 :=
  List.forall_mem_cons.mpr ⟨⟨sim_aload_n d39_0 rfl, gr_LdA 0 1⟩,
  List.forall_mem_cons.mpr ⟨⟨sim_getL d39_1 gf32, gr_GetL (fun k => k = 3) 3 4⟩,
  List.forall_mem_cons.mpr ⟨⟨sim_iload_n d39_4 rfl, gr_LdI 1 5⟩,
  List.forall_mem_cons.mpr ⟨⟨sim_static (y := 122) d39_5 (Or.inr ⟨_, kn548⟩) kw534 mo122, gr_Call 122 2 8⟩,
  List.forall_mem_cons.mpr ⟨⟨sim_if_eq d39_8 (by decide), gr_If (fun x => x = 0) 13 11⟩,
  List.forall_mem_cons.mpr ⟨⟨sim_iconst d39_11 (by decide), gr_Push (.int 2) 12⟩,
  List.forall_mem_cons.mpr ⟨⟨sim_ireturn d39_12 rfl, gr_RetI⟩,
  List.forall_mem_cons.mpr ⟨⟨sim_aload_n d39_13 rfl, gr_LdA 0 14⟩,
  List.forall_mem_cons.mpr ⟨⟨sim_lconst d39_14 (by decide), gr_Push (.long 1) 15⟩,
  List.forall_mem_cons.mpr ⟨⟨sim_iload_n d39_15 rfl, gr_LdI 1 16⟩,
  List.forall_mem_cons.mpr ⟨⟨sim_lshl d39_16, gr_LSh (fun x y => x <<< (y.toInt64 &&& 63)) 17⟩,
  List.forall_mem_cons.mpr ⟨⟨sim_virtual d39_17 vk20, gr_CalV (fun k => if k = 3 then some 36 else none) 1 20⟩,
  List.forall_mem_cons.mpr ⟨⟨sim_bipush d39_20 (by decide), gr_Push (.int 7) 22⟩,
  List.forall_mem_cons.mpr ⟨⟨sim_icmp_lt d39_22 (by decide), gr_Ic (fun x y => x < y) 29 25⟩,
  List.forall_mem_cons.mpr ⟨⟨sim_iconst d39_25 (by decide), gr_Push (.int 1) 26⟩,
  List.forall_mem_cons.mpr ⟨⟨sim_goto d39_26 (by decide), gr_Go 30⟩,
  List.forall_mem_cons.mpr ⟨⟨sim_iconst d39_29 (by decide), gr_Push (.int 0) 30⟩,
  List.forall_mem_cons.mpr ⟨⟨sim_istore_n d39_30 rfl (by decide), gr_StI 2 31⟩,
  List.forall_mem_cons.mpr ⟨⟨sim_aload_n d39_31 rfl, gr_LdA 0 32⟩,
  List.forall_mem_cons.mpr ⟨⟨sim_getL d39_32 gf39, gr_GetL (fun k => k = 3) 10 35⟩,
  List.forall_mem_cons.mpr ⟨⟨sim_iload_n d39_35 rfl, gr_LdI 1 36⟩,
  List.forall_mem_cons.mpr ⟨⟨sim_static (y := 122) d39_36 (Or.inr ⟨_, kn548⟩) kw534 mo122, gr_Call 122 2 39⟩,
  List.forall_mem_cons.mpr ⟨⟨sim_if_eq d39_39 (by decide), gr_If (fun x => x = 0) 52 42⟩,
  List.forall_mem_cons.mpr ⟨⟨sim_iload_n d39_42 rfl, gr_LdI 2 43⟩,
  List.forall_mem_cons.mpr ⟨⟨sim_if_eq d39_43 (by decide), gr_If (fun x => x = 0) 50 46⟩,
  List.forall_mem_cons.mpr ⟨⟨sim_iconst d39_46 (by decide), gr_Push (.int 5) 47⟩,
  List.forall_mem_cons.mpr ⟨⟨sim_goto d39_47 (by decide), gr_Go 51⟩,
  List.forall_mem_cons.mpr ⟨⟨sim_iconst d39_50 (by decide), gr_Push (.int 3) 51⟩,
  List.forall_mem_cons.mpr ⟨⟨sim_ireturn d39_51 rfl, gr_RetI⟩,
  List.forall_mem_cons.mpr ⟨⟨sim_iload_n d39_52 rfl, gr_LdI 2 53⟩,
  List.forall_mem_cons.mpr ⟨⟨sim_if_eq d39_53 (by decide), gr_If (fun x => x = 0) 60 56⟩,
  List.forall_mem_cons.mpr ⟨⟨sim_iconst d39_56 (by decide), gr_Push (.int 4) 57⟩,
  List.forall_mem_cons.mpr ⟨⟨sim_goto d39_57 (by decide), gr_Go 61⟩,
  List.forall_mem_cons.mpr ⟨⟨sim_iconst d39_60 (by decide), gr_Push (.int 1) 61⟩,
  List.forall_mem_cons.mpr ⟨⟨sim_ireturn d39_61 rfl, gr_RetI⟩, fun _ h => absurd h List.not_mem_nil⟩⟩⟩⟩⟩⟩⟩⟩⟩⟩⟩⟩⟩⟩⟩⟩⟩⟩⟩⟩⟩⟩⟩⟩⟩⟩⟩⟩⟩⟩⟩⟩⟩⟩⟩
noncomputable def pg39 : List (Nat × aP) := pg39_0
theorem ok39 : ∀ q ∈ pg39, Sim mT mt39 q.1 q.2 ∧ Grow q.2 := ok39_0
theorem d40_0 : decode mt40.2.1 0 = .ok (.aload_n 0, 1) := by decide +kernel
theorem d40_1 : decode mt40.2.1 1 = .ok (.invokespecial 3, 3) := by decide +kernel
theorem d40_4 : decode mt40.2.1 4 = .ok (.aload_n 0, 1) := by decide +kernel
theorem d40_5 : decode mt40.2.1 5 = .ok (.new 9, 3) := by decide +kernel
theorem d40_8 : decode mt40.2.1 8 = .ok (.dup, 1) := by decide +kernel
theorem d40_9 : decode mt40.2.1 9 = .ok (.invokespecial 11, 3) := by decide +kernel
theorem d40_12 : decode mt40.2.1 12 = .ok (.putfield 12, 3) := by decide +kernel
theorem d40_15 : decode mt40.2.1 15 = .ok (.aload_n 0, 1) := by decide +kernel
theorem d40_16 : decode mt40.2.1 16 = .ok (.new 18, 3) := by decide +kernel
theorem d40_19 : decode mt40.2.1 19 = .ok (.dup, 1) := by decide +kernel
theorem d40_20 : decode mt40.2.1 20 = .ok (.invokespecial 20, 3) := by decide +kernel
theorem d40_23 : decode mt40.2.1 23 = .ok (.putfield 21, 3) := by decide +kernel
theorem d40_26 : decode mt40.2.1 26 = .ok (.return_, 1) := by decide +kernel
noncomputable def pg40_0 : List (Nat × aP) := [(0, oLdA 0 1),
  (1, oObj 4),
  (4, oLdA 0 5),
  (5, oNew 7 5 8),
  (8, oDup 9),
  (9, oCalV (fun ci => if ci < 100 then some 63 else none) 0 12),
  (12, oPutF (fun k => k = 4) 0 15),
  (15, oLdA 0 16),
  (16, oNew 3 13 19),
  (19, oDup 20),
  (20, oCalV (fun ci => if ci < 100 then some 22 else none) 0 23),
  (23, oPutF (fun k => k = 4) 1 26),
  (26, oRetV)]
theorem ok40_0 : ∀ q ∈ pg40_0, Sim mT mt40 q.1 q.2 ∧ Grow q.2 :=
  List.forall_mem_cons.mpr ⟨⟨sim_aload_n d40_0 rfl, gr_LdA 0 1⟩,
  List.forall_mem_cons.mpr ⟨⟨sim_obj d40_1 kw35 kw26 kw27, gr_Obj 4⟩,
  List.forall_mem_cons.mpr ⟨⟨sim_aload_n d40_4 rfl, gr_LdA 0 5⟩,
  List.forall_mem_cons.mpr ⟨⟨sim_new d40_5 kw36 okC7 nwC7, gr_New 7 5 8⟩,
  List.forall_mem_cons.mpr ⟨⟨sim_dup d40_8, gr_Dup 9⟩,
  List.forall_mem_cons.mpr ⟨⟨sim_special (y := 63) d40_9 (Or.inr ⟨_, kn38⟩) kw39 rfl rfl mo63, gr_CalV (fun ci => if ci < 100 then some 63 else none) 0 12⟩,
  List.forall_mem_cons.mpr ⟨⟨sim_putF d40_12 gf42f rfl, gr_PutF (fun k => k = 4) 0 15⟩,
  List.forall_mem_cons.mpr ⟨⟨sim_aload_n d40_15 rfl, gr_LdA 0 16⟩,
  List.forall_mem_cons.mpr ⟨⟨sim_new d40_16 kw64 okC3 nwC3, gr_New 3 13 19⟩,
  List.forall_mem_cons.mpr ⟨⟨sim_dup d40_19, gr_Dup 20⟩,
  List.forall_mem_cons.mpr ⟨⟨sim_special (y := 22) d40_20 (Or.inr ⟨_, kn66⟩) kw67 rfl rfl mo22, gr_CalV (fun ci => if ci < 100 then some 22 else none) 0 23⟩,
  List.forall_mem_cons.mpr ⟨⟨sim_putF d40_23 gf43f rfl, gr_PutF (fun k => k = 4) 1 26⟩,
  List.forall_mem_cons.mpr ⟨⟨sim_return d40_26 rfl, gr_RetV⟩, fun _ h => absurd h List.not_mem_nil⟩⟩⟩⟩⟩⟩⟩⟩⟩⟩⟩⟩⟩
noncomputable def pg40 : List (Nat × aP) := pg40_0
theorem ok40 : ∀ q ∈ pg40, Sim mT mt40 q.1 q.2 ∧ Grow q.2 := ok40_0
theorem d41_0 : decode mt41.2.1 0 = .ok (.aload_n 0, 1) := by decide +kernel
theorem d41_1 : decode mt41.2.1 1 = .ok (.getfield 21, 3) := by decide +kernel
theorem d41_4 : decode mt41.2.1 4 = .ok (.invokevirtual 25, 3) := by decide +kernel
theorem d41_7 : decode mt41.2.1 7 = .ok (.aload_n 0, 1) := by decide +kernel
theorem d41_8 : decode mt41.2.1 8 = .ok (.getfield 12, 3) := by decide +kernel
theorem d41_11 : decode mt41.2.1 11 = .ok (.invokevirtual 28, 3) := by decide +kernel
theorem d41_14 : decode mt41.2.1 14 = .ok (.aload_n 0, 1) := by decide +kernel
theorem d41_15 : decode mt41.2.1 15 = .ok (.invokevirtual 31, 3) := by decide +kernel
theorem d41_18 : decode mt41.2.1 18 = .ok (.ifCond .eq 17, 3) := by decide +kernel
theorem d41_21 : decode mt41.2.1 21 = .ok (.aload_n 0, 1) := by decide +kernel
theorem d41_22 : decode mt41.2.1 22 = .ok (.invokevirtual 35, 3) := by decide +kernel
theorem d41_25 : decode mt41.2.1 25 = .ok (.ifCond .eq 10, 3) := by decide +kernel
theorem d41_28 : decode mt41.2.1 28 = .ok (.aload_n 0, 1) := by decide +kernel
theorem d41_29 : decode mt41.2.1 29 = .ok (.invokevirtual 38, 3) := by decide +kernel
theorem d41_32 : decode mt41.2.1 32 = .ok (.ifCond .ne 5, 3) := by decide +kernel
theorem d41_35 : decode mt41.2.1 35 = .ok (.iconst 0, 1) := by decide +kernel
theorem d41_36 : decode mt41.2.1 36 = .ok (.ireturn, 1) := by decide +kernel
theorem d41_37 : decode mt41.2.1 37 = .ok (.aload_n 0, 1) := by decide +kernel
theorem d41_38 : decode mt41.2.1 38 = .ok (.getfield 21, 3) := by decide +kernel
theorem d41_41 : decode mt41.2.1 41 = .ok (.invokevirtual 41, 3) := by decide +kernel
theorem d41_44 : decode mt41.2.1 44 = .ok (.aload_n 0, 1) := by decide +kernel
theorem d41_45 : decode mt41.2.1 45 = .ok (.getfield 21, 3) := by decide +kernel
theorem d41_48 : decode mt41.2.1 48 = .ok (.invokevirtual 44, 3) := by decide +kernel
theorem d41_51 : decode mt41.2.1 51 = .ok (.iconst 1, 1) := by decide +kernel
theorem d41_52 : decode mt41.2.1 52 = .ok (.ireturn, 1) := by decide +kernel
noncomputable def pg41_0 : List (Nat × aP) := [(0, oLdA 0 1),
  (1, oGetF (fun k => k = 4) 1 4),
  (4, oCalV (fun k => if k = 3 then some 23 else none) 0 7),
  (7, oLdA 0 8),
  (8, oGetF (fun k => k = 4) 0 11),
  (11, oCalV (fun k => if k = 7 then some 65 else none) 0 14),
  (14, oLdA 0 15),
  (15, oCalV (fun k => if k = 4 then some 43 else none) 0 18),
  (18, oIf (fun x => x = 0) 35 21),
  (21, oLdA 0 22),
  (22, oCalV (fun k => if k = 4 then some 44 else none) 0 25),
  (25, oIf (fun x => x = 0) 35 28),
  (28, oLdA 0 29),
  (29, oCalV (fun k => if k = 4 then some 45 else none) 0 32),
  (32, oIf (fun x => ¬ x = 0) 37 35),
  (35, oPush (.int 0) 36),
  (36, oRetN .boolean),
  (37, oLdA 0 38),
  (38, oGetF (fun k => k = 4) 1 41),
  (41, oCalV (fun k => if k = 3 then some 31 else none) 0 44),
  (44, oLdA 0 45),
  (45, oGetF (fun k => k = 4) 1 48),
  (48, oCalV (fun k => if k = 3 then some 32 else none) 0 51),
  (51, oPush (.int 1) 52),
  (52, oRetN .boolean)]
theorem ok41_0 : ∀ q ∈ pg41_0, Sim mT mt41 q.1 q.2 ∧ Grow q.2 :=
  List.forall_mem_cons.mpr ⟨⟨sim_aload_n d41_0 rfl, gr_LdA 0 1⟩,
  List.forall_mem_cons.mpr ⟨⟨sim_getF d41_1 gf44, gr_GetF (fun k => k = 4) 1 4⟩,
  List.forall_mem_cons.mpr ⟨⟨sim_virtual d41_4 vk21, gr_CalV (fun k => if k = 3 then some 23 else none) 0 7⟩,
  List.forall_mem_cons.mpr ⟨⟨sim_aload_n d41_7 rfl, gr_LdA 0 8⟩,
  List.forall_mem_cons.mpr ⟨⟨sim_getF d41_8 gf45, gr_GetF (fun k => k = 4) 0 11⟩,
  List.forall_mem_cons.mpr ⟨⟨sim_virtual d41_11 vk22, gr_CalV (fun k => if k = 7 then some 65 else none) 0 14⟩,
  List.forall_mem_cons.mpr ⟨⟨sim_aload_n d41_14 rfl, gr_LdA 0 15⟩,
  List.forall_mem_cons.mpr ⟨⟨sim_virtual d41_15 vk23, gr_CalV (fun k => if k = 4 then some 43 else none) 0 18⟩,
  List.forall_mem_cons.mpr ⟨⟨sim_if_eq d41_18 (by decide), gr_If (fun x => x = 0) 35 21⟩,
  List.forall_mem_cons.mpr ⟨⟨sim_aload_n d41_21 rfl, gr_LdA 0 22⟩,
  List.forall_mem_cons.mpr ⟨⟨sim_virtual d41_22 vk24, gr_CalV (fun k => if k = 4 then some 44 else none) 0 25⟩,
  List.forall_mem_cons.mpr ⟨⟨sim_if_eq d41_25 (by decide), gr_If (fun x => x = 0) 35 28⟩,
  List.forall_mem_cons.mpr ⟨⟨sim_aload_n d41_28 rfl, gr_LdA 0 29⟩,
  List.forall_mem_cons.mpr ⟨⟨sim_virtual d41_29 vk25, gr_CalV (fun k => if k = 4 then some 45 else none) 0 32⟩,
  List.forall_mem_cons.mpr ⟨⟨sim_if_ne d41_32 (by decide), gr_If (fun x => ¬ x = 0) 37 35⟩,
  List.forall_mem_cons.mpr ⟨⟨sim_iconst d41_35 (by decide), gr_Push (.int 0) 36⟩,
  List.forall_mem_cons.mpr ⟨⟨sim_nreturn d41_36 rfl (fun _ h => congrArg Value.int h), gr_RetN .boolean⟩,
  List.forall_mem_cons.mpr ⟨⟨sim_aload_n d41_37 rfl, gr_LdA 0 38⟩,
  List.forall_mem_cons.mpr ⟨⟨sim_getF d41_38 gf44, gr_GetF (fun k => k = 4) 1 41⟩,
  List.forall_mem_cons.mpr ⟨⟨sim_virtual d41_41 vk26, gr_CalV (fun k => if k = 3 then some 31 else none) 0 44⟩,
  List.forall_mem_cons.mpr ⟨⟨sim_aload_n d41_44 rfl, gr_LdA 0 45⟩,
  List.forall_mem_cons.mpr ⟨⟨sim_getF d41_45 gf44, gr_GetF (fun k => k = 4) 1 48⟩,
  List.forall_mem_cons.mpr ⟨⟨sim_virtual d41_48 vk27, gr_CalV (fun k => if k = 3 then some 32 else none) 0 51⟩,
  List.forall_mem_cons.mpr ⟨⟨sim_iconst d41_51 (by decide), gr_Push (.int 1) 52⟩,
  List.forall_mem_cons.mpr ⟨⟨sim_nreturn d41_52 rfl (fun _ h => congrArg Value.int h), gr_RetN .boolean⟩, fun _ h => absurd h List.not_mem_nil⟩⟩⟩⟩⟩⟩⟩⟩⟩⟩⟩⟩⟩⟩⟩⟩⟩⟩⟩⟩⟩⟩⟩⟩⟩
noncomputable def pg41 : List (Nat × aP) := pg41_0
theorem ok41 : ∀ q ∈ pg41, Sim mT mt41 q.1 q.2 ∧ Grow q.2 := ok41_0
theorem d42_0 : decode mt42.2.1 0 = .ok (.aload_n 0, 1) := by decide +kernel
theorem d42_1 : decode mt42.2.1 1 = .ok (.iload_n 1, 1) := by decide +kernel
theorem d42_2 : decode mt42.2.1 2 = .ok (.putfield 47, 3) := by decide +kernel
theorem d42_5 : decode mt42.2.1 5 = .ok (.aload_n 0, 1) := by decide +kernel
theorem d42_6 : decode mt42.2.1 6 = .ok (.aload_n 0, 1) := by decide +kernel
theorem d42_7 : decode mt42.2.1 7 = .ok (.getfield 12, 3) := by decide +kernel
theorem d42_10 : decode mt42.2.1 10 = .ok (.getfield 51, 3) := by decide +kernel
theorem d42_13 : decode mt42.2.1 13 = .ok (.putfield 54, 3) := by decide +kernel
theorem d42_16 : decode mt42.2.1 16 = .ok (.iconst 0, 1) := by decide +kernel
theorem d42_17 : decode mt42.2.1 17 = .ok (.ireturn, 1) := by decide +kernel
noncomputable def pg42_0 : List (Nat × aP) := [(0, oLdA 0 1),
  (1, oLdI 1 2),
  (2, oPutI (fun k => k = 4) 2 5),
  (5, oLdA 0 6),
  (6, oLdA 0 7),
  (7, oGetF (fun k => k = 4) 0 10),
  (10, oGetI (fun k => k = 7) 3 13),
  (13, oPutI (fun k => k = 4) 3 16),
  (16, oPush (.int 0) 17),
  (17, oRetN .boolean)]
theorem ok42_0 : ∀ q ∈ pg42_0, Sim mT mt42 q.1 q.2 ∧ Grow q.2 :=
  List.forall_mem_cons.mpr ⟨⟨sim_aload_n d42_0 rfl, gr_LdA 0 1⟩,
  List.forall_mem_cons.mpr ⟨⟨sim_iload_n d42_1 rfl, gr_LdI 1 2⟩,
  List.forall_mem_cons.mpr ⟨⟨sim_putI d42_2 gf46w, gr_PutI (fun k => k = 4) 2 5⟩,
  List.forall_mem_cons.mpr ⟨⟨sim_aload_n d42_5 rfl, gr_LdA 0 6⟩,
  List.forall_mem_cons.mpr ⟨⟨sim_aload_n d42_6 rfl, gr_LdA 0 7⟩,
  List.forall_mem_cons.mpr ⟨⟨sim_getF d42_7 gf45, gr_GetF (fun k => k = 4) 0 10⟩,
  List.forall_mem_cons.mpr ⟨⟨sim_getI d42_10 gf47, gr_GetI (fun k => k = 7) 3 13⟩,
  List.forall_mem_cons.mpr ⟨⟨sim_putI d42_13 gf48w, gr_PutI (fun k => k = 4) 3 16⟩,
  List.forall_mem_cons.mpr ⟨⟨sim_iconst d42_16 (by decide), gr_Push (.int 0) 17⟩,
  List.forall_mem_cons.mpr ⟨⟨sim_nreturn d42_17 rfl (fun _ h => congrArg Value.int h), gr_RetN .boolean⟩, fun _ h => absurd h List.not_mem_nil⟩⟩⟩⟩⟩⟩⟩⟩⟩⟩
noncomputable def pg42 : List (Nat × aP) := pg42_0
theorem ok42 : ∀ q ∈ pg42, Sim mT mt42 q.1 q.2 ∧ Grow q.2 := ok42_0
theorem d43_0 : decode mt43.2.1 0 = .ok (.iconst 1, 1) := by decide +kernel
theorem d43_1 : decode mt43.2.1 1 = .ok (.istore_n 1, 1) := by decide +kernel
theorem d43_2 : decode mt43.2.1 2 = .ok (.iconst 0, 1) := by decide +kernel
theorem d43_3 : decode mt43.2.1 3 = .ok (.istore_n 2, 1) := by decide +kernel
theorem d43_4 : decode mt43.2.1 4 = .ok (.iload_n 1, 1) := by decide +kernel
theorem d43_5 : decode mt43.2.1 5 = .ok (.ifCond .eq 53, 3) := by decide +kernel
theorem d43_8 : decode mt43.2.1 8 = .ok (.iload_n 2, 1) := by decide +kernel
theorem d43_9 : decode mt43.2.1 9 = .ok (.bipush 6, 2) := by decide +kernel
theorem d43_11 : decode mt43.2.1 11 = .ok (.if_icmp .gt 47, 3) := by decide +kernel
theorem d43_14 : decode mt43.2.1 14 = .ok (.aload_n 0, 1) := by decide +kernel
theorem d43_15 : decode mt43.2.1 15 = .ok (.ldc 57, 2) := by decide +kernel
theorem d43_17 : decode mt43.2.1 17 = .ok (.iload_n 2, 1) := by decide +kernel
theorem d43_18 : decode mt43.2.1 18 = .ok (.bipush 6, 2) := by decide +kernel
theorem d43_20 : decode mt43.2.1 20 = .ok (.invokevirtual 59, 3) := by decide +kernel
theorem d43_23 : decode mt43.2.1 23 = .ok (.ifCond .eq 17, 3) := by decide +kernel
theorem d43_26 : decode mt43.2.1 26 = .ok (.aload_n 0, 1) := by decide +kernel
theorem d43_27 : decode mt43.2.1 27 = .ok (.invokevirtual 63, 3) := by decide +kernel
theorem d43_30 : decode mt43.2.1 30 = .ok (.ifCond .eq 10, 3) := by decide +kernel
theorem d43_33 : decode mt43.2.1 33 = .ok (.aload_n 0, 1) := by decide +kernel
theorem d43_34 : decode mt43.2.1 34 = .ok (.invokevirtual 66, 3) := by decide +kernel
theorem d43_37 : decode mt43.2.1 37 = .ok (.ifCond .ne 5, 3) := by decide +kernel
theorem d43_40 : decode mt43.2.1 40 = .ok (.iconst 0, 1) := by decide +kernel
theorem d43_41 : decode mt43.2.1 41 = .ok (.ireturn, 1) := by decide +kernel
theorem d43_42 : decode mt43.2.1 42 = .ok (.aload_n 0, 1) := by decide +kernel
theorem d43_43 : decode mt43.2.1 43 = .ok (.getfield 12, 3) := by decide +kernel
theorem d43_46 : decode mt43.2.1 46 = .ok (.ldc 57, 2) := by decide +kernel
theorem d43_48 : decode mt43.2.1 48 = .ok (.invokevirtual 69, 3) := by decide +kernel
theorem d43_51 : decode mt43.2.1 51 = .ok (.istore_n 1, 1) := by decide +kernel
theorem d43_52 : decode mt43.2.1 52 = .ok (.iinc 2 1, 3) := by decide +kernel
theorem d43_55 : decode mt43.2.1 55 = .ok (.goto (-51), 3) := by decide +kernel
theorem d43_58 : decode mt43.2.1 58 = .ok (.iconst 1, 1) := by decide +kernel
theorem d43_59 : decode mt43.2.1 59 = .ok (.ireturn, 1) := by decide +kernel
noncomputable def pg43_0 : List (Nat × aP) := [(0, oPush (.int 1) 1),
  (1, oStI 1 2),
  (2, oPush (.int 0) 3),
  (3, oStI 2 4),
  (4, oLdI 1 5),
  (5, oIf (fun x => x = 0) 58 8),
  (8, oLdI 2 9),
  (9, oPush (.int 6) 11),
  (11, oIc (fun x y => y < x) 58 14),
  (14, oLdA 0 15),
  (15, oPush (.ref 2) 17),
  (17, oLdI 2 18),
  (18, oPush (.int 6) 20),
  (20, oCalV (fun k => if k = 4 then some 46 else none) 3 23),
  (23, oIf (fun x => x = 0) 40 26),
  (26, oLdA 0 27),
  (27, oCalV (fun k => if k = 4 then some 48 else none) 0 30),
  (30, oIf (fun x => x = 0) 40 33),
  (33, oLdA 0 34),
  (34, oCalV (fun k => if k = 4 then some 47 else none) 0 37),
  (37, oIf (fun x => ¬ x = 0) 42 40),
  (40, oPush (.int 0) 41),
  (41, oRetN .boolean),
  (42, oLdA 0 43),
  (43, oGetF (fun k => k = 4) 0 46),
  (46, oPush (.ref 2) 48),
  (48, oCalV (fun k => if k = 7 then some 71 else none) 1 51),
  (51, oStI 1 52),
  (52, oInc 2 1 55),
  (55, oGo 4),
  (58, oPush (.int 1) 59),
  (59, oRetN .boolean)]
theorem ok43_0 : ∀ q ∈ pg43_0, Sim mT mt43 q.1 q.2 ∧ Grow q.2 :=
  List.forall_mem_cons.mpr ⟨⟨sim_iconst d43_0 (by decide), gr_Push (.int 1) 1⟩,
  List.forall_mem_cons.mpr ⟨⟨sim_istore_n d43_1 rfl (by decide), gr_StI 1 2⟩,
  List.forall_mem_cons.mpr ⟨⟨sim_iconst d43_2 (by decide), gr_Push (.int 0) 3⟩,
  List.forall_mem_cons.mpr ⟨⟨sim_istore_n d43_3 rfl (by decide), gr_StI 2 4⟩,
  List.forall_mem_cons.mpr ⟨⟨sim_iload_n d43_4 rfl, gr_LdI 1 5⟩,
  List.forall_mem_cons.mpr ⟨⟨sim_if_eq d43_5 (by decide), gr_If (fun x => x = 0) 58 8⟩,
  List.forall_mem_cons.mpr ⟨⟨sim_iload_n d43_8 rfl, gr_LdI 2 9⟩,
  List.forall_mem_cons.mpr ⟨⟨sim_bipush d43_9 (by decide), gr_Push (.int 6) 11⟩,
  List.forall_mem_cons.mpr ⟨⟨sim_icmp_gt d43_11 (by decide), gr_Ic (fun x y => y < x) 58 14⟩,
  List.forall_mem_cons.mpr ⟨⟨sim_aload_n d43_14 rfl, gr_LdA 0 15⟩,
  List.forall_mem_cons.mpr ⟨⟨sim_ldcS (i := 57) d43_15 rfl (by decide), gr_Push (.ref 2) 17⟩,
  List.forall_mem_cons.mpr ⟨⟨sim_iload_n d43_17 rfl, gr_LdI 2 18⟩,
  List.forall_mem_cons.mpr ⟨⟨sim_bipush d43_18 (by decide), gr_Push (.int 6) 20⟩,
  List.forall_mem_cons.mpr ⟨⟨sim_virtual d43_20 vk28, gr_CalV (fun k => if k = 4 then some 46 else none) 3 23⟩,
  List.forall_mem_cons.mpr ⟨⟨sim_if_eq d43_23 (by decide), gr_If (fun x => x = 0) 40 26⟩,
  List.forall_mem_cons.mpr ⟨⟨sim_aload_n d43_26 rfl, gr_LdA 0 27⟩,
  List.forall_mem_cons.mpr ⟨⟨sim_virtual d43_27 vk29, gr_CalV (fun k => if k = 4 then some 48 else none) 0 30⟩,
  List.forall_mem_cons.mpr ⟨⟨sim_if_eq d43_30 (by decide), gr_If (fun x => x = 0) 40 33⟩,
  List.forall_mem_cons.mpr ⟨⟨sim_aload_n d43_33 rfl, gr_LdA 0 34⟩,
  List.forall_mem_cons.mpr ⟨⟨sim_virtual d43_34 vk30, gr_CalV (fun k => if k = 4 then some 47 else none) 0 37⟩,
  List.forall_mem_cons.mpr ⟨⟨sim_if_ne d43_37 (by decide), gr_If (fun x => ¬ x = 0) 42 40⟩,
  List.forall_mem_cons.mpr ⟨⟨sim_iconst d43_40 (by decide), gr_Push (.int 0) 41⟩,
  List.forall_mem_cons.mpr ⟨⟨sim_nreturn d43_41 rfl (fun _ h => congrArg Value.int h), gr_RetN .boolean⟩,
  List.forall_mem_cons.mpr ⟨⟨sim_aload_n d43_42 rfl, gr_LdA 0 43⟩,
  List.forall_mem_cons.mpr ⟨⟨sim_getF d43_43 gf45, gr_GetF (fun k => k = 4) 0 46⟩,
  List.forall_mem_cons.mpr ⟨⟨sim_ldcS (i := 57) d43_46 rfl (by decide), gr_Push (.ref 2) 48⟩,
  List.forall_mem_cons.mpr ⟨⟨sim_virtual d43_48 vk31, gr_CalV (fun k => if k = 7 then some 71 else none) 1 51⟩,
  List.forall_mem_cons.mpr ⟨⟨sim_istore_n d43_51 rfl (by decide), gr_StI 1 52⟩,
  List.forall_mem_cons.mpr ⟨⟨sim_iinc d43_52 (by decide) (by decide), gr_Inc 2 1 55⟩,
  List.forall_mem_cons.mpr ⟨⟨sim_goto d43_55 (by decide), gr_Go 4⟩,
  List.forall_mem_cons.mpr ⟨⟨sim_iconst d43_58 (by decide), gr_Push (.int 1) 59⟩,
  List.forall_mem_cons.mpr ⟨⟨sim_nreturn d43_59 rfl (fun _ h => congrArg Value.int h), gr_RetN .boolean⟩, fun _ h => absurd h List.not_mem_nil⟩⟩⟩⟩⟩⟩⟩⟩⟩⟩⟩⟩⟩⟩⟩⟩⟩⟩⟩⟩⟩⟩⟩⟩⟩⟩⟩⟩⟩⟩⟩⟩
noncomputable def pg43 : List (Nat × aP) := pg43_0
theorem ok43 : ∀ q ∈ pg43, Sim mT mt43 q.1 q.2 ∧ Grow q.2 := ok43_0
theorem d44_0 : decode mt44.2.1 0 = .ok (.iconst 0, 1) := by decide +kernel
theorem d44_1 : decode mt44.2.1 1 = .ok (.istore_n 1, 1) := by decide +kernel
theorem d44_2 : decode mt44.2.1 2 = .ok (.iload_n 1, 1) := by decide +kernel
theorem d44_3 : decode mt44.2.1 3 = .ok (.bipush 8, 2) := by decide +kernel
theorem d44_5 : decode mt44.2.1 5 = .ok (.if_icmp .gt 49, 3) := by decide +kernel
theorem d44_8 : decode mt44.2.1 8 = .ok (.aload_n 0, 1) := by decide +kernel
theorem d44_9 : decode mt44.2.1 9 = .ok (.getfield 12, 3) := by decide +kernel
theorem d44_12 : decode mt44.2.1 12 = .ok (.ldc 73, 2) := by decide +kernel
theorem d44_14 : decode mt44.2.1 14 = .ok (.invokevirtual 69, 3) := by decide +kernel
theorem d44_17 : decode mt44.2.1 17 = .ok (.ifCond .eq 37, 3) := by decide +kernel
theorem d44_20 : decode mt44.2.1 20 = .ok (.aload_n 0, 1) := by decide +kernel
theorem d44_21 : decode mt44.2.1 21 = .ok (.ldc 73, 2) := by decide +kernel
theorem d44_23 : decode mt44.2.1 23 = .ok (.iload_n 1, 1) := by decide +kernel
theorem d44_24 : decode mt44.2.1 24 = .ok (.bipush 8, 2) := by decide +kernel
theorem d44_26 : decode mt44.2.1 26 = .ok (.invokevirtual 59, 3) := by decide +kernel
theorem d44_29 : decode mt44.2.1 29 = .ok (.ifCond .eq 17, 3) := by decide +kernel
theorem d44_32 : decode mt44.2.1 32 = .ok (.aload_n 0, 1) := by decide +kernel
theorem d44_33 : decode mt44.2.1 33 = .ok (.invokevirtual 75, 3) := by decide +kernel
theorem d44_36 : decode mt44.2.1 36 = .ok (.ifCond .eq 10, 3) := by decide +kernel
theorem d44_39 : decode mt44.2.1 39 = .ok (.aload_n 0, 1) := by decide +kernel
theorem d44_40 : decode mt44.2.1 40 = .ok (.invokevirtual 66, 3) := by decide +kernel
theorem d44_43 : decode mt44.2.1 43 = .ok (.ifCond .ne 5, 3) := by decide +kernel
theorem d44_46 : decode mt44.2.1 46 = .ok (.iconst 0, 1) := by decide +kernel
theorem d44_47 : decode mt44.2.1 47 = .ok (.ireturn, 1) := by decide +kernel
theorem d44_48 : decode mt44.2.1 48 = .ok (.iinc 1 1, 3) := by decide +kernel
theorem d44_51 : decode mt44.2.1 51 = .ok (.goto (-49), 3) := by decide +kernel
theorem d44_54 : decode mt44.2.1 54 = .ok (.iconst 1, 1) := by decide +kernel
theorem d44_55 : decode mt44.2.1 55 = .ok (.ireturn, 1) := by decide +kernel
noncomputable def pg44_0 : List (Nat × aP) := [(0, oPush (.int 0) 1),
  (1, oStI 1 2),
  (2, oLdI 1 3),
  (3, oPush (.int 8) 5),
  (5, oIc (fun x y => y < x) 54 8),
  (8, oLdA 0 9),
  (9, oGetF (fun k => k = 4) 0 12),
  (12, oPush (.ref 3) 14),
  (14, oCalV (fun k => if k = 7 then some 71 else none) 1 17),
  (17, oIf (fun x => x = 0) 54 20),
  (20, oLdA 0 21),
  (21, oPush (.ref 3) 23),
  (23, oLdI 1 24),
  (24, oPush (.int 8) 26),
  (26, oCalV (fun k => if k = 4 then some 46 else none) 3 29),
  (29, oIf (fun x => x = 0) 46 32),
  (32, oLdA 0 33),
  (33, oCalV (fun k => if k = 4 then some 50 else none) 0 36),
  (36, oIf (fun x => x = 0) 46 39),
  (39, oLdA 0 40),
  (40, oCalV (fun k => if k = 4 then some 47 else none) 0 43),
  (43, oIf (fun x => ¬ x = 0) 48 46),
  (46, oPush (.int 0) 47),
  (47, oRetN .boolean),
  (48, oInc 1 1 51),
  (51, oGo 2),
  (54, oPush (.int 1) 55),
  (55, oRetN .boolean)]
theorem ok44_0 : ∀ q ∈ pg44_0, Sim mT mt44 q.1 q.2 ∧ Grow q.2 :=
  List.forall_mem_cons.mpr ⟨⟨sim_iconst d44_0 (by decide), gr_Push (.int 0) 1⟩,
  List.forall_mem_cons.mpr ⟨⟨sim_istore_n d44_1 rfl (by decide), gr_StI 1 2⟩,
  List.forall_mem_cons.mpr ⟨⟨sim_iload_n d44_2 rfl, gr_LdI 1 3⟩,
  List.forall_mem_cons.mpr ⟨⟨sim_bipush d44_3 (by decide), gr_Push (.int 8) 5⟩,
  List.forall_mem_cons.mpr ⟨⟨sim_icmp_gt d44_5 (by decide), gr_Ic (fun x y => y < x) 54 8⟩,
  List.forall_mem_cons.mpr ⟨⟨sim_aload_n d44_8 rfl, gr_LdA 0 9⟩,
  List.forall_mem_cons.mpr ⟨⟨sim_getF d44_9 gf45, gr_GetF (fun k => k = 4) 0 12⟩,
  List.forall_mem_cons.mpr ⟨⟨sim_ldcS (i := 73) d44_12 rfl (by decide), gr_Push (.ref 3) 14⟩,
  List.forall_mem_cons.mpr ⟨⟨sim_virtual d44_14 vk31, gr_CalV (fun k => if k = 7 then some 71 else none) 1 17⟩,
  List.forall_mem_cons.mpr ⟨⟨sim_if_eq d44_17 (by decide), gr_If (fun x => x = 0) 54 20⟩,
  List.forall_mem_cons.mpr ⟨⟨sim_aload_n d44_20 rfl, gr_LdA 0 21⟩,
  List.forall_mem_cons.mpr ⟨⟨sim_ldcS (i := 73) d44_21 rfl (by decide), gr_Push (.ref 3) 23⟩,
  List.forall_mem_cons.mpr ⟨⟨sim_iload_n d44_23 rfl, gr_LdI 1 24⟩,
  List.forall_mem_cons.mpr ⟨⟨sim_bipush d44_24 (by decide), gr_Push (.int 8) 26⟩,
  List.forall_mem_cons.mpr ⟨⟨sim_virtual d44_26 vk28, gr_CalV (fun k => if k = 4 then some 46 else none) 3 29⟩,
  List.forall_mem_cons.mpr ⟨⟨sim_if_eq d44_29 (by decide), gr_If (fun x => x = 0) 46 32⟩,
  List.forall_mem_cons.mpr ⟨⟨sim_aload_n d44_32 rfl, gr_LdA 0 33⟩,
  List.forall_mem_cons.mpr ⟨⟨sim_virtual d44_33 vk32, gr_CalV (fun k => if k = 4 then some 50 else none) 0 36⟩,
  List.forall_mem_cons.mpr ⟨⟨sim_if_eq d44_36 (by decide), gr_If (fun x => x = 0) 46 39⟩,
  List.forall_mem_cons.mpr ⟨⟨sim_aload_n d44_39 rfl, gr_LdA 0 40⟩,
  List.forall_mem_cons.mpr ⟨⟨sim_virtual d44_40 vk30, gr_CalV (fun k => if k = 4 then some 47 else none) 0 43⟩,
  List.forall_mem_cons.mpr ⟨⟨sim_if_ne d44_43 (by decide), gr_If (fun x => ¬ x = 0) 48 46⟩,
  List.forall_mem_cons.mpr ⟨⟨sim_iconst d44_46 (by decide), gr_Push (.int 0) 47⟩,
  List.forall_mem_cons.mpr ⟨⟨sim_nreturn d44_47 rfl (fun _ h => congrArg Value.int h), gr_RetN .boolean⟩,
  List.forall_mem_cons.mpr ⟨⟨sim_iinc d44_48 (by decide) (by decide), gr_Inc 1 1 51⟩,
  List.forall_mem_cons.mpr ⟨⟨sim_goto d44_51 (by decide), gr_Go 2⟩,
  List.forall_mem_cons.mpr ⟨⟨sim_iconst d44_54 (by decide), gr_Push (.int 1) 55⟩,
  List.forall_mem_cons.mpr ⟨⟨sim_nreturn d44_55 rfl (fun _ h => congrArg Value.int h), gr_RetN .boolean⟩, fun _ h => absurd h List.not_mem_nil⟩⟩⟩⟩⟩⟩⟩⟩⟩⟩⟩⟩⟩⟩⟩⟩⟩⟩⟩⟩⟩⟩⟩⟩⟩⟩⟩⟩
noncomputable def pg44 : List (Nat × aP) := pg44_0
theorem ok44 : ∀ q ∈ pg44, Sim mT mt44 q.1 q.2 ∧ Grow q.2 := ok44_0
theorem d45_0 : decode mt45.2.1 0 = .ok (.iconst 1, 1) := by decide +kernel
theorem d45_1 : decode mt45.2.1 1 = .ok (.istore_n 1, 1) := by decide +kernel
theorem d45_2 : decode mt45.2.1 2 = .ok (.iconst 0, 1) := by decide +kernel
theorem d45_3 : decode mt45.2.1 3 = .ok (.istore_n 2, 1) := by decide +kernel
theorem d45_4 : decode mt45.2.1 4 = .ok (.iload_n 1, 1) := by decide +kernel
theorem d45_5 : decode mt45.2.1 5 = .ok (.ifCond .eq 51, 3) := by decide +kernel
theorem d45_8 : decode mt45.2.1 8 = .ok (.iload_n 2, 1) := by decide +kernel
theorem d45_9 : decode mt45.2.1 9 = .ok (.iconst 4, 1) := by decide +kernel
theorem d45_10 : decode mt45.2.1 10 = .ok (.if_icmp .gt 46, 3) := by decide +kernel
theorem d45_13 : decode mt45.2.1 13 = .ok (.aload_n 0, 1) := by decide +kernel
theorem d45_14 : decode mt45.2.1 14 = .ok (.ldc 78, 2) := by decide +kernel
theorem d45_16 : decode mt45.2.1 16 = .ok (.iload_n 2, 1) := by decide +kernel
theorem d45_17 : decode mt45.2.1 17 = .ok (.iconst 4, 1) := by decide +kernel
theorem d45_18 : decode mt45.2.1 18 = .ok (.invokevirtual 59, 3) := by decide +kernel
theorem d45_21 : decode mt45.2.1 21 = .ok (.ifCond .eq 17, 3) := by decide +kernel
theorem d45_24 : decode mt45.2.1 24 = .ok (.aload_n 0, 1) := by decide +kernel
theorem d45_25 : decode mt45.2.1 25 = .ok (.invokevirtual 80, 3) := by decide +kernel
theorem d45_28 : decode mt45.2.1 28 = .ok (.ifCond .eq 10, 3) := by decide +kernel
theorem d45_31 : decode mt45.2.1 31 = .ok (.aload_n 0, 1) := by decide +kernel
theorem d45_32 : decode mt45.2.1 32 = .ok (.invokevirtual 66, 3) := by decide +kernel
theorem d45_35 : decode mt45.2.1 35 = .ok (.ifCond .ne 5, 3) := by decide +kernel
theorem d45_38 : decode mt45.2.1 38 = .ok (.iconst 0, 1) := by decide +kernel
theorem d45_39 : decode mt45.2.1 39 = .ok (.ireturn, 1) := by decide +kernel
theorem d45_40 : decode mt45.2.1 40 = .ok (.aload_n 0, 1) := by decide +kernel
theorem d45_41 : decode mt45.2.1 41 = .ok (.getfield 12, 3) := by decide +kernel
theorem d45_44 : decode mt45.2.1 44 = .ok (.ldc 78, 2) := by decide +kernel
theorem d45_46 : decode mt45.2.1 46 = .ok (.invokevirtual 69, 3) := by decide +kernel
theorem d45_49 : decode mt45.2.1 49 = .ok (.istore_n 1, 1) := by decide +kernel
theorem d45_50 : decode mt45.2.1 50 = .ok (.iinc 2 1, 3) := by decide +kernel
theorem d45_53 : decode mt45.2.1 53 = .ok (.goto (-49), 3) := by decide +kernel
theorem d45_56 : decode mt45.2.1 56 = .ok (.aload_n 0, 1) := by decide +kernel
theorem d45_57 : decode mt45.2.1 57 = .ok (.getfield 12, 3) := by decide +kernel
theorem d45_60 : decode mt45.2.1 60 = .ok (.getfield 83, 3) := by decide +kernel
theorem d45_63 : decode mt45.2.1 63 = .ok (.ifCond .eq 11, 3) := by decide +kernel
theorem d45_66 : decode mt45.2.1 66 = .ok (.aload_n 0, 1) := by decide +kernel
theorem d45_67 : decode mt45.2.1 67 = .ok (.iconst 1, 1) := by decide +kernel
theorem d45_68 : decode mt45.2.1 68 = .ok (.invokevirtual 86, 3) := by decide +kernel
theorem d45_71 : decode mt45.2.1 71 = .ok (.ifCond .eq 7, 3) := by decide +kernel
theorem d45_74 : decode mt45.2.1 74 = .ok (.iconst 1, 1) := by decide +kernel
theorem d45_75 : decode mt45.2.1 75 = .ok (.goto 4, 3) := by decide +kernel
theorem d45_78 : decode mt45.2.1 78 = .ok (.iconst 0, 1) := by decide +kernel
theorem d45_79 : decode mt45.2.1 79 = .ok (.ireturn, 1) := by decide +kernel
noncomputable def pg45_0 : List (Nat × aP) := [(0, oPush (.int 1) 1),
  (1, oStI 1 2),
  (2, oPush (.int 0) 3),
  (3, oStI 2 4),
  (4, oLdI 1 5),
  (5, oIf (fun x => x = 0) 56 8),
  (8, oLdI 2 9),
  (9, oPush (.int 4) 10),
  (10, oIc (fun x y => y < x) 56 13),
  (13, oLdA 0 14),
  (14, oPush (.ref 4) 16),
  (16, oLdI 2 17),
  (17, oPush (.int 4) 18),
  (18, oCalV (fun k => if k = 4 then some 46 else none) 3 21),
  (21, oIf (fun x => x = 0) 38 24),
  (24, oLdA 0 25),
  (25, oCalV (fun k => if k = 4 then some 51 else none) 0 28),
  (28, oIf (fun x => x = 0) 38 31),
  (31, oLdA 0 32),
  (32, oCalV (fun k => if k = 4 then some 47 else none) 0 35),
  (35, oIf (fun x => ¬ x = 0) 40 38),
  (38, oPush (.int 0) 39),
  (39, oRetN .boolean),
  (40, oLdA 0 41),
  (41, oGetF (fun k => k = 4) 0 44),
  (44, oPush (.ref 4) 46),
  (46, oCalV (fun k => if k = 7 then some 71 else none) 1 49),
  (49, oStI 1 50),
  (50, oInc 2 1 53),
  (53, oGo 4),
  (56, oLdA 0 57),
  (57, oGetF (fun k => k = 4) 0 60),
  (60, oGetI (fun k => k = 7) 2 63),
  (63, oIf (fun x => x = 0) 74 66),
  (66, oLdA 0 67),
  (67, oPush (.int 1) 68),
  (68, oCalV (fun k => if k = 4 then some 42 else none) 1 71),
  (71, oIf (fun x => x = 0) 78 74),
  (74, oPush (.int 1) 75),
  (75, oGo 79)]
theorem ok45_0 : ∀ q ∈ pg45_0, Sim mT mt45 q.1 q.2 ∧ Grow q.2 :=
  List.forall_mem_cons.mpr ⟨⟨sim_iconst d45_0 (by decide), gr_Push (.int 1) 1⟩,
  List.forall_mem_cons.mpr ⟨⟨sim_istore_n d45_1 rfl (by decide), gr_StI 1 2⟩,
  List.forall_mem_cons.mpr ⟨⟨sim_iconst d45_2 (by decide), gr_Push (.int 0) 3⟩,
  List.forall_mem_cons.mpr ⟨⟨sim_istore_n d45_3 rfl (by decide), gr_StI 2 4⟩,
  List.forall_mem_cons.mpr ⟨⟨sim_iload_n d45_4 rfl, gr_LdI 1 5⟩,
  List.forall_mem_cons.mpr ⟨⟨sim_if_eq d45_5 (by decide), gr_If (fun x => x = 0) 56 8⟩,
  List.forall_mem_cons.mpr ⟨⟨sim_iload_n d45_8 rfl, gr_LdI 2 9⟩,
  List.forall_mem_cons.mpr ⟨⟨sim_iconst d45_9 (by decide), gr_Push (.int 4) 10⟩,
  List.forall_mem_cons.mpr ⟨⟨sim_icmp_gt d45_10 (by decide), gr_Ic (fun x y => y < x) 56 13⟩,
  List.forall_mem_cons.mpr ⟨⟨sim_aload_n d45_13 rfl, gr_LdA 0 14⟩,
  List.forall_mem_cons.mpr ⟨⟨sim_ldcS (i := 78) d45_14 rfl (by decide), gr_Push (.ref 4) 16⟩,
  List.forall_mem_cons.mpr ⟨⟨sim_iload_n d45_16 rfl, gr_LdI 2 17⟩,
  List.forall_mem_cons.mpr ⟨⟨sim_iconst d45_17 (by decide), gr_Push (.int 4) 18⟩,
  List.forall_mem_cons.mpr ⟨⟨sim_virtual d45_18 vk28, gr_CalV (fun k => if k = 4 then some 46 else none) 3 21⟩,
  List.forall_mem_cons.mpr ⟨⟨sim_if_eq d45_21 (by decide), gr_If (fun x => x = 0) 38 24⟩,
  List.forall_mem_cons.mpr ⟨⟨sim_aload_n d45_24 rfl, gr_LdA 0 25⟩,
  List.forall_mem_cons.mpr ⟨⟨sim_virtual d45_25 vk33, gr_CalV (fun k => if k = 4 then some 51 else none) 0 28⟩,
  List.forall_mem_cons.mpr ⟨⟨sim_if_eq d45_28 (by decide), gr_If (fun x => x = 0) 38 31⟩,
  List.forall_mem_cons.mpr ⟨⟨sim_aload_n d45_31 rfl, gr_LdA 0 32⟩,
  List.forall_mem_cons.mpr ⟨⟨sim_virtual d45_32 vk30, gr_CalV (fun k => if k = 4 then some 47 else none) 0 35⟩,
  List.forall_mem_cons.mpr ⟨⟨sim_if_ne d45_35 (by decide), gr_If (fun x => ¬ x = 0) 40 38⟩,
  List.forall_mem_cons.mpr ⟨⟨sim_iconst d45_38 (by decide), gr_Push (.int 0) 39⟩,
  List.forall_mem_cons.mpr ⟨⟨sim_nreturn d45_39 rfl (fun _ h => congrArg Value.int h), gr_RetN .boolean⟩,
  List.forall_mem_cons.mpr ⟨⟨sim_aload_n d45_40 rfl, gr_LdA 0 41⟩,
  List.forall_mem_cons.mpr ⟨⟨sim_getF d45_41 gf45, gr_GetF (fun k => k = 4) 0 44⟩,
  List.forall_mem_cons.mpr ⟨⟨sim_ldcS (i := 78) d45_44 rfl (by decide), gr_Push (.ref 4) 46⟩,
  List.forall_mem_cons.mpr ⟨⟨sim_virtual d45_46 vk31, gr_CalV (fun k => if k = 7 then some 71 else none) 1 49⟩,
  List.forall_mem_cons.mpr ⟨⟨sim_istore_n d45_49 rfl (by decide), gr_StI 1 50⟩,
  List.forall_mem_cons.mpr ⟨⟨sim_iinc d45_50 (by decide) (by decide), gr_Inc 2 1 53⟩,
  List.forall_mem_cons.mpr ⟨⟨sim_goto d45_53 (by decide), gr_Go 4⟩,
  List.forall_mem_cons.mpr ⟨⟨sim_aload_n d45_56 rfl, gr_LdA 0 57⟩,
  List.forall_mem_cons.mpr ⟨⟨sim_getF d45_57 gf45, gr_GetF (fun k => k = 4) 0 60⟩,
  List.forall_mem_cons.mpr ⟨⟨sim_getI d45_60 gf49, gr_GetI (fun k => k = 7) 2 63⟩,
  List.forall_mem_cons.mpr ⟨⟨sim_if_eq d45_63 (by decide), gr_If (fun x => x = 0) 74 66⟩,
  List.forall_mem_cons.mpr ⟨⟨sim_aload_n d45_66 rfl, gr_LdA 0 67⟩,
  List.forall_mem_cons.mpr ⟨⟨sim_iconst d45_67 (by decide), gr_Push (.int 1) 68⟩,
  List.forall_mem_cons.mpr ⟨⟨sim_virtual d45_68 vk34, gr_CalV (fun k => if k = 4 then some 42 else none) 1 71⟩,
  List.forall_mem_cons.mpr ⟨⟨sim_if_eq d45_71 (by decide), gr_If (fun x => x = 0) 78 74⟩,
  List.forall_mem_cons.mpr ⟨⟨sim_iconst d45_74 (by decide), gr_Push (.int 1) 75⟩,
  List.forall_mem_cons.mpr ⟨⟨sim_goto d45_75 (by decide), gr_Go 79⟩, fun _ h => absurd h List.not_mem_nil⟩⟩⟩⟩⟩⟩⟩⟩⟩⟩⟩⟩⟩⟩⟩⟩⟩⟩⟩⟩⟩⟩⟩⟩⟩⟩⟩⟩⟩⟩⟩⟩⟩⟩⟩⟩⟩⟩⟩⟩
noncomputable def pg45_1 : List (Nat × aP) := [(78, oPush (.int 0) 79),
  (79, oRetN .boolean)]
theorem ok45_1 : ∀ q ∈ pg45_1, Sim mT mt45 q.1 q.2 ∧ Grow q.2 :=
  List.forall_mem_cons.mpr ⟨⟨sim_iconst d45_78 (by decide), gr_Push (.int 0) 79⟩,
  List.forall_mem_cons.mpr ⟨⟨sim_nreturn d45_79 rfl (fun _ h => congrArg Value.int h), gr_RetN .boolean⟩, fun _ h => absurd h List.not_mem_nil⟩⟩
noncomputable def pg45 : List (Nat × aP) := pg45_0 ++ (pg45_1)
theorem ok45 : ∀ q ∈ pg45, Sim mT mt45 q.1 q.2 ∧ Grow q.2 := List.forall_mem_append.mpr ⟨ok45_0, ok45_1⟩
theorem d46_0 : decode mt46.2.1 0 = .ok (.aload_n 0, 1) := by decide +kernel
theorem d46_1 : decode mt46.2.1 1 = .ok (.getfield 12, 3) := by decide +kernel
theorem d46_4 : decode mt46.2.1 4 = .ok (.aload_n 1, 1) := by decide +kernel
theorem d46_5 : decode mt46.2.1 5 = .ok (.invokevirtual 69, 3) := by decide +kernel
theorem d46_8 : decode mt46.2.1 8 = .ok (.ifCond .ne 9, 3) := by decide +kernel
theorem d46_11 : decode mt46.2.1 11 = .ok (.aload_n 0, 1) := by decide +kernel
theorem d46_12 : decode mt46.2.1 12 = .ok (.iconst 1, 1) := by decide +kernel
theorem d46_13 : decode mt46.2.1 13 = .ok (.invokevirtual 86, 3) := by decide +kernel
theorem d46_16 : decode mt46.2.1 16 = .ok (.ireturn, 1) := by decide +kernel
theorem d46_17 : decode mt46.2.1 17 = .ok (.iload_n 2, 1) := by decide +kernel
theorem d46_18 : decode mt46.2.1 18 = .ok (.iload_n 3, 1) := by decide +kernel
theorem d46_19 : decode mt46.2.1 19 = .ok (.if_icmp .lt 9, 3) := by decide +kernel
theorem d46_22 : decode mt46.2.1 22 = .ok (.aload_n 0, 1) := by decide +kernel
theorem d46_23 : decode mt46.2.1 23 = .ok (.iconst 3, 1) := by decide +kernel
theorem d46_24 : decode mt46.2.1 24 = .ok (.invokevirtual 86, 3) := by decide +kernel
theorem d46_27 : decode mt46.2.1 27 = .ok (.ireturn, 1) := by decide +kernel
theorem d46_28 : decode mt46.2.1 28 = .ok (.aload_n 0, 1) := by decide +kernel
theorem d46_29 : decode mt46.2.1 29 = .ok (.getfield 12, 3) := by decide +kernel
theorem d46_32 : decode mt46.2.1 32 = .ok (.invokevirtual 90, 3) := by decide +kernel
theorem d46_35 : decode mt46.2.1 35 = .ok (.iconst 1, 1) := by decide +kernel
theorem d46_36 : decode mt46.2.1 36 = .ok (.ireturn, 1) := by decide +kernel
noncomputable def pg46_0 : List (Nat × aP) := [(0, oLdA 0 1),
  (1, oGetF (fun k => k = 4) 0 4),
  (4, oLdA 1 5),
  (5, oCalV (fun k => if k = 7 then some 71 else none) 1 8),
  (8, oIf (fun x => ¬ x = 0) 17 11),
  (11, oLdA 0 12),
  (12, oPush (.int 1) 13),
  (13, oCalV (fun k => if k = 4 then some 42 else none) 1 16),
  (16, oRetN .boolean),
  (17, oLdI 2 18),
  (18, oLdI 3 19),
  (19, oIc (fun x y => x < y) 28 22),
  (22, oLdA 0 23),
  (23, oPush (.int 3) 24),
  (24, oCalV (fun k => if k = 4 then some 42 else none) 1 27),
  (27, oRetN .boolean),
  (28, oLdA 0 29),
  (29, oGetF (fun k => k = 4) 0 32),
  (32, oCalV (fun k => if k = 7 then some 66 else none) 0 35),
  (35, oPush (.int 1) 36),
  (36, oRetN .boolean)]
theorem ok46_0 : ∀ q ∈ pg46_0, Sim mT mt46 q.1 q.2 ∧ Grow q.2 :=
  List.forall_mem_cons.mpr ⟨⟨sim_aload_n d46_0 rfl, gr_LdA 0 1⟩,
  List.forall_mem_cons.mpr ⟨⟨sim_getF d46_1 gf45, gr_GetF (fun k => k = 4) 0 4⟩,
  List.forall_mem_cons.mpr ⟨⟨sim_aload_n d46_4 rfl, gr_LdA 1 5⟩,
  List.forall_mem_cons.mpr ⟨⟨sim_virtual d46_5 vk31, gr_CalV (fun k => if k = 7 then some 71 else none) 1 8⟩,
  List.forall_mem_cons.mpr ⟨⟨sim_if_ne d46_8 (by decide), gr_If (fun x => ¬ x = 0) 17 11⟩,
  List.forall_mem_cons.mpr ⟨⟨sim_aload_n d46_11 rfl, gr_LdA 0 12⟩,
  List.forall_mem_cons.mpr ⟨⟨sim_iconst d46_12 (by decide), gr_Push (.int 1) 13⟩,
  List.forall_mem_cons.mpr ⟨⟨sim_virtual d46_13 vk34, gr_CalV (fun k => if k = 4 then some 42 else none) 1 16⟩,
  List.forall_mem_cons.mpr ⟨⟨sim_nreturn d46_16 rfl (fun _ h => congrArg Value.int h), gr_RetN .boolean⟩,
  List.forall_mem_cons.mpr ⟨⟨sim_iload_n d46_17 rfl, gr_LdI 2 18⟩,
  List.forall_mem_cons.mpr ⟨⟨sim_iload_n d46_18 rfl, gr_LdI 3 19⟩,
  List.forall_mem_cons.mpr ⟨⟨sim_icmp_lt d46_19 (by decide), gr_Ic (fun x y => x < y) 28 22⟩,
  List.forall_mem_cons.mpr ⟨⟨sim_aload_n d46_22 rfl, gr_LdA 0 23⟩,
  List.forall_mem_cons.mpr ⟨⟨sim_iconst d46_23 (by decide), gr_Push (.int 3) 24⟩,
  List.forall_mem_cons.mpr ⟨⟨sim_virtual d46_24 vk34, gr_CalV (fun k => if k = 4 then some 42 else none) 1 27⟩,
  List.forall_mem_cons.mpr ⟨⟨sim_nreturn d46_27 rfl (fun _ h => congrArg Value.int h), gr_RetN .boolean⟩,
  List.forall_mem_cons.mpr ⟨⟨sim_aload_n d46_28 rfl, gr_LdA 0 29⟩,
  List.forall_mem_cons.mpr ⟨⟨sim_getF d46_29 gf45, gr_GetF (fun k => k = 4) 0 32⟩,
  List.forall_mem_cons.mpr ⟨⟨sim_virtual d46_32 vk35, gr_CalV (fun k => if k = 7 then some 66 else none) 0 35⟩,
  List.forall_mem_cons.mpr ⟨⟨sim_iconst d46_35 (by decide), gr_Push (.int 1) 36⟩,
  List.forall_mem_cons.mpr ⟨⟨sim_nreturn d46_36 rfl (fun _ h => congrArg Value.int h), gr_RetN .boolean⟩, fun _ h => absurd h List.not_mem_nil⟩⟩⟩⟩⟩⟩⟩⟩⟩⟩⟩⟩⟩⟩⟩⟩⟩⟩⟩⟩⟩
noncomputable def pg46 : List (Nat × aP) := pg46_0
theorem ok46 : ∀ q ∈ pg46, Sim mT mt46 q.1 q.2 ∧ Grow q.2 := ok46_0
theorem d47_0 : decode mt47.2.1 0 = .ok (.aload_n 0, 1) := by decide +kernel
theorem d47_1 : decode mt47.2.1 1 = .ok (.getfield 12, 3) := by decide +kernel
theorem d47_4 : decode mt47.2.1 4 = .ok (.getfield 83, 3) := by decide +kernel
theorem d47_7 : decode mt47.2.1 7 = .ok (.iconst 3, 1) := by decide +kernel
theorem d47_8 : decode mt47.2.1 8 = .ok (.if_icmp .eq 9, 3) := by decide +kernel
theorem d47_11 : decode mt47.2.1 11 = .ok (.aload_n 0, 1) := by decide +kernel
theorem d47_12 : decode mt47.2.1 12 = .ok (.iconst 1, 1) := by decide +kernel
theorem d47_13 : decode mt47.2.1 13 = .ok (.invokevirtual 86, 3) := by decide +kernel
theorem d47_16 : decode mt47.2.1 16 = .ok (.ireturn, 1) := by decide +kernel
theorem d47_17 : decode mt47.2.1 17 = .ok (.aload_n 0, 1) := by decide +kernel
theorem d47_18 : decode mt47.2.1 18 = .ok (.getfield 12, 3) := by decide +kernel
theorem d47_21 : decode mt47.2.1 21 = .ok (.invokevirtual 90, 3) := by decide +kernel
theorem d47_24 : decode mt47.2.1 24 = .ok (.iconst 1, 1) := by decide +kernel
theorem d47_25 : decode mt47.2.1 25 = .ok (.ireturn, 1) := by decide +kernel
noncomputable def pg47_0 : List (Nat × aP) := [(0, oLdA 0 1),
  (1, oGetF (fun k => k = 4) 0 4),
  (4, oGetI (fun k => k = 7) 2 7),
  (7, oPush (.int 3) 8),
  (8, oIc (fun x y => x = y) 17 11),
  (11, oLdA 0 12),
  (12, oPush (.int 1) 13),
  (13, oCalV (fun k => if k = 4 then some 42 else none) 1 16),
  (16, oRetN .boolean),
  (17, oLdA 0 18),
  (18, oGetF (fun k => k = 4) 0 21),
  (21, oCalV (fun k => if k = 7 then some 66 else none) 0 24),
  (24, oPush (.int 1) 25),
  (25, oRetN .boolean)]
theorem ok47_0 : ∀ q ∈ pg47_0, Sim mT mt47 q.1 q.2 ∧ Grow q.2 :=
  List.forall_mem_cons.mpr ⟨⟨sim_aload_n d47_0 rfl, gr_LdA 0 1⟩,
  List.forall_mem_cons.mpr ⟨⟨sim_getF d47_1 gf45, gr_GetF (fun k => k = 4) 0 4⟩,
  List.forall_mem_cons.mpr ⟨⟨sim_getI d47_4 gf49, gr_GetI (fun k => k = 7) 2 7⟩,
  List.forall_mem_cons.mpr ⟨⟨sim_iconst d47_7 (by decide), gr_Push (.int 3) 8⟩,
  List.forall_mem_cons.mpr ⟨⟨sim_icmp_eq d47_8 (by decide), gr_Ic (fun x y => x = y) 17 11⟩,
  List.forall_mem_cons.mpr ⟨⟨sim_aload_n d47_11 rfl, gr_LdA 0 12⟩,
  List.forall_mem_cons.mpr ⟨⟨sim_iconst d47_12 (by decide), gr_Push (.int 1) 13⟩,
  List.forall_mem_cons.mpr ⟨⟨sim_virtual d47_13 vk34, gr_CalV (fun k => if k = 4 then some 42 else none) 1 16⟩,
  List.forall_mem_cons.mpr ⟨⟨sim_nreturn d47_16 rfl (fun _ h => congrArg Value.int h), gr_RetN .boolean⟩,
  List.forall_mem_cons.mpr ⟨⟨sim_aload_n d47_17 rfl, gr_LdA 0 18⟩,
  List.forall_mem_cons.mpr ⟨⟨sim_getF d47_18 gf45, gr_GetF (fun k => k = 4) 0 21⟩,
  List.forall_mem_cons.mpr ⟨⟨sim_virtual d47_21 vk35, gr_CalV (fun k => if k = 7 then some 66 else none) 0 24⟩,
  List.forall_mem_cons.mpr ⟨⟨sim_iconst d47_24 (by decide), gr_Push (.int 1) 25⟩,
  List.forall_mem_cons.mpr ⟨⟨sim_nreturn d47_25 rfl (fun _ h => congrArg Value.int h), gr_RetN .boolean⟩, fun _ h => absurd h List.not_mem_nil⟩⟩⟩⟩⟩⟩⟩⟩⟩⟩⟩⟩⟩⟩
noncomputable def pg47 : List (Nat × aP) := pg47_0
theorem ok47 : ∀ q ∈ pg47, Sim mT mt47 q.1 q.2 ∧ Grow q.2 := ok47_0
theorem d48_0 : decode mt48.2.1 0 = .ok (.aload_n 0, 1) := by decide +kernel
theorem d48_1 : decode mt48.2.1 1 = .ok (.getfield 12, 3) := by decide +kernel
theorem d48_4 : decode mt48.2.1 4 = .ok (.getfield 93, 3) := by decide +kernel
theorem d48_7 : decode mt48.2.1 7 = .ok (.aload_n 0, 1) := by decide +kernel
theorem d48_8 : decode mt48.2.1 8 = .ok (.getfield 12, 3) := by decide +kernel
theorem d48_11 : decode mt48.2.1 11 = .ok (.getfield 51, 3) := by decide +kernel
theorem d48_14 : decode mt48.2.1 14 = .ok (.isub, 1) := by decide +kernel
theorem d48_15 : decode mt48.2.1 15 = .ok (.istore_n 1, 1) := by decide +kernel
theorem d48_16 : decode mt48.2.1 16 = .ok (.aload_n 0, 1) := by decide +kernel
theorem d48_17 : decode mt48.2.1 17 = .ok (.getfield 12, 3) := by decide +kernel
theorem d48_20 : decode mt48.2.1 20 = .ok (.getfield 83, 3) := by decide +kernel
theorem d48_23 : decode mt48.2.1 23 = .ok (.iconst 1, 1) := by decide +kernel
theorem d48_24 : decode mt48.2.1 24 = .ok (.if_icmp .ne 30, 3) := by decide +kernel
theorem d48_27 : decode mt48.2.1 27 = .ok (.iload_n 1, 1) := by decide +kernel
theorem d48_28 : decode mt48.2.1 28 = .ok (.bipush 7, 2) := by decide +kernel
theorem d48_30 : decode mt48.2.1 30 = .ok (.if_icmp .gt 24, 3) := by decide +kernel
theorem d48_33 : decode mt48.2.1 33 = .ok (.aload_n 0, 1) := by decide +kernel
theorem d48_34 : decode mt48.2.1 34 = .ok (.getfield 21, 3) := by decide +kernel
theorem d48_37 : decode mt48.2.1 37 = .ok (.getfield 96, 3) := by decide +kernel
theorem d48_40 : decode mt48.2.1 40 = .ok (.ifCond .le 20, 3) := by decide +kernel
theorem d48_43 : decode mt48.2.1 43 = .ok (.iload_n 1, 1) := by decide +kernel
theorem d48_44 : decode mt48.2.1 44 = .ok (.aload_n 0, 1) := by decide +kernel
theorem d48_45 : decode mt48.2.1 45 = .ok (.getfield 21, 3) := by decide +kernel
theorem d48_48 : decode mt48.2.1 48 = .ok (.getfield 99, 3) := by decide +kernel
theorem d48_51 : decode mt48.2.1 51 = .ok (.if_icmp .eq 9, 3) := by decide +kernel
theorem d48_54 : decode mt48.2.1 54 = .ok (.aload_n 0, 1) := by decide +kernel
theorem d48_55 : decode mt48.2.1 55 = .ok (.iconst 1, 1) := by decide +kernel
theorem d48_56 : decode mt48.2.1 56 = .ok (.invokevirtual 86, 3) := by decide +kernel
theorem d48_59 : decode mt48.2.1 59 = .ok (.ireturn, 1) := by decide +kernel
theorem d48_60 : decode mt48.2.1 60 = .ok (.aload_n 0, 1) := by decide +kernel
theorem d48_61 : decode mt48.2.1 61 = .ok (.getfield 12, 3) := by decide +kernel
theorem d48_64 : decode mt48.2.1 64 = .ok (.getfield 51, 3) := by decide +kernel
theorem d48_67 : decode mt48.2.1 67 = .ok (.istore_n 2, 1) := by decide +kernel
theorem d48_68 : decode mt48.2.1 68 = .ok (.iload_n 2, 1) := by decide +kernel
theorem d48_69 : decode mt48.2.1 69 = .ok (.aload_n 0, 1) := by decide +kernel
theorem d48_70 : decode mt48.2.1 70 = .ok (.getfield 12, 3) := by decide +kernel
theorem d48_73 : decode mt48.2.1 73 = .ok (.getfield 93, 3) := by decide +kernel
theorem d48_76 : decode mt48.2.1 76 = .ok (.if_icmp .ge 37, 3) := by decide +kernel
theorem d48_79 : decode mt48.2.1 79 = .ok (.aload_n 0, 1) := by decide +kernel
theorem d48_80 : decode mt48.2.1 80 = .ok (.getfield 12, 3) := by decide +kernel
theorem d48_83 : decode mt48.2.1 83 = .ok (.getfield 102, 3) := by decide +kernel
theorem d48_86 : decode mt48.2.1 86 = .ok (.iload_n 2, 1) := by decide +kernel
theorem d48_87 : decode mt48.2.1 87 = .ok (.baload, 1) := by decide +kernel
theorem d48_88 : decode mt48.2.1 88 = .ok (.istore_n 3, 1) := by decide +kernel
theorem d48_89 : decode mt48.2.1 89 = .ok (.iload_n 3, 1) := by decide +kernel
theorem d48_90 : decode mt48.2.1 90 = .ok (.bipush 106, 2) := by decide +kernel
theorem d48_92 : decode mt48.2.1 92 = .ok (.if_icmp .le 15, 3) := by decide +kernel
theorem d48_95 : decode mt48.2.1 95 = .ok (.iload_n 3, 1) := by decide +kernel
theorem d48_96 : decode mt48.2.1 96 = .ok (.bipush 119, 2) := by decide +kernel
theorem d48_98 : decode mt48.2.1 98 = .ok (.if_icmp .eq 9, 3) := by decide +kernel
theorem d48_101 : decode mt48.2.1 101 = .ok (.aload_n 0, 1) := by decide +kernel
theorem d48_102 : decode mt48.2.1 102 = .ok (.iconst 1, 1) := by decide +kernel
theorem d48_103 : decode mt48.2.1 103 = .ok (.invokevirtual 86, 3) := by decide +kernel
theorem d48_106 : decode mt48.2.1 106 = .ok (.ireturn, 1) := by decide +kernel
theorem d48_107 : decode mt48.2.1 107 = .ok (.iinc 2 1, 3) := by decide +kernel
theorem d48_110 : decode mt48.2.1 110 = .ok (.goto (-42), 3) := by decide +kernel
theorem d48_113 : decode mt48.2.1 113 = .ok (.iconst 0, 1) := by decide +kernel
theorem d48_114 : decode mt48.2.1 114 = .ok (.istore_n 2, 1) := by decide +kernel
theorem d48_115 : decode mt48.2.1 115 = .ok (.iload_n 2, 1) := by decide +kernel
theorem d48_116 : decode mt48.2.1 116 = .ok (.iload_n 1, 1) := by decide +kernel
theorem d48_117 : decode mt48.2.1 117 = .ok (.if_icmp .ge 45, 3) := by decide +kernel
theorem d48_120 : decode mt48.2.1 120 = .ok (.aload_n 0, 1) := by decide +kernel
theorem d48_121 : decode mt48.2.1 121 = .ok (.getfield 21, 3) := by decide +kernel
theorem d48_124 : decode mt48.2.1 124 = .ok (.iload_n 2, 1) := by decide +kernel
theorem d48_125 : decode mt48.2.1 125 = .ok (.bipush 8, 2) := by decide +kernel
theorem d48_127 : decode mt48.2.1 127 = .ok (.aload_n 0, 1) := by decide +kernel
theorem d48_128 : decode mt48.2.1 128 = .ok (.getfield 21, 3) := by decide +kernel
theorem d48_131 : decode mt48.2.1 131 = .ok (.getfield 96, 3) := by decide +kernel
theorem d48_134 : decode mt48.2.1 134 = .ok (.imul, 1) := by decide +kernel
theorem d48_135 : decode mt48.2.1 135 = .ok (.iadd, 1) := by decide +kernel
theorem d48_136 : decode mt48.2.1 136 = .ok (.aload_n 0, 1) := by decide +kernel
theorem d48_137 : decode mt48.2.1 137 = .ok (.getfield 12, 3) := by decide +kernel
theorem d48_140 : decode mt48.2.1 140 = .ok (.getfield 102, 3) := by decide +kernel
theorem d48_143 : decode mt48.2.1 143 = .ok (.aload_n 0, 1) := by decide +kernel
theorem d48_144 : decode mt48.2.1 144 = .ok (.getfield 12, 3) := by decide +kernel
theorem d48_147 : decode mt48.2.1 147 = .ok (.getfield 51, 3) := by decide +kernel
theorem d48_150 : decode mt48.2.1 150 = .ok (.iload_n 2, 1) := by decide +kernel
theorem d48_151 : decode mt48.2.1 151 = .ok (.iadd, 1) := by decide +kernel
theorem d48_152 : decode mt48.2.1 152 = .ok (.baload, 1) := by decide +kernel
theorem d48_153 : decode mt48.2.1 153 = .ok (.invokevirtual 106, 3) := by decide +kernel
theorem d48_156 : decode mt48.2.1 156 = .ok (.iinc 2 1, 3) := by decide +kernel
theorem d48_159 : decode mt48.2.1 159 = .ok (.goto (-44), 3) := by decide +kernel
theorem d48_162 : decode mt48.2.1 162 = .ok (.aload_n 0, 1) := by decide +kernel
theorem d48_163 : decode mt48.2.1 163 = .ok (.getfield 21, 3) := by decide +kernel
theorem d48_166 : decode mt48.2.1 166 = .ok (.iload_n 1, 1) := by decide +kernel
theorem d48_167 : decode mt48.2.1 167 = .ok (.putfield 99, 3) := by decide +kernel
theorem d48_170 : decode mt48.2.1 170 = .ok (.aload_n 0, 1) := by decide +kernel
theorem d48_171 : decode mt48.2.1 171 = .ok (.getfield 21, 3) := by decide +kernel
theorem d48_174 : decode mt48.2.1 174 = .ok (.dup, 1) := by decide +kernel
theorem d48_175 : decode mt48.2.1 175 = .ok (.getfield 96, 3) := by decide +kernel
theorem d48_178 : decode mt48.2.1 178 = .ok (.iconst 1, 1) := by decide +kernel
theorem d48_179 : decode mt48.2.1 179 = .ok (.iadd, 1) := by decide +kernel
theorem d48_180 : decode mt48.2.1 180 = .ok (.putfield 96, 3) := by decide +kernel
theorem d48_183 : decode mt48.2.1 183 = .ok (.aload_n 0, 1) := by decide +kernel
theorem d48_184 : decode mt48.2.1 184 = .ok (.getfield 12, 3) := by decide +kernel
theorem d48_187 : decode mt48.2.1 187 = .ok (.invokevirtual 90, 3) := by decide +kernel
theorem d48_190 : decode mt48.2.1 190 = .ok (.iconst 1, 1) := by decide +kernel
theorem d48_191 : decode mt48.2.1 191 = .ok (.ireturn, 1) := by decide +kernel
noncomputable def pg48_0 : List (Nat × aP) := [(0, oLdA 0 1),
  (1, oGetF (fun k => k = 4) 0 4),
  (4, oGetI (fun k => k = 7) 4 7),
  (7, oLdA 0 8),
  (8, oGetF (fun k => k = 4) 0 11),
  (11, oGetI (fun k => k = 7) 3 14),
  (14, oII (fun x y => x - y) 15),
  (15, oStI 1 16),
  (16, oLdA 0 17),
  (17, oGetF (fun k => k = 4) 0 20),
  (20, oGetI (fun k => k = 7) 2 23),
  (23, oPush (.int 1) 24),
  (24, oIc (fun x y => ¬ x = y) 54 27),
  (27, oLdI 1 28),
  (28, oPush (.int 7) 30),
  (30, oIc (fun x y => y < x) 54 33),
  (33, oLdA 0 34),
  (34, oGetF (fun k => k = 4) 1 37),
  (37, oGetI (fun k => k = 3) 1 40),
  (40, oIf (fun x => x ≤ 0) 60 43),
  (43, oLdI 1 44),
  (44, oLdA 0 45),
  (45, oGetF (fun k => k = 4) 1 48),
  (48, oGetI (fun k => k = 3) 0 51),
  (51, oIc (fun x y => x = y) 60 54),
  (54, oLdA 0 55),
  (55, oPush (.int 1) 56),
  (56, oCalV (fun k => if k = 4 then some 42 else none) 1 59),
  (59, oRetN .boolean),
  (60, oLdA 0 61),
  (61, oGetF (fun k => k = 4) 0 64),
  (64, oGetI (fun k => k = 7) 3 67),
  (67, oStI 2 68),
  (68, oLdI 2 69),
  (69, oLdA 0 70),
  (70, oGetF (fun k => k = 4) 0 73),
  (73, oGetI (fun k => k = 7) 4 76),
  (76, oIc (fun x y => y ≤ x) 113 79),
  (79, oLdA 0 80),
  (80, oGetF (fun k => k = 4) 0 83)]
theorem ok48_0 : ∀ q ∈ pg48_0, Sim mT mt48 q.1 q.2 ∧ Grow q.2 :=
  List.forall_mem_cons.mpr ⟨⟨sim_aload_n d48_0 rfl, gr_LdA 0 1⟩,
  List.forall_mem_cons.mpr ⟨⟨sim_getF d48_1 gf45, gr_GetF (fun k => k = 4) 0 4⟩,
  List.forall_mem_cons.mpr ⟨⟨sim_getI d48_4 gf50, gr_GetI (fun k => k = 7) 4 7⟩,
  List.forall_mem_cons.mpr ⟨⟨sim_aload_n d48_7 rfl, gr_LdA 0 8⟩,
  List.forall_mem_cons.mpr ⟨⟨sim_getF d48_8 gf45, gr_GetF (fun k => k = 4) 0 11⟩,
  List.forall_mem_cons.mpr ⟨⟨sim_getI d48_11 gf47, gr_GetI (fun k => k = 7) 3 14⟩,
  List.forall_mem_cons.mpr ⟨⟨sim_isub d48_14, gr_II (fun x y => x - y) 15⟩,
  List.forall_mem_cons.mpr ⟨⟨sim_istore_n d48_15 rfl (by decide), gr_StI 1 16⟩,
  List.forall_mem_cons.mpr ⟨⟨sim_aload_n d48_16 rfl, gr_LdA 0 17⟩,
  List.forall_mem_cons.mpr ⟨⟨sim_getF d48_17 gf45, gr_GetF (fun k => k = 4) 0 20⟩,
  List.forall_mem_cons.mpr ⟨⟨sim_getI d48_20 gf49, gr_GetI (fun k => k = 7) 2 23⟩,
  List.forall_mem_cons.mpr ⟨⟨sim_iconst d48_23 (by decide), gr_Push (.int 1) 24⟩,
  List.forall_mem_cons.mpr ⟨⟨sim_icmp_ne d48_24 (by decide), gr_Ic (fun x y => ¬ x = y) 54 27⟩,
  List.forall_mem_cons.mpr ⟨⟨sim_iload_n d48_27 rfl, gr_LdI 1 28⟩,
  List.forall_mem_cons.mpr ⟨⟨sim_bipush d48_28 (by decide), gr_Push (.int 7) 30⟩,
  List.forall_mem_cons.mpr ⟨⟨sim_icmp_gt d48_30 (by decide), gr_Ic (fun x y => y < x) 54 33⟩,
  List.forall_mem_cons.mpr ⟨⟨sim_aload_n d48_33 rfl, gr_LdA 0 34⟩,
  List.forall_mem_cons.mpr ⟨⟨sim_getF d48_34 gf44, gr_GetF (fun k => k = 4) 1 37⟩,
  List.forall_mem_cons.mpr ⟨⟨sim_getI d48_37 gf51, gr_GetI (fun k => k = 3) 1 40⟩,
  List.forall_mem_cons.mpr ⟨⟨sim_if_le d48_40 (by decide), gr_If (fun x => x ≤ 0) 60 43⟩,
  List.forall_mem_cons.mpr ⟨⟨sim_iload_n d48_43 rfl, gr_LdI 1 44⟩,
  List.forall_mem_cons.mpr ⟨⟨sim_aload_n d48_44 rfl, gr_LdA 0 45⟩,
  List.forall_mem_cons.mpr ⟨⟨sim_getF d48_45 gf44, gr_GetF (fun k => k = 4) 1 48⟩,
  List.forall_mem_cons.mpr ⟨⟨sim_getI d48_48 gf52, gr_GetI (fun k => k = 3) 0 51⟩,
  List.forall_mem_cons.mpr ⟨⟨sim_icmp_eq d48_51 (by decide), gr_Ic (fun x y => x = y) 60 54⟩,
  List.forall_mem_cons.mpr ⟨⟨sim_aload_n d48_54 rfl, gr_LdA 0 55⟩,
  List.forall_mem_cons.mpr ⟨⟨sim_iconst d48_55 (by decide), gr_Push (.int 1) 56⟩,
  List.forall_mem_cons.mpr ⟨⟨sim_virtual d48_56 vk34, gr_CalV (fun k => if k = 4 then some 42 else none) 1 59⟩,
  List.forall_mem_cons.mpr ⟨⟨sim_nreturn d48_59 rfl (fun _ h => congrArg Value.int h), gr_RetN .boolean⟩,
  List.forall_mem_cons.mpr ⟨⟨sim_aload_n d48_60 rfl, gr_LdA 0 61⟩,
  List.forall_mem_cons.mpr ⟨⟨sim_getF d48_61 gf45, gr_GetF (fun k => k = 4) 0 64⟩,
  List.forall_mem_cons.mpr ⟨⟨sim_getI d48_64 gf47, gr_GetI (fun k => k = 7) 3 67⟩,
  List.forall_mem_cons.mpr ⟨⟨sim_istore_n d48_67 rfl (by decide), gr_StI 2 68⟩,
  List.forall_mem_cons.mpr ⟨⟨sim_iload_n d48_68 rfl, gr_LdI 2 69⟩,
  List.forall_mem_cons.mpr ⟨⟨sim_aload_n d48_69 rfl, gr_LdA 0 70⟩,
  List.forall_mem_cons.mpr ⟨⟨sim_getF d48_70 gf45, gr_GetF (fun k => k = 4) 0 73⟩,
  List.forall_mem_cons.mpr ⟨⟨sim_getI d48_73 gf50, gr_GetI (fun k => k = 7) 4 76⟩,
  List.forall_mem_cons.mpr ⟨⟨sim_icmp_ge d48_76 (by decide), gr_Ic (fun x y => y ≤ x) 113 79⟩,
  List.forall_mem_cons.mpr ⟨⟨sim_aload_n d48_79 rfl, gr_LdA 0 80⟩,
  List.forall_mem_cons.mpr ⟨⟨sim_getF d48_80 gf45, gr_GetF (fun k => k = 4) 0 83⟩, fun _ h => absurd h List.not_mem_nil⟩⟩⟩⟩⟩⟩⟩⟩⟩⟩⟩⟩⟩⟩⟩⟩⟩⟩⟩⟩⟩⟩⟩⟩⟩⟩⟩⟩⟩⟩⟩⟩⟩⟩⟩⟩⟩⟩⟩⟩
noncomputable def pg48_1 : List (Nat × aP) := [(83, oGetF (fun k => k = 7) 0 86),
  (86, oLdI 2 87),
  (87, oALdB 88),
  (88, oStI 3 89),
  (89, oLdI 3 90),
  (90, oPush (.int 106) 92),
  (92, oIc (fun x y => x ≤ y) 107 95),
  (95, oLdI 3 96),
  (96, oPush (.int 119) 98),
  (98, oIc (fun x y => x = y) 107 101),
  (101, oLdA 0 102),
  (102, oPush (.int 1) 103),
  (103, oCalV (fun k => if k = 4 then some 42 else none) 1 106),
  (106, oRetN .boolean),
  (107, oInc 2 1 110),
  (110, oGo 68),
  (113, oPush (.int 0) 114),
  (114, oStI 2 115),
  (115, oLdI 2 116),
  (116, oLdI 1 117),
  (117, oIc (fun x y => y ≤ x) 162 120),
  (120, oLdA 0 121),
  (121, oGetF (fun k => k = 4) 1 124),
  (124, oLdI 2 125),
  (125, oPush (.int 8) 127),
  (127, oLdA 0 128),
  (128, oGetF (fun k => k = 4) 1 131),
  (131, oGetI (fun k => k = 3) 1 134),
  (134, oII (fun x y => x * y) 135),
  (135, oII (fun x y => x + y) 136),
  (136, oLdA 0 137),
  (137, oGetF (fun k => k = 4) 0 140),
  (140, oGetF (fun k => k = 7) 0 143),
  (143, oLdA 0 144),
  (144, oGetF (fun k => k = 4) 0 147),
  (147, oGetI (fun k => k = 7) 3 150),
  (150, oLdI 2 151),
  (151, oII (fun x y => x + y) 152),
  (152, oALdB 153),
  (153, oCalV (fun k => if k = 3 then some 30 else none) 2 156)]
theorem ok48_1 : ∀ q ∈ pg48_1, Sim mT mt48 q.1 q.2 ∧ Grow q.2 :=
  List.forall_mem_cons.mpr ⟨⟨sim_getF d48_83 gf53, gr_GetF (fun k => k = 7) 0 86⟩,
  List.forall_mem_cons.mpr ⟨⟨sim_iload_n d48_86 rfl, gr_LdI 2 87⟩,
  List.forall_mem_cons.mpr ⟨⟨sim_baload d48_87, gr_ALdB 88⟩,
  List.forall_mem_cons.mpr ⟨⟨sim_istore_n d48_88 rfl (by decide), gr_StI 3 89⟩,
  List.forall_mem_cons.mpr ⟨⟨sim_iload_n d48_89 rfl, gr_LdI 3 90⟩,
  List.forall_mem_cons.mpr ⟨⟨sim_bipush d48_90 (by decide), gr_Push (.int 106) 92⟩,
  List.forall_mem_cons.mpr ⟨⟨sim_icmp_le d48_92 (by decide), gr_Ic (fun x y => x ≤ y) 107 95⟩,
  List.forall_mem_cons.mpr ⟨⟨sim_iload_n d48_95 rfl, gr_LdI 3 96⟩,
  List.forall_mem_cons.mpr ⟨⟨sim_bipush d48_96 (by decide), gr_Push (.int 119) 98⟩,
  List.forall_mem_cons.mpr ⟨⟨sim_icmp_eq d48_98 (by decide), gr_Ic (fun x y => x = y) 107 101⟩,
  List.forall_mem_cons.mpr ⟨⟨sim_aload_n d48_101 rfl, gr_LdA 0 102⟩,
  List.forall_mem_cons.mpr ⟨⟨sim_iconst d48_102 (by decide), gr_Push (.int 1) 103⟩,
  List.forall_mem_cons.mpr ⟨⟨sim_virtual d48_103 vk34, gr_CalV (fun k => if k = 4 then some 42 else none) 1 106⟩,
  List.forall_mem_cons.mpr ⟨⟨sim_nreturn d48_106 rfl (fun _ h => congrArg Value.int h), gr_RetN .boolean⟩,
  List.forall_mem_cons.mpr ⟨⟨sim_iinc d48_107 (by decide) (by decide), gr_Inc 2 1 110⟩,
  List.forall_mem_cons.mpr ⟨⟨sim_goto d48_110 (by decide), gr_Go 68⟩,
  List.forall_mem_cons.mpr ⟨⟨sim_iconst d48_113 (by decide), gr_Push (.int 0) 114⟩,
  List.forall_mem_cons.mpr ⟨⟨sim_istore_n d48_114 rfl (by decide), gr_StI 2 115⟩,
  List.forall_mem_cons.mpr ⟨⟨sim_iload_n d48_115 rfl, gr_LdI 2 116⟩,
  List.forall_mem_cons.mpr ⟨⟨sim_iload_n d48_116 rfl, gr_LdI 1 117⟩,
  List.forall_mem_cons.mpr ⟨⟨sim_icmp_ge d48_117 (by decide), gr_Ic (fun x y => y ≤ x) 162 120⟩,
  List.forall_mem_cons.mpr ⟨⟨sim_aload_n d48_120 rfl, gr_LdA 0 121⟩,
  List.forall_mem_cons.mpr ⟨⟨sim_getF d48_121 gf44, gr_GetF (fun k => k = 4) 1 124⟩,
  List.forall_mem_cons.mpr ⟨⟨sim_iload_n d48_124 rfl, gr_LdI 2 125⟩,
  List.forall_mem_cons.mpr ⟨⟨sim_bipush d48_125 (by decide), gr_Push (.int 8) 127⟩,
  List.forall_mem_cons.mpr ⟨⟨sim_aload_n d48_127 rfl, gr_LdA 0 128⟩,
  List.forall_mem_cons.mpr ⟨⟨sim_getF d48_128 gf44, gr_GetF (fun k => k = 4) 1 131⟩,
  List.forall_mem_cons.mpr ⟨⟨sim_getI d48_131 gf51, gr_GetI (fun k => k = 3) 1 134⟩,
  List.forall_mem_cons.mpr ⟨⟨sim_imul d48_134, gr_II (fun x y => x * y) 135⟩,
  List.forall_mem_cons.mpr ⟨⟨sim_iadd d48_135, gr_II (fun x y => x + y) 136⟩,
  List.forall_mem_cons.mpr ⟨⟨sim_aload_n d48_136 rfl, gr_LdA 0 137⟩,
  List.forall_mem_cons.mpr ⟨⟨sim_getF d48_137 gf45, gr_GetF (fun k => k = 4) 0 140⟩,
  List.forall_mem_cons.mpr ⟨⟨sim_getF d48_140 gf53, gr_GetF (fun k => k = 7) 0 143⟩,
  List.forall_mem_cons.mpr ⟨⟨sim_aload_n d48_143 rfl, gr_LdA 0 144⟩,
  List.forall_mem_cons.mpr ⟨⟨sim_getF d48_144 gf45, gr_GetF (fun k => k = 4) 0 147⟩,
  List.forall_mem_cons.mpr ⟨⟨sim_getI d48_147 gf47, gr_GetI (fun k => k = 7) 3 150⟩,
  List.forall_mem_cons.mpr ⟨⟨sim_iload_n d48_150 rfl, gr_LdI 2 151⟩,
  List.forall_mem_cons.mpr ⟨⟨sim_iadd d48_151, gr_II (fun x y => x + y) 152⟩,
  List.forall_mem_cons.mpr ⟨⟨sim_baload d48_152, gr_ALdB 153⟩,
  List.forall_mem_cons.mpr ⟨⟨sim_virtual d48_153 vk36, gr_CalV (fun k => if k = 3 then some 30 else none) 2 156⟩, fun _ h => absurd h List.not_mem_nil⟩⟩⟩⟩⟩⟩⟩⟩⟩⟩⟩⟩⟩⟩⟩⟩⟩⟩⟩⟩⟩⟩⟩⟩⟩⟩⟩⟩⟩⟩⟩⟩⟩⟩⟩⟩⟩⟩⟩⟩
noncomputable def pg48_2 : List (Nat × aP) := [(156, oInc 2 1 159),
  (159, oGo 115),
  (162, oLdA 0 163),
  (163, oGetF (fun k => k = 4) 1 166),
  (166, oLdI 1 167),
  (167, oPutI (fun k => k = 3) 0 170),
  (170, oLdA 0 171),
  (171, oGetF (fun k => k = 4) 1 174),
  (174, oDup 175),
  (175, oGetI (fun k => k = 3) 1 178),
  (178, oPush (.int 1) 179),
  (179, oII (fun x y => x + y) 180),
  (180, oPutI (fun k => k = 3) 1 183),
  (183, oLdA 0 184),
  (184, oGetF (fun k => k = 4) 0 187),
  (187, oCalV (fun k => if k = 7 then some 66 else none) 0 190),
  (190, oPush (.int 1) 191),
  (191, oRetN .boolean)]
theorem ok48_2 : ∀ q ∈ pg48_2, Sim mT mt48 q.1 q.2 ∧ Grow q.2 :=
  List.forall_mem_cons.mpr ⟨⟨sim_iinc d48_156 (by decide) (by decide), gr_Inc 2 1 159⟩,
  List.forall_mem_cons.mpr ⟨⟨sim_goto d48_159 (by decide), gr_Go 115⟩,
  List.forall_mem_cons.mpr ⟨⟨sim_aload_n d48_162 rfl, gr_LdA 0 163⟩,
  List.forall_mem_cons.mpr ⟨⟨sim_getF d48_163 gf44, gr_GetF (fun k => k = 4) 1 166⟩,
  List.forall_mem_cons.mpr ⟨⟨sim_iload_n d48_166 rfl, gr_LdI 1 167⟩,
  List.forall_mem_cons.mpr ⟨⟨sim_putI d48_167 gf52w, gr_PutI (fun k => k = 3) 0 170⟩,
  List.forall_mem_cons.mpr ⟨⟨sim_aload_n d48_170 rfl, gr_LdA 0 171⟩,
  List.forall_mem_cons.mpr ⟨⟨sim_getF d48_171 gf44, gr_GetF (fun k => k = 4) 1 174⟩,
  List.forall_mem_cons.mpr ⟨⟨sim_dup d48_174, gr_Dup 175⟩,
  List.forall_mem_cons.mpr ⟨⟨sim_getI d48_175 gf51, gr_GetI (fun k => k = 3) 1 178⟩,
  List.forall_mem_cons.mpr ⟨⟨sim_iconst d48_178 (by decide), gr_Push (.int 1) 179⟩,
  List.forall_mem_cons.mpr ⟨⟨sim_iadd d48_179, gr_II (fun x y => x + y) 180⟩,
  List.forall_mem_cons.mpr ⟨⟨sim_putI d48_180 gf51w, gr_PutI (fun k => k = 3) 1 183⟩,
  List.forall_mem_cons.mpr ⟨⟨sim_aload_n d48_183 rfl, gr_LdA 0 184⟩,
  List.forall_mem_cons.mpr ⟨⟨sim_getF d48_184 gf45, gr_GetF (fun k => k = 4) 0 187⟩,
  List.forall_mem_cons.mpr ⟨⟨sim_virtual d48_187 vk35, gr_CalV (fun k => if k = 7 then some 66 else none) 0 190⟩,
  List.forall_mem_cons.mpr ⟨⟨sim_iconst d48_190 (by decide), gr_Push (.int 1) 191⟩,
  List.forall_mem_cons.mpr ⟨⟨sim_nreturn d48_191 rfl (fun _ h => congrArg Value.int h), gr_RetN .boolean⟩, fun _ h => absurd h List.not_mem_nil⟩⟩⟩⟩⟩⟩⟩⟩⟩⟩⟩⟩⟩⟩⟩⟩⟩⟩
noncomputable def pg48 : List (Nat × aP) := pg48_0 ++ (pg48_1 ++ (pg48_2))
theorem ok48 : ∀ q ∈ pg48, Sim mT mt48 q.1 q.2 ∧ Grow q.2 := List.forall_mem_append.mpr ⟨ok48_0, List.forall_mem_append.mpr ⟨ok48_1, ok48_2⟩⟩
theorem d49_0 : decode mt49.2.1 0 = .ok (.aload_n 0, 1) := by decide +kernel
theorem d49_1 : decode mt49.2.1 1 = .ok (.getfield 12, 3) := by decide +kernel
theorem d49_4 : decode mt49.2.1 4 = .ok (.getfield 83, 3) := by decide +kernel
theorem d49_7 : decode mt49.2.1 7 = .ok (.iconst 2, 1) := by decide +kernel
theorem d49_8 : decode mt49.2.1 8 = .ok (.if_icmp .eq 11, 3) := by decide +kernel
theorem d49_11 : decode mt49.2.1 11 = .ok (.aload_n 0, 1) := by decide +kernel
theorem d49_12 : decode mt49.2.1 12 = .ok (.iconst 1, 1) := by decide +kernel
theorem d49_13 : decode mt49.2.1 13 = .ok (.invokevirtual 86, 3) := by decide +kernel
theorem d49_16 : decode mt49.2.1 16 = .ok (.ifCond .eq 7, 3) := by decide +kernel
theorem d49_19 : decode mt49.2.1 19 = .ok (.iconst 1, 1) := by decide +kernel
theorem d49_20 : decode mt49.2.1 20 = .ok (.goto 4, 3) := by decide +kernel
theorem d49_23 : decode mt49.2.1 23 = .ok (.iconst 0, 1) := by decide +kernel
theorem d49_24 : decode mt49.2.1 24 = .ok (.istore_n 2, 1) := by decide +kernel
theorem d49_25 : decode mt49.2.1 25 = .ok (.iload_n 2, 1) := by decide +kernel
theorem d49_26 : decode mt49.2.1 26 = .ok (.ifCond .eq 26, 3) := by decide +kernel
theorem d49_29 : decode mt49.2.1 29 = .ok (.aload_n 0, 1) := by decide +kernel
theorem d49_30 : decode mt49.2.1 30 = .ok (.getfield 12, 3) := by decide +kernel
theorem d49_33 : decode mt49.2.1 33 = .ok (.invokevirtual 110, 3) := by decide +kernel
theorem d49_36 : decode mt49.2.1 36 = .ok (.iload_n 1, 1) := by decide +kernel
theorem d49_37 : decode mt49.2.1 37 = .ok (.if_icmp .le 11, 3) := by decide +kernel
theorem d49_40 : decode mt49.2.1 40 = .ok (.aload_n 0, 1) := by decide +kernel
theorem d49_41 : decode mt49.2.1 41 = .ok (.iconst 2, 1) := by decide +kernel
theorem d49_42 : decode mt49.2.1 42 = .ok (.invokevirtual 86, 3) := by decide +kernel
theorem d49_45 : decode mt49.2.1 45 = .ok (.ifCond .eq 7, 3) := by decide +kernel
theorem d49_48 : decode mt49.2.1 48 = .ok (.iconst 1, 1) := by decide +kernel
theorem d49_49 : decode mt49.2.1 49 = .ok (.goto 4, 3) := by decide +kernel
theorem d49_52 : decode mt49.2.1 52 = .ok (.iconst 0, 1) := by decide +kernel
theorem d49_53 : decode mt49.2.1 53 = .ok (.istore_n 2, 1) := by decide +kernel
theorem d49_54 : decode mt49.2.1 54 = .ok (.iload_n 2, 1) := by decide +kernel
theorem d49_55 : decode mt49.2.1 55 = .ok (.ifCond .ne 5, 3) := by decide +kernel
theorem d49_58 : decode mt49.2.1 58 = .ok (.iconst (-1), 1) := by decide +kernel
theorem d49_59 : decode mt49.2.1 59 = .ok (.ireturn, 1) := by decide +kernel
theorem d49_60 : decode mt49.2.1 60 = .ok (.aload_n 0, 1) := by decide +kernel
theorem d49_61 : decode mt49.2.1 61 = .ok (.getfield 12, 3) := by decide +kernel
theorem d49_64 : decode mt49.2.1 64 = .ok (.invokevirtual 110, 3) := by decide +kernel
theorem d49_67 : decode mt49.2.1 67 = .ok (.istore_n 3, 1) := by decide +kernel
theorem d49_68 : decode mt49.2.1 68 = .ok (.aload_n 0, 1) := by decide +kernel
theorem d49_69 : decode mt49.2.1 69 = .ok (.getfield 12, 3) := by decide +kernel
theorem d49_72 : decode mt49.2.1 72 = .ok (.invokevirtual 90, 3) := by decide +kernel
theorem d49_75 : decode mt49.2.1 75 = .ok (.iload_n 3, 1) := by decide +kernel
theorem d49_76 : decode mt49.2.1 76 = .ok (.ireturn, 1) := by decide +kernel
noncomputable def pg49_0 : List (Nat × aP) := [(0, oLdA 0 1),
  (1, oGetF (fun k => k = 4) 0 4),
  (4, oGetI (fun k => k = 7) 2 7),
  (7, oPush (.int 2) 8),
  (8, oIc (fun x y => x = y) 19 11),
  (11, oLdA 0 12),
  (12, oPush (.int 1) 13),
  (13, oCalV (fun k => if k = 4 then some 42 else none) 1 16),
  (16, oIf (fun x => x = 0) 23 19),
  (19, oPush (.int 1) 20),
  (20, oGo 24),
  (23, oPush (.int 0) 24),
  (24, oStI 2 25),
  (25, oLdI 2 26),
  (26, oIf (fun x => x = 0) 52 29),
  (29, oLdA 0 30),
  (30, oGetF (fun k => k = 4) 0 33),
  (33, oCalV (fun k => if k = 7 then some 72 else none) 0 36),
  (36, oLdI 1 37),
  (37, oIc (fun x y => x ≤ y) 48 40),
  (40, oLdA 0 41),
  (41, oPush (.int 2) 42),
  (42, oCalV (fun k => if k = 4 then some 42 else none) 1 45),
  (45, oIf (fun x => x = 0) 52 48),
  (48, oPush (.int 1) 49),
  (49, oGo 53),
  (52, oPush (.int 0) 53),
  (53, oStI 2 54),
  (54, oLdI 2 55),
  (55, oIf (fun x => ¬ x = 0) 60 58),
  (58, oPush (.int (-1)) 59),
  (59, oRetI),
  (60, oLdA 0 61),
  (61, oGetF (fun k => k = 4) 0 64),
  (64, oCalV (fun k => if k = 7 then some 72 else none) 0 67),
  (67, oStI 3 68),
  (68, oLdA 0 69),
  (69, oGetF (fun k => k = 4) 0 72),
  (72, oCalV (fun k => if k = 7 then some 66 else none) 0 75),
  (75, oLdI 3 76)]
theorem ok49_0 : ∀ q ∈ pg49_0, Sim mT mt49 q.1 q.2 ∧ Grow q.2 :=
  List.forall_mem_cons.mpr ⟨⟨sim_aload_n d49_0 rfl, gr_LdA 0 1⟩,
  List.forall_mem_cons.mpr ⟨⟨sim_getF d49_1 gf45, gr_GetF (fun k => k = 4) 0 4⟩,
  List.forall_mem_cons.mpr ⟨⟨sim_getI d49_4 gf49, gr_GetI (fun k => k = 7) 2 7⟩,
  List.forall_mem_cons.mpr ⟨⟨sim_iconst d49_7 (by decide), gr_Push (.int 2) 8⟩,
  List.forall_mem_cons.mpr ⟨⟨sim_icmp_eq d49_8 (by decide), gr_Ic (fun x y => x = y) 19 11⟩,
  List.forall_mem_cons.mpr ⟨⟨sim_aload_n d49_11 rfl, gr_LdA 0 12⟩,
  List.forall_mem_cons.mpr ⟨⟨sim_iconst d49_12 (by decide), gr_Push (.int 1) 13⟩,
  List.forall_mem_cons.mpr ⟨⟨sim_virtual d49_13 vk34, gr_CalV (fun k => if k = 4 then some 42 else none) 1 16⟩,
  List.forall_mem_cons.mpr ⟨⟨sim_if_eq d49_16 (by decide), gr_If (fun x => x = 0) 23 19⟩,
  List.forall_mem_cons.mpr ⟨⟨sim_iconst d49_19 (by decide), gr_Push (.int 1) 20⟩,
  List.forall_mem_cons.mpr ⟨⟨sim_goto d49_20 (by decide), gr_Go 24⟩,
  List.forall_mem_cons.mpr ⟨⟨sim_iconst d49_23 (by decide), gr_Push (.int 0) 24⟩,
  List.forall_mem_cons.mpr ⟨⟨sim_istore_n d49_24 rfl (by decide), gr_StI 2 25⟩,
  List.forall_mem_cons.mpr ⟨⟨sim_iload_n d49_25 rfl, gr_LdI 2 26⟩,
  List.forall_mem_cons.mpr ⟨⟨sim_if_eq d49_26 (by decide), gr_If (fun x => x = 0) 52 29⟩,
  List.forall_mem_cons.mpr ⟨⟨sim_aload_n d49_29 rfl, gr_LdA 0 30⟩,
  List.forall_mem_cons.mpr ⟨⟨sim_getF d49_30 gf45, gr_GetF (fun k => k = 4) 0 33⟩,
  List.forall_mem_cons.mpr ⟨⟨sim_virtual d49_33 vk37, gr_CalV (fun k => if k = 7 then some 72 else none) 0 36⟩,
  List.forall_mem_cons.mpr ⟨⟨sim_iload_n d49_36 rfl, gr_LdI 1 37⟩,
  List.forall_mem_cons.mpr ⟨⟨sim_icmp_le d49_37 (by decide), gr_Ic (fun x y => x ≤ y) 48 40⟩,
  List.forall_mem_cons.mpr ⟨⟨sim_aload_n d49_40 rfl, gr_LdA 0 41⟩,
  List.forall_mem_cons.mpr ⟨⟨sim_iconst d49_41 (by decide), gr_Push (.int 2) 42⟩,
  List.forall_mem_cons.mpr ⟨⟨sim_virtual d49_42 vk34, gr_CalV (fun k => if k = 4 then some 42 else none) 1 45⟩,
  List.forall_mem_cons.mpr ⟨⟨sim_if_eq d49_45 (by decide), gr_If (fun x => x = 0) 52 48⟩,
  List.forall_mem_cons.mpr ⟨⟨sim_iconst d49_48 (by decide), gr_Push (.int 1) 49⟩,
  List.forall_mem_cons.mpr ⟨⟨sim_goto d49_49 (by decide), gr_Go 53⟩,
  List.forall_mem_cons.mpr ⟨⟨sim_iconst d49_52 (by decide), gr_Push (.int 0) 53⟩,
  List.forall_mem_cons.mpr ⟨⟨sim_istore_n d49_53 rfl (by decide), gr_StI 2 54⟩,
  List.forall_mem_cons.mpr ⟨⟨sim_iload_n d49_54 rfl, gr_LdI 2 55⟩,
  List.forall_mem_cons.mpr ⟨⟨sim_if_ne d49_55 (by decide), gr_If (fun x => ¬ x = 0) 60 58⟩,
  List.forall_mem_cons.mpr ⟨⟨sim_iconst d49_58 (by decide), gr_Push (.int (-1)) 59⟩,
  List.forall_mem_cons.mpr ⟨⟨sim_ireturn d49_59 rfl, gr_RetI⟩,
  List.forall_mem_cons.mpr ⟨⟨sim_aload_n d49_60 rfl, gr_LdA 0 61⟩,
  List.forall_mem_cons.mpr ⟨⟨sim_getF d49_61 gf45, gr_GetF (fun k => k = 4) 0 64⟩,
  List.forall_mem_cons.mpr ⟨⟨sim_virtual d49_64 vk37, gr_CalV (fun k => if k = 7 then some 72 else none) 0 67⟩,
  List.forall_mem_cons.mpr ⟨⟨sim_istore_n d49_67 rfl (by decide), gr_StI 3 68⟩,
  List.forall_mem_cons.mpr ⟨⟨sim_aload_n d49_68 rfl, gr_LdA 0 69⟩,
  List.forall_mem_cons.mpr ⟨⟨sim_getF d49_69 gf45, gr_GetF (fun k => k = 4) 0 72⟩,
  List.forall_mem_cons.mpr ⟨⟨sim_virtual d49_72 vk35, gr_CalV (fun k => if k = 7 then some 66 else none) 0 75⟩,
  List.forall_mem_cons.mpr ⟨⟨sim_iload_n d49_75 rfl, gr_LdI 3 76⟩, fun _ h => absurd h List.not_mem_nil⟩⟩⟩⟩⟩⟩⟩⟩⟩⟩⟩⟩⟩⟩⟩⟩⟩⟩⟩⟩⟩⟩⟩⟩⟩⟩⟩⟩⟩⟩⟩⟩⟩⟩⟩⟩⟩⟩⟩⟩
noncomputable def pg49_1 : List (Nat × aP) := [(76, oRetI)]
theorem ok49_1 : ∀ q ∈ pg49_1, Sim mT mt49 q.1 q.2 ∧ Grow q.2 :=
  List.forall_mem_cons.mpr ⟨⟨sim_ireturn d49_76 rfl, gr_RetI⟩, fun _ h => absurd h List.not_mem_nil⟩
noncomputable def pg49 : List (Nat × aP) := pg49_0 ++ (pg49_1)
theorem ok49 : ∀ q ∈ pg49, Sim mT mt49 q.1 q.2 ∧ Grow q.2 := List.forall_mem_append.mpr ⟨ok49_0, ok49_1⟩
theorem d50_0 : decode mt50.2.1 0 = .ok (.aload_n 0, 1) := by decide +kernel
theorem d50_1 : decode mt50.2.1 1 = .ok (.aload_n 0, 1) := by decide +kernel
theorem d50_2 : decode mt50.2.1 2 = .ok (.getfield 21, 3) := by decide +kernel
theorem d50_5 : decode mt50.2.1 5 = .ok (.getfield 99, 3) := by decide +kernel
theorem d50_8 : decode mt50.2.1 8 = .ok (.invokevirtual 114, 3) := by decide +kernel
theorem d50_11 : decode mt50.2.1 11 = .ok (.istore_n 1, 1) := by decide +kernel
theorem d50_12 : decode mt50.2.1 12 = .ok (.iload_n 1, 1) := by decide +kernel
theorem d50_13 : decode mt50.2.1 13 = .ok (.ifCond .ge 5, 3) := by decide +kernel
theorem d50_16 : decode mt50.2.1 16 = .ok (.iconst 0, 1) := by decide +kernel
theorem d50_17 : decode mt50.2.1 17 = .ok (.ireturn, 1) := by decide +kernel
theorem d50_18 : decode mt50.2.1 18 = .ok (.aload_n 0, 1) := by decide +kernel
theorem d50_19 : decode mt50.2.1 19 = .ok (.aload_n 0, 1) := by decide +kernel
theorem d50_20 : decode mt50.2.1 20 = .ok (.getfield 21, 3) := by decide +kernel
theorem d50_23 : decode mt50.2.1 23 = .ok (.getfield 96, 3) := by decide +kernel
theorem d50_26 : decode mt50.2.1 26 = .ok (.invokevirtual 114, 3) := by decide +kernel
theorem d50_29 : decode mt50.2.1 29 = .ok (.istore_n 2, 1) := by decide +kernel
theorem d50_30 : decode mt50.2.1 30 = .ok (.iload_n 2, 1) := by decide +kernel
theorem d50_31 : decode mt50.2.1 31 = .ok (.ifCond .ge 5, 3) := by decide +kernel
theorem d50_34 : decode mt50.2.1 34 = .ok (.iconst 0, 1) := by decide +kernel
theorem d50_35 : decode mt50.2.1 35 = .ok (.ireturn, 1) := by decide +kernel
theorem d50_36 : decode mt50.2.1 36 = .ok (.aload_n 0, 1) := by decide +kernel
theorem d50_37 : decode mt50.2.1 37 = .ok (.getfield 21, 3) := by decide +kernel
theorem d50_40 : decode mt50.2.1 40 = .ok (.dup, 1) := by decide +kernel
theorem d50_41 : decode mt50.2.1 41 = .ok (.getfield 118, 3) := by decide +kernel
theorem d50_44 : decode mt50.2.1 44 = .ok (.lconst 1, 1) := by decide +kernel
theorem d50_45 : decode mt50.2.1 45 = .ok (.iload_n 1, 1) := by decide +kernel
theorem d50_46 : decode mt50.2.1 46 = .ok (.bipush 8, 2) := by decide +kernel
theorem d50_48 : decode mt50.2.1 48 = .ok (.iload_n 2, 1) := by decide +kernel
theorem d50_49 : decode mt50.2.1 49 = .ok (.imul, 1) := by decide +kernel
theorem d50_50 : decode mt50.2.1 50 = .ok (.iadd, 1) := by decide +kernel
theorem d50_51 : decode mt50.2.1 51 = .ok (.lshl, 1) := by decide +kernel
theorem d50_52 : decode mt50.2.1 52 = .ok (.lor, 1) := by decide +kernel
theorem d50_53 : decode mt50.2.1 53 = .ok (.putfield 118, 3) := by decide +kernel
theorem d50_56 : decode mt50.2.1 56 = .ok (.iconst 1, 1) := by decide +kernel
theorem d50_57 : decode mt50.2.1 57 = .ok (.ireturn, 1) := by decide +kernel
noncomputable def pg50_0 : List (Nat × aP) := [(0, oLdA 0 1),
  (1, oLdA 0 2),
  (2, oGetF (fun k => k = 4) 1 5),
  (5, oGetI (fun k => k = 3) 0 8),
  (8, oCalV (fun k => if k = 4 then some 49 else none) 1 11),
  (11, oStI 1 12),
  (12, oLdI 1 13),
  (13, oIf (fun x => 0 ≤ x) 18 16),
  (16, oPush (.int 0) 17),
  (17, oRetN .boolean),
  (18, oLdA 0 19),
  (19, oLdA 0 20),
  (20, oGetF (fun k => k = 4) 1 23),
  (23, oGetI (fun k => k = 3) 1 26),
  (26, oCalV (fun k => if k = 4 then some 49 else none) 1 29),
  (29, oStI 2 30),
  (30, oLdI 2 31),
  (31, oIf (fun x => 0 ≤ x) 36 34),
  (34, oPush (.int 0) 35),
  (35, oRetN .boolean),
  (36, oLdA 0 37),
  (37, oGetF (fun k => k = 4) 1 40),
  (40, oDup 41),
  (41, oGetL (fun k => k = 3) 4 44),
  (44, oPush (.long 1) 45),
  (45, oLdI 1 46),
  (46, oPush (.int 8) 48),
  (48, oLdI 2 49),
  (49, oII (fun x y => x * y) 50),
  (50, oII (fun x y => x + y) 51),
  (51, oLSh (fun x y => x <<< (y.toInt64 &&& 63)) 52),
  (52, oLL (fun x y => x ||| y) 53),
  (53, oPutL (fun k => k = 3) 4 56),
  (56, oPush (.int 1) 57),
  (57, oRetN .boolean)]
theorem ok50_0 : ∀ q ∈ pg50_0, Sim mT mt50 q.1 q.2 ∧ Grow q.2 :=
  List.forall_mem_cons.mpr ⟨⟨sim_aload_n d50_0 rfl, gr_LdA 0 1⟩,
  List.forall_mem_cons.mpr ⟨⟨sim_aload_n d50_1 rfl, gr_LdA 0 2⟩,
  List.forall_mem_cons.mpr ⟨⟨sim_getF d50_2 gf44, gr_GetF (fun k => k = 4) 1 5⟩,
  List.forall_mem_cons.mpr ⟨⟨sim_getI d50_5 gf52, gr_GetI (fun k => k = 3) 0 8⟩,
  List.forall_mem_cons.mpr ⟨⟨sim_virtual d50_8 vk38, gr_CalV (fun k => if k = 4 then some 49 else none) 1 11⟩,
  List.forall_mem_cons.mpr ⟨⟨sim_istore_n d50_11 rfl (by decide), gr_StI 1 12⟩,
  List.forall_mem_cons.mpr ⟨⟨sim_iload_n d50_12 rfl, gr_LdI 1 13⟩,
  List.forall_mem_cons.mpr ⟨⟨sim_if_ge d50_13 (by decide), gr_If (fun x => 0 ≤ x) 18 16⟩,
  List.forall_mem_cons.mpr ⟨⟨sim_iconst d50_16 (by decide), gr_Push (.int 0) 17⟩,
  List.forall_mem_cons.mpr ⟨⟨sim_nreturn d50_17 rfl (fun _ h => congrArg Value.int h), gr_RetN .boolean⟩,
  List.forall_mem_cons.mpr ⟨⟨sim_aload_n d50_18 rfl, gr_LdA 0 19⟩,
  List.forall_mem_cons.mpr ⟨⟨sim_aload_n d50_19 rfl, gr_LdA 0 20⟩,
  List.forall_mem_cons.mpr ⟨⟨sim_getF d50_20 gf44, gr_GetF (fun k => k = 4) 1 23⟩,
  List.forall_mem_cons.mpr ⟨⟨sim_getI d50_23 gf51, gr_GetI (fun k => k = 3) 1 26⟩,
  List.forall_mem_cons.mpr ⟨⟨sim_virtual d50_26 vk38, gr_CalV (fun k => if k = 4 then some 49 else none) 1 29⟩,
  List.forall_mem_cons.mpr ⟨⟨sim_istore_n d50_29 rfl (by decide), gr_StI 2 30⟩,
  List.forall_mem_cons.mpr ⟨⟨sim_iload_n d50_30 rfl, gr_LdI 2 31⟩,
  List.forall_mem_cons.mpr ⟨⟨sim_if_ge d50_31 (by decide), gr_If (fun x => 0 ≤ x) 36 34⟩,
  List.forall_mem_cons.mpr ⟨⟨sim_iconst d50_34 (by decide), gr_Push (.int 0) 35⟩,
  List.forall_mem_cons.mpr ⟨⟨sim_nreturn d50_35 rfl (fun _ h => congrArg Value.int h), gr_RetN .boolean⟩,
  List.forall_mem_cons.mpr ⟨⟨sim_aload_n d50_36 rfl, gr_LdA 0 37⟩,
  List.forall_mem_cons.mpr ⟨⟨sim_getF d50_37 gf44, gr_GetF (fun k => k = 4) 1 40⟩,
  List.forall_mem_cons.mpr ⟨⟨sim_dup d50_40, gr_Dup 41⟩,
  List.forall_mem_cons.mpr ⟨⟨sim_getL d50_41 gf54, gr_GetL (fun k => k = 3) 4 44⟩,
  List.forall_mem_cons.mpr ⟨⟨sim_lconst d50_44 (by decide), gr_Push (.long 1) 45⟩,
  List.forall_mem_cons.mpr ⟨⟨sim_iload_n d50_45 rfl, gr_LdI 1 46⟩,
  List.forall_mem_cons.mpr ⟨⟨sim_bipush d50_46 (by decide), gr_Push (.int 8) 48⟩,
  List.forall_mem_cons.mpr ⟨⟨sim_iload_n d50_48 rfl, gr_LdI 2 49⟩,
  List.forall_mem_cons.mpr ⟨⟨sim_imul d50_49, gr_II (fun x y => x * y) 50⟩,
  List.forall_mem_cons.mpr ⟨⟨sim_iadd d50_50, gr_II (fun x y => x + y) 51⟩,
  List.forall_mem_cons.mpr ⟨⟨sim_lshl d50_51, gr_LSh (fun x y => x <<< (y.toInt64 &&& 63)) 52⟩,
  List.forall_mem_cons.mpr ⟨⟨sim_lor d50_52, gr_LL (fun x y => x ||| y) 53⟩,
  List.forall_mem_cons.mpr ⟨⟨sim_putL d50_53 gf54, gr_PutL (fun k => k = 3) 4 56⟩,
  List.forall_mem_cons.mpr ⟨⟨sim_iconst d50_56 (by decide), gr_Push (.int 1) 57⟩,
  List.forall_mem_cons.mpr ⟨⟨sim_nreturn d50_57 rfl (fun _ h => congrArg Value.int h), gr_RetN .boolean⟩, fun _ h => absurd h List.not_mem_nil⟩⟩⟩⟩⟩⟩⟩⟩⟩⟩⟩⟩⟩⟩⟩⟩⟩⟩⟩⟩⟩⟩⟩⟩⟩⟩⟩⟩⟩⟩⟩⟩⟩⟩⟩
noncomputable def pg50 : List (Nat × aP) := pg50_0
theorem ok50 : ∀ q ∈ pg50, Sim mT mt50 q.1 q.2 ∧ Grow q.2 := ok50_0
theorem d51_0 : decode mt51.2.1 0 = .ok (.aload_n 0, 1) := by decide +kernel
theorem d51_1 : decode mt51.2.1 1 = .ok (.aload_n 0, 1) := by decide +kernel
theorem d51_2 : decode mt51.2.1 2 = .ok (.getfield 21, 3) := by decide +kernel
theorem d51_5 : decode mt51.2.1 5 = .ok (.getfield 99, 3) := by decide +kernel
theorem d51_8 : decode mt51.2.1 8 = .ok (.invokevirtual 114, 3) := by decide +kernel
theorem d51_11 : decode mt51.2.1 11 = .ok (.istore_n 1, 1) := by decide +kernel
theorem d51_12 : decode mt51.2.1 12 = .ok (.iload_n 1, 1) := by decide +kernel
theorem d51_13 : decode mt51.2.1 13 = .ok (.ifCond .ge 5, 3) := by decide +kernel
theorem d51_16 : decode mt51.2.1 16 = .ok (.iconst 0, 1) := by decide +kernel
theorem d51_17 : decode mt51.2.1 17 = .ok (.ireturn, 1) := by decide +kernel
theorem d51_18 : decode mt51.2.1 18 = .ok (.aload_n 0, 1) := by decide +kernel
theorem d51_19 : decode mt51.2.1 19 = .ok (.getfield 12, 3) := by decide +kernel
theorem d51_22 : decode mt51.2.1 22 = .ok (.getfield 83, 3) := by decide +kernel
theorem d51_25 : decode mt51.2.1 25 = .ok (.iconst 2, 1) := by decide +kernel
theorem d51_26 : decode mt51.2.1 26 = .ok (.if_icmp .ne 24, 3) := by decide +kernel
theorem d51_29 : decode mt51.2.1 29 = .ok (.aload_n 0, 1) := by decide +kernel
theorem d51_30 : decode mt51.2.1 30 = .ok (.iload_n 1, 1) := by decide +kernel
theorem d51_31 : decode mt51.2.1 31 = .ok (.aload_n 0, 1) := by decide +kernel
theorem d51_32 : decode mt51.2.1 32 = .ok (.getfield 12, 3) := by decide +kernel
theorem d51_35 : decode mt51.2.1 35 = .ok (.invokevirtual 110, 3) := by decide +kernel
theorem d51_38 : decode mt51.2.1 38 = .ok (.invokevirtual 122, 3) := by decide +kernel
theorem d51_41 : decode mt51.2.1 41 = .ok (.ifCond .eq 9, 3) := by decide +kernel
theorem d51_44 : decode mt51.2.1 44 = .ok (.aload_n 0, 1) := by decide +kernel
theorem d51_45 : decode mt51.2.1 45 = .ok (.iconst 2, 1) := by decide +kernel
theorem d51_46 : decode mt51.2.1 46 = .ok (.invokevirtual 86, 3) := by decide +kernel
theorem d51_49 : decode mt51.2.1 49 = .ok (.ireturn, 1) := by decide +kernel
theorem d51_50 : decode mt51.2.1 50 = .ok (.aload_n 0, 1) := by decide +kernel
theorem d51_51 : decode mt51.2.1 51 = .ok (.aload_n 0, 1) := by decide +kernel
theorem d51_52 : decode mt51.2.1 52 = .ok (.getfield 21, 3) := by decide +kernel
theorem d51_55 : decode mt51.2.1 55 = .ok (.getfield 96, 3) := by decide +kernel
theorem d51_58 : decode mt51.2.1 58 = .ok (.invokevirtual 114, 3) := by decide +kernel
theorem d51_61 : decode mt51.2.1 61 = .ok (.istore_n 2, 1) := by decide +kernel
theorem d51_62 : decode mt51.2.1 62 = .ok (.iload_n 2, 1) := by decide +kernel
theorem d51_63 : decode mt51.2.1 63 = .ok (.ifCond .ge 5, 3) := by decide +kernel
theorem d51_66 : decode mt51.2.1 66 = .ok (.iconst 0, 1) := by decide +kernel
theorem d51_67 : decode mt51.2.1 67 = .ok (.ireturn, 1) := by decide +kernel
theorem d51_68 : decode mt51.2.1 68 = .ok (.aload_n 0, 1) := by decide +kernel
theorem d51_69 : decode mt51.2.1 69 = .ok (.bipush 12, 2) := by decide +kernel
theorem d51_71 : decode mt51.2.1 71 = .ok (.invokevirtual 114, 3) := by decide +kernel
theorem d51_74 : decode mt51.2.1 74 = .ok (.istore_n 3, 1) := by decide +kernel
theorem d51_75 : decode mt51.2.1 75 = .ok (.iload_n 3, 1) := by decide +kernel
theorem d51_76 : decode mt51.2.1 76 = .ok (.ifCond .lt 14, 3) := by decide +kernel
theorem d51_79 : decode mt51.2.1 79 = .ok (.aload_n 0, 1) := by decide +kernel
theorem d51_80 : decode mt51.2.1 80 = .ok (.getfield 21, 3) := by decide +kernel
theorem d51_83 : decode mt51.2.1 83 = .ok (.getfield 126, 3) := by decide +kernel
theorem d51_86 : decode mt51.2.1 86 = .ok (.iconst 4, 1) := by decide +kernel
theorem d51_87 : decode mt51.2.1 87 = .ok (.if_icmp .lt 5, 3) := by decide +kernel
theorem d51_90 : decode mt51.2.1 90 = .ok (.iconst 0, 1) := by decide +kernel
theorem d51_91 : decode mt51.2.1 91 = .ok (.ireturn, 1) := by decide +kernel
theorem d51_92 : decode mt51.2.1 92 = .ok (.aload_n 0, 1) := by decide +kernel
theorem d51_93 : decode mt51.2.1 93 = .ok (.getfield 21, 3) := by decide +kernel
theorem d51_96 : decode mt51.2.1 96 = .ok (.getfield 129, 3) := by decide +kernel
theorem d51_99 : decode mt51.2.1 99 = .ok (.aload_n 0, 1) := by decide +kernel
theorem d51_100 : decode mt51.2.1 100 = .ok (.getfield 21, 3) := by decide +kernel
theorem d51_103 : decode mt51.2.1 103 = .ok (.getfield 126, 3) := by decide +kernel
theorem d51_106 : decode mt51.2.1 106 = .ok (.iload_n 1, 1) := by decide +kernel
theorem d51_107 : decode mt51.2.1 107 = .ok (.bipush 8, 2) := by decide +kernel
theorem d51_109 : decode mt51.2.1 109 = .ok (.iload_n 2, 1) := by decide +kernel
theorem d51_110 : decode mt51.2.1 110 = .ok (.imul, 1) := by decide +kernel
theorem d51_111 : decode mt51.2.1 111 = .ok (.iadd, 1) := by decide +kernel
theorem d51_112 : decode mt51.2.1 112 = .ok (.iastore, 1) := by decide +kernel
theorem d51_113 : decode mt51.2.1 113 = .ok (.aload_n 0, 1) := by decide +kernel
theorem d51_114 : decode mt51.2.1 114 = .ok (.getfield 21, 3) := by decide +kernel
theorem d51_117 : decode mt51.2.1 117 = .ok (.getfield 133, 3) := by decide +kernel
theorem d51_120 : decode mt51.2.1 120 = .ok (.aload_n 0, 1) := by decide +kernel
theorem d51_121 : decode mt51.2.1 121 = .ok (.getfield 21, 3) := by decide +kernel
theorem d51_124 : decode mt51.2.1 124 = .ok (.getfield 126, 3) := by decide +kernel
theorem d51_127 : decode mt51.2.1 127 = .ok (.iload_n 3, 1) := by decide +kernel
theorem d51_128 : decode mt51.2.1 128 = .ok (.iastore, 1) := by decide +kernel
theorem d51_129 : decode mt51.2.1 129 = .ok (.aload_n 0, 1) := by decide +kernel
theorem d51_130 : decode mt51.2.1 130 = .ok (.getfield 21, 3) := by decide +kernel
theorem d51_133 : decode mt51.2.1 133 = .ok (.dup, 1) := by decide +kernel
theorem d51_134 : decode mt51.2.1 134 = .ok (.getfield 126, 3) := by decide +kernel
theorem d51_137 : decode mt51.2.1 137 = .ok (.iconst 1, 1) := by decide +kernel
theorem d51_138 : decode mt51.2.1 138 = .ok (.iadd, 1) := by decide +kernel
theorem d51_139 : decode mt51.2.1 139 = .ok (.putfield 126, 3) := by decide +kernel
theorem d51_142 : decode mt51.2.1 142 = .ok (.iconst 1, 1) := by decide +kernel
theorem d51_143 : decode mt51.2.1 143 = .ok (.ireturn, 1) := by decide +kernel
noncomputable def pg51_0 : List (Nat × aP) := [(0, oLdA 0 1),
  (1, oLdA 0 2),
  (2, oGetF (fun k => k = 4) 1 5),
  (5, oGetI (fun k => k = 3) 0 8),
  (8, oCalV (fun k => if k = 4 then some 49 else none) 1 11),
  (11, oStI 1 12),
  (12, oLdI 1 13),
  (13, oIf (fun x => 0 ≤ x) 18 16),
  (16, oPush (.int 0) 17),
  (17, oRetN .boolean),
  (18, oLdA 0 19),
  (19, oGetF (fun k => k = 4) 0 22),
  (22, oGetI (fun k => k = 7) 2 25),
  (25, oPush (.int 2) 26),
  (26, oIc (fun x y => ¬ x = y) 50 29),
  (29, oLdA 0 30),
  (30, oLdI 1 31),
  (31, oLdA 0 32),
  (32, oGetF (fun k => k = 4) 0 35),
  (35, oCalV (fun k => if k = 7 then some 72 else none) 0 38),
  (38, oCalV (fun k => if k = 4 then some 52 else none) 2 41),
  (41, oIf (fun x => x = 0) 50 44),
  (44, oLdA 0 45),
  (45, oPush (.int 2) 46),
  (46, oCalV (fun k => if k = 4 then some 42 else none) 1 49),
  (49, oRetN .boolean),
  (50, oLdA 0 51),
  (51, oLdA 0 52),
  (52, oGetF (fun k => k = 4) 1 55),
  (55, oGetI (fun k => k = 3) 1 58),
  (58, oCalV (fun k => if k = 4 then some 49 else none) 1 61),
  (61, oStI 2 62),
  (62, oLdI 2 63),
  (63, oIf (fun x => 0 ≤ x) 68 66),
  (66, oPush (.int 0) 67),
  (67, oRetN .boolean),
  (68, oLdA 0 69),
  (69, oPush (.int 12) 71),
  (71, oCalV (fun k => if k = 4 then some 49 else none) 1 74),
  (74, oStI 3 75)]
theorem ok51_0 : ∀ q ∈ pg51_0, Sim mT mt51 q.1 q.2 ∧ Grow q.2 :=
  List.forall_mem_cons.mpr ⟨⟨sim_aload_n d51_0 rfl, gr_LdA 0 1⟩,
  List.forall_mem_cons.mpr ⟨⟨sim_aload_n d51_1 rfl, gr_LdA 0 2⟩,
  List.forall_mem_cons.mpr ⟨⟨sim_getF d51_2 gf44, gr_GetF (fun k => k = 4) 1 5⟩,
  List.forall_mem_cons.mpr ⟨⟨sim_getI d51_5 gf52, gr_GetI (fun k => k = 3) 0 8⟩,
  List.forall_mem_cons.mpr ⟨⟨sim_virtual d51_8 vk38, gr_CalV (fun k => if k = 4 then some 49 else none) 1 11⟩,
  List.forall_mem_cons.mpr ⟨⟨sim_istore_n d51_11 rfl (by decide), gr_StI 1 12⟩,
  List.forall_mem_cons.mpr ⟨⟨sim_iload_n d51_12 rfl, gr_LdI 1 13⟩,
  List.forall_mem_cons.mpr ⟨⟨sim_if_ge d51_13 (by decide), gr_If (fun x => 0 ≤ x) 18 16⟩,
  List.forall_mem_cons.mpr ⟨⟨sim_iconst d51_16 (by decide), gr_Push (.int 0) 17⟩,
  List.forall_mem_cons.mpr ⟨⟨sim_nreturn d51_17 rfl (fun _ h => congrArg Value.int h), gr_RetN .boolean⟩,
  List.forall_mem_cons.mpr ⟨⟨sim_aload_n d51_18 rfl, gr_LdA 0 19⟩,
  List.forall_mem_cons.mpr ⟨⟨sim_getF d51_19 gf45, gr_GetF (fun k => k = 4) 0 22⟩,
  List.forall_mem_cons.mpr ⟨⟨sim_getI d51_22 gf49, gr_GetI (fun k => k = 7) 2 25⟩,
  List.forall_mem_cons.mpr ⟨⟨sim_iconst d51_25 (by decide), gr_Push (.int 2) 26⟩,
  List.forall_mem_cons.mpr ⟨⟨sim_icmp_ne d51_26 (by decide), gr_Ic (fun x y => ¬ x = y) 50 29⟩,
  List.forall_mem_cons.mpr ⟨⟨sim_aload_n d51_29 rfl, gr_LdA 0 30⟩,
  List.forall_mem_cons.mpr ⟨⟨sim_iload_n d51_30 rfl, gr_LdI 1 31⟩,
  List.forall_mem_cons.mpr ⟨⟨sim_aload_n d51_31 rfl, gr_LdA 0 32⟩,
  List.forall_mem_cons.mpr ⟨⟨sim_getF d51_32 gf45, gr_GetF (fun k => k = 4) 0 35⟩,
  List.forall_mem_cons.mpr ⟨⟨sim_virtual d51_35 vk37, gr_CalV (fun k => if k = 7 then some 72 else none) 0 38⟩,
  List.forall_mem_cons.mpr ⟨⟨sim_virtual d51_38 vk39, gr_CalV (fun k => if k = 4 then some 52 else none) 2 41⟩,
  List.forall_mem_cons.mpr ⟨⟨sim_if_eq d51_41 (by decide), gr_If (fun x => x = 0) 50 44⟩,
  List.forall_mem_cons.mpr ⟨⟨sim_aload_n d51_44 rfl, gr_LdA 0 45⟩,
  List.forall_mem_cons.mpr ⟨⟨sim_iconst d51_45 (by decide), gr_Push (.int 2) 46⟩,
  List.forall_mem_cons.mpr ⟨⟨sim_virtual d51_46 vk34, gr_CalV (fun k => if k = 4 then some 42 else none) 1 49⟩,
  List.forall_mem_cons.mpr ⟨⟨sim_nreturn d51_49 rfl (fun _ h => congrArg Value.int h), gr_RetN .boolean⟩,
  List.forall_mem_cons.mpr ⟨⟨sim_aload_n d51_50 rfl, gr_LdA 0 51⟩,
  List.forall_mem_cons.mpr ⟨⟨sim_aload_n d51_51 rfl, gr_LdA 0 52⟩,
  List.forall_mem_cons.mpr ⟨⟨sim_getF d51_52 gf44, gr_GetF (fun k => k = 4) 1 55⟩,
  List.forall_mem_cons.mpr ⟨⟨sim_getI d51_55 gf51, gr_GetI (fun k => k = 3) 1 58⟩,
  List.forall_mem_cons.mpr ⟨⟨sim_virtual d51_58 vk38, gr_CalV (fun k => if k = 4 then some 49 else none) 1 61⟩,
  List.forall_mem_cons.mpr ⟨⟨sim_istore_n d51_61 rfl (by decide), gr_StI 2 62⟩,
  List.forall_mem_cons.mpr ⟨⟨sim_iload_n d51_62 rfl, gr_LdI 2 63⟩,
  List.forall_mem_cons.mpr ⟨⟨sim_if_ge d51_63 (by decide), gr_If (fun x => 0 ≤ x) 68 66⟩,
  List.forall_mem_cons.mpr ⟨⟨sim_iconst d51_66 (by decide), gr_Push (.int 0) 67⟩,
  List.forall_mem_cons.mpr ⟨⟨sim_nreturn d51_67 rfl (fun _ h => congrArg Value.int h), gr_RetN .boolean⟩,
  List.forall_mem_cons.mpr ⟨⟨sim_aload_n d51_68 rfl, gr_LdA 0 69⟩,
  List.forall_mem_cons.mpr ⟨⟨sim_bipush d51_69 (by decide), gr_Push (.int 12) 71⟩,
  List.forall_mem_cons.mpr ⟨⟨sim_virtual d51_71 vk38, gr_CalV (fun k => if k = 4 then some 49 else none) 1 74⟩,
  List.forall_mem_cons.mpr ⟨⟨sim_istore_n d51_74 rfl (by decide), gr_StI 3 75⟩, fun _ h => absurd h List.not_mem_nil⟩⟩⟩⟩⟩⟩⟩⟩⟩⟩⟩⟩⟩⟩⟩⟩⟩⟩⟩⟩⟩⟩⟩⟩⟩⟩⟩⟩⟩⟩⟩⟩⟩⟩⟩⟩⟩⟩⟩⟩
noncomputable def pg51_1 : List (Nat × aP) := [(75, oLdI 3 76),
  (76, oIf (fun x => x < 0) 90 79),
  (79, oLdA 0 80),
  (80, oGetF (fun k => k = 4) 1 83),
  (83, oGetI (fun k => k = 3) 2 86),
  (86, oPush (.int 4) 87),
  (87, oIc (fun x y => x < y) 92 90),
  (90, oPush (.int 0) 91),
  (91, oRetN .boolean),
  (92, oLdA 0 93),
  (93, oGetF (fun k => k = 4) 1 96),
  (96, oGetF (fun k => k = 3) 6 99),
  (99, oLdA 0 100),
  (100, oGetF (fun k => k = 4) 1 103),
  (103, oGetI (fun k => k = 3) 2 106),
  (106, oLdI 1 107),
  (107, oPush (.int 8) 109),
  (109, oLdI 2 110),
  (110, oII (fun x y => x * y) 111),
  (111, oII (fun x y => x + y) 112),
  (112, oAStI 113),
  (113, oLdA 0 114),
  (114, oGetF (fun k => k = 4) 1 117),
  (117, oGetF (fun k => k = 3) 7 120),
  (120, oLdA 0 121),
  (121, oGetF (fun k => k = 4) 1 124),
  (124, oGetI (fun k => k = 3) 2 127),
  (127, oLdI 3 128),
  (128, oAStI 129),
  (129, oLdA 0 130),
  (130, oGetF (fun k => k = 4) 1 133),
  (133, oDup 134),
  (134, oGetI (fun k => k = 3) 2 137),
  (137, oPush (.int 1) 138),
  (138, oII (fun x y => x + y) 139),
  (139, oPutI (fun k => k = 3) 2 142),
  (142, oPush (.int 1) 143),
  (143, oRetN .boolean)]
theorem ok51_1 : ∀ q ∈ pg51_1, Sim mT mt51 q.1 q.2 ∧ Grow q.2 :=
  List.forall_mem_cons.mpr ⟨⟨sim_iload_n d51_75 rfl, gr_LdI 3 76⟩,
  List.forall_mem_cons.mpr ⟨⟨sim_if_lt d51_76 (by decide), gr_If (fun x => x < 0) 90 79⟩,
  List.forall_mem_cons.mpr ⟨⟨sim_aload_n d51_79 rfl, gr_LdA 0 80⟩,
  List.forall_mem_cons.mpr ⟨⟨sim_getF d51_80 gf44, gr_GetF (fun k => k = 4) 1 83⟩,
  List.forall_mem_cons.mpr ⟨⟨sim_getI d51_83 gf55, gr_GetI (fun k => k = 3) 2 86⟩,
  List.forall_mem_cons.mpr ⟨⟨sim_iconst d51_86 (by decide), gr_Push (.int 4) 87⟩,
  List.forall_mem_cons.mpr ⟨⟨sim_icmp_lt d51_87 (by decide), gr_Ic (fun x y => x < y) 92 90⟩,
  List.forall_mem_cons.mpr ⟨⟨sim_iconst d51_90 (by decide), gr_Push (.int 0) 91⟩,
  List.forall_mem_cons.mpr ⟨⟨sim_nreturn d51_91 rfl (fun _ h => congrArg Value.int h), gr_RetN .boolean⟩,
  List.forall_mem_cons.mpr ⟨⟨sim_aload_n d51_92 rfl, gr_LdA 0 93⟩,
  List.forall_mem_cons.mpr ⟨⟨sim_getF d51_93 gf44, gr_GetF (fun k => k = 4) 1 96⟩,
  List.forall_mem_cons.mpr ⟨⟨sim_getF d51_96 gf56, gr_GetF (fun k => k = 3) 6 99⟩,
  List.forall_mem_cons.mpr ⟨⟨sim_aload_n d51_99 rfl, gr_LdA 0 100⟩,
  List.forall_mem_cons.mpr ⟨⟨sim_getF d51_100 gf44, gr_GetF (fun k => k = 4) 1 103⟩,
  List.forall_mem_cons.mpr ⟨⟨sim_getI d51_103 gf55, gr_GetI (fun k => k = 3) 2 106⟩,
  List.forall_mem_cons.mpr ⟨⟨sim_iload_n d51_106 rfl, gr_LdI 1 107⟩,
  List.forall_mem_cons.mpr ⟨⟨sim_bipush d51_107 (by decide), gr_Push (.int 8) 109⟩,
  List.forall_mem_cons.mpr ⟨⟨sim_iload_n d51_109 rfl, gr_LdI 2 110⟩,
  List.forall_mem_cons.mpr ⟨⟨sim_imul d51_110, gr_II (fun x y => x * y) 111⟩,
  List.forall_mem_cons.mpr ⟨⟨sim_iadd d51_111, gr_II (fun x y => x + y) 112⟩,
  List.forall_mem_cons.mpr ⟨⟨sim_iastore d51_112, gr_AStI 113⟩,
  List.forall_mem_cons.mpr ⟨⟨sim_aload_n d51_113 rfl, gr_LdA 0 114⟩,
  List.forall_mem_cons.mpr ⟨⟨sim_getF d51_114 gf44, gr_GetF (fun k => k = 4) 1 117⟩,
  List.forall_mem_cons.mpr ⟨⟨sim_getF d51_117 gf57, gr_GetF (fun k => k = 3) 7 120⟩,
  List.forall_mem_cons.mpr ⟨⟨sim_aload_n d51_120 rfl, gr_LdA 0 121⟩,
  List.forall_mem_cons.mpr ⟨⟨sim_getF d51_121 gf44, gr_GetF (fun k => k = 4) 1 124⟩,
  List.forall_mem_cons.mpr ⟨⟨sim_getI d51_124 gf55, gr_GetI (fun k => k = 3) 2 127⟩,
  List.forall_mem_cons.mpr ⟨⟨sim_iload_n d51_127 rfl, gr_LdI 3 128⟩,
  List.forall_mem_cons.mpr ⟨⟨sim_iastore d51_128, gr_AStI 129⟩,
  List.forall_mem_cons.mpr ⟨⟨sim_aload_n d51_129 rfl, gr_LdA 0 130⟩,
  List.forall_mem_cons.mpr ⟨⟨sim_getF d51_130 gf44, gr_GetF (fun k => k = 4) 1 133⟩,
  List.forall_mem_cons.mpr ⟨⟨sim_dup d51_133, gr_Dup 134⟩,
  List.forall_mem_cons.mpr ⟨⟨sim_getI d51_134 gf55, gr_GetI (fun k => k = 3) 2 137⟩,
  List.forall_mem_cons.mpr ⟨⟨sim_iconst d51_137 (by decide), gr_Push (.int 1) 138⟩,
  List.forall_mem_cons.mpr ⟨⟨sim_iadd d51_138, gr_II (fun x y => x + y) 139⟩,
  List.forall_mem_cons.mpr ⟨⟨sim_putI d51_139 gf55w, gr_PutI (fun k => k = 3) 2 142⟩,
  List.forall_mem_cons.mpr ⟨⟨sim_iconst d51_142 (by decide), gr_Push (.int 1) 143⟩,
  List.forall_mem_cons.mpr ⟨⟨sim_nreturn d51_143 rfl (fun _ h => congrArg Value.int h), gr_RetN .boolean⟩, fun _ h => absurd h List.not_mem_nil⟩⟩⟩⟩⟩⟩⟩⟩⟩⟩⟩⟩⟩⟩⟩⟩⟩⟩⟩⟩⟩⟩⟩⟩⟩⟩⟩⟩⟩⟩⟩⟩⟩⟩⟩⟩⟩⟩
noncomputable def pg51 : List (Nat × aP) := pg51_0 ++ (pg51_1)
theorem ok51 : ∀ q ∈ pg51, Sim mT mt51 q.1 q.2 ∧ Grow q.2 := List.forall_mem_append.mpr ⟨ok51_0, ok51_1⟩
theorem d52_0 : decode mt52.2.1 0 = .ok (.iload_n 2, 1) := by decide +kernel
theorem d52_1 : decode mt52.2.1 1 = .ok (.aload_n 0, 1) := by decide +kernel
theorem d52_2 : decode mt52.2.1 2 = .ok (.getfield 21, 3) := by decide +kernel
theorem d52_5 : decode mt52.2.1 5 = .ok (.getfield 96, 3) := by decide +kernel
theorem d52_8 : decode mt52.2.1 8 = .ok (.if_icmp .gt 26, 3) := by decide +kernel
theorem d52_11 : decode mt52.2.1 11 = .ok (.aload_n 0, 1) := by decide +kernel
theorem d52_12 : decode mt52.2.1 12 = .ok (.getfield 21, 3) := by decide +kernel
theorem d52_15 : decode mt52.2.1 15 = .ok (.getfield 118, 3) := by decide +kernel
theorem d52_18 : decode mt52.2.1 18 = .ok (.iload_n 1, 1) := by decide +kernel
theorem d52_19 : decode mt52.2.1 19 = .ok (.bipush 8, 2) := by decide +kernel
theorem d52_21 : decode mt52.2.1 21 = .ok (.iload_n 2, 1) := by decide +kernel
theorem d52_22 : decode mt52.2.1 22 = .ok (.imul, 1) := by decide +kernel
theorem d52_23 : decode mt52.2.1 23 = .ok (.iadd, 1) := by decide +kernel
theorem d52_24 : decode mt52.2.1 24 = .ok (.invokestatic 136, 3) := by decide +kernel
theorem d52_27 : decode mt52.2.1 27 = .ok (.ifCond .eq 7, 3) := by decide +kernel
theorem d52_30 : decode mt52.2.1 30 = .ok (.iconst 1, 1) := by decide +kernel
theorem d52_31 : decode mt52.2.1 31 = .ok (.goto 4, 3) := by decide +kernel
theorem d52_34 : decode mt52.2.1 34 = .ok (.iconst 0, 1) := by decide +kernel
theorem d52_35 : decode mt52.2.1 35 = .ok (.ireturn, 1) := by decide +kernel
noncomputable def pg52_0 : List (Nat × aP) := [(0, oLdI 2 1),
  (1, oLdA 0 2),
  (2, oGetF (fun k => k = 4) 1 5),
  (5, oGetI (fun k => k = 3) 1 8),
  (8, oIc (fun x y => y < x) 34 11),
  (11, oLdA 0 12),
  (12, oGetF (fun k => k = 4) 1 15),
  (15, oGetL (fun k => k = 3) 4 18),
  (18, oLdI 1 19),
  (19, oPush (.int 8) 21),
  (21, oLdI 2 22),
  (22, oII (fun x y => x * y) 23),
  (23, oII (fun x y => x + y) 24),
  (24, oCall 122 2 27),
  (27, oIf (fun x => x = 0) 34 30),
  (30, oPush (.int 1) 31),
  (31, oGo 35),
  (34, oPush (.int 0) 35),
  (35, oRetN .boolean)]
theorem ok52_0 : ∀ q ∈ pg52_0, Sim mT mt52 q.1 q.2 ∧ Grow q.2 :=
  List.forall_mem_cons.mpr ⟨⟨sim_iload_n d52_0 rfl, gr_LdI 2 1⟩,
  List.forall_mem_cons.mpr ⟨⟨sim_aload_n d52_1 rfl, gr_LdA 0 2⟩,
  List.forall_mem_cons.mpr ⟨⟨sim_getF d52_2 gf44, gr_GetF (fun k => k = 4) 1 5⟩,
  List.forall_mem_cons.mpr ⟨⟨sim_getI d52_5 gf51, gr_GetI (fun k => k = 3) 1 8⟩,
  List.forall_mem_cons.mpr ⟨⟨sim_icmp_gt d52_8 (by decide), gr_Ic (fun x y => y < x) 34 11⟩,
  List.forall_mem_cons.mpr ⟨⟨sim_aload_n d52_11 rfl, gr_LdA 0 12⟩,
  List.forall_mem_cons.mpr ⟨⟨sim_getF d52_12 gf44, gr_GetF (fun k => k = 4) 1 15⟩,
  List.forall_mem_cons.mpr ⟨⟨sim_getL d52_15 gf54, gr_GetL (fun k => k = 3) 4 18⟩,
  List.forall_mem_cons.mpr ⟨⟨sim_iload_n d52_18 rfl, gr_LdI 1 19⟩,
  List.forall_mem_cons.mpr ⟨⟨sim_bipush d52_19 (by decide), gr_Push (.int 8) 21⟩,
  List.forall_mem_cons.mpr ⟨⟨sim_iload_n d52_21 rfl, gr_LdI 2 22⟩,
  List.forall_mem_cons.mpr ⟨⟨sim_imul d52_22, gr_II (fun x y => x * y) 23⟩,
  List.forall_mem_cons.mpr ⟨⟨sim_iadd d52_23, gr_II (fun x y => x + y) 24⟩,
  List.forall_mem_cons.mpr ⟨⟨sim_static (y := 122) d52_24 (Or.inr ⟨_, kn533⟩) kw534 mo122, gr_Call 122 2 27⟩,
  List.forall_mem_cons.mpr ⟨⟨sim_if_eq d52_27 (by decide), gr_If (fun x => x = 0) 34 30⟩,
  List.forall_mem_cons.mpr ⟨⟨sim_iconst d52_30 (by decide), gr_Push (.int 1) 31⟩,
  List.forall_mem_cons.mpr ⟨⟨sim_goto d52_31 (by decide), gr_Go 35⟩,
  List.forall_mem_cons.mpr ⟨⟨sim_iconst d52_34 (by decide), gr_Push (.int 0) 35⟩,
  List.forall_mem_cons.mpr ⟨⟨sim_nreturn d52_35 rfl (fun _ h => congrArg Value.int h), gr_RetN .boolean⟩, fun _ h => absurd h List.not_mem_nil⟩⟩⟩⟩⟩⟩⟩⟩⟩⟩⟩⟩⟩⟩⟩⟩⟩⟩⟩
noncomputable def pg52 : List (Nat × aP) := pg52_0
theorem ok52 : ∀ q ∈ pg52, Sim mT mt52 q.1 q.2 ∧ Grow q.2 := ok52_0
theorem d53_0 : decode mt53.2.1 0 = .ok (.aload_n 0, 1) := by decide +kernel
theorem d53_1 : decode mt53.2.1 1 = .ok (.invokespecial 3, 3) := by decide +kernel
theorem d53_4 : decode mt53.2.1 4 = .ok (.aload_n 0, 1) := by decide +kernel
theorem d53_5 : decode mt53.2.1 5 = .ok (.bipush 72, 2) := by decide +kernel
theorem d53_7 : decode mt53.2.1 7 = .ok (.newarray .long, 2) := by decide +kernel
theorem d53_9 : decode mt53.2.1 9 = .ok (.putfield 11, 3) := by decide +kernel
theorem d53_12 : decode mt53.2.1 12 = .ok (.aload_n 0, 1) := by decide +kernel
theorem d53_13 : decode mt53.2.1 13 = .ok (.bipush 72, 2) := by decide +kernel
theorem d53_15 : decode mt53.2.1 15 = .ok (.newarray .int, 2) := by decide +kernel
theorem d53_17 : decode mt53.2.1 17 = .ok (.putfield 15, 3) := by decide +kernel
theorem d53_20 : decode mt53.2.1 20 = .ok (.return_, 1) := by decide +kernel
noncomputable def pg53_0 : List (Nat × aP) := [(0, oLdA 0 1),
  (1, oCalV (fun ci => if ci < 100 then some 77 else none) 0 4),
  (4, oLdA 0 5),
  (5, oPush (.int 72) 7),
  (7, oNewA (100 + 3) 9),
  (9, oPutF (fun k => k = 5) 3 12),
  (12, oLdA 0 13),
  (13, oPush (.int 72) 15),
  (15, oNewA (100 + 0) 17),
  (17, oPutF (fun k => k = 5) 4 20),
  (20, oRetV)]
theorem ok53_0 : ∀ q ∈ pg53_0, Sim mT mt53 q.1 q.2 ∧ Grow q.2 :=
  List.forall_mem_cons.mpr ⟨⟨sim_aload_n d53_0 rfl, gr_LdA 0 1⟩,
  List.forall_mem_cons.mpr ⟨⟨sim_special (y := 77) d53_1 (Or.inr ⟨_, kn218⟩) kw176 rfl rfl mo77, gr_CalV (fun ci => if ci < 100 then some 77 else none) 0 4⟩,
  List.forall_mem_cons.mpr ⟨⟨sim_aload_n d53_4 rfl, gr_LdA 0 5⟩,
  List.forall_mem_cons.mpr ⟨⟨sim_bipush d53_5 (by decide), gr_Push (.int 72) 7⟩,
  List.forall_mem_cons.mpr ⟨⟨sim_newarray (t := 3) d53_7 kw129 (Or.inr (Or.inr (Or.inr ⟨rfl, rfl⟩))), gr_NewA (100 + 3) 9⟩,
  List.forall_mem_cons.mpr ⟨⟨sim_putF d53_9 gf58f rfl, gr_PutF (fun k => k = 5) 3 12⟩,
  List.forall_mem_cons.mpr ⟨⟨sim_aload_n d53_12 rfl, gr_LdA 0 13⟩,
  List.forall_mem_cons.mpr ⟨⟨sim_bipush d53_13 (by decide), gr_Push (.int 72) 15⟩,
  List.forall_mem_cons.mpr ⟨⟨sim_newarray (t := 0) d53_15 kw130 (Or.inl ⟨rfl, rfl⟩), gr_NewA (100 + 0) 17⟩,
  List.forall_mem_cons.mpr ⟨⟨sim_putF d53_17 gf59f rfl, gr_PutF (fun k => k = 5) 4 20⟩,
  List.forall_mem_cons.mpr ⟨⟨sim_return d53_20 rfl, gr_RetV⟩, fun _ h => absurd h List.not_mem_nil⟩⟩⟩⟩⟩⟩⟩⟩⟩⟩⟩
noncomputable def pg53 : List (Nat × aP) := pg53_0
theorem ok53 : ∀ q ∈ pg53, Sim mT mt53 q.1 q.2 ∧ Grow q.2 := ok53_0
theorem d54_0 : decode mt54.2.1 0 = .ok (.aload_n 0, 1) := by decide +kernel
theorem d54_1 : decode mt54.2.1 1 = .ok (.iconst 0, 1) := by decide +kernel
theorem d54_2 : decode mt54.2.1 2 = .ok (.putfield 19, 3) := by decide +kernel
theorem d54_5 : decode mt54.2.1 5 = .ok (.aload_n 0, 1) := by decide +kernel
theorem d54_6 : decode mt54.2.1 6 = .ok (.aload_n 1, 1) := by decide +kernel
theorem d54_7 : decode mt54.2.1 7 = .ok (.iload_n 2, 1) := by decide +kernel
theorem d54_8 : decode mt54.2.1 8 = .ok (.bipush 8, 2) := by decide +kernel
theorem d54_10 : decode mt54.2.1 10 = .ok (.invokevirtual 23, 3) := by decide +kernel
theorem d54_13 : decode mt54.2.1 13 = .ok (.return_, 1) := by decide +kernel
noncomputable def pg54_0 : List (Nat × aP) := [(0, oLdA 0 1),
  (1, oPush (.int 0) 2),
  (2, oPutI (fun k => k = 5) 5 5),
  (5, oLdA 0 6),
  (6, oLdA 1 7),
  (7, oLdI 2 8),
  (8, oPush (.int 8) 10),
  (10, oCalV (fun k => if k = 5 then some 78 else none) 3 13),
  (13, oRetV)]
theorem ok54_0 : ∀ q ∈ pg54_0, Sim mT mt54 q.1 q.2 ∧ Grow q.2 :=
  List.forall_mem_cons.mpr ⟨⟨sim_aload_n d54_0 rfl, gr_LdA 0 1⟩,
  List.forall_mem_cons.mpr ⟨⟨sim_iconst d54_1 (by decide), gr_Push (.int 0) 2⟩,
  List.forall_mem_cons.mpr ⟨⟨sim_putI d54_2 gf60w, gr_PutI (fun k => k = 5) 5 5⟩,
  List.forall_mem_cons.mpr ⟨⟨sim_aload_n d54_5 rfl, gr_LdA 0 6⟩,
  List.forall_mem_cons.mpr ⟨⟨sim_aload_n d54_6 rfl, gr_LdA 1 7⟩,
  List.forall_mem_cons.mpr ⟨⟨sim_iload_n d54_7 rfl, gr_LdI 2 8⟩,
  List.forall_mem_cons.mpr ⟨⟨sim_bipush d54_8 (by decide), gr_Push (.int 8) 10⟩,
  List.forall_mem_cons.mpr ⟨⟨sim_virtual d54_10 vk40, gr_CalV (fun k => if k = 5 then some 78 else none) 3 13⟩,
  List.forall_mem_cons.mpr ⟨⟨sim_return d54_13 rfl, gr_RetV⟩, fun _ h => absurd h List.not_mem_nil⟩⟩⟩⟩⟩⟩⟩⟩⟩
noncomputable def pg54 : List (Nat × aP) := pg54_0
theorem ok54 : ∀ q ∈ pg54, Sim mT mt54 q.1 q.2 ∧ Grow q.2 := ok54_0
theorem d55_0 : decode mt55.2.1 0 = .ok (.lload 5, 2) := by decide +kernel
theorem d55_2 : decode mt55.2.1 2 = .ok (.iconst 0, 1) := by decide +kernel
theorem d55_3 : decode mt55.2.1 3 = .ok (.invokestatic 27, 3) := by decide +kernel
theorem d55_6 : decode mt55.2.1 6 = .ok (.istore 8, 2) := by decide +kernel
theorem d55_8 : decode mt55.2.1 8 = .ok (.lload 5, 2) := by decide +kernel
theorem d55_10 : decode mt55.2.1 10 = .ok (.iload 7, 2) := by decide +kernel
theorem d55_12 : decode mt55.2.1 12 = .ok (.iconst 1, 1) := by decide +kernel
theorem d55_13 : decode mt55.2.1 13 = .ok (.isub, 1) := by decide +kernel
theorem d55_14 : decode mt55.2.1 14 = .ok (.invokestatic 27, 3) := by decide +kernel
theorem d55_17 : decode mt55.2.1 17 = .ok (.iconst 2, 1) := by decide +kernel
theorem d55_18 : decode mt55.2.1 18 = .ok (.iadd, 1) := by decide +kernel
theorem d55_19 : decode mt55.2.1 19 = .ok (.iconst 3, 1) := by decide +kernel
theorem d55_20 : decode mt55.2.1 20 = .ok (.iand, 1) := by decide +kernel
theorem d55_21 : decode mt55.2.1 21 = .ok (.istore 9, 2) := by decide +kernel
theorem d55_23 : decode mt55.2.1 23 = .ok (.iload 8, 2) := by decide +kernel
theorem d55_25 : decode mt55.2.1 25 = .ok (.iload 9, 2) := by decide +kernel
theorem d55_27 : decode mt55.2.1 27 = .ok (.if_icmp .ge 49, 3) := by decide +kernel
theorem d55_30 : decode mt55.2.1 30 = .ok (.aload_n 0, 1) := by decide +kernel
theorem d55_31 : decode mt55.2.1 31 = .ok (.getfield 19, 3) := by decide +kernel
theorem d55_34 : decode mt55.2.1 34 = .ok (.bipush 72, 2) := by decide +kernel
theorem d55_36 : decode mt55.2.1 36 = .ok (.if_icmp .ge 40, 3) := by decide +kernel
theorem d55_39 : decode mt55.2.1 39 = .ok (.aload_n 0, 1) := by decide +kernel
theorem d55_40 : decode mt55.2.1 40 = .ok (.getfield 11, 3) := by decide +kernel
theorem d55_43 : decode mt55.2.1 43 = .ok (.aload_n 0, 1) := by decide +kernel
theorem d55_44 : decode mt55.2.1 44 = .ok (.getfield 19, 3) := by decide +kernel
theorem d55_47 : decode mt55.2.1 47 = .ok (.lload_n 1, 1) := by decide +kernel
theorem d55_48 : decode mt55.2.1 48 = .ok (.lastore, 1) := by decide +kernel
theorem d55_49 : decode mt55.2.1 49 = .ok (.aload_n 0, 1) := by decide +kernel
theorem d55_50 : decode mt55.2.1 50 = .ok (.getfield 15, 3) := by decide +kernel
theorem d55_53 : decode mt55.2.1 53 = .ok (.aload_n 0, 1) := by decide +kernel
theorem d55_54 : decode mt55.2.1 54 = .ok (.getfield 19, 3) := by decide +kernel
theorem d55_57 : decode mt55.2.1 57 = .ok (.aload_n 0, 1) := by decide +kernel
theorem d55_58 : decode mt55.2.1 58 = .ok (.getfield 31, 3) := by decide +kernel
theorem d55_61 : decode mt55.2.1 61 = .ok (.lload_n 1, 1) := by decide +kernel
theorem d55_62 : decode mt55.2.1 62 = .ok (.invokevirtual 35, 3) := by decide +kernel
theorem d55_65 : decode mt55.2.1 65 = .ok (.iastore, 1) := by decide +kernel
theorem d55_66 : decode mt55.2.1 66 = .ok (.aload_n 0, 1) := by decide +kernel
theorem d55_67 : decode mt55.2.1 67 = .ok (.dup, 1) := by decide +kernel
theorem d55_68 : decode mt55.2.1 68 = .ok (.getfield 19, 3) := by decide +kernel
theorem d55_71 : decode mt55.2.1 71 = .ok (.iconst 1, 1) := by decide +kernel
theorem d55_72 : decode mt55.2.1 72 = .ok (.iadd, 1) := by decide +kernel
theorem d55_73 : decode mt55.2.1 73 = .ok (.putfield 19, 3) := by decide +kernel
theorem d55_76 : decode mt55.2.1 76 = .ok (.return_, 1) := by decide +kernel
noncomputable def pg55_0 : List (Nat × aP) := [(0, oLdL 5 2),
  (2, oPush (.int 0) 3),
  (3, oCall 124 2 6),
  (6, oStI 8 8),
  (8, oLdL 5 10),
  (10, oLdI 7 12),
  (12, oPush (.int 1) 13),
  (13, oII (fun x y => x - y) 14),
  (14, oCall 124 2 17),
  (17, oPush (.int 2) 18),
  (18, oII (fun x y => x + y) 19),
  (19, oPush (.int 3) 20),
  (20, oII (fun x y => x &&& y) 21),
  (21, oStI 9 23),
  (23, oLdI 8 25),
  (25, oLdI 9 27),
  (27, oIc (fun x y => y ≤ x) 76 30),
  (30, oLdA 0 31),
  (31, oGetI (fun k => k = 5) 5 34),
  (34, oPush (.int 72) 36),
  (36, oIc (fun x y => y ≤ x) 76 39),
  (39, oLdA 0 40),
  (40, oGetF (fun k => k = 5) 3 43),
  (43, oLdA 0 44),
  (44, oGetI (fun k => k = 5) 5 47),
  (47, oLdL 1 48),
  (48, oAStL 49),
  (49, oLdA 0 50),
  (50, oGetF (fun k => k = 5) 4 53),
  (53, oLdA 0 54),
  (54, oGetI (fun k => k = 5) 5 57),
  (57, oLdA 0 58),
  (58, oGetD (fun k => k = 5) 0 61),
  (61, oLdL 1 62),
  (62, oCalV (fun k => if k = 3 then some 36 else none) 1 65),
  (65, oAStI 66),
  (66, oLdA 0 67),
  (67, oDup 68),
  (68, oGetI (fun k => k = 5) 5 71),
  (71, oPush (.int 1) 72)]
theorem ok55_0 : ∀ q ∈ pg55_0, Sim mT mt55 q.1 q.2 ∧ Grow q.2 :=
  List.forall_mem_cons.mpr ⟨⟨sim_lload d55_0, gr_LdL 5 2⟩,
  List.forall_mem_cons.mpr ⟨⟨sim_iconst d55_2 (by decide), gr_Push (.int 0) 3⟩,
  List.forall_mem_cons.mpr ⟨⟨sim_static (y := 124) d55_3 (Or.inr ⟨_, kn721⟩) kw722 mo124, gr_Call 124 2 6⟩,
  List.forall_mem_cons.mpr ⟨⟨sim_istore d55_6 (by decide), gr_StI 8 8⟩,
  List.forall_mem_cons.mpr ⟨⟨sim_lload d55_8, gr_LdL 5 10⟩,
  List.forall_mem_cons.mpr ⟨⟨sim_iload d55_10, gr_LdI 7 12⟩,
  List.forall_mem_cons.mpr ⟨⟨sim_iconst d55_12 (by decide), gr_Push (.int 1) 13⟩,
  List.forall_mem_cons.mpr ⟨⟨sim_isub d55_13, gr_II (fun x y => x - y) 14⟩,
  List.forall_mem_cons.mpr ⟨⟨sim_static (y := 124) d55_14 (Or.inr ⟨_, kn721⟩) kw722 mo124, gr_Call 124 2 17⟩,
  List.forall_mem_cons.mpr ⟨⟨sim_iconst d55_17 (by decide), gr_Push (.int 2) 18⟩,
  List.forall_mem_cons.mpr ⟨⟨sim_iadd d55_18, gr_II (fun x y => x + y) 19⟩,
  List.forall_mem_cons.mpr ⟨⟨sim_iconst d55_19 (by decide), gr_Push (.int 3) 20⟩,
  List.forall_mem_cons.mpr ⟨⟨sim_iand d55_20, gr_II (fun x y => x &&& y) 21⟩,
  List.forall_mem_cons.mpr ⟨⟨sim_istore d55_21 (by decide), gr_StI 9 23⟩,
  List.forall_mem_cons.mpr ⟨⟨sim_iload d55_23, gr_LdI 8 25⟩,
  List.forall_mem_cons.mpr ⟨⟨sim_iload d55_25, gr_LdI 9 27⟩,
  List.forall_mem_cons.mpr ⟨⟨sim_icmp_ge d55_27 (by decide), gr_Ic (fun x y => y ≤ x) 76 30⟩,
  List.forall_mem_cons.mpr ⟨⟨sim_aload_n d55_30 rfl, gr_LdA 0 31⟩,
  List.forall_mem_cons.mpr ⟨⟨sim_getI d55_31 gf60, gr_GetI (fun k => k = 5) 5 34⟩,
  List.forall_mem_cons.mpr ⟨⟨sim_bipush d55_34 (by decide), gr_Push (.int 72) 36⟩,
  List.forall_mem_cons.mpr ⟨⟨sim_icmp_ge d55_36 (by decide), gr_Ic (fun x y => y ≤ x) 76 39⟩,
  List.forall_mem_cons.mpr ⟨⟨sim_aload_n d55_39 rfl, gr_LdA 0 40⟩,
  List.forall_mem_cons.mpr ⟨⟨sim_getF d55_40 gf61, gr_GetF (fun k => k = 5) 3 43⟩,
  List.forall_mem_cons.mpr ⟨⟨sim_aload_n d55_43 rfl, gr_LdA 0 44⟩,
  List.forall_mem_cons.mpr ⟨⟨sim_getI d55_44 gf60, gr_GetI (fun k => k = 5) 5 47⟩,
  List.forall_mem_cons.mpr ⟨⟨sim_lload_n d55_47 rfl, gr_LdL 1 48⟩,
  List.forall_mem_cons.mpr ⟨⟨sim_lastore d55_48, gr_AStL 49⟩,
  List.forall_mem_cons.mpr ⟨⟨sim_aload_n d55_49 rfl, gr_LdA 0 50⟩,
  List.forall_mem_cons.mpr ⟨⟨sim_getF d55_50 gf62, gr_GetF (fun k => k = 5) 4 53⟩,
  List.forall_mem_cons.mpr ⟨⟨sim_aload_n d55_53 rfl, gr_LdA 0 54⟩,
  List.forall_mem_cons.mpr ⟨⟨sim_getI d55_54 gf60, gr_GetI (fun k => k = 5) 5 57⟩,
  List.forall_mem_cons.mpr ⟨⟨sim_aload_n d55_57 rfl, gr_LdA 0 58⟩,
  List.forall_mem_cons.mpr ⟨⟨sim_getD d55_58 gf63, gr_GetD (fun k => k = 5) 0 61⟩,
  List.forall_mem_cons.mpr ⟨⟨sim_lload_n d55_61 rfl, gr_LdL 1 62⟩,
  List.forall_mem_cons.mpr ⟨⟨sim_virtual d55_62 vk41, gr_CalV (fun k => if k = 3 then some 36 else none) 1 65⟩,
  List.forall_mem_cons.mpr ⟨⟨sim_iastore d55_65, gr_AStI 66⟩,
  List.forall_mem_cons.mpr ⟨⟨sim_aload_n d55_66 rfl, gr_LdA 0 67⟩,
  List.forall_mem_cons.mpr ⟨⟨sim_dup d55_67, gr_Dup 68⟩,
  List.forall_mem_cons.mpr ⟨⟨sim_getI d55_68 gf60, gr_GetI (fun k => k = 5) 5 71⟩,
  List.forall_mem_cons.mpr ⟨⟨sim_iconst d55_71 (by decide), gr_Push (.int 1) 72⟩, fun _ h => absurd h List.not_mem_nil⟩⟩⟩⟩⟩⟩⟩⟩⟩⟩⟩⟩⟩⟩⟩⟩⟩⟩⟩⟩⟩⟩⟩⟩⟩⟩⟩⟩⟩⟩⟩⟩⟩⟩⟩⟩⟩⟩⟩⟩
noncomputable def pg55_1 : List (Nat × aP) := [(72, oII (fun x y => x + y) 73),
  (73, oPutI (fun k => k = 5) 5 76),
  (76, oRetV)]
theorem ok55_1 : ∀ q ∈ pg55_1, Sim mT mt55 q.1 q.2 ∧ Grow q.2 :=
  List.forall_mem_cons.mpr ⟨⟨sim_iadd d55_72, gr_II (fun x y => x + y) 73⟩,
  List.forall_mem_cons.mpr ⟨⟨sim_putI d55_73 gf60w, gr_PutI (fun k => k = 5) 5 76⟩,
  List.forall_mem_cons.mpr ⟨⟨sim_return d55_76 rfl, gr_RetV⟩, fun _ h => absurd h List.not_mem_nil⟩⟩⟩
noncomputable def pg55 : List (Nat × aP) := pg55_0 ++ (pg55_1)
theorem ok55 : ∀ q ∈ pg55, Sim mT mt55 q.1 q.2 ∧ Grow q.2 := List.forall_mem_append.mpr ⟨ok55_0, ok55_1⟩
theorem d56_0 : decode mt56.2.1 0 = .ok (.iconst 0, 1) := by decide +kernel
theorem d56_1 : decode mt56.2.1 1 = .ok (.istore 5, 2) := by decide +kernel
theorem d56_3 : decode mt56.2.1 3 = .ok (.iconst 0, 1) := by decide +kernel
theorem d56_4 : decode mt56.2.1 4 = .ok (.istore 6, 2) := by decide +kernel
theorem d56_6 : decode mt56.2.1 6 = .ok (.iload 6, 2) := by decide +kernel
theorem d56_8 : decode mt56.2.1 8 = .ok (.aload_n 0, 1) := by decide +kernel
theorem d56_9 : decode mt56.2.1 9 = .ok (.getfield 19, 3) := by decide +kernel
theorem d56_12 : decode mt56.2.1 12 = .ok (.if_icmp .ge 73, 3) := by decide +kernel
theorem d56_15 : decode mt56.2.1 15 = .ok (.aload_n 0, 1) := by decide +kernel
theorem d56_16 : decode mt56.2.1 16 = .ok (.getfield 11, 3) := by decide +kernel
theorem d56_19 : decode mt56.2.1 19 = .ok (.iload 6, 2) := by decide +kernel
theorem d56_21 : decode mt56.2.1 21 = .ok (.laload, 1) := by decide +kernel
theorem d56_22 : decode mt56.2.1 22 = .ok (.lload_n 2, 1) := by decide +kernel
theorem d56_23 : decode mt56.2.1 23 = .ok (.land, 1) := by decide +kernel
theorem d56_24 : decode mt56.2.1 24 = .ok (.lconst 0, 1) := by decide +kernel
theorem d56_25 : decode mt56.2.1 25 = .ok (.lcmp, 1) := by decide +kernel
theorem d56_26 : decode mt56.2.1 26 = .ok (.ifCond .ne 7, 3) := by decide +kernel
theorem d56_29 : decode mt56.2.1 29 = .ok (.iconst 1, 1) := by decide +kernel
theorem d56_30 : decode mt56.2.1 30 = .ok (.goto 4, 3) := by decide +kernel
theorem d56_33 : decode mt56.2.1 33 = .ok (.iconst 0, 1) := by decide +kernel
theorem d56_34 : decode mt56.2.1 34 = .ok (.istore 7, 2) := by decide +kernel
theorem d56_36 : decode mt56.2.1 36 = .ok (.iload 7, 2) := by decide +kernel
theorem d56_38 : decode mt56.2.1 38 = .ok (.ifCond .eq 41, 3) := by decide +kernel
theorem d56_41 : decode mt56.2.1 41 = .ok (.aload_n 0, 1) := by decide +kernel
theorem d56_42 : decode mt56.2.1 42 = .ok (.getfield 15, 3) := by decide +kernel
theorem d56_45 : decode mt56.2.1 45 = .ok (.iload 6, 2) := by decide +kernel
theorem d56_47 : decode mt56.2.1 47 = .ok (.iaload, 1) := by decide +kernel
theorem d56_48 : decode mt56.2.1 48 = .ok (.iload 5, 2) := by decide +kernel
theorem d56_50 : decode mt56.2.1 50 = .ok (.if_icmp .le 29, 3) := by decide +kernel
theorem d56_53 : decode mt56.2.1 53 = .ok (.aload_n 1, 1) := by decide +kernel
theorem d56_54 : decode mt56.2.1 54 = .ok (.aload_n 0, 1) := by decide +kernel
theorem d56_55 : decode mt56.2.1 55 = .ok (.getfield 11, 3) := by decide +kernel
theorem d56_58 : decode mt56.2.1 58 = .ok (.iload 6, 2) := by decide +kernel
theorem d56_60 : decode mt56.2.1 60 = .ok (.laload, 1) := by decide +kernel
theorem d56_61 : decode mt56.2.1 61 = .ok (.lload_n 2, 1) := by decide +kernel
theorem d56_62 : decode mt56.2.1 62 = .ok (.invokevirtual 41, 3) := by decide +kernel
theorem d56_65 : decode mt56.2.1 65 = .ok (.iload 4, 2) := by decide +kernel
theorem d56_67 : decode mt56.2.1 67 = .ok (.if_icmp .gt 12, 3) := by decide +kernel
theorem d56_70 : decode mt56.2.1 70 = .ok (.aload_n 0, 1) := by decide +kernel
theorem d56_71 : decode mt56.2.1 71 = .ok (.getfield 15, 3) := by decide +kernel
theorem d56_74 : decode mt56.2.1 74 = .ok (.iload 6, 2) := by decide +kernel
theorem d56_76 : decode mt56.2.1 76 = .ok (.iaload, 1) := by decide +kernel
theorem d56_77 : decode mt56.2.1 77 = .ok (.istore 5, 2) := by decide +kernel
theorem d56_79 : decode mt56.2.1 79 = .ok (.iinc 6 1, 3) := by decide +kernel
theorem d56_82 : decode mt56.2.1 82 = .ok (.goto (-76), 3) := by decide +kernel
theorem d56_85 : decode mt56.2.1 85 = .ok (.iload 5, 2) := by decide +kernel
theorem d56_87 : decode mt56.2.1 87 = .ok (.ireturn, 1) := by decide +kernel
noncomputable def pg56_0 : List (Nat × aP) := [(0, oPush (.int 0) 1),
  (1, oStI 5 3),
  (3, oPush (.int 0) 4),
  (4, oStI 6 6),
  (6, oLdI 6 8),
  (8, oLdA 0 9),
  (9, oGetI (fun k => k = 5) 5 12),
  (12, oIc (fun x y => y ≤ x) 85 15),
  (15, oLdA 0 16),
  (16, oGetF (fun k => k = 5) 3 19),
  (19, oLdI 6 21),
  (21, oALdL 22),
  (22, oLdL 2 23),
  (23, oLL (fun x y => x &&& y) 24),
  (24, oPush (.long 0) 25),
  (25, oLcmp 26),
  (26, oIf (fun x => ¬ x = 0) 33 29),
  (29, oPush (.int 1) 30),
  (30, oGo 34),
  (33, oPush (.int 0) 34),
  (34, oStI 7 36),
  (36, oLdI 7 38),
  (38, oIf (fun x => x = 0) 79 41),
  (41, oLdA 0 42),
  (42, oGetF (fun k => k = 5) 4 45),
  (45, oLdI 6 47),
  (47, oALdI 48),
  (48, oLdI 5 50),
  (50, oIc (fun x y => x ≤ y) 79 53),
  (53, oLdA 1 54),
  (54, oLdA 0 55),
  (55, oGetF (fun k => k = 5) 3 58),
  (58, oLdI 6 60),
  (60, oALdL 61),
  (61, oLdL 2 62),
  (62, oCalV (fun k => if k = 3 then some 35 else none) 2 65),
  (65, oLdI 4 67),
  (67, oIc (fun x y => y < x) 79 70),
  (70, oLdA 0 71),
  (71, oGetF (fun k => k = 5) 4 74)]
theorem ok56_0 : ∀ q ∈ pg56_0, Sim mT mt56 q.1 q.2 ∧ Grow q.2 :=
  List.forall_mem_cons.mpr ⟨⟨sim_iconst d56_0 (by decide), gr_Push (.int 0) 1⟩,
  List.forall_mem_cons.mpr ⟨⟨sim_istore d56_1 (by decide), gr_StI 5 3⟩,
  List.forall_mem_cons.mpr ⟨⟨sim_iconst d56_3 (by decide), gr_Push (.int 0) 4⟩,
  List.forall_mem_cons.mpr ⟨⟨sim_istore d56_4 (by decide), gr_StI 6 6⟩,
  List.forall_mem_cons.mpr ⟨⟨sim_iload d56_6, gr_LdI 6 8⟩,
  List.forall_mem_cons.mpr ⟨⟨sim_aload_n d56_8 rfl, gr_LdA 0 9⟩,
  List.forall_mem_cons.mpr ⟨⟨sim_getI d56_9 gf60, gr_GetI (fun k => k = 5) 5 12⟩,
  List.forall_mem_cons.mpr ⟨⟨sim_icmp_ge d56_12 (by decide), gr_Ic (fun x y => y ≤ x) 85 15⟩,
  List.forall_mem_cons.mpr ⟨⟨sim_aload_n d56_15 rfl, gr_LdA 0 16⟩,
  List.forall_mem_cons.mpr ⟨⟨sim_getF d56_16 gf61, gr_GetF (fun k => k = 5) 3 19⟩,
  List.forall_mem_cons.mpr ⟨⟨sim_iload d56_19, gr_LdI 6 21⟩,
  List.forall_mem_cons.mpr ⟨⟨sim_laload d56_21, gr_ALdL 22⟩,
  List.forall_mem_cons.mpr ⟨⟨sim_lload_n d56_22 rfl, gr_LdL 2 23⟩,
  List.forall_mem_cons.mpr ⟨⟨sim_land d56_23, gr_LL (fun x y => x &&& y) 24⟩,
  List.forall_mem_cons.mpr ⟨⟨sim_lconst d56_24 (by decide), gr_Push (.long 0) 25⟩,
  List.forall_mem_cons.mpr ⟨⟨sim_lcmp d56_25, gr_Lcmp 26⟩,
  List.forall_mem_cons.mpr ⟨⟨sim_if_ne d56_26 (by decide), gr_If (fun x => ¬ x = 0) 33 29⟩,
  List.forall_mem_cons.mpr ⟨⟨sim_iconst d56_29 (by decide), gr_Push (.int 1) 30⟩,
  List.forall_mem_cons.mpr ⟨⟨sim_goto d56_30 (by decide), gr_Go 34⟩,
  List.forall_mem_cons.mpr ⟨⟨sim_iconst d56_33 (by decide), gr_Push (.int 0) 34⟩,
  List.forall_mem_cons.mpr ⟨⟨sim_istore d56_34 (by decide), gr_StI 7 36⟩,
  List.forall_mem_cons.mpr ⟨⟨sim_iload d56_36, gr_LdI 7 38⟩,
  List.forall_mem_cons.mpr ⟨⟨sim_if_eq d56_38 (by decide), gr_If (fun x => x = 0) 79 41⟩,
  List.forall_mem_cons.mpr ⟨⟨sim_aload_n d56_41 rfl, gr_LdA 0 42⟩,
  List.forall_mem_cons.mpr ⟨⟨sim_getF d56_42 gf62, gr_GetF (fun k => k = 5) 4 45⟩,
  List.forall_mem_cons.mpr ⟨⟨sim_iload d56_45, gr_LdI 6 47⟩,
  List.forall_mem_cons.mpr ⟨⟨sim_iaload d56_47, gr_ALdI 48⟩,
  List.forall_mem_cons.mpr ⟨⟨sim_iload d56_48, gr_LdI 5 50⟩,
  List.forall_mem_cons.mpr ⟨⟨sim_icmp_le d56_50 (by decide), gr_Ic (fun x y => x ≤ y) 79 53⟩,
  List.forall_mem_cons.mpr ⟨⟨sim_aload_n d56_53 rfl, gr_LdA 1 54⟩,
  List.forall_mem_cons.mpr ⟨⟨sim_aload_n d56_54 rfl, gr_LdA 0 55⟩,
  List.forall_mem_cons.mpr ⟨⟨sim_getF d56_55 gf61, gr_GetF (fun k => k = 5) 3 58⟩,
  List.forall_mem_cons.mpr ⟨⟨sim_iload d56_58, gr_LdI 6 60⟩,
  List.forall_mem_cons.mpr ⟨⟨sim_laload d56_60, gr_ALdL 61⟩,
  List.forall_mem_cons.mpr ⟨⟨sim_lload_n d56_61 rfl, gr_LdL 2 62⟩,
  List.forall_mem_cons.mpr ⟨⟨sim_virtual d56_62 vk42, gr_CalV (fun k => if k = 3 then some 35 else none) 2 65⟩,
  List.forall_mem_cons.mpr ⟨⟨sim_iload d56_65, gr_LdI 4 67⟩,
  List.forall_mem_cons.mpr ⟨⟨sim_icmp_gt d56_67 (by decide), gr_Ic (fun x y => y < x) 79 70⟩,
  List.forall_mem_cons.mpr ⟨⟨sim_aload_n d56_70 rfl, gr_LdA 0 71⟩,
  List.forall_mem_cons.mpr ⟨⟨sim_getF d56_71 gf62, gr_GetF (fun k => k = 5) 4 74⟩, fun _ h => absurd h List.not_mem_nil⟩⟩⟩⟩⟩⟩⟩⟩⟩⟩⟩⟩⟩⟩⟩⟩⟩⟩⟩⟩⟩⟩⟩⟩⟩⟩⟩⟩⟩⟩⟩⟩⟩⟩⟩⟩⟩⟩⟩⟩
noncomputable def pg56_1 : List (Nat × aP) := [(74, oLdI 6 76),
  (76, oALdI 77),
  (77, oStI 5 79),
  (79, oInc 6 1 82),
  (82, oGo 6),
  (85, oLdI 5 87),
  (87, oRetI)]
theorem ok56_1 : ∀ q ∈ pg56_1, Sim mT mt56 q.1 q.2 ∧ Grow q.2 :=
  List.forall_mem_cons.mpr ⟨⟨sim_iload d56_74, gr_LdI 6 76⟩,
  List.forall_mem_cons.mpr ⟨⟨sim_iaload d56_76, gr_ALdI 77⟩,
  List.forall_mem_cons.mpr ⟨⟨sim_istore d56_77 (by decide), gr_StI 5 79⟩,
  List.forall_mem_cons.mpr ⟨⟨sim_iinc d56_79 (by decide) (by decide), gr_Inc 6 1 82⟩,
  List.forall_mem_cons.mpr ⟨⟨sim_goto d56_82 (by decide), gr_Go 6⟩,
  List.forall_mem_cons.mpr ⟨⟨sim_iload d56_85, gr_LdI 5 87⟩,
  List.forall_mem_cons.mpr ⟨⟨sim_ireturn d56_87 rfl, gr_RetI⟩, fun _ h => absurd h List.not_mem_nil⟩⟩⟩⟩⟩⟩⟩
noncomputable def pg56 : List (Nat × aP) := pg56_0 ++ (pg56_1)
theorem ok56 : ∀ q ∈ pg56, Sim mT mt56 q.1 q.2 ∧ Grow q.2 := List.forall_mem_append.mpr ⟨ok56_0, ok56_1⟩
theorem d57_0 : decode mt57.2.1 0 = .ok (.aload_n 0, 1) := by decide +kernel
theorem d57_1 : decode mt57.2.1 1 = .ok (.invokespecial 3, 3) := by decide +kernel
theorem d57_4 : decode mt57.2.1 4 = .ok (.aload_n 0, 1) := by decide +kernel
theorem d57_5 : decode mt57.2.1 5 = .ok (.bipush 40, 2) := by decide +kernel
theorem d57_7 : decode mt57.2.1 7 = .ok (.newarray .int, 2) := by decide +kernel
theorem d57_9 : decode mt57.2.1 9 = .ok (.putfield 9, 3) := by decide +kernel
theorem d57_12 : decode mt57.2.1 12 = .ok (.aload_n 0, 1) := by decide +kernel
theorem d57_13 : decode mt57.2.1 13 = .ok (.iconst (-1), 1) := by decide +kernel
theorem d57_14 : decode mt57.2.1 14 = .ok (.putfield 15, 3) := by decide +kernel
theorem d57_17 : decode mt57.2.1 17 = .ok (.return_, 1) := by decide +kernel
noncomputable def pg57_0 : List (Nat × aP) := [(0, oLdA 0 1),
  (1, oObj 4),
  (4, oLdA 0 5),
  (5, oPush (.int 40) 7),
  (7, oNewA (100 + 0) 9),
  (9, oPutF (fun k => k = 6) 0 12),
  (12, oLdA 0 13),
  (13, oPush (.int (-1)) 14),
  (14, oPutI (fun k => k = 6) 1 17),
  (17, oRetV)]
theorem ok57_0 : ∀ q ∈ pg57_0, Sim mT mt57 q.1 q.2 ∧ Grow q.2 :=
  List.forall_mem_cons.mpr ⟨⟨sim_aload_n d57_0 rfl, gr_LdA 0 1⟩,
  List.forall_mem_cons.mpr ⟨⟨sim_obj d57_1 kw288 kw26 kw27, gr_Obj 4⟩,
  List.forall_mem_cons.mpr ⟨⟨sim_aload_n d57_4 rfl, gr_LdA 0 5⟩,
  List.forall_mem_cons.mpr ⟨⟨sim_bipush d57_5 (by decide), gr_Push (.int 40) 7⟩,
  List.forall_mem_cons.mpr ⟨⟨sim_newarray (t := 0) d57_7 kw130 (Or.inl ⟨rfl, rfl⟩), gr_NewA (100 + 0) 9⟩,
  List.forall_mem_cons.mpr ⟨⟨sim_putF d57_9 gf64f rfl, gr_PutF (fun k => k = 6) 0 12⟩,
  List.forall_mem_cons.mpr ⟨⟨sim_aload_n d57_12 rfl, gr_LdA 0 13⟩,
  List.forall_mem_cons.mpr ⟨⟨sim_iconst d57_13 (by decide), gr_Push (.int (-1)) 14⟩,
  List.forall_mem_cons.mpr ⟨⟨sim_putI d57_14 gf65w, gr_PutI (fun k => k = 6) 1 17⟩,
  List.forall_mem_cons.mpr ⟨⟨sim_return d57_17 rfl, gr_RetV⟩, fun _ h => absurd h List.not_mem_nil⟩⟩⟩⟩⟩⟩⟩⟩⟩⟩
noncomputable def pg57 : List (Nat × aP) := pg57_0
theorem ok57 : ∀ q ∈ pg57, Sim mT mt57 q.1 q.2 ∧ Grow q.2 := ok57_0
theorem d58_0 : decode mt58.2.1 0 = .ok (.aload_n 0, 1) := by decide +kernel
theorem d58_1 : decode mt58.2.1 1 = .ok (.getfield 15, 3) := by decide +kernel
theorem d58_4 : decode mt58.2.1 4 = .ok (.ifCond .ge 7, 3) := by decide +kernel
theorem d58_7 : decode mt58.2.1 7 = .ok (.iconst 1, 1) := by decide +kernel
theorem d58_8 : decode mt58.2.1 8 = .ok (.goto 4, 3) := by decide +kernel
theorem d58_11 : decode mt58.2.1 11 = .ok (.iconst 0, 1) := by decide +kernel
theorem d58_12 : decode mt58.2.1 12 = .ok (.ireturn, 1) := by decide +kernel
noncomputable def pg58_0 : List (Nat × aP) := [(0, oLdA 0 1),
  (1, oGetI (fun k => k = 6) 1 4),
  (4, oIf (fun x => 0 ≤ x) 11 7),
  (7, oPush (.int 1) 8),
  (8, oGo 12),
  (11, oPush (.int 0) 12),
  (12, oRetN .boolean)]
theorem ok58_0 : ∀ q ∈ pg58_0, Sim mT mt58 q.1 q.2 ∧ Grow q.2 :=
  List.forall_mem_cons.mpr ⟨⟨sim_aload_n d58_0 rfl, gr_LdA 0 1⟩,
  List.forall_mem_cons.mpr ⟨⟨sim_getI d58_1 gf65, gr_GetI (fun k => k = 6) 1 4⟩,
  List.forall_mem_cons.mpr ⟨⟨sim_if_ge d58_4 (by decide), gr_If (fun x => 0 ≤ x) 11 7⟩,
  List.forall_mem_cons.mpr ⟨⟨sim_iconst d58_7 (by decide), gr_Push (.int 1) 8⟩,
  List.forall_mem_cons.mpr ⟨⟨sim_goto d58_8 (by decide), gr_Go 12⟩,
  List.forall_mem_cons.mpr ⟨⟨sim_iconst d58_11 (by decide), gr_Push (.int 0) 12⟩,
  List.forall_mem_cons.mpr ⟨⟨sim_nreturn d58_12 rfl (fun _ h => congrArg Value.int h), gr_RetN .boolean⟩, fun _ h => absurd h List.not_mem_nil⟩⟩⟩⟩⟩⟩⟩
noncomputable def pg58 : List (Nat × aP) := pg58_0
theorem ok58 : ∀ q ∈ pg58, Sim mT mt58 q.1 q.2 ∧ Grow q.2 := ok58_0
theorem d59_0 : decode mt59.2.1 0 = .ok (.aload_n 0, 1) := by decide +kernel
theorem d59_1 : decode mt59.2.1 1 = .ok (.iload_n 1, 1) := by decide +kernel
theorem d59_2 : decode mt59.2.1 2 = .ok (.putfield 15, 3) := by decide +kernel
theorem d59_5 : decode mt59.2.1 5 = .ok (.aload_n 0, 1) := by decide +kernel
theorem d59_6 : decode mt59.2.1 6 = .ok (.iload_n 2, 1) := by decide +kernel
theorem d59_7 : decode mt59.2.1 7 = .ok (.putfield 19, 3) := by decide +kernel
theorem d59_10 : decode mt59.2.1 10 = .ok (.iconst 0, 1) := by decide +kernel
theorem d59_11 : decode mt59.2.1 11 = .ok (.istore_n 3, 1) := by decide +kernel
theorem d59_12 : decode mt59.2.1 12 = .ok (.iload_n 3, 1) := by decide +kernel
theorem d59_13 : decode mt59.2.1 13 = .ok (.bipush 40, 2) := by decide +kernel
theorem d59_15 : decode mt59.2.1 15 = .ok (.if_icmp .ge 16, 3) := by decide +kernel
theorem d59_18 : decode mt59.2.1 18 = .ok (.aload_n 0, 1) := by decide +kernel
theorem d59_19 : decode mt59.2.1 19 = .ok (.getfield 9, 3) := by decide +kernel
theorem d59_22 : decode mt59.2.1 22 = .ok (.iload_n 3, 1) := by decide +kernel
theorem d59_23 : decode mt59.2.1 23 = .ok (.iconst 0, 1) := by decide +kernel
theorem d59_24 : decode mt59.2.1 24 = .ok (.iastore, 1) := by decide +kernel
theorem d59_25 : decode mt59.2.1 25 = .ok (.iinc 3 1, 3) := by decide +kernel
theorem d59_28 : decode mt59.2.1 28 = .ok (.goto (-16), 3) := by decide +kernel
theorem d59_31 : decode mt59.2.1 31 = .ok (.return_, 1) := by decide +kernel
noncomputable def pg59_0 : List (Nat × aP) := [(0, oLdA 0 1),
  (1, oLdI 1 2),
  (2, oPutI (fun k => k = 6) 1 5),
  (5, oLdA 0 6),
  (6, oLdI 2 7),
  (7, oPutI (fun k => k = 6) 2 10),
  (10, oPush (.int 0) 11),
  (11, oStI 3 12),
  (12, oLdI 3 13),
  (13, oPush (.int 40) 15),
  (15, oIc (fun x y => y ≤ x) 31 18),
  (18, oLdA 0 19),
  (19, oGetF (fun k => k = 6) 0 22),
  (22, oLdI 3 23),
  (23, oPush (.int 0) 24),
  (24, oAStI 25),
  (25, oInc 3 1 28),
  (28, oGo 12),
  (31, oRetV)]
theorem ok59_0 : ∀ q ∈ pg59_0, Sim mT mt59 q.1 q.2 ∧ Grow q.2 :=
  List.forall_mem_cons.mpr ⟨⟨sim_aload_n d59_0 rfl, gr_LdA 0 1⟩,
  List.forall_mem_cons.mpr ⟨⟨sim_iload_n d59_1 rfl, gr_LdI 1 2⟩,
  List.forall_mem_cons.mpr ⟨⟨sim_putI d59_2 gf65w, gr_PutI (fun k => k = 6) 1 5⟩,
  List.forall_mem_cons.mpr ⟨⟨sim_aload_n d59_5 rfl, gr_LdA 0 6⟩,
  List.forall_mem_cons.mpr ⟨⟨sim_iload_n d59_6 rfl, gr_LdI 2 7⟩,
  List.forall_mem_cons.mpr ⟨⟨sim_putI d59_7 gf66w, gr_PutI (fun k => k = 6) 2 10⟩,
  List.forall_mem_cons.mpr ⟨⟨sim_iconst d59_10 (by decide), gr_Push (.int 0) 11⟩,
  List.forall_mem_cons.mpr ⟨⟨sim_istore_n d59_11 rfl (by decide), gr_StI 3 12⟩,
  List.forall_mem_cons.mpr ⟨⟨sim_iload_n d59_12 rfl, gr_LdI 3 13⟩,
  List.forall_mem_cons.mpr ⟨⟨sim_bipush d59_13 (by decide), gr_Push (.int 40) 15⟩,
  List.forall_mem_cons.mpr ⟨⟨sim_icmp_ge d59_15 (by decide), gr_Ic (fun x y => y ≤ x) 31 18⟩,
  List.forall_mem_cons.mpr ⟨⟨sim_aload_n d59_18 rfl, gr_LdA 0 19⟩,
  List.forall_mem_cons.mpr ⟨⟨sim_getF d59_19 gf67, gr_GetF (fun k => k = 6) 0 22⟩,
  List.forall_mem_cons.mpr ⟨⟨sim_iload_n d59_22 rfl, gr_LdI 3 23⟩,
  List.forall_mem_cons.mpr ⟨⟨sim_iconst d59_23 (by decide), gr_Push (.int 0) 24⟩,
  List.forall_mem_cons.mpr ⟨⟨sim_iastore d59_24, gr_AStI 25⟩,
  List.forall_mem_cons.mpr ⟨⟨sim_iinc d59_25 (by decide) (by decide), gr_Inc 3 1 28⟩,
  List.forall_mem_cons.mpr ⟨⟨sim_goto d59_28 (by decide), gr_Go 12⟩,
  List.forall_mem_cons.mpr ⟨⟨sim_return d59_31 rfl, gr_RetV⟩, fun _ h => absurd h List.not_mem_nil⟩⟩⟩⟩⟩⟩⟩⟩⟩⟩⟩⟩⟩⟩⟩⟩⟩⟩⟩
noncomputable def pg59 : List (Nat × aP) := pg59_0
theorem ok59 : ∀ q ∈ pg59, Sim mT mt59 q.1 q.2 ∧ Grow q.2 := ok59_0
theorem d60_0 : decode mt60.2.1 0 = .ok (.aload_n 0, 1) := by decide +kernel
theorem d60_1 : decode mt60.2.1 1 = .ok (.iconst (-1), 1) := by decide +kernel
theorem d60_2 : decode mt60.2.1 2 = .ok (.putfield 15, 3) := by decide +kernel
theorem d60_5 : decode mt60.2.1 5 = .ok (.aload_n 0, 1) := by decide +kernel
theorem d60_6 : decode mt60.2.1 6 = .ok (.iconst 0, 1) := by decide +kernel
theorem d60_7 : decode mt60.2.1 7 = .ok (.putfield 19, 3) := by decide +kernel
theorem d60_10 : decode mt60.2.1 10 = .ok (.return_, 1) := by decide +kernel
noncomputable def pg60_0 : List (Nat × aP) := [(0, oLdA 0 1),
  (1, oPush (.int (-1)) 2),
  (2, oPutI (fun k => k = 6) 1 5),
  (5, oLdA 0 6),
  (6, oPush (.int 0) 7),
  (7, oPutI (fun k => k = 6) 2 10),
  (10, oRetV)]
theorem ok60_0 : ∀ q ∈ pg60_0, Sim mT mt60 q.1 q.2 ∧ Grow q.2 :=
  List.forall_mem_cons.mpr ⟨⟨sim_aload_n d60_0 rfl, gr_LdA 0 1⟩,
  List.forall_mem_cons.mpr ⟨⟨sim_iconst d60_1 (by decide), gr_Push (.int (-1)) 2⟩,
  List.forall_mem_cons.mpr ⟨⟨sim_putI d60_2 gf65w, gr_PutI (fun k => k = 6) 1 5⟩,
  List.forall_mem_cons.mpr ⟨⟨sim_aload_n d60_5 rfl, gr_LdA 0 6⟩,
  List.forall_mem_cons.mpr ⟨⟨sim_iconst d60_6 (by decide), gr_Push (.int 0) 7⟩,
  List.forall_mem_cons.mpr ⟨⟨sim_putI d60_7 gf66w, gr_PutI (fun k => k = 6) 2 10⟩,
  List.forall_mem_cons.mpr ⟨⟨sim_return d60_10 rfl, gr_RetV⟩, fun _ h => absurd h List.not_mem_nil⟩⟩⟩⟩⟩⟩⟩
noncomputable def pg60 : List (Nat × aP) := pg60_0
theorem ok60 : ∀ q ∈ pg60, Sim mT mt60 q.1 q.2 ∧ Grow q.2 := ok60_0
theorem d61_0 : decode mt61.2.1 0 = .ok (.iload_n 1, 1) := by decide +kernel
theorem d61_1 : decode mt61.2.1 1 = .ok (.ifCond .lt 21, 3) := by decide +kernel
theorem d61_4 : decode mt61.2.1 4 = .ok (.iload_n 2, 1) := by decide +kernel
theorem d61_5 : decode mt61.2.1 5 = .ok (.ifCond .lt 17, 3) := by decide +kernel
theorem d61_8 : decode mt61.2.1 8 = .ok (.iload_n 1, 1) := by decide +kernel
theorem d61_9 : decode mt61.2.1 9 = .ok (.aload_n 0, 1) := by decide +kernel
theorem d61_10 : decode mt61.2.1 10 = .ok (.getfield 19, 3) := by decide +kernel
theorem d61_13 : decode mt61.2.1 13 = .ok (.iload_n 2, 1) := by decide +kernel
theorem d61_14 : decode mt61.2.1 14 = .ok (.isub, 1) := by decide +kernel
theorem d61_15 : decode mt61.2.1 15 = .ok (.if_icmp .gt 7, 3) := by decide +kernel
theorem d61_18 : decode mt61.2.1 18 = .ok (.iconst 1, 1) := by decide +kernel
theorem d61_19 : decode mt61.2.1 19 = .ok (.goto 4, 3) := by decide +kernel
theorem d61_22 : decode mt61.2.1 22 = .ok (.iconst 0, 1) := by decide +kernel
theorem d61_23 : decode mt61.2.1 23 = .ok (.ireturn, 1) := by decide +kernel
noncomputable def pg61_0 : List (Nat × aP) := [(0, oLdI 1 1),
  (1, oIf (fun x => x < 0) 22 4),
  (4, oLdI 2 5),
  (5, oIf (fun x => x < 0) 22 8),
  (8, oLdI 1 9),
  (9, oLdA 0 10),
  (10, oGetI (fun k => k = 6) 2 13),
  (13, oLdI 2 14),
  (14, oII (fun x y => x - y) 15),
  (15, oIc (fun x y => y < x) 22 18),
  (18, oPush (.int 1) 19),
  (19, oGo 23),
  (22, oPush (.int 0) 23),
  (23, oRetN .boolean)]
theorem ok61_0 : ∀ q ∈ pg61_0, Sim mT mt61 q.1 q.2 ∧ Grow q.2 :=
  List.forall_mem_cons.mpr ⟨⟨sim_iload_n d61_0 rfl, gr_LdI 1 1⟩,
  List.forall_mem_cons.mpr ⟨⟨sim_if_lt d61_1 (by decide), gr_If (fun x => x < 0) 22 4⟩,
  List.forall_mem_cons.mpr ⟨⟨sim_iload_n d61_4 rfl, gr_LdI 2 5⟩,
  List.forall_mem_cons.mpr ⟨⟨sim_if_lt d61_5 (by decide), gr_If (fun x => x < 0) 22 8⟩,
  List.forall_mem_cons.mpr ⟨⟨sim_iload_n d61_8 rfl, gr_LdI 1 9⟩,
  List.forall_mem_cons.mpr ⟨⟨sim_aload_n d61_9 rfl, gr_LdA 0 10⟩,
  List.forall_mem_cons.mpr ⟨⟨sim_getI d61_10 gf66, gr_GetI (fun k => k = 6) 2 13⟩,
  List.forall_mem_cons.mpr ⟨⟨sim_iload_n d61_13 rfl, gr_LdI 2 14⟩,
  List.forall_mem_cons.mpr ⟨⟨sim_isub d61_14, gr_II (fun x y => x - y) 15⟩,
  List.forall_mem_cons.mpr ⟨⟨sim_icmp_gt d61_15 (by decide), gr_Ic (fun x y => y < x) 22 18⟩,
  List.forall_mem_cons.mpr ⟨⟨sim_iconst d61_18 (by decide), gr_Push (.int 1) 19⟩,
  List.forall_mem_cons.mpr ⟨⟨sim_goto d61_19 (by decide), gr_Go 23⟩,
  List.forall_mem_cons.mpr ⟨⟨sim_iconst d61_22 (by decide), gr_Push (.int 0) 23⟩,
  List.forall_mem_cons.mpr ⟨⟨sim_nreturn d61_23 rfl (fun _ h => congrArg Value.int h), gr_RetN .boolean⟩, fun _ h => absurd h List.not_mem_nil⟩⟩⟩⟩⟩⟩⟩⟩⟩⟩⟩⟩⟩⟩
noncomputable def pg61 : List (Nat × aP) := pg61_0
theorem ok61 : ∀ q ∈ pg61, Sim mT mt61 q.1 q.2 ∧ Grow q.2 := ok61_0
theorem d62_0 : decode mt62.2.1 0 = .ok (.iload_n 2, 1) := by decide +kernel
theorem d62_1 : decode mt62.2.1 1 = .ok (.istore_n 3, 1) := by decide +kernel
theorem d62_2 : decode mt62.2.1 2 = .ok (.aload_n 0, 1) := by decide +kernel
theorem d62_3 : decode mt62.2.1 3 = .ok (.getfield 15, 3) := by decide +kernel
theorem d62_6 : decode mt62.2.1 6 = .ok (.ifCond .ne 9, 3) := by decide +kernel
theorem d62_9 : decode mt62.2.1 9 = .ok (.iload_n 2, 1) := by decide +kernel
theorem d62_10 : decode mt62.2.1 10 = .ok (.i2b, 1) := by decide +kernel
theorem d62_11 : decode mt62.2.1 11 = .ok (.istore_n 3, 1) := by decide +kernel
theorem d62_12 : decode mt62.2.1 12 = .ok (.goto 14, 3) := by decide +kernel
theorem d62_15 : decode mt62.2.1 15 = .ok (.aload_n 0, 1) := by decide +kernel
theorem d62_16 : decode mt62.2.1 16 = .ok (.getfield 15, 3) := by decide +kernel
theorem d62_19 : decode mt62.2.1 19 = .ok (.iconst 1, 1) := by decide +kernel
theorem d62_20 : decode mt62.2.1 20 = .ok (.if_icmp .ne 6, 3) := by decide +kernel
theorem d62_23 : decode mt62.2.1 23 = .ok (.iload_n 2, 1) := by decide +kernel
theorem d62_24 : decode mt62.2.1 24 = .ok (.i2s, 1) := by decide +kernel
theorem d62_25 : decode mt62.2.1 25 = .ok (.istore_n 3, 1) := by decide +kernel
theorem d62_26 : decode mt62.2.1 26 = .ok (.aload_n 0, 1) := by decide +kernel
theorem d62_27 : decode mt62.2.1 27 = .ok (.getfield 9, 3) := by decide +kernel
theorem d62_30 : decode mt62.2.1 30 = .ok (.iload_n 1, 1) := by decide +kernel
theorem d62_31 : decode mt62.2.1 31 = .ok (.iload_n 3, 1) := by decide +kernel
theorem d62_32 : decode mt62.2.1 32 = .ok (.iastore, 1) := by decide +kernel
theorem d62_33 : decode mt62.2.1 33 = .ok (.iload_n 3, 1) := by decide +kernel
theorem d62_34 : decode mt62.2.1 34 = .ok (.ireturn, 1) := by decide +kernel
noncomputable def pg62_0 : List (Nat × aP) := [(0, oLdI 2 1),
  (1, oStI 3 2),
  (2, oLdA 0 3),
  (3, oGetI (fun k => k = 6) 1 6),
  (6, oIf (fun x => ¬ x = 0) 15 9),
  (9, oLdI 2 10),
  (10, oI (fun x => x.toInt8.toInt32) 11),
  (11, oStI 3 12),
  (12, oGo 26),
  (15, oLdA 0 16),
  (16, oGetI (fun k => k = 6) 1 19),
  (19, oPush (.int 1) 20),
  (20, oIc (fun x y => ¬ x = y) 26 23),
  (23, oLdI 2 24),
  (24, oI (fun x => x.toInt16.toInt32) 25),
  (25, oStI 3 26),
  (26, oLdA 0 27),
  (27, oGetF (fun k => k = 6) 0 30),
  (30, oLdI 1 31),
  (31, oLdI 3 32),
  (32, oAStI 33),
  (33, oLdI 3 34),
  (34, oRetI)]
theorem ok62_0 : ∀ q ∈ pg62_0, Sim mT mt62 q.1 q.2 ∧ Grow q.2 :=
  List.forall_mem_cons.mpr ⟨⟨sim_iload_n d62_0 rfl, gr_LdI 2 1⟩,
  List.forall_mem_cons.mpr ⟨⟨sim_istore_n d62_1 rfl (by decide), gr_StI 3 2⟩,
  List.forall_mem_cons.mpr ⟨⟨sim_aload_n d62_2 rfl, gr_LdA 0 3⟩,
  List.forall_mem_cons.mpr ⟨⟨sim_getI d62_3 gf65, gr_GetI (fun k => k = 6) 1 6⟩,
  List.forall_mem_cons.mpr ⟨⟨sim_if_ne d62_6 (by decide), gr_If (fun x => ¬ x = 0) 15 9⟩,
  List.forall_mem_cons.mpr ⟨⟨sim_iload_n d62_9 rfl, gr_LdI 2 10⟩,
  List.forall_mem_cons.mpr ⟨⟨sim_i2b d62_10, gr_I (fun x => x.toInt8.toInt32) 11⟩,
  List.forall_mem_cons.mpr ⟨⟨sim_istore_n d62_11 rfl (by decide), gr_StI 3 12⟩,
  List.forall_mem_cons.mpr ⟨⟨sim_goto d62_12 (by decide), gr_Go 26⟩,
  List.forall_mem_cons.mpr ⟨⟨sim_aload_n d62_15 rfl, gr_LdA 0 16⟩,
  List.forall_mem_cons.mpr ⟨⟨sim_getI d62_16 gf65, gr_GetI (fun k => k = 6) 1 19⟩,
  List.forall_mem_cons.mpr ⟨⟨sim_iconst d62_19 (by decide), gr_Push (.int 1) 20⟩,
  List.forall_mem_cons.mpr ⟨⟨sim_icmp_ne d62_20 (by decide), gr_Ic (fun x y => ¬ x = y) 26 23⟩,
  List.forall_mem_cons.mpr ⟨⟨sim_iload_n d62_23 rfl, gr_LdI 2 24⟩,
  List.forall_mem_cons.mpr ⟨⟨sim_i2s d62_24, gr_I (fun x => x.toInt16.toInt32) 25⟩,
  List.forall_mem_cons.mpr ⟨⟨sim_istore_n d62_25 rfl (by decide), gr_StI 3 26⟩,
  List.forall_mem_cons.mpr ⟨⟨sim_aload_n d62_26 rfl, gr_LdA 0 27⟩,
  List.forall_mem_cons.mpr ⟨⟨sim_getF d62_27 gf67, gr_GetF (fun k => k = 6) 0 30⟩,
  List.forall_mem_cons.mpr ⟨⟨sim_iload_n d62_30 rfl, gr_LdI 1 31⟩,
  List.forall_mem_cons.mpr ⟨⟨sim_iload_n d62_31 rfl, gr_LdI 3 32⟩,
  List.forall_mem_cons.mpr ⟨⟨sim_iastore d62_32, gr_AStI 33⟩,
  List.forall_mem_cons.mpr ⟨⟨sim_iload_n d62_33 rfl, gr_LdI 3 34⟩,
  List.forall_mem_cons.mpr ⟨⟨sim_ireturn d62_34 rfl, gr_RetI⟩, fun _ h => absurd h List.not_mem_nil⟩⟩⟩⟩⟩⟩⟩⟩⟩⟩⟩⟩⟩⟩⟩⟩⟩⟩⟩⟩⟩⟩⟩
noncomputable def pg62 : List (Nat × aP) := pg62_0
theorem ok62 : ∀ q ∈ pg62, Sim mT mt62 q.1 q.2 ∧ Grow q.2 := ok62_0
theorem d63_0 : decode mt63.2.1 0 = .ok (.aload_n 0, 1) := by decide +kernel
theorem d63_1 : decode mt63.2.1 1 = .ok (.invokespecial 3, 3) := by decide +kernel
theorem d63_4 : decode mt63.2.1 4 = .ok (.aload_n 0, 1) := by decide +kernel
theorem d63_5 : decode mt63.2.1 5 = .ok (.sipush 300, 3) := by decide +kernel
theorem d63_8 : decode mt63.2.1 8 = .ok (.newarray .byte, 2) := by decide +kernel
theorem d63_10 : decode mt63.2.1 10 = .ok (.putfield 9, 3) := by decide +kernel
theorem d63_13 : decode mt63.2.1 13 = .ok (.return_, 1) := by decide +kernel
noncomputable def pg63_0 : List (Nat × aP) := [(0, oLdA 0 1),
  (1, oObj 4),
  (4, oLdA 0 5),
  (5, oPush (.int 300) 8),
  (8, oNewA (100 + 1) 10),
  (10, oPutF (fun k => k = 7) 0 13),
  (13, oRetV)]
theorem ok63_0 : ∀ q ∈ pg63_0, Sim mT mt63 q.1 q.2 ∧ Grow q.2 :=
  List.forall_mem_cons.mpr ⟨⟨sim_aload_n d63_0 rfl, gr_LdA 0 1⟩,
  List.forall_mem_cons.mpr ⟨⟨sim_obj d63_1 kw41 kw26 kw27, gr_Obj 4⟩,
  List.forall_mem_cons.mpr ⟨⟨sim_aload_n d63_4 rfl, gr_LdA 0 5⟩,
  List.forall_mem_cons.mpr ⟨⟨sim_sipush d63_5 (by decide), gr_Push (.int 300) 8⟩,
  List.forall_mem_cons.mpr ⟨⟨sim_newarray (t := 1) d63_8 kw63 (Or.inr (Or.inl ⟨rfl, rfl⟩)), gr_NewA (100 + 1) 10⟩,
  List.forall_mem_cons.mpr ⟨⟨sim_putF d63_10 gf68f rfl, gr_PutF (fun k => k = 7) 0 13⟩,
  List.forall_mem_cons.mpr ⟨⟨sim_return d63_13 rfl, gr_RetV⟩, fun _ h => absurd h List.not_mem_nil⟩⟩⟩⟩⟩⟩⟩
noncomputable def pg63 : List (Nat × aP) := pg63_0
theorem ok63 : ∀ q ∈ pg63, Sim mT mt63 q.1 q.2 ∧ Grow q.2 := ok63_0
theorem d64_0 : decode mt64.2.1 0 = .ok (.iload_n 3, 1) := by decide +kernel
theorem d64_1 : decode mt64.2.1 1 = .ok (.iconst 1, 1) := by decide +kernel
theorem d64_2 : decode mt64.2.1 2 = .ok (.isub, 1) := by decide +kernel
theorem d64_3 : decode mt64.2.1 3 = .ok (.istore 4, 2) := by decide +kernel
theorem d64_5 : decode mt64.2.1 5 = .ok (.iload 4, 2) := by decide +kernel
theorem d64_7 : decode mt64.2.1 7 = .ok (.ifCond .lt 47, 3) := by decide +kernel
theorem d64_10 : decode mt64.2.1 10 = .ok (.aload_n 0, 1) := by decide +kernel
theorem d64_11 : decode mt64.2.1 11 = .ok (.getfield 15, 3) := by decide +kernel
theorem d64_14 : decode mt64.2.1 14 = .ok (.sipush 300, 3) := by decide +kernel
theorem d64_17 : decode mt64.2.1 17 = .ok (.if_icmp .ge 37, 3) := by decide +kernel
theorem d64_20 : decode mt64.2.1 20 = .ok (.aload_n 0, 1) := by decide +kernel
theorem d64_21 : decode mt64.2.1 21 = .ok (.getfield 9, 3) := by decide +kernel
theorem d64_24 : decode mt64.2.1 24 = .ok (.aload_n 0, 1) := by decide +kernel
theorem d64_25 : decode mt64.2.1 25 = .ok (.getfield 15, 3) := by decide +kernel
theorem d64_28 : decode mt64.2.1 28 = .ok (.lload_n 1, 1) := by decide +kernel
theorem d64_29 : decode mt64.2.1 29 = .ok (.bipush 8, 2) := by decide +kernel
theorem d64_31 : decode mt64.2.1 31 = .ok (.iload 4, 2) := by decide +kernel
theorem d64_33 : decode mt64.2.1 33 = .ok (.imul, 1) := by decide +kernel
theorem d64_34 : decode mt64.2.1 34 = .ok (.lshr, 1) := by decide +kernel
theorem d64_35 : decode mt64.2.1 35 = .ok (.l2i, 1) := by decide +kernel
theorem d64_36 : decode mt64.2.1 36 = .ok (.i2b, 1) := by decide +kernel
theorem d64_37 : decode mt64.2.1 37 = .ok (.bastore, 1) := by decide +kernel
theorem d64_38 : decode mt64.2.1 38 = .ok (.aload_n 0, 1) := by decide +kernel
theorem d64_39 : decode mt64.2.1 39 = .ok (.dup, 1) := by decide +kernel
theorem d64_40 : decode mt64.2.1 40 = .ok (.getfield 15, 3) := by decide +kernel
theorem d64_43 : decode mt64.2.1 43 = .ok (.iconst 1, 1) := by decide +kernel
theorem d64_44 : decode mt64.2.1 44 = .ok (.iadd, 1) := by decide +kernel
theorem d64_45 : decode mt64.2.1 45 = .ok (.putfield 15, 3) := by decide +kernel
theorem d64_48 : decode mt64.2.1 48 = .ok (.iinc 4 (-1), 3) := by decide +kernel
theorem d64_51 : decode mt64.2.1 51 = .ok (.goto (-46), 3) := by decide +kernel
theorem d64_54 : decode mt64.2.1 54 = .ok (.return_, 1) := by decide +kernel
noncomputable def pg64_0 : List (Nat × aP) := [(0, oLdI 3 1),
  (1, oPush (.int 1) 2),
  (2, oII (fun x y => x - y) 3),
  (3, oStI 4 5),
  (5, oLdI 4 7),
  (7, oIf (fun x => x < 0) 54 10),
  (10, oLdA 0 11),
  (11, oGetI (fun k => k = 7) 1 14),
  (14, oPush (.int 300) 17),
  (17, oIc (fun x y => y ≤ x) 54 20),
  (20, oLdA 0 21),
  (21, oGetF (fun k => k = 7) 0 24),
  (24, oLdA 0 25),
  (25, oGetI (fun k => k = 7) 1 28),
  (28, oLdL 1 29),
  (29, oPush (.int 8) 31),
  (31, oLdI 4 33),
  (33, oII (fun x y => x * y) 34),
  (34, oLSh (fun x y => x >>> (y.toInt64 &&& 63)) 35),
  (35, oLI (fun x => x.toInt32) 36),
  (36, oI (fun x => x.toInt8.toInt32) 37),
  (37, oAStB 38),
  (38, oLdA 0 39),
  (39, oDup 40),
  (40, oGetI (fun k => k = 7) 1 43),
  (43, oPush (.int 1) 44),
  (44, oII (fun x y => x + y) 45),
  (45, oPutI (fun k => k = 7) 1 48),
  (48, oInc 4 (-1) 51),
  (51, oGo 5),
  (54, oRetV)]
theorem ok64_0 : ∀ q ∈ pg64_0, Sim mT mt64 q.1 q.2 ∧ Grow q.2 :=
  List.forall_mem_cons.mpr ⟨⟨sim_iload_n d64_0 rfl, gr_LdI 3 1⟩,
  List.forall_mem_cons.mpr ⟨⟨sim_iconst d64_1 (by decide), gr_Push (.int 1) 2⟩,
  List.forall_mem_cons.mpr ⟨⟨sim_isub d64_2, gr_II (fun x y => x - y) 3⟩,
  List.forall_mem_cons.mpr ⟨⟨sim_istore d64_3 (by decide), gr_StI 4 5⟩,
  List.forall_mem_cons.mpr ⟨⟨sim_iload d64_5, gr_LdI 4 7⟩,
  List.forall_mem_cons.mpr ⟨⟨sim_if_lt d64_7 (by decide), gr_If (fun x => x < 0) 54 10⟩,
  List.forall_mem_cons.mpr ⟨⟨sim_aload_n d64_10 rfl, gr_LdA 0 11⟩,
  List.forall_mem_cons.mpr ⟨⟨sim_getI d64_11 gf69, gr_GetI (fun k => k = 7) 1 14⟩,
  List.forall_mem_cons.mpr ⟨⟨sim_sipush d64_14 (by decide), gr_Push (.int 300) 17⟩,
  List.forall_mem_cons.mpr ⟨⟨sim_icmp_ge d64_17 (by decide), gr_Ic (fun x y => y ≤ x) 54 20⟩,
  List.forall_mem_cons.mpr ⟨⟨sim_aload_n d64_20 rfl, gr_LdA 0 21⟩,
  List.forall_mem_cons.mpr ⟨⟨sim_getF d64_21 gf70, gr_GetF (fun k => k = 7) 0 24⟩,
  List.forall_mem_cons.mpr ⟨⟨sim_aload_n d64_24 rfl, gr_LdA 0 25⟩,
  List.forall_mem_cons.mpr ⟨⟨sim_getI d64_25 gf69, gr_GetI (fun k => k = 7) 1 28⟩,
  List.forall_mem_cons.mpr ⟨⟨sim_lload_n d64_28 rfl, gr_LdL 1 29⟩,
  List.forall_mem_cons.mpr ⟨⟨sim_bipush d64_29 (by decide), gr_Push (.int 8) 31⟩,
  List.forall_mem_cons.mpr ⟨⟨sim_iload d64_31, gr_LdI 4 33⟩,
  List.forall_mem_cons.mpr ⟨⟨sim_imul d64_33, gr_II (fun x y => x * y) 34⟩,
  List.forall_mem_cons.mpr ⟨⟨sim_lshr d64_34, gr_LSh (fun x y => x >>> (y.toInt64 &&& 63)) 35⟩,
  List.forall_mem_cons.mpr ⟨⟨sim_l2i d64_35, gr_LI (fun x => x.toInt32) 36⟩,
  List.forall_mem_cons.mpr ⟨⟨sim_i2b d64_36, gr_I (fun x => x.toInt8.toInt32) 37⟩,
  List.forall_mem_cons.mpr ⟨⟨sim_bastore d64_37, gr_AStB 38⟩,
  List.forall_mem_cons.mpr ⟨⟨sim_aload_n d64_38 rfl, gr_LdA 0 39⟩,
  List.forall_mem_cons.mpr ⟨⟨sim_dup d64_39, gr_Dup 40⟩,
  List.forall_mem_cons.mpr ⟨⟨sim_getI d64_40 gf69, gr_GetI (fun k => k = 7) 1 43⟩,
  List.forall_mem_cons.mpr ⟨⟨sim_iconst d64_43 (by decide), gr_Push (.int 1) 44⟩,
  List.forall_mem_cons.mpr ⟨⟨sim_iadd d64_44, gr_II (fun x y => x + y) 45⟩,
  List.forall_mem_cons.mpr ⟨⟨sim_putI d64_45 gf69w, gr_PutI (fun k => k = 7) 1 48⟩,
  List.forall_mem_cons.mpr ⟨⟨sim_iinc d64_48 (by decide) (by decide), gr_Inc 4 (-1) 51⟩,
  List.forall_mem_cons.mpr ⟨⟨sim_goto d64_51 (by decide), gr_Go 5⟩,
  List.forall_mem_cons.mpr ⟨⟨sim_return d64_54 rfl, gr_RetV⟩, fun _ h => absurd h List.not_mem_nil⟩⟩⟩⟩⟩⟩⟩⟩⟩⟩⟩⟩⟩⟩⟩⟩⟩⟩⟩⟩⟩⟩⟩⟩⟩⟩⟩⟩⟩⟩⟩
noncomputable def pg64 : List (Nat × aP) := pg64_0
theorem ok64 : ∀ q ∈ pg64, Sim mT mt64 q.1 q.2 ∧ Grow q.2 := ok64_0
theorem d65_0 : decode mt65.2.1 0 = .ok (.aload_n 0, 1) := by decide +kernel
theorem d65_1 : decode mt65.2.1 1 = .ok (.iconst 0, 1) := by decide +kernel
theorem d65_2 : decode mt65.2.1 2 = .ok (.putfield 19, 3) := by decide +kernel
theorem d65_5 : decode mt65.2.1 5 = .ok (.aload_n 0, 1) := by decide +kernel
theorem d65_6 : decode mt65.2.1 6 = .ok (.invokevirtual 22, 3) := by decide +kernel
theorem d65_9 : decode mt65.2.1 9 = .ok (.return_, 1) := by decide +kernel
noncomputable def pg65_0 : List (Nat × aP) := [(0, oLdA 0 1),
  (1, oPush (.int 0) 2),
  (2, oPutI (fun k => k = 7) 4 5),
  (5, oLdA 0 6),
  (6, oCalV (fun k => if k = 7 then some 66 else none) 0 9),
  (9, oRetV)]
theorem ok65_0 : ∀ q ∈ pg65_0, Sim mT mt65 q.1 q.2 ∧ Grow q.2 :=
  List.forall_mem_cons.mpr ⟨⟨sim_aload_n d65_0 rfl, gr_LdA 0 1⟩,
  List.forall_mem_cons.mpr ⟨⟨sim_iconst d65_1 (by decide), gr_Push (.int 0) 2⟩,
  List.forall_mem_cons.mpr ⟨⟨sim_putI d65_2 gf71w, gr_PutI (fun k => k = 7) 4 5⟩,
  List.forall_mem_cons.mpr ⟨⟨sim_aload_n d65_5 rfl, gr_LdA 0 6⟩,
  List.forall_mem_cons.mpr ⟨⟨sim_virtual d65_6 vk43, gr_CalV (fun k => if k = 7 then some 66 else none) 0 9⟩,
  List.forall_mem_cons.mpr ⟨⟨sim_return d65_9 rfl, gr_RetV⟩, fun _ h => absurd h List.not_mem_nil⟩⟩⟩⟩⟩⟩
noncomputable def pg65 : List (Nat × aP) := pg65_0
theorem ok65 : ∀ q ∈ pg65, Sim mT mt65 q.1 q.2 ∧ Grow q.2 := ok65_0
theorem d66_0 : decode mt66.2.1 0 = .ok (.aload_n 0, 1) := by decide +kernel
theorem d66_1 : decode mt66.2.1 1 = .ok (.aload_n 0, 1) := by decide +kernel
theorem d66_2 : decode mt66.2.1 2 = .ok (.getfield 19, 3) := by decide +kernel
theorem d66_5 : decode mt66.2.1 5 = .ok (.putfield 25, 3) := by decide +kernel
theorem d66_8 : decode mt66.2.1 8 = .ok (.aload_n 0, 1) := by decide +kernel
theorem d66_9 : decode mt66.2.1 9 = .ok (.getfield 25, 3) := by decide +kernel
theorem d66_12 : decode mt66.2.1 12 = .ok (.aload_n 0, 1) := by decide +kernel
theorem d66_13 : decode mt66.2.1 13 = .ok (.getfield 15, 3) := by decide +kernel
theorem d66_16 : decode mt66.2.1 16 = .ok (.if_icmp .ge 44, 3) := by decide +kernel
theorem d66_19 : decode mt66.2.1 19 = .ok (.aload_n 0, 1) := by decide +kernel
theorem d66_20 : decode mt66.2.1 20 = .ok (.getfield 9, 3) := by decide +kernel
theorem d66_23 : decode mt66.2.1 23 = .ok (.aload_n 0, 1) := by decide +kernel
theorem d66_24 : decode mt66.2.1 24 = .ok (.getfield 25, 3) := by decide +kernel
theorem d66_27 : decode mt66.2.1 27 = .ok (.baload, 1) := by decide +kernel
theorem d66_28 : decode mt66.2.1 28 = .ok (.bipush 32, 2) := by decide +kernel
theorem d66_30 : decode mt66.2.1 30 = .ok (.if_icmp .eq 17, 3) := by decide +kernel
theorem d66_33 : decode mt66.2.1 33 = .ok (.aload_n 0, 1) := by decide +kernel
theorem d66_34 : decode mt66.2.1 34 = .ok (.getfield 9, 3) := by decide +kernel
theorem d66_37 : decode mt66.2.1 37 = .ok (.aload_n 0, 1) := by decide +kernel
theorem d66_38 : decode mt66.2.1 38 = .ok (.getfield 25, 3) := by decide +kernel
theorem d66_41 : decode mt66.2.1 41 = .ok (.baload, 1) := by decide +kernel
theorem d66_42 : decode mt66.2.1 42 = .ok (.bipush 10, 2) := by decide +kernel
theorem d66_44 : decode mt66.2.1 44 = .ok (.if_icmp .ne 16, 3) := by decide +kernel
theorem d66_47 : decode mt66.2.1 47 = .ok (.aload_n 0, 1) := by decide +kernel
theorem d66_48 : decode mt66.2.1 48 = .ok (.dup, 1) := by decide +kernel
theorem d66_49 : decode mt66.2.1 49 = .ok (.getfield 25, 3) := by decide +kernel
theorem d66_52 : decode mt66.2.1 52 = .ok (.iconst 1, 1) := by decide +kernel
theorem d66_53 : decode mt66.2.1 53 = .ok (.iadd, 1) := by decide +kernel
theorem d66_54 : decode mt66.2.1 54 = .ok (.putfield 25, 3) := by decide +kernel
theorem d66_57 : decode mt66.2.1 57 = .ok (.goto (-49), 3) := by decide +kernel
theorem d66_60 : decode mt66.2.1 60 = .ok (.aload_n 0, 1) := by decide +kernel
theorem d66_61 : decode mt66.2.1 61 = .ok (.getfield 25, 3) := by decide +kernel
theorem d66_64 : decode mt66.2.1 64 = .ok (.aload_n 0, 1) := by decide +kernel
theorem d66_65 : decode mt66.2.1 65 = .ok (.getfield 15, 3) := by decide +kernel
theorem d66_68 : decode mt66.2.1 68 = .ok (.if_icmp .lt 17, 3) := by decide +kernel
theorem d66_71 : decode mt66.2.1 71 = .ok (.aload_n 0, 1) := by decide +kernel
theorem d66_72 : decode mt66.2.1 72 = .ok (.iconst 0, 1) := by decide +kernel
theorem d66_73 : decode mt66.2.1 73 = .ok (.putfield 28, 3) := by decide +kernel
theorem d66_76 : decode mt66.2.1 76 = .ok (.aload_n 0, 1) := by decide +kernel
theorem d66_77 : decode mt66.2.1 77 = .ok (.aload_n 0, 1) := by decide +kernel
theorem d66_78 : decode mt66.2.1 78 = .ok (.getfield 25, 3) := by decide +kernel
theorem d66_81 : decode mt66.2.1 81 = .ok (.putfield 19, 3) := by decide +kernel
theorem d66_84 : decode mt66.2.1 84 = .ok (.return_, 1) := by decide +kernel
theorem d66_85 : decode mt66.2.1 85 = .ok (.aload_n 0, 1) := by decide +kernel
theorem d66_86 : decode mt66.2.1 86 = .ok (.aload_n 0, 1) := by decide +kernel
theorem d66_87 : decode mt66.2.1 87 = .ok (.getfield 9, 3) := by decide +kernel
theorem d66_90 : decode mt66.2.1 90 = .ok (.aload_n 0, 1) := by decide +kernel
theorem d66_91 : decode mt66.2.1 91 = .ok (.getfield 25, 3) := by decide +kernel
theorem d66_94 : decode mt66.2.1 94 = .ok (.baload, 1) := by decide +kernel
theorem d66_95 : decode mt66.2.1 95 = .ok (.invokestatic 31, 3) := by decide +kernel
theorem d66_98 : decode mt66.2.1 98 = .ok (.putfield 28, 3) := by decide +kernel
theorem d66_101 : decode mt66.2.1 101 = .ok (.aload_n 0, 1) := by decide +kernel
theorem d66_102 : decode mt66.2.1 102 = .ok (.aload_n 0, 1) := by decide +kernel
theorem d66_103 : decode mt66.2.1 103 = .ok (.getfield 25, 3) := by decide +kernel
theorem d66_106 : decode mt66.2.1 106 = .ok (.iconst 1, 1) := by decide +kernel
theorem d66_107 : decode mt66.2.1 107 = .ok (.iadd, 1) := by decide +kernel
theorem d66_108 : decode mt66.2.1 108 = .ok (.putfield 19, 3) := by decide +kernel
theorem d66_111 : decode mt66.2.1 111 = .ok (.aload_n 0, 1) := by decide +kernel
theorem d66_112 : decode mt66.2.1 112 = .ok (.getfield 28, 3) := by decide +kernel
theorem d66_115 : decode mt66.2.1 115 = .ok (.iconst 1, 1) := by decide +kernel
theorem d66_116 : decode mt66.2.1 116 = .ok (.if_icmp .eq 11, 3) := by decide +kernel
theorem d66_119 : decode mt66.2.1 119 = .ok (.aload_n 0, 1) := by decide +kernel
theorem d66_120 : decode mt66.2.1 120 = .ok (.getfield 28, 3) := by decide +kernel
theorem d66_123 : decode mt66.2.1 123 = .ok (.iconst 2, 1) := by decide +kernel
theorem d66_124 : decode mt66.2.1 124 = .ok (.if_icmp .ne 7, 3) := by decide +kernel
theorem d66_127 : decode mt66.2.1 127 = .ok (.iconst 1, 1) := by decide +kernel
theorem d66_128 : decode mt66.2.1 128 = .ok (.goto 4, 3) := by decide +kernel
theorem d66_131 : decode mt66.2.1 131 = .ok (.iconst 0, 1) := by decide +kernel
theorem d66_132 : decode mt66.2.1 132 = .ok (.istore_n 1, 1) := by decide +kernel
theorem d66_133 : decode mt66.2.1 133 = .ok (.iload_n 1, 1) := by decide +kernel
theorem d66_134 : decode mt66.2.1 134 = .ok (.ifCond .eq 46, 3) := by decide +kernel
theorem d66_137 : decode mt66.2.1 137 = .ok (.aload_n 0, 1) := by decide +kernel
theorem d66_138 : decode mt66.2.1 138 = .ok (.getfield 19, 3) := by decide +kernel
theorem d66_141 : decode mt66.2.1 141 = .ok (.aload_n 0, 1) := by decide +kernel
theorem d66_142 : decode mt66.2.1 142 = .ok (.getfield 15, 3) := by decide +kernel
theorem d66_145 : decode mt66.2.1 145 = .ok (.if_icmp .ge 35, 3) := by decide +kernel
theorem d66_148 : decode mt66.2.1 148 = .ok (.aload_n 0, 1) := by decide +kernel
theorem d66_149 : decode mt66.2.1 149 = .ok (.getfield 9, 3) := by decide +kernel
theorem d66_152 : decode mt66.2.1 152 = .ok (.aload_n 0, 1) := by decide +kernel
theorem d66_153 : decode mt66.2.1 153 = .ok (.getfield 19, 3) := by decide +kernel
theorem d66_156 : decode mt66.2.1 156 = .ok (.baload, 1) := by decide +kernel
theorem d66_157 : decode mt66.2.1 157 = .ok (.invokestatic 31, 3) := by decide +kernel
theorem d66_160 : decode mt66.2.1 160 = .ok (.aload_n 0, 1) := by decide +kernel
theorem d66_161 : decode mt66.2.1 161 = .ok (.getfield 28, 3) := by decide +kernel
theorem d66_164 : decode mt66.2.1 164 = .ok (.if_icmp .ne 16, 3) := by decide +kernel
theorem d66_167 : decode mt66.2.1 167 = .ok (.aload_n 0, 1) := by decide +kernel
theorem d66_168 : decode mt66.2.1 168 = .ok (.dup, 1) := by decide +kernel
theorem d66_169 : decode mt66.2.1 169 = .ok (.getfield 19, 3) := by decide +kernel
theorem d66_172 : decode mt66.2.1 172 = .ok (.iconst 1, 1) := by decide +kernel
theorem d66_173 : decode mt66.2.1 173 = .ok (.iadd, 1) := by decide +kernel
theorem d66_174 : decode mt66.2.1 174 = .ok (.putfield 19, 3) := by decide +kernel
theorem d66_177 : decode mt66.2.1 177 = .ok (.goto (-44), 3) := by decide +kernel
theorem d66_180 : decode mt66.2.1 180 = .ok (.aload_n 0, 1) := by decide +kernel
theorem d66_181 : decode mt66.2.1 181 = .ok (.getfield 28, 3) := by decide +kernel
theorem d66_184 : decode mt66.2.1 184 = .ok (.iconst 2, 1) := by decide +kernel
theorem d66_185 : decode mt66.2.1 185 = .ok (.if_icmp .ne 21, 3) := by decide +kernel
theorem d66_188 : decode mt66.2.1 188 = .ok (.aload_n 0, 1) := by decide +kernel
theorem d66_189 : decode mt66.2.1 189 = .ok (.getfield 19, 3) := by decide +kernel
theorem d66_192 : decode mt66.2.1 192 = .ok (.aload_n 0, 1) := by decide +kernel
theorem d66_193 : decode mt66.2.1 193 = .ok (.getfield 25, 3) := by decide +kernel
theorem d66_196 : decode mt66.2.1 196 = .ok (.isub, 1) := by decide +kernel
theorem d66_197 : decode mt66.2.1 197 = .ok (.iconst 3, 1) := by decide +kernel
theorem d66_198 : decode mt66.2.1 198 = .ok (.if_icmp .le 8, 3) := by decide +kernel
theorem d66_201 : decode mt66.2.1 201 = .ok (.aload_n 0, 1) := by decide +kernel
theorem d66_202 : decode mt66.2.1 202 = .ok (.iconst 4, 1) := by decide +kernel
theorem d66_203 : decode mt66.2.1 203 = .ok (.putfield 28, 3) := by decide +kernel
theorem d66_206 : decode mt66.2.1 206 = .ok (.return_, 1) := by decide +kernel
noncomputable def pg66_0 : List (Nat × aP) := [(0, oLdA 0 1),
  (1, oLdA 0 2),
  (2, oGetI (fun k => k = 7) 4 5),
  (5, oPutI (fun k => k = 7) 3 8),
  (8, oLdA 0 9),
  (9, oGetI (fun k => k = 7) 3 12),
  (12, oLdA 0 13),
  (13, oGetI (fun k => k = 7) 1 16),
  (16, oIc (fun x y => y ≤ x) 60 19),
  (19, oLdA 0 20),
  (20, oGetF (fun k => k = 7) 0 23),
  (23, oLdA 0 24),
  (24, oGetI (fun k => k = 7) 3 27),
  (27, oALdB 28),
  (28, oPush (.int 32) 30),
  (30, oIc (fun x y => x = y) 47 33),
  (33, oLdA 0 34),
  (34, oGetF (fun k => k = 7) 0 37),
  (37, oLdA 0 38),
  (38, oGetI (fun k => k = 7) 3 41),
  (41, oALdB 42),
  (42, oPush (.int 10) 44),
  (44, oIc (fun x y => ¬ x = y) 60 47),
  (47, oLdA 0 48),
  (48, oDup 49),
  (49, oGetI (fun k => k = 7) 3 52),
  (52, oPush (.int 1) 53),
  (53, oII (fun x y => x + y) 54),
  (54, oPutI (fun k => k = 7) 3 57),
  (57, oGo 8),
  (60, oLdA 0 61),
  (61, oGetI (fun k => k = 7) 3 64),
  (64, oLdA 0 65),
  (65, oGetI (fun k => k = 7) 1 68),
  (68, oIc (fun x y => x < y) 85 71),
  (71, oLdA 0 72),
  (72, oPush (.int 0) 73),
  (73, oPutI (fun k => k = 7) 2 76),
  (76, oLdA 0 77),
  (77, oLdA 0 78)]
theorem ok66_0 : ∀ q ∈ pg66_0, Sim mT mt66 q.1 q.2 ∧ Grow q.2 :=
  List.forall_mem_cons.mpr ⟨⟨sim_aload_n d66_0 rfl, gr_LdA 0 1⟩,
  List.forall_mem_cons.mpr ⟨⟨sim_aload_n d66_1 rfl, gr_LdA 0 2⟩,
  List.forall_mem_cons.mpr ⟨⟨sim_getI d66_2 gf71, gr_GetI (fun k => k = 7) 4 5⟩,
  List.forall_mem_cons.mpr ⟨⟨sim_putI d66_5 gf72w, gr_PutI (fun k => k = 7) 3 8⟩,
  List.forall_mem_cons.mpr ⟨⟨sim_aload_n d66_8 rfl, gr_LdA 0 9⟩,
  List.forall_mem_cons.mpr ⟨⟨sim_getI d66_9 gf72, gr_GetI (fun k => k = 7) 3 12⟩,
  List.forall_mem_cons.mpr ⟨⟨sim_aload_n d66_12 rfl, gr_LdA 0 13⟩,
  List.forall_mem_cons.mpr ⟨⟨sim_getI d66_13 gf69, gr_GetI (fun k => k = 7) 1 16⟩,
  List.forall_mem_cons.mpr ⟨⟨sim_icmp_ge d66_16 (by decide), gr_Ic (fun x y => y ≤ x) 60 19⟩,
  List.forall_mem_cons.mpr ⟨⟨sim_aload_n d66_19 rfl, gr_LdA 0 20⟩,
  List.forall_mem_cons.mpr ⟨⟨sim_getF d66_20 gf70, gr_GetF (fun k => k = 7) 0 23⟩,
  List.forall_mem_cons.mpr ⟨⟨sim_aload_n d66_23 rfl, gr_LdA 0 24⟩,
  List.forall_mem_cons.mpr ⟨⟨sim_getI d66_24 gf72, gr_GetI (fun k => k = 7) 3 27⟩,
  List.forall_mem_cons.mpr ⟨⟨sim_baload d66_27, gr_ALdB 28⟩,
  List.forall_mem_cons.mpr ⟨⟨sim_bipush d66_28 (by decide), gr_Push (.int 32) 30⟩,
  List.forall_mem_cons.mpr ⟨⟨sim_icmp_eq d66_30 (by decide), gr_Ic (fun x y => x = y) 47 33⟩,
  List.forall_mem_cons.mpr ⟨⟨sim_aload_n d66_33 rfl, gr_LdA 0 34⟩,
  List.forall_mem_cons.mpr ⟨⟨sim_getF d66_34 gf70, gr_GetF (fun k => k = 7) 0 37⟩,
  List.forall_mem_cons.mpr ⟨⟨sim_aload_n d66_37 rfl, gr_LdA 0 38⟩,
  List.forall_mem_cons.mpr ⟨⟨sim_getI d66_38 gf72, gr_GetI (fun k => k = 7) 3 41⟩,
  List.forall_mem_cons.mpr ⟨⟨sim_baload d66_41, gr_ALdB 42⟩,
  List.forall_mem_cons.mpr ⟨⟨sim_bipush d66_42 (by decide), gr_Push (.int 10) 44⟩,
  List.forall_mem_cons.mpr ⟨⟨sim_icmp_ne d66_44 (by decide), gr_Ic (fun x y => ¬ x = y) 60 47⟩,
  List.forall_mem_cons.mpr ⟨⟨sim_aload_n d66_47 rfl, gr_LdA 0 48⟩,
  List.forall_mem_cons.mpr ⟨⟨sim_dup d66_48, gr_Dup 49⟩,
  List.forall_mem_cons.mpr ⟨⟨sim_getI d66_49 gf72, gr_GetI (fun k => k = 7) 3 52⟩,
  List.forall_mem_cons.mpr ⟨⟨sim_iconst d66_52 (by decide), gr_Push (.int 1) 53⟩,
  List.forall_mem_cons.mpr ⟨⟨sim_iadd d66_53, gr_II (fun x y => x + y) 54⟩,
  List.forall_mem_cons.mpr ⟨⟨sim_putI d66_54 gf72w, gr_PutI (fun k => k = 7) 3 57⟩,
  List.forall_mem_cons.mpr ⟨⟨sim_goto d66_57 (by decide), gr_Go 8⟩,
  List.forall_mem_cons.mpr ⟨⟨sim_aload_n d66_60 rfl, gr_LdA 0 61⟩,
  List.forall_mem_cons.mpr ⟨⟨sim_getI d66_61 gf72, gr_GetI (fun k => k = 7) 3 64⟩,
  List.forall_mem_cons.mpr ⟨⟨sim_aload_n d66_64 rfl, gr_LdA 0 65⟩,
  List.forall_mem_cons.mpr ⟨⟨sim_getI d66_65 gf69, gr_GetI (fun k => k = 7) 1 68⟩,
  List.forall_mem_cons.mpr ⟨⟨sim_icmp_lt d66_68 (by decide), gr_Ic (fun x y => x < y) 85 71⟩,
  List.forall_mem_cons.mpr ⟨⟨sim_aload_n d66_71 rfl, gr_LdA 0 72⟩,
  List.forall_mem_cons.mpr ⟨⟨sim_iconst d66_72 (by decide), gr_Push (.int 0) 73⟩,
  List.forall_mem_cons.mpr ⟨⟨sim_putI d66_73 gf73w, gr_PutI (fun k => k = 7) 2 76⟩,
  List.forall_mem_cons.mpr ⟨⟨sim_aload_n d66_76 rfl, gr_LdA 0 77⟩,
  List.forall_mem_cons.mpr ⟨⟨sim_aload_n d66_77 rfl, gr_LdA 0 78⟩, fun _ h => absurd h List.not_mem_nil⟩⟩⟩⟩⟩⟩⟩⟩⟩⟩⟩⟩⟩⟩⟩⟩⟩⟩⟩⟩⟩⟩⟩⟩⟩⟩⟩⟩⟩⟩⟩⟩⟩⟩⟩⟩⟩⟩⟩⟩
noncomputable def pg66_1 : List (Nat × aP) := [(78, oGetI (fun k => k = 7) 3 81),
  (81, oPutI (fun k => k = 7) 4 84),
  (84, oRetV),
  (85, oLdA 0 86),
  (86, oLdA 0 87),
  (87, oGetF (fun k => k = 7) 0 90),
  (90, oLdA 0 91),
  (91, oGetI (fun k => k = 7) 3 94),
  (94, oALdB 95),
  (95, oCall 69 1 98),
  (98, oPutI (fun k => k = 7) 2 101),
  (101, oLdA 0 102),
  (102, oLdA 0 103),
  (103, oGetI (fun k => k = 7) 3 106),
  (106, oPush (.int 1) 107),
  (107, oII (fun x y => x + y) 108),
  (108, oPutI (fun k => k = 7) 4 111),
  (111, oLdA 0 112),
  (112, oGetI (fun k => k = 7) 2 115),
  (115, oPush (.int 1) 116),
  (116, oIc (fun x y => x = y) 127 119),
  (119, oLdA 0 120),
  (120, oGetI (fun k => k = 7) 2 123),
  (123, oPush (.int 2) 124),
  (124, oIc (fun x y => ¬ x = y) 131 127),
  (127, oPush (.int 1) 128),
  (128, oGo 132),
  (131, oPush (.int 0) 132),
  (132, oStI 1 133),
  (133, oLdI 1 134),
  (134, oIf (fun x => x = 0) 180 137),
  (137, oLdA 0 138),
  (138, oGetI (fun k => k = 7) 4 141),
  (141, oLdA 0 142),
  (142, oGetI (fun k => k = 7) 1 145),
  (145, oIc (fun x y => y ≤ x) 180 148),
  (148, oLdA 0 149),
  (149, oGetF (fun k => k = 7) 0 152),
  (152, oLdA 0 153),
  (153, oGetI (fun k => k = 7) 4 156)]
theorem ok66_1 : ∀ q ∈ pg66_1, Sim mT mt66 q.1 q.2 ∧ Grow q.2 :=
  List.forall_mem_cons.mpr ⟨⟨sim_getI d66_78 gf72, gr_GetI (fun k => k = 7) 3 81⟩,
  List.forall_mem_cons.mpr ⟨⟨sim_putI d66_81 gf71w, gr_PutI (fun k => k = 7) 4 84⟩,
  List.forall_mem_cons.mpr ⟨⟨sim_return d66_84 rfl, gr_RetV⟩,
  List.forall_mem_cons.mpr ⟨⟨sim_aload_n d66_85 rfl, gr_LdA 0 86⟩,
  List.forall_mem_cons.mpr ⟨⟨sim_aload_n d66_86 rfl, gr_LdA 0 87⟩,
  List.forall_mem_cons.mpr ⟨⟨sim_getF d66_87 gf70, gr_GetF (fun k => k = 7) 0 90⟩,
  List.forall_mem_cons.mpr ⟨⟨sim_aload_n d66_90 rfl, gr_LdA 0 91⟩,
  List.forall_mem_cons.mpr ⟨⟨sim_getI d66_91 gf72, gr_GetI (fun k => k = 7) 3 94⟩,
  List.forall_mem_cons.mpr ⟨⟨sim_baload d66_94, gr_ALdB 95⟩,
  List.forall_mem_cons.mpr ⟨⟨sim_static (y := 69) d66_95 (Or.inl kw422) kw423 mo69, gr_Call 69 1 98⟩,
  List.forall_mem_cons.mpr ⟨⟨sim_putI d66_98 gf73w, gr_PutI (fun k => k = 7) 2 101⟩,
  List.forall_mem_cons.mpr ⟨⟨sim_aload_n d66_101 rfl, gr_LdA 0 102⟩,
  List.forall_mem_cons.mpr ⟨⟨sim_aload_n d66_102 rfl, gr_LdA 0 103⟩,
  List.forall_mem_cons.mpr ⟨⟨sim_getI d66_103 gf72, gr_GetI (fun k => k = 7) 3 106⟩,
  List.forall_mem_cons.mpr ⟨⟨sim_iconst d66_106 (by decide), gr_Push (.int 1) 107⟩,
  List.forall_mem_cons.mpr ⟨⟨sim_iadd d66_107, gr_II (fun x y => x + y) 108⟩,
  List.forall_mem_cons.mpr ⟨⟨sim_putI d66_108 gf71w, gr_PutI (fun k => k = 7) 4 111⟩,
  List.forall_mem_cons.mpr ⟨⟨sim_aload_n d66_111 rfl, gr_LdA 0 112⟩,
  List.forall_mem_cons.mpr ⟨⟨sim_getI d66_112 gf73, gr_GetI (fun k => k = 7) 2 115⟩,
  List.forall_mem_cons.mpr ⟨⟨sim_iconst d66_115 (by decide), gr_Push (.int 1) 116⟩,
  List.forall_mem_cons.mpr ⟨⟨sim_icmp_eq d66_116 (by decide), gr_Ic (fun x y => x = y) 127 119⟩,
  List.forall_mem_cons.mpr ⟨⟨sim_aload_n d66_119 rfl, gr_LdA 0 120⟩,
  List.forall_mem_cons.mpr ⟨⟨sim_getI d66_120 gf73, gr_GetI (fun k => k = 7) 2 123⟩,
  List.forall_mem_cons.mpr ⟨⟨sim_iconst d66_123 (by decide), gr_Push (.int 2) 124⟩,
  List.forall_mem_cons.mpr ⟨⟨sim_icmp_ne d66_124 (by decide), gr_Ic (fun x y => ¬ x = y) 131 127⟩,
  List.forall_mem_cons.mpr ⟨⟨sim_iconst d66_127 (by decide), gr_Push (.int 1) 128⟩,
  List.forall_mem_cons.mpr ⟨⟨sim_goto d66_128 (by decide), gr_Go 132⟩,
  List.forall_mem_cons.mpr ⟨⟨sim_iconst d66_131 (by decide), gr_Push (.int 0) 132⟩,
  List.forall_mem_cons.mpr ⟨⟨sim_istore_n d66_132 rfl (by decide), gr_StI 1 133⟩,
  List.forall_mem_cons.mpr ⟨⟨sim_iload_n d66_133 rfl, gr_LdI 1 134⟩,
  List.forall_mem_cons.mpr ⟨⟨sim_if_eq d66_134 (by decide), gr_If (fun x => x = 0) 180 137⟩,
  List.forall_mem_cons.mpr ⟨⟨sim_aload_n d66_137 rfl, gr_LdA 0 138⟩,
  List.forall_mem_cons.mpr ⟨⟨sim_getI d66_138 gf71, gr_GetI (fun k => k = 7) 4 141⟩,
  List.forall_mem_cons.mpr ⟨⟨sim_aload_n d66_141 rfl, gr_LdA 0 142⟩,
  List.forall_mem_cons.mpr ⟨⟨sim_getI d66_142 gf69, gr_GetI (fun k => k = 7) 1 145⟩,
  List.forall_mem_cons.mpr ⟨⟨sim_icmp_ge d66_145 (by decide), gr_Ic (fun x y => y ≤ x) 180 148⟩,
  List.forall_mem_cons.mpr ⟨⟨sim_aload_n d66_148 rfl, gr_LdA 0 149⟩,
  List.forall_mem_cons.mpr ⟨⟨sim_getF d66_149 gf70, gr_GetF (fun k => k = 7) 0 152⟩,
  List.forall_mem_cons.mpr ⟨⟨sim_aload_n d66_152 rfl, gr_LdA 0 153⟩,
  List.forall_mem_cons.mpr ⟨⟨sim_getI d66_153 gf71, gr_GetI (fun k => k = 7) 4 156⟩, fun _ h => absurd h List.not_mem_nil⟩⟩⟩⟩⟩⟩⟩⟩⟩⟩⟩⟩⟩⟩⟩⟩⟩⟩⟩⟩⟩⟩⟩⟩⟩⟩⟩⟩⟩⟩⟩⟩⟩⟩⟩⟩⟩⟩⟩⟩
noncomputable def pg66_2 : List (Nat × aP) := [(156, oALdB 157),
  (157, oCall 69 1 160),
  (160, oLdA 0 161),
  (161, oGetI (fun k => k = 7) 2 164),
  (164, oIc (fun x y => ¬ x = y) 180 167),
  (167, oLdA 0 168),
  (168, oDup 169),
  (169, oGetI (fun k => k = 7) 4 172),
  (172, oPush (.int 1) 173),
  (173, oII (fun x y => x + y) 174),
  (174, oPutI (fun k => k = 7) 4 177),
  (177, oGo 133),
  (180, oLdA 0 181),
  (181, oGetI (fun k => k = 7) 2 184),
  (184, oPush (.int 2) 185),
  (185, oIc (fun x y => ¬ x = y) 206 188),
  (188, oLdA 0 189),
  (189, oGetI (fun k => k = 7) 4 192),
  (192, oLdA 0 193),
  (193, oGetI (fun k => k = 7) 3 196),
  (196, oII (fun x y => x - y) 197),
  (197, oPush (.int 3) 198),
  (198, oIc (fun x y => x ≤ y) 206 201),
  (201, oLdA 0 202),
  (202, oPush (.int 4) 203),
  (203, oPutI (fun k => k = 7) 2 206),
  (206, oRetV)]
theorem ok66_2 : ∀ q ∈ pg66_2, Sim mT mt66 q.1 q.2 ∧ Grow q.2 :=
  List.forall_mem_cons.mpr ⟨⟨sim_baload d66_156, gr_ALdB 157⟩,
  List.forall_mem_cons.mpr ⟨⟨sim_static (y := 69) d66_157 (Or.inl kw422) kw423 mo69, gr_Call 69 1 160⟩,
  List.forall_mem_cons.mpr ⟨⟨sim_aload_n d66_160 rfl, gr_LdA 0 161⟩,
  List.forall_mem_cons.mpr ⟨⟨sim_getI d66_161 gf73, gr_GetI (fun k => k = 7) 2 164⟩,
  List.forall_mem_cons.mpr ⟨⟨sim_icmp_ne d66_164 (by decide), gr_Ic (fun x y => ¬ x = y) 180 167⟩,
  List.forall_mem_cons.mpr ⟨⟨sim_aload_n d66_167 rfl, gr_LdA 0 168⟩,
  List.forall_mem_cons.mpr ⟨⟨sim_dup d66_168, gr_Dup 169⟩,
  List.forall_mem_cons.mpr ⟨⟨sim_getI d66_169 gf71, gr_GetI (fun k => k = 7) 4 172⟩,
  List.forall_mem_cons.mpr ⟨⟨sim_iconst d66_172 (by decide), gr_Push (.int 1) 173⟩,
  List.forall_mem_cons.mpr ⟨⟨sim_iadd d66_173, gr_II (fun x y => x + y) 174⟩,
  List.forall_mem_cons.mpr ⟨⟨sim_putI d66_174 gf71w, gr_PutI (fun k => k = 7) 4 177⟩,
  List.forall_mem_cons.mpr ⟨⟨sim_goto d66_177 (by decide), gr_Go 133⟩,
  List.forall_mem_cons.mpr ⟨⟨sim_aload_n d66_180 rfl, gr_LdA 0 181⟩,
  List.forall_mem_cons.mpr ⟨⟨sim_getI d66_181 gf73, gr_GetI (fun k => k = 7) 2 184⟩,
  List.forall_mem_cons.mpr ⟨⟨sim_iconst d66_184 (by decide), gr_Push (.int 2) 185⟩,
  List.forall_mem_cons.mpr ⟨⟨sim_icmp_ne d66_185 (by decide), gr_Ic (fun x y => ¬ x = y) 206 188⟩,
  List.forall_mem_cons.mpr ⟨⟨sim_aload_n d66_188 rfl, gr_LdA 0 189⟩,
  List.forall_mem_cons.mpr ⟨⟨sim_getI d66_189 gf71, gr_GetI (fun k => k = 7) 4 192⟩,
  List.forall_mem_cons.mpr ⟨⟨sim_aload_n d66_192 rfl, gr_LdA 0 193⟩,
  List.forall_mem_cons.mpr ⟨⟨sim_getI d66_193 gf72, gr_GetI (fun k => k = 7) 3 196⟩,
  List.forall_mem_cons.mpr ⟨⟨sim_isub d66_196, gr_II (fun x y => x - y) 197⟩,
  List.forall_mem_cons.mpr ⟨⟨sim_iconst d66_197 (by decide), gr_Push (.int 3) 198⟩,
  List.forall_mem_cons.mpr ⟨⟨sim_icmp_le d66_198 (by decide), gr_Ic (fun x y => x ≤ y) 206 201⟩,
  List.forall_mem_cons.mpr ⟨⟨sim_aload_n d66_201 rfl, gr_LdA 0 202⟩,
  List.forall_mem_cons.mpr ⟨⟨sim_iconst d66_202 (by decide), gr_Push (.int 4) 203⟩,
  List.forall_mem_cons.mpr ⟨⟨sim_putI d66_203 gf73w, gr_PutI (fun k => k = 7) 2 206⟩,
  List.forall_mem_cons.mpr ⟨⟨sim_return d66_206 rfl, gr_RetV⟩, fun _ h => absurd h List.not_mem_nil⟩⟩⟩⟩⟩⟩⟩⟩⟩⟩⟩⟩⟩⟩⟩⟩⟩⟩⟩⟩⟩⟩⟩⟩⟩⟩⟩
noncomputable def pg66 : List (Nat × aP) := pg66_0 ++ (pg66_1 ++ (pg66_2))
theorem ok66 : ∀ q ∈ pg66, Sim mT mt66 q.1 q.2 ∧ Grow q.2 := List.forall_mem_append.mpr ⟨ok66_0, List.forall_mem_append.mpr ⟨ok66_1, ok66_2⟩⟩
theorem d67_0 : decode mt67.2.1 0 = .ok (.aload_n 0, 1) := by decide +kernel
theorem d67_1 : decode mt67.2.1 1 = .ok (.getfield 35, 3) := by decide +kernel
theorem d67_4 : decode mt67.2.1 4 = .ok (.ifCond .le 7, 3) := by decide +kernel
theorem d67_7 : decode mt67.2.1 7 = .ok (.iconst 1, 1) := by decide +kernel
theorem d67_8 : decode mt67.2.1 8 = .ok (.goto 4, 3) := by decide +kernel
theorem d67_11 : decode mt67.2.1 11 = .ok (.iconst 0, 1) := by decide +kernel
theorem d67_12 : decode mt67.2.1 12 = .ok (.ireturn, 1) := by decide +kernel
noncomputable def pg67_0 : List (Nat × aP) := [(0, oLdA 0 1),
  (1, oGetI (fun k => k = 3) 2 4),
  (4, oIf (fun x => x ≤ 0) 11 7),
  (7, oPush (.int 1) 8),
  (8, oGo 12),
  (11, oPush (.int 0) 12),
  (12, oRetN .boolean)]
theorem ok67_0 : ∀ q ∈ pg67_0, Sim mT mt67 q.1 q.2 ∧ Grow q.2 :=
  List.forall_mem_cons.mpr ⟨⟨sim_aload_n d67_0 rfl, gr_LdA 0 1⟩,
  List.forall_mem_cons.mpr ⟨⟨sim_getI d67_1 gf7, gr_GetI (fun k => k = 3) 2 4⟩,
  List.forall_mem_cons.mpr ⟨⟨sim_if_le d67_4 (by decide), gr_If (fun x => x ≤ 0) 11 7⟩,
  List.forall_mem_cons.mpr ⟨⟨sim_iconst d67_7 (by decide), gr_Push (.int 1) 8⟩,
  List.forall_mem_cons.mpr ⟨⟨sim_goto d67_8 (by decide), gr_Go 12⟩,
  List.forall_mem_cons.mpr ⟨⟨sim_iconst d67_11 (by decide), gr_Push (.int 0) 12⟩,
  List.forall_mem_cons.mpr ⟨⟨sim_nreturn d67_12 rfl (fun _ h => congrArg Value.int h), gr_RetN .boolean⟩, fun _ h => absurd h List.not_mem_nil⟩⟩⟩⟩⟩⟩⟩
noncomputable def pg67 : List (Nat × aP) := pg67_0
theorem ok67 : ∀ q ∈ pg67, Sim mT mt67 q.1 q.2 ∧ Grow q.2 := ok67_0
theorem d68_0 : decode mt68.2.1 0 = .ok (.aload_n 0, 1) := by decide +kernel
theorem d68_1 : decode mt68.2.1 1 = .ok (.getfield 35, 3) := by decide +kernel
theorem d68_4 : decode mt68.2.1 4 = .ok (.ifCond .le 7, 3) := by decide +kernel
theorem d68_7 : decode mt68.2.1 7 = .ok (.iconst 1, 1) := by decide +kernel
theorem d68_8 : decode mt68.2.1 8 = .ok (.goto 4, 3) := by decide +kernel
theorem d68_11 : decode mt68.2.1 11 = .ok (.iconst 0, 1) := by decide +kernel
theorem d68_12 : decode mt68.2.1 12 = .ok (.ireturn, 1) := by decide +kernel
noncomputable def pg68_0 : List (Nat × aP) := [(0, oLdA 0 1),
  (1, oGetI (fun k => k = 3) 2 4),
  (4, oIf (fun x => x ≤ 0) 11 7),
  (7, oPush (.int 1) 8),
  (8, oGo 12),
  (11, oPush (.int 0) 12),
  (12, oRetN .boolean)]
theorem ok68_0 : ∀ q ∈ pg68_0, Sim mT mt68 q.1 q.2 ∧ Grow q.2 :=
  List.forall_mem_cons.mpr ⟨⟨sim_aload_n d68_0 rfl, gr_LdA 0 1⟩,
  List.forall_mem_cons.mpr ⟨⟨sim_getI d68_1 gf7, gr_GetI (fun k => k = 3) 2 4⟩,
  List.forall_mem_cons.mpr ⟨⟨sim_if_le d68_4 (by decide), gr_If (fun x => x ≤ 0) 11 7⟩,
  List.forall_mem_cons.mpr ⟨⟨sim_iconst d68_7 (by decide), gr_Push (.int 1) 8⟩,
  List.forall_mem_cons.mpr ⟨⟨sim_goto d68_8 (by decide), gr_Go 12⟩,
  List.forall_mem_cons.mpr ⟨⟨sim_iconst d68_11 (by decide), gr_Push (.int 0) 12⟩,
  List.forall_mem_cons.mpr ⟨⟨sim_nreturn d68_12 rfl (fun _ h => congrArg Value.int h), gr_RetN .boolean⟩, fun _ h => absurd h List.not_mem_nil⟩⟩⟩⟩⟩⟩⟩
noncomputable def pg68 : List (Nat × aP) := pg68_0
theorem ok68 : ∀ q ∈ pg68, Sim mT mt68 q.1 q.2 ∧ Grow q.2 := ok68_0
theorem d69_0 : decode mt69.2.1 0 = .ok (.iload_n 0, 1) := by decide +kernel
theorem d69_1 : decode mt69.2.1 1 = .ok (.bipush 97, 2) := by decide +kernel
theorem d69_3 : decode mt69.2.1 3 = .ok (.if_icmp .lt 11, 3) := by decide +kernel
theorem d69_6 : decode mt69.2.1 6 = .ok (.iload_n 0, 1) := by decide +kernel
theorem d69_7 : decode mt69.2.1 7 = .ok (.bipush 122, 2) := by decide +kernel
theorem d69_9 : decode mt69.2.1 9 = .ok (.if_icmp .gt 5, 3) := by decide +kernel
theorem d69_12 : decode mt69.2.1 12 = .ok (.iconst 1, 1) := by decide +kernel
theorem d69_13 : decode mt69.2.1 13 = .ok (.ireturn, 1) := by decide +kernel
theorem d69_14 : decode mt69.2.1 14 = .ok (.iload_n 0, 1) := by decide +kernel
theorem d69_15 : decode mt69.2.1 15 = .ok (.bipush 48, 2) := by decide +kernel
theorem d69_17 : decode mt69.2.1 17 = .ok (.if_icmp .lt 11, 3) := by decide +kernel
theorem d69_20 : decode mt69.2.1 20 = .ok (.iload_n 0, 1) := by decide +kernel
theorem d69_21 : decode mt69.2.1 21 = .ok (.bipush 57, 2) := by decide +kernel
theorem d69_23 : decode mt69.2.1 23 = .ok (.if_icmp .gt 5, 3) := by decide +kernel
theorem d69_26 : decode mt69.2.1 26 = .ok (.iconst 2, 1) := by decide +kernel
theorem d69_27 : decode mt69.2.1 27 = .ok (.ireturn, 1) := by decide +kernel
theorem d69_28 : decode mt69.2.1 28 = .ok (.iload_n 0, 1) := by decide +kernel
theorem d69_29 : decode mt69.2.1 29 = .ok (.bipush 59, 2) := by decide +kernel
theorem d69_31 : decode mt69.2.1 31 = .ok (.if_icmp .ne 7, 3) := by decide +kernel
theorem d69_34 : decode mt69.2.1 34 = .ok (.iconst 3, 1) := by decide +kernel
theorem d69_35 : decode mt69.2.1 35 = .ok (.goto 4, 3) := by decide +kernel
theorem d69_38 : decode mt69.2.1 38 = .ok (.iconst 4, 1) := by decide +kernel
theorem d69_39 : decode mt69.2.1 39 = .ok (.ireturn, 1) := by decide +kernel
noncomputable def pg69_0 : List (Nat × aP) := [(0, oLdI 0 1),
  (1, oPush (.int 97) 3),
  (3, oIc (fun x y => x < y) 14 6),
  (6, oLdI 0 7),
  (7, oPush (.int 122) 9),
  (9, oIc (fun x y => y < x) 14 12),
  (12, oPush (.int 1) 13),
  (13, oRetI),
  (14, oLdI 0 15),
  (15, oPush (.int 48) 17),
  (17, oIc (fun x y => x < y) 28 20),
  (20, oLdI 0 21),
  (21, oPush (.int 57) 23),
  (23, oIc (fun x y => y < x) 28 26),
  (26, oPush (.int 2) 27),
  (27, oRetI),
  (28, oLdI 0 29),
  (29, oPush (.int 59) 31),
  (31, oIc (fun x y => ¬ x = y) 38 34),
  (34, oPush (.int 3) 35),
  (35, oGo 39),
  (38, oPush (.int 4) 39),
  (39, oRetI)]
theorem ok69_0 : ∀ q ∈ pg69_0, Sim mT mt69 q.1 q.2 ∧ Grow q.2 :=
  List.forall_mem_cons.mpr ⟨⟨sim_iload_n d69_0 rfl, gr_LdI 0 1⟩,
  List.forall_mem_cons.mpr ⟨⟨sim_bipush d69_1 (by decide), gr_Push (.int 97) 3⟩,
  List.forall_mem_cons.mpr ⟨⟨sim_icmp_lt d69_3 (by decide), gr_Ic (fun x y => x < y) 14 6⟩,
  List.forall_mem_cons.mpr ⟨⟨sim_iload_n d69_6 rfl, gr_LdI 0 7⟩,
  List.forall_mem_cons.mpr ⟨⟨sim_bipush d69_7 (by decide), gr_Push (.int 122) 9⟩,
  List.forall_mem_cons.mpr ⟨⟨sim_icmp_gt d69_9 (by decide), gr_Ic (fun x y => y < x) 14 12⟩,
  List.forall_mem_cons.mpr ⟨⟨sim_iconst d69_12 (by decide), gr_Push (.int 1) 13⟩,
  List.forall_mem_cons.mpr ⟨⟨sim_ireturn d69_13 rfl, gr_RetI⟩,
  List.forall_mem_cons.mpr ⟨⟨sim_iload_n d69_14 rfl, gr_LdI 0 15⟩,
  List.forall_mem_cons.mpr ⟨⟨sim_bipush d69_15 (by decide), gr_Push (.int 48) 17⟩,
  List.forall_mem_cons.mpr ⟨⟨sim_icmp_lt d69_17 (by decide), gr_Ic (fun x y => x < y) 28 20⟩,
  List.forall_mem_cons.mpr ⟨⟨sim_iload_n d69_20 rfl, gr_LdI 0 21⟩,
  List.forall_mem_cons.mpr ⟨⟨sim_bipush d69_21 (by decide), gr_Push (.int 57) 23⟩,
  List.forall_mem_cons.mpr ⟨⟨sim_icmp_gt d69_23 (by decide), gr_Ic (fun x y => y < x) 28 26⟩,
  List.forall_mem_cons.mpr ⟨⟨sim_iconst d69_26 (by decide), gr_Push (.int 2) 27⟩,
  List.forall_mem_cons.mpr ⟨⟨sim_ireturn d69_27 rfl, gr_RetI⟩,
  List.forall_mem_cons.mpr ⟨⟨sim_iload_n d69_28 rfl, gr_LdI 0 29⟩,
  List.forall_mem_cons.mpr ⟨⟨sim_bipush d69_29 (by decide), gr_Push (.int 59) 31⟩,
  List.forall_mem_cons.mpr ⟨⟨sim_icmp_ne d69_31 (by decide), gr_Ic (fun x y => ¬ x = y) 38 34⟩,
  List.forall_mem_cons.mpr ⟨⟨sim_iconst d69_34 (by decide), gr_Push (.int 3) 35⟩,
  List.forall_mem_cons.mpr ⟨⟨sim_goto d69_35 (by decide), gr_Go 39⟩,
  List.forall_mem_cons.mpr ⟨⟨sim_iconst d69_38 (by decide), gr_Push (.int 4) 39⟩,
  List.forall_mem_cons.mpr ⟨⟨sim_ireturn d69_39 rfl, gr_RetI⟩, fun _ h => absurd h List.not_mem_nil⟩⟩⟩⟩⟩⟩⟩⟩⟩⟩⟩⟩⟩⟩⟩⟩⟩⟩⟩⟩⟩⟩⟩
noncomputable def pg69 : List (Nat × aP) := pg69_0
theorem ok69 : ∀ q ∈ pg69, Sim mT mt69 q.1 q.2 ∧ Grow q.2 := ok69_0
theorem d70_0 : decode mt70.2.1 0 = .ok (.aload_n 0, 1) := by decide +kernel
theorem d70_1 : decode mt70.2.1 1 = .ok (.getfield 35, 3) := by decide +kernel
theorem d70_4 : decode mt70.2.1 4 = .ok (.ifCond .le 7, 3) := by decide +kernel
theorem d70_7 : decode mt70.2.1 7 = .ok (.iconst 1, 1) := by decide +kernel
theorem d70_8 : decode mt70.2.1 8 = .ok (.goto 4, 3) := by decide +kernel
theorem d70_11 : decode mt70.2.1 11 = .ok (.iconst 0, 1) := by decide +kernel
theorem d70_12 : decode mt70.2.1 12 = .ok (.ireturn, 1) := by decide +kernel
noncomputable def pg70_0 : List (Nat × aP) := [(0, oLdA 0 1),
  (1, oGetI (fun k => k = 3) 2 4),
  (4, oIf (fun x => x ≤ 0) 11 7),
  (7, oPush (.int 1) 8),
  (8, oGo 12),
  (11, oPush (.int 0) 12),
  (12, oRetN .boolean)]
theorem ok70_0 : ∀ q ∈ pg70_0, Sim mT mt70 q.1 q.2 ∧ Grow q.2 :=
  List.forall_mem_cons.mpr ⟨⟨sim_aload_n d70_0 rfl, gr_LdA 0 1⟩,
  List.forall_mem_cons.mpr ⟨⟨sim_getI d70_1 gf7, gr_GetI (fun k => k = 3) 2 4⟩,
  List.forall_mem_cons.mpr ⟨⟨sim_if_le d70_4 (by decide), gr_If (fun x => x ≤ 0) 11 7⟩,
  List.forall_mem_cons.mpr ⟨⟨sim_iconst d70_7 (by decide), gr_Push (.int 1) 8⟩,
  List.forall_mem_cons.mpr ⟨⟨sim_goto d70_8 (by decide), gr_Go 12⟩,
  List.forall_mem_cons.mpr ⟨⟨sim_iconst d70_11 (by decide), gr_Push (.int 0) 12⟩,
  List.forall_mem_cons.mpr ⟨⟨sim_nreturn d70_12 rfl (fun _ h => congrArg Value.int h), gr_RetN .boolean⟩, fun _ h => absurd h List.not_mem_nil⟩⟩⟩⟩⟩⟩⟩
noncomputable def pg70 : List (Nat × aP) := pg70_0
theorem ok70 : ∀ q ∈ pg70, Sim mT mt70 q.1 q.2 ∧ Grow q.2 := ok70_0
theorem d71_0 : decode mt71.2.1 0 = .ok (.aload_n 0, 1) := by decide +kernel
theorem d71_1 : decode mt71.2.1 1 = .ok (.getfield 28, 3) := by decide +kernel
theorem d71_4 : decode mt71.2.1 4 = .ok (.iconst 1, 1) := by decide +kernel
theorem d71_5 : decode mt71.2.1 5 = .ok (.if_icmp .ne 19, 3) := by decide +kernel
theorem d71_8 : decode mt71.2.1 8 = .ok (.aload_n 0, 1) := by decide +kernel
theorem d71_9 : decode mt71.2.1 9 = .ok (.getfield 19, 3) := by decide +kernel
theorem d71_12 : decode mt71.2.1 12 = .ok (.aload_n 0, 1) := by decide +kernel
theorem d71_13 : decode mt71.2.1 13 = .ok (.getfield 25, 3) := by decide +kernel
theorem d71_16 : decode mt71.2.1 16 = .ok (.isub, 1) := by decide +kernel
theorem d71_17 : decode mt71.2.1 17 = .ok (.aload_n 1, 1) := by decide +kernel
theorem d71_18 : decode mt71.2.1 18 = .ok (.invokevirtual 35, 3) := by decide +kernel
theorem d71_21 : decode mt71.2.1 21 = .ok (.if_icmp .eq 5, 3) := by decide +kernel
theorem d71_24 : decode mt71.2.1 24 = .ok (.iconst 0, 1) := by decide +kernel
theorem d71_25 : decode mt71.2.1 25 = .ok (.ireturn, 1) := by decide +kernel
theorem d71_26 : decode mt71.2.1 26 = .ok (.iconst 0, 1) := by decide +kernel
theorem d71_27 : decode mt71.2.1 27 = .ok (.istore_n 2, 1) := by decide +kernel
theorem d71_28 : decode mt71.2.1 28 = .ok (.iload_n 2, 1) := by decide +kernel
theorem d71_29 : decode mt71.2.1 29 = .ok (.aload_n 1, 1) := by decide +kernel
theorem d71_30 : decode mt71.2.1 30 = .ok (.invokevirtual 35, 3) := by decide +kernel
theorem d71_33 : decode mt71.2.1 33 = .ok (.if_icmp .ge 30, 3) := by decide +kernel
theorem d71_36 : decode mt71.2.1 36 = .ok (.aload_n 0, 1) := by decide +kernel
theorem d71_37 : decode mt71.2.1 37 = .ok (.getfield 9, 3) := by decide +kernel
theorem d71_40 : decode mt71.2.1 40 = .ok (.aload_n 0, 1) := by decide +kernel
theorem d71_41 : decode mt71.2.1 41 = .ok (.getfield 25, 3) := by decide +kernel
theorem d71_44 : decode mt71.2.1 44 = .ok (.iload_n 2, 1) := by decide +kernel
theorem d71_45 : decode mt71.2.1 45 = .ok (.iadd, 1) := by decide +kernel
theorem d71_46 : decode mt71.2.1 46 = .ok (.baload, 1) := by decide +kernel
theorem d71_47 : decode mt71.2.1 47 = .ok (.aload_n 1, 1) := by decide +kernel
theorem d71_48 : decode mt71.2.1 48 = .ok (.iload_n 2, 1) := by decide +kernel
theorem d71_49 : decode mt71.2.1 49 = .ok (.invokevirtual 40, 3) := by decide +kernel
theorem d71_52 : decode mt71.2.1 52 = .ok (.if_icmp .eq 5, 3) := by decide +kernel
theorem d71_55 : decode mt71.2.1 55 = .ok (.iconst 0, 1) := by decide +kernel
theorem d71_56 : decode mt71.2.1 56 = .ok (.ireturn, 1) := by decide +kernel
theorem d71_57 : decode mt71.2.1 57 = .ok (.iinc 2 1, 3) := by decide +kernel
theorem d71_60 : decode mt71.2.1 60 = .ok (.goto (-32), 3) := by decide +kernel
theorem d71_63 : decode mt71.2.1 63 = .ok (.iconst 1, 1) := by decide +kernel
theorem d71_64 : decode mt71.2.1 64 = .ok (.ireturn, 1) := by decide +kernel
noncomputable def pg71_0 : List (Nat × aP) := [(0, oLdA 0 1),
  (1, oGetI (fun k => k = 7) 2 4),
  (4, oPush (.int 1) 5),
  (5, oIc (fun x y => ¬ x = y) 24 8),
  (8, oLdA 0 9),
  (9, oGetI (fun k => k = 7) 4 12),
  (12, oLdA 0 13),
  (13, oGetI (fun k => k = 7) 3 16),
  (16, oII (fun x y => x - y) 17),
  (17, oLdA 1 18),
  (18, oCalV (fun k => if k = 201 then some 211 else none) 0 21),
  (21, oIc (fun x y => x = y) 26 24),
  (24, oPush (.int 0) 25),
  (25, oRetN .boolean),
  (26, oPush (.int 0) 27),
  (27, oStI 2 28),
  (28, oLdI 2 29),
  (29, oLdA 1 30),
  (30, oCalV (fun k => if k = 201 then some 211 else none) 0 33),
  (33, oIc (fun x y => y ≤ x) 63 36),
  (36, oLdA 0 37),
  (37, oGetF (fun k => k = 7) 0 40),
  (40, oLdA 0 41),
  (41, oGetI (fun k => k = 7) 3 44),
  (44, oLdI 2 45),
  (45, oII (fun x y => x + y) 46),
  (46, oALdB 47),
  (47, oLdA 1 48),
  (48, oLdI 2 49),
  (49, oCalV (fun k => if k = 201 then some 212 else none) 1 52),
  (52, oIc (fun x y => x = y) 57 55),
  (55, oPush (.int 0) 56),
  (56, oRetN .boolean),
  (57, oInc 2 1 60),
  (60, oGo 28),
  (63, oPush (.int 1) 64),
  (64, oRetN .boolean)]
theorem ok71_0 : ∀ q ∈ pg71_0, Sim mT mt71 q.1 q.2 ∧ Grow q.2 :=
  List.forall_mem_cons.mpr ⟨⟨sim_aload_n d71_0 rfl, gr_LdA 0 1⟩,
  List.forall_mem_cons.mpr ⟨⟨sim_getI d71_1 gf73, gr_GetI (fun k => k = 7) 2 4⟩,
  List.forall_mem_cons.mpr ⟨⟨sim_iconst d71_4 (by decide), gr_Push (.int 1) 5⟩,
  List.forall_mem_cons.mpr ⟨⟨sim_icmp_ne d71_5 (by decide), gr_Ic (fun x y => ¬ x = y) 24 8⟩,
  List.forall_mem_cons.mpr ⟨⟨sim_aload_n d71_8 rfl, gr_LdA 0 9⟩,
  List.forall_mem_cons.mpr ⟨⟨sim_getI d71_9 gf71, gr_GetI (fun k => k = 7) 4 12⟩,
  List.forall_mem_cons.mpr ⟨⟨sim_aload_n d71_12 rfl, gr_LdA 0 13⟩,
  List.forall_mem_cons.mpr ⟨⟨sim_getI d71_13 gf72, gr_GetI (fun k => k = 7) 3 16⟩,
  List.forall_mem_cons.mpr ⟨⟨sim_isub d71_16, gr_II (fun x y => x - y) 17⟩,
  List.forall_mem_cons.mpr ⟨⟨sim_aload_n d71_17 rfl, gr_LdA 1 18⟩,
  List.forall_mem_cons.mpr ⟨⟨sim_virtual d71_18 vk44, gr_CalV (fun k => if k = 201 then some 211 else none) 0 21⟩,
  List.forall_mem_cons.mpr ⟨⟨sim_icmp_eq d71_21 (by decide), gr_Ic (fun x y => x = y) 26 24⟩,
  List.forall_mem_cons.mpr ⟨⟨sim_iconst d71_24 (by decide), gr_Push (.int 0) 25⟩,
  List.forall_mem_cons.mpr ⟨⟨sim_nreturn d71_25 rfl (fun _ h => congrArg Value.int h), gr_RetN .boolean⟩,
  List.forall_mem_cons.mpr ⟨⟨sim_iconst d71_26 (by decide), gr_Push (.int 0) 27⟩,
  List.forall_mem_cons.mpr ⟨⟨sim_istore_n d71_27 rfl (by decide), gr_StI 2 28⟩,
  List.forall_mem_cons.mpr ⟨⟨sim_iload_n d71_28 rfl, gr_LdI 2 29⟩,
  List.forall_mem_cons.mpr ⟨⟨sim_aload_n d71_29 rfl, gr_LdA 1 30⟩,
  List.forall_mem_cons.mpr ⟨⟨sim_virtual d71_30 vk44, gr_CalV (fun k => if k = 201 then some 211 else none) 0 33⟩,
  List.forall_mem_cons.mpr ⟨⟨sim_icmp_ge d71_33 (by decide), gr_Ic (fun x y => y ≤ x) 63 36⟩,
  List.forall_mem_cons.mpr ⟨⟨sim_aload_n d71_36 rfl, gr_LdA 0 37⟩,
  List.forall_mem_cons.mpr ⟨⟨sim_getF d71_37 gf70, gr_GetF (fun k => k = 7) 0 40⟩,
  List.forall_mem_cons.mpr ⟨⟨sim_aload_n d71_40 rfl, gr_LdA 0 41⟩,
  List.forall_mem_cons.mpr ⟨⟨sim_getI d71_41 gf72, gr_GetI (fun k => k = 7) 3 44⟩,
  List.forall_mem_cons.mpr ⟨⟨sim_iload_n d71_44 rfl, gr_LdI 2 45⟩,
  List.forall_mem_cons.mpr ⟨⟨sim_iadd d71_45, gr_II (fun x y => x + y) 46⟩,
  List.forall_mem_cons.mpr ⟨⟨sim_baload d71_46, gr_ALdB 47⟩,
  List.forall_mem_cons.mpr ⟨⟨sim_aload_n d71_47 rfl, gr_LdA 1 48⟩,
  List.forall_mem_cons.mpr ⟨⟨sim_iload_n d71_48 rfl, gr_LdI 2 49⟩,
  List.forall_mem_cons.mpr ⟨⟨sim_virtual d71_49 vk45, gr_CalV (fun k => if k = 201 then some 212 else none) 1 52⟩,
  List.forall_mem_cons.mpr ⟨⟨sim_icmp_eq d71_52 (by decide), gr_Ic (fun x y => x = y) 57 55⟩,
  List.forall_mem_cons.mpr ⟨⟨sim_iconst d71_55 (by decide), gr_Push (.int 0) 56⟩,
  List.forall_mem_cons.mpr ⟨⟨sim_nreturn d71_56 rfl (fun _ h => congrArg Value.int h), gr_RetN .boolean⟩,
  List.forall_mem_cons.mpr ⟨⟨sim_iinc d71_57 (by decide) (by decide), gr_Inc 2 1 60⟩,
  List.forall_mem_cons.mpr ⟨⟨sim_goto d71_60 (by decide), gr_Go 28⟩,
  List.forall_mem_cons.mpr ⟨⟨sim_iconst d71_63 (by decide), gr_Push (.int 1) 64⟩,
  List.forall_mem_cons.mpr ⟨⟨sim_nreturn d71_64 rfl (fun _ h => congrArg Value.int h), gr_RetN .boolean⟩, fun _ h => absurd h List.not_mem_nil⟩⟩⟩⟩⟩⟩⟩⟩⟩⟩⟩⟩⟩⟩⟩⟩⟩⟩⟩⟩⟩⟩⟩⟩⟩⟩⟩⟩⟩⟩⟩⟩⟩⟩⟩⟩⟩
noncomputable def pg71 : List (Nat × aP) := pg71_0
theorem ok71 : ∀ q ∈ pg71, Sim mT mt71 q.1 q.2 ∧ Grow q.2 := ok71_0
