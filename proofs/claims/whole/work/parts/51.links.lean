theorem kw262 : Cond.methodLink "RopeRound$Asker" 3 ⟨"java/lang/Object", "<init>", "()V"⟩ ∈ tg := kt 262 (by decide +kernel) (by decide +kernel)
theorem kw26 : Cond.instanceMethod ⟨"java/lang/Object", "<init>", "()V"⟩ ∈ tg := kt 26 (by decide +kernel) (by decide +kernel)
set_option maxRecDepth 100000 in
theorem kw27 : Cond.code ⟨"java/lang/Object", "<init>", "()V"⟩ object_method_1_code 1 none ∈ tg := kt 27 rfl rfl
theorem kw130 : Cond.arrayClass FieldType.int ∈ tg := kt 130 (by decide +kernel) (by decide +kernel)
theorem kw263 : Cond.fieldLink "RopeRound$Asker" 11 "RopeRound$Asker" "notes" "[I" ∈ tg := kt 263 (by decide +kernel) (by decide +kernel)
theorem gf0f : gFF "RopeRound$Asker" 11 0 (fun k => k = 0) := by
  refine ⟨_, _, _, kw263, fun ci h => ?_⟩
  rcases h with rfl
  · exact ⟨_, _, _, okC0, by decide, rfl, rfl, rfl, rfl, rfl⟩
theorem kn870 : Cond.methodLinkNest "RopeRound$Asker" 15 ⟨"RopeRound", "bitOfCell", "(I)I"⟩ "RopeRound" ∈ tb := kn 870 (by decide +kernel)
theorem kw683 : Cond.static ⟨"RopeRound", "bitOfCell", "(I)I"⟩ ∈ tg := kt 683 (by decide +kernel) (by decide +kernel)
set_option maxRecDepth 100000 in
theorem kw684 : Cond.code ⟨"RopeRound", "bitOfCell", "(I)I"⟩ prog_1_method_43_code 1 (some FieldType.int) ∈ tg := kt 684 rfl rfl
theorem kw1 : Cond.initialized "RopeRound" ∈ tg := kt 1 (by decide +kernel) (by decide +kernel)
theorem mo123 : MOk (mT 123) 1 := ⟨kw684, kw1, by decide +kernel, by decide +kernel, by decide⟩
theorem kw265 : Cond.fieldLink "RopeRound$Asker" 19 "RopeRound$Asker" "noted" "I" ∈ tg := kt 265 (by decide +kernel) (by decide +kernel)
theorem gf1 : gF "RopeRound$Asker" 19 1 (fun k => k = 0) (fun n => n = 0 ∨ n = 4) := by
  refine ⟨_, _, _, kw265, fun ci h => ?_⟩
  rcases h with rfl
  · exact ⟨_, _, _, okC0, by decide, rfl, rfl, Or.inl rfl, Or.inl rfl⟩
theorem gf1w : gF "RopeRound$Asker" 19 1 (fun k => k = 0) (fun n => n = 0) := by
  refine ⟨_, _, _, kw265, fun ci h => ?_⟩
  rcases h with rfl
  · exact ⟨_, _, _, okC0, by decide, rfl, rfl, Or.inl rfl, rfl⟩
theorem kw267 : Cond.fieldLink "RopeRound$Asker" 23 "RopeRound$Asker" "cell" "I" ∈ tg := kt 267 (by decide +kernel) (by decide +kernel)
theorem gf2 : gF "RopeRound$Asker" 23 2 (fun k => k = 0) (fun n => n = 0 ∨ n = 4) := by
  refine ⟨_, _, _, kw267, fun ci h => ?_⟩
  rcases h with rfl
  · exact ⟨_, _, _, okC0, by decide, rfl, rfl, Or.inl rfl, Or.inl rfl⟩
theorem gf2w : gF "RopeRound$Asker" 23 2 (fun k => k = 0) (fun n => n = 0) := by
  refine ⟨_, _, _, kw267, fun ci h => ?_⟩
  rcases h with rfl
  · exact ⟨_, _, _, okC0, by decide, rfl, rfl, Or.inl rfl, rfl⟩
set_option maxRecDepth 100000 in
theorem kw644 : Cond.code ⟨"RopeRound$Ground", "worthOf", "(J)I"⟩ prog_5_method_15_code 5 (some FieldType.int) ∈ tg := kt 644 rfl rfl
theorem kw4 : Cond.initialized "RopeRound$Ground" ∈ tg := kt 4 (by decide +kernel) (by decide +kernel)
theorem mo36 : MOk (mT 36) 1 := ⟨kw644, kw4, by decide +kernel, by decide +kernel, by decide⟩
theorem kw642 : Cond.instanceMethod ⟨"RopeRound$Ground", "worthOf", "(J)I"⟩ ∈ tg := kt 642 (by decide +kernel) (by decide +kernel)
theorem kw871 : Cond.methodLink "RopeRound$Asker" 26 ⟨"RopeRound$Ground", "worthOf", "(J)I"⟩ ∈ tg := kt 871 (by decide +kernel) (by decide +kernel)
theorem kw643 : Cond.selects "RopeRound$Ground" ⟨"RopeRound$Ground", "worthOf", "(J)I"⟩ ⟨"RopeRound$Ground", "worthOf", "(J)I"⟩ ∈ tg := kt 643 (by decide +kernel) (by decide +kernel)
theorem vk0 : ∀ ci y, (fun k => if k = 3 then some 36 else none) ci = some y → (∃ C T N, ClsOk ci C T N ∧ VOk mT "RopeRound$Asker" 26 C y 1) ∨ (ci = 201 ∧ VOk mT "RopeRound$Asker" 26 "java/lang/String" y 1) := by
  intro ci y h
  dsimp only at h
  by_cases h3 : ci = 3
  · subst h3
    have h := (Option.some.inj (by simpa using h)).symm
    subst h
    exact Or.inl ⟨_, _, _, okC3, ⟨mo36, kw642, Or.inl ⟨rfl, kw871, kw643⟩⟩⟩
  rw [if_neg h3] at h
  cases h
theorem kw268 : Cond.fieldLink "RopeRound$Asker" 32 "RopeRound$Asker" "worth" "I" ∈ tg := kt 268 (by decide +kernel) (by decide +kernel)
theorem gf3 : gF "RopeRound$Asker" 32 3 (fun k => k = 0) (fun n => n = 0 ∨ n = 4) := by
  refine ⟨_, _, _, kw268, fun ci h => ?_⟩
  rcases h with rfl
  · exact ⟨_, _, _, okC0, by decide, rfl, rfl, Or.inl rfl, Or.inl rfl⟩
theorem gf3w : gF "RopeRound$Asker" 32 3 (fun k => k = 0) (fun n => n = 0) := by
  refine ⟨_, _, _, kw268, fun ci h => ?_⟩
  rcases h with rfl
  · exact ⟨_, _, _, okC0, by decide, rfl, rfl, Or.inl rfl, rfl⟩
set_option maxRecDepth 100000 in
theorem kw850 : Cond.code ⟨"RopeRound$Ground", "kindOf", "(I)I"⟩ prog_5_method_18_code 3 (some FieldType.int) ∈ tg := kt 850 rfl rfl
theorem mo39 : MOk (mT 39) 1 := ⟨kw850, kw4, by decide +kernel, by decide +kernel, by decide⟩
theorem kw848 : Cond.instanceMethod ⟨"RopeRound$Ground", "kindOf", "(I)I"⟩ ∈ tg := kt 848 (by decide +kernel) (by decide +kernel)
theorem kw872 : Cond.methodLink "RopeRound$Asker" 35 ⟨"RopeRound$Ground", "kindOf", "(I)I"⟩ ∈ tg := kt 872 (by decide +kernel) (by decide +kernel)
theorem kw849 : Cond.selects "RopeRound$Ground" ⟨"RopeRound$Ground", "kindOf", "(I)I"⟩ ⟨"RopeRound$Ground", "kindOf", "(I)I"⟩ ∈ tg := kt 849 (by decide +kernel) (by decide +kernel)
theorem vk1 : ∀ ci y, (fun k => if k = 3 then some 39 else none) ci = some y → (∃ C T N, ClsOk ci C T N ∧ VOk mT "RopeRound$Asker" 35 C y 1) ∨ (ci = 201 ∧ VOk mT "RopeRound$Asker" 35 "java/lang/String" y 1) := by
  intro ci y h
  dsimp only at h
  by_cases h3 : ci = 3
  · subst h3
    have h := (Option.some.inj (by simpa using h)).symm
    subst h
    exact Or.inl ⟨_, _, _, okC3, ⟨mo39, kw848, Or.inl ⟨rfl, kw872, kw849⟩⟩⟩
  rw [if_neg h3] at h
  cases h
theorem kw269 : Cond.fieldLink "RopeRound$Asker" 38 "RopeRound$Asker" "kind" "I" ∈ tg := kt 269 (by decide +kernel) (by decide +kernel)
theorem gf4 : gF "RopeRound$Asker" 38 4 (fun k => k = 0) (fun n => n = 0 ∨ n = 4) := by
  refine ⟨_, _, _, kw269, fun ci h => ?_⟩
  rcases h with rfl
  · exact ⟨_, _, _, okC0, by decide, rfl, rfl, Or.inl rfl, Or.inl rfl⟩
theorem gf4w : gF "RopeRound$Asker" 38 4 (fun k => k = 0) (fun n => n = 0) := by
  refine ⟨_, _, _, kw269, fun ci h => ?_⟩
  rcases h with rfl
  · exact ⟨_, _, _, okC0, by decide, rfl, rfl, Or.inl rfl, rfl⟩
set_option maxRecDepth 100000 in
theorem kw688 : Cond.code ⟨"RopeRound$Ground", "ringMan", "(I)I"⟩ prog_5_method_16_code 3 (some FieldType.int) ∈ tg := kt 688 rfl rfl
theorem mo37 : MOk (mT 37) 1 := ⟨kw688, kw4, by decide +kernel, by decide +kernel, by decide⟩
theorem kw686 : Cond.instanceMethod ⟨"RopeRound$Ground", "ringMan", "(I)I"⟩ ∈ tg := kt 686 (by decide +kernel) (by decide +kernel)
theorem kw873 : Cond.methodLink "RopeRound$Asker" 41 ⟨"RopeRound$Ground", "ringMan", "(I)I"⟩ ∈ tg := kt 873 (by decide +kernel) (by decide +kernel)
theorem kw687 : Cond.selects "RopeRound$Ground" ⟨"RopeRound$Ground", "ringMan", "(I)I"⟩ ⟨"RopeRound$Ground", "ringMan", "(I)I"⟩ ∈ tg := kt 687 (by decide +kernel) (by decide +kernel)
theorem vk2 : ∀ ci y, (fun k => if k = 3 then some 37 else none) ci = some y → (∃ C T N, ClsOk ci C T N ∧ VOk mT "RopeRound$Asker" 41 C y 1) ∨ (ci = 201 ∧ VOk mT "RopeRound$Asker" 41 "java/lang/String" y 1) := by
  intro ci y h
  dsimp only at h
  by_cases h3 : ci = 3
  · subst h3
    have h := (Option.some.inj (by simpa using h)).symm
    subst h
    exact Or.inl ⟨_, _, _, okC3, ⟨mo37, kw686, Or.inl ⟨rfl, kw873, kw687⟩⟩⟩
  rw [if_neg h3] at h
  cases h
theorem kw270 : Cond.fieldLink "RopeRound$Asker" 44 "RopeRound$Asker" "ringMan" "I" ∈ tg := kt 270 (by decide +kernel) (by decide +kernel)
theorem gf5 : gF "RopeRound$Asker" 44 5 (fun k => k = 0) (fun n => n = 0 ∨ n = 4) := by
  refine ⟨_, _, _, kw270, fun ci h => ?_⟩
  rcases h with rfl
  · exact ⟨_, _, _, okC0, by decide, rfl, rfl, Or.inl rfl, Or.inl rfl⟩
theorem gf5w : gF "RopeRound$Asker" 44 5 (fun k => k = 0) (fun n => n = 0) := by
  refine ⟨_, _, _, kw270, fun ci h => ?_⟩
  rcases h with rfl
  · exact ⟨_, _, _, okC0, by decide, rfl, rfl, Or.inl rfl, rfl⟩
theorem gf6 : gF "RopeRound$Asker" 11 0 (fun k => k = 0) (fun n => n = 2) := by
  refine ⟨_, _, _, kw263, fun ci h => ?_⟩
  rcases h with rfl
  · exact ⟨_, _, _, okC0, by decide, rfl, rfl, Or.inl rfl, rfl⟩
set_option maxRecDepth 100000 in
theorem kw881 : Cond.code ⟨"RopeRound$Asker", "sizeOfTaken", "()I"⟩ prog_2_method_9_code 1 (some FieldType.int) ∈ tg := kt 881 rfl rfl
theorem kw10 : Cond.initialized "RopeRound$Asker" ∈ tg := kt 10 (by decide +kernel) (by decide +kernel)
theorem mo8 : MOk (mT 8) 0 := ⟨kw881, kw10, by decide +kernel, by decide +kernel, by decide⟩
theorem kw880 : Cond.instanceMethod ⟨"RopeRound$Asker", "sizeOfTaken", "()I"⟩ ∈ tg := kt 880 (by decide +kernel) (by decide +kernel)
theorem kw878 : Cond.methodLink "RopeRound$Asker" 46 ⟨"RopeRound$Asker", "sizeOfTaken", "()I"⟩ ∈ tg := kt 878 (by decide +kernel) (by decide +kernel)
theorem vk3 : ∀ ci y, (fun k => if k = 0 then some 8 else none) ci = some y → (∃ C T N, ClsOk ci C T N ∧ VOk mT "RopeRound$Asker" 46 C y 0) ∨ (ci = 201 ∧ VOk mT "RopeRound$Asker" 46 "java/lang/String" y 0) := by
  intro ci y h
  dsimp only at h
  by_cases h0 : ci = 0
  · subst h0
    have h := (Option.some.inj (by simpa using h)).symm
    subst h
    exact Or.inl ⟨_, _, _, okC0, ⟨mo8, kw880, Or.inl ⟨rfl, kw878, (ks (q := (⟨"RopeRound$Asker", "sizeOfTaken", "()I"⟩, 6)) (by decide +kernel))⟩⟩⟩
  rw [if_neg h0] at h
  cases h
set_option maxRecDepth 100000 in
theorem kw913 : Cond.code ⟨"RopeRound$Asker", "sizeOfRich", "()I"⟩ prog_2_method_8_code 1 (some FieldType.int) ∈ tg := kt 913 rfl rfl
theorem mo7 : MOk (mT 7) 0 := ⟨kw913, kw10, by decide +kernel, by decide +kernel, by decide⟩
theorem kw912 : Cond.instanceMethod ⟨"RopeRound$Asker", "sizeOfRich", "()I"⟩ ∈ tg := kt 912 (by decide +kernel) (by decide +kernel)
theorem kw910 : Cond.methodLink "RopeRound$Asker" 50 ⟨"RopeRound$Asker", "sizeOfRich", "()I"⟩ ∈ tg := kt 910 (by decide +kernel) (by decide +kernel)
theorem vk4 : ∀ ci y, (fun k => if k = 0 then some 7 else none) ci = some y → (∃ C T N, ClsOk ci C T N ∧ VOk mT "RopeRound$Asker" 50 C y 0) ∨ (ci = 201 ∧ VOk mT "RopeRound$Asker" 50 "java/lang/String" y 0) := by
  intro ci y h
  dsimp only at h
  by_cases h0 : ci = 0
  · subst h0
    have h := (Option.some.inj (by simpa using h)).symm
    subst h
    exact Or.inl ⟨_, _, _, okC0, ⟨mo7, kw912, Or.inl ⟨rfl, kw910, (ks (q := (⟨"RopeRound$Asker", "sizeOfRich", "()I"⟩, 6)) (by decide +kernel))⟩⟩⟩
  rw [if_neg h0] at h
  cases h
set_option maxRecDepth 100000 in
theorem kw889 : Cond.code ⟨"RopeRound$Asker", "sizeOfRinged", "()I"⟩ prog_2_method_7_code 1 (some FieldType.int) ∈ tg := kt 889 rfl rfl
theorem mo6 : MOk (mT 6) 0 := ⟨kw889, kw10, by decide +kernel, by decide +kernel, by decide⟩
theorem kw888 : Cond.instanceMethod ⟨"RopeRound$Asker", "sizeOfRinged", "()I"⟩ ∈ tg := kt 888 (by decide +kernel) (by decide +kernel)
theorem kw886 : Cond.methodLink "RopeRound$Asker" 53 ⟨"RopeRound$Asker", "sizeOfRinged", "()I"⟩ ∈ tg := kt 886 (by decide +kernel) (by decide +kernel)
theorem vk5 : ∀ ci y, (fun k => if k = 0 then some 6 else none) ci = some y → (∃ C T N, ClsOk ci C T N ∧ VOk mT "RopeRound$Asker" 53 C y 0) ∨ (ci = 201 ∧ VOk mT "RopeRound$Asker" 53 "java/lang/String" y 0) := by
  intro ci y h
  dsimp only at h
  by_cases h0 : ci = 0
  · subst h0
    have h := (Option.some.inj (by simpa using h)).symm
    subst h
    exact Or.inl ⟨_, _, _, okC0, ⟨mo6, kw888, Or.inl ⟨rfl, kw886, (ks (q := (⟨"RopeRound$Asker", "sizeOfRinged", "()I"⟩, 6)) (by decide +kernel))⟩⟩⟩
  rw [if_neg h0] at h
  cases h
set_option maxRecDepth 100000 in
theorem kw893 : Cond.code ⟨"RopeRound$Asker", "sizeOfLand", "()I"⟩ prog_2_method_6_code 2 (some FieldType.int) ∈ tg := kt 893 rfl rfl
theorem mo5 : MOk (mT 5) 0 := ⟨kw893, kw10, by decide +kernel, by decide +kernel, by decide⟩
theorem kw892 : Cond.instanceMethod ⟨"RopeRound$Asker", "sizeOfLand", "()I"⟩ ∈ tg := kt 892 (by decide +kernel) (by decide +kernel)
theorem kw890 : Cond.methodLink "RopeRound$Asker" 56 ⟨"RopeRound$Asker", "sizeOfLand", "()I"⟩ ∈ tg := kt 890 (by decide +kernel) (by decide +kernel)
theorem vk6 : ∀ ci y, (fun k => if k = 0 then some 5 else none) ci = some y → (∃ C T N, ClsOk ci C T N ∧ VOk mT "RopeRound$Asker" 56 C y 0) ∨ (ci = 201 ∧ VOk mT "RopeRound$Asker" 56 "java/lang/String" y 0) := by
  intro ci y h
  dsimp only at h
  by_cases h0 : ci = 0
  · subst h0
    have h := (Option.some.inj (by simpa using h)).symm
    subst h
    exact Or.inl ⟨_, _, _, okC0, ⟨mo5, kw892, Or.inl ⟨rfl, kw890, (ks (q := (⟨"RopeRound$Asker", "sizeOfLand", "()I"⟩, 6)) (by decide +kernel))⟩⟩⟩
  rw [if_neg h0] at h
  cases h
set_option maxRecDepth 100000 in
theorem kw897 : Cond.code ⟨"RopeRound$Asker", "sizeLent", "()I"⟩ prog_2_method_5_code 1 (some FieldType.int) ∈ tg := kt 897 rfl rfl
theorem mo4 : MOk (mT 4) 0 := ⟨kw897, kw10, by decide +kernel, by decide +kernel, by decide⟩
theorem kw896 : Cond.instanceMethod ⟨"RopeRound$Asker", "sizeLent", "()I"⟩ ∈ tg := kt 896 (by decide +kernel) (by decide +kernel)
theorem kw894 : Cond.methodLink "RopeRound$Asker" 59 ⟨"RopeRound$Asker", "sizeLent", "()I"⟩ ∈ tg := kt 894 (by decide +kernel) (by decide +kernel)
theorem vk7 : ∀ ci y, (fun k => if k = 0 then some 4 else none) ci = some y → (∃ C T N, ClsOk ci C T N ∧ VOk mT "RopeRound$Asker" 59 C y 0) ∨ (ci = 201 ∧ VOk mT "RopeRound$Asker" 59 "java/lang/String" y 0) := by
  intro ci y h
  dsimp only at h
  by_cases h0 : ci = 0
  · subst h0
    have h := (Option.some.inj (by simpa using h)).symm
    subst h
    exact Or.inl ⟨_, _, _, okC0, ⟨mo4, kw896, Or.inl ⟨rfl, kw894, (ks (q := (⟨"RopeRound$Asker", "sizeLent", "()I"⟩, 6)) (by decide +kernel))⟩⟩⟩
  rw [if_neg h0] at h
  cases h
set_option maxRecDepth 100000 in
theorem kw885 : Cond.code ⟨"RopeRound$Asker", "note", "(I)V"⟩ prog_2_method_3_code 2 none ∈ tg := kt 885 rfl rfl
theorem mo2 : MOk (mT 2) 1 := ⟨kw885, kw10, by decide +kernel, by decide +kernel, by decide⟩
theorem kw884 : Cond.instanceMethod ⟨"RopeRound$Asker", "note", "(I)V"⟩ ∈ tg := kt 884 (by decide +kernel) (by decide +kernel)
theorem kw882 : Cond.methodLink "RopeRound$Asker" 62 ⟨"RopeRound$Asker", "note", "(I)V"⟩ ∈ tg := kt 882 (by decide +kernel) (by decide +kernel)
theorem vk8 : ∀ ci y, (fun k => if k = 0 then some 2 else none) ci = some y → (∃ C T N, ClsOk ci C T N ∧ VOk mT "RopeRound$Asker" 62 C y 1) ∨ (ci = 201 ∧ VOk mT "RopeRound$Asker" 62 "java/lang/String" y 1) := by
  intro ci y h
  dsimp only at h
  by_cases h0 : ci = 0
  · subst h0
    have h := (Option.some.inj (by simpa using h)).symm
    subst h
    exact Or.inl ⟨_, _, _, okC0, ⟨mo2, kw884, Or.inl ⟨rfl, kw882, (ks (q := (⟨"RopeRound$Asker", "note", "(I)V"⟩, 6)) (by decide +kernel))⟩⟩⟩
  rw [if_neg h0] at h
  cases h
set_option maxRecDepth 100000 in
theorem kw901 : Cond.code ⟨"RopeRound$Asker", "markAsked", "()I"⟩ prog_2_method_10_code 1 (some FieldType.int) ∈ tg := kt 901 rfl rfl
theorem mo9 : MOk (mT 9) 0 := ⟨kw901, kw10, by decide +kernel, by decide +kernel, by decide⟩
theorem kw899 : Cond.instanceMethod ⟨"RopeRound$Asker", "markAsked", "()I"⟩ ∈ tg := kt 899 (by decide +kernel) (by decide +kernel)
theorem kw898 : Cond.methodLink "RopeRound$Asker" 66 ⟨"RopeRound$Asker", "markAsked", "()I"⟩ ∈ tg := kt 898 (by decide +kernel) (by decide +kernel)
theorem kw900 : Cond.selects "RopeRound$Asker" ⟨"RopeRound$Asker", "markAsked", "()I"⟩ ⟨"RopeRound$Asker", "markAsked", "()I"⟩ ∈ tg := kt 900 (by decide +kernel) (by decide +kernel)
theorem vk9 : ∀ ci y, (fun k => if k = 0 then some 9 else none) ci = some y → (∃ C T N, ClsOk ci C T N ∧ VOk mT "RopeRound$Asker" 66 C y 0) ∨ (ci = 201 ∧ VOk mT "RopeRound$Asker" 66 "java/lang/String" y 0) := by
  intro ci y h
  dsimp only at h
  by_cases h0 : ci = 0
  · subst h0
    have h := (Option.some.inj (by simpa using h)).symm
    subst h
    exact Or.inl ⟨_, _, _, okC0, ⟨mo9, kw899, Or.inl ⟨rfl, kw898, kw900⟩⟩⟩
  rw [if_neg h0] at h
  cases h
set_option maxRecDepth 100000 in
theorem kw905 : Cond.code ⟨"RopeRound$Asker", "markLent", "()I"⟩ prog_2_method_11_code 1 (some FieldType.int) ∈ tg := kt 905 rfl rfl
theorem mo10 : MOk (mT 10) 0 := ⟨kw905, kw10, by decide +kernel, by decide +kernel, by decide⟩
theorem kw904 : Cond.instanceMethod ⟨"RopeRound$Asker", "markLent", "()I"⟩ ∈ tg := kt 904 (by decide +kernel) (by decide +kernel)
theorem kw902 : Cond.methodLink "RopeRound$Asker" 69 ⟨"RopeRound$Asker", "markLent", "()I"⟩ ∈ tg := kt 902 (by decide +kernel) (by decide +kernel)
theorem vk10 : ∀ ci y, (fun k => if k = 0 then some 10 else none) ci = some y → (∃ C T N, ClsOk ci C T N ∧ VOk mT "RopeRound$Asker" 69 C y 0) ∨ (ci = 201 ∧ VOk mT "RopeRound$Asker" 69 "java/lang/String" y 0) := by
  intro ci y h
  dsimp only at h
  by_cases h0 : ci = 0
  · subst h0
    have h := (Option.some.inj (by simpa using h)).symm
    subst h
    exact Or.inl ⟨_, _, _, okC0, ⟨mo10, kw904, Or.inl ⟨rfl, kw902, (ks (q := (⟨"RopeRound$Asker", "markLent", "()I"⟩, 6)) (by decide +kernel))⟩⟩⟩
  rw [if_neg h0] at h
  cases h
set_option maxRecDepth 100000 in
theorem kw909 : Cond.code ⟨"RopeRound$Asker", "markOfWater", "()I"⟩ prog_2_method_12_code 2 (some FieldType.int) ∈ tg := kt 909 rfl rfl
theorem mo11 : MOk (mT 11) 0 := ⟨kw909, kw10, by decide +kernel, by decide +kernel, by decide⟩
theorem kw908 : Cond.instanceMethod ⟨"RopeRound$Asker", "markOfWater", "()I"⟩ ∈ tg := kt 908 (by decide +kernel) (by decide +kernel)
theorem kw906 : Cond.methodLink "RopeRound$Asker" 72 ⟨"RopeRound$Asker", "markOfWater", "()I"⟩ ∈ tg := kt 906 (by decide +kernel) (by decide +kernel)
theorem vk11 : ∀ ci y, (fun k => if k = 0 then some 11 else none) ci = some y → (∃ C T N, ClsOk ci C T N ∧ VOk mT "RopeRound$Asker" 72 C y 0) ∨ (ci = 201 ∧ VOk mT "RopeRound$Asker" 72 "java/lang/String" y 0) := by
  intro ci y h
  dsimp only at h
  by_cases h0 : ci = 0
  · subst h0
    have h := (Option.some.inj (by simpa using h)).symm
    subst h
    exact Or.inl ⟨_, _, _, okC0, ⟨mo11, kw908, Or.inl ⟨rfl, kw906, (ks (q := (⟨"RopeRound$Asker", "markOfWater", "()I"⟩, 6)) (by decide +kernel))⟩⟩⟩
  rw [if_neg h0] at h
  cases h
theorem kn175 : Cond.methodLinkNest "RopeRound$Best" 3 ⟨"RopeRound$Walk", "<init>", "()V"⟩ "RopeRound" ∈ tb := kn 175 (by decide +kernel)
theorem kw176 : Cond.instanceMethod ⟨"RopeRound$Walk", "<init>", "()V"⟩ ∈ tg := kt 176 (by decide +kernel) (by decide +kernel)
set_option maxRecDepth 100000 in
theorem kw177 : Cond.code ⟨"RopeRound$Walk", "<init>", "()V"⟩ prog_11_method_1_code 1 none ∈ tg := kt 177 rfl rfl
theorem kw6 : Cond.initialized "RopeRound$Walk" ∈ tg := kt 6 (by decide +kernel) (by decide +kernel)
theorem mo77 : MOk (mT 77) 0 := ⟨kw177, kw6, by decide +kernel, by decide +kernel, by decide⟩
theorem kw179 : Cond.fieldLink "RopeRound$Best" 9 "RopeRound$Best" "worths" "[I" ∈ tg := kt 179 (by decide +kernel) (by decide +kernel)
theorem gf7f : gFF "RopeRound$Best" 9 3 (fun k => k = 1) := by
  refine ⟨_, _, _, kw179, fun ci h => ?_⟩
  rcases h with rfl
  · exact ⟨_, _, _, okC1, by decide, rfl, rfl, rfl, rfl, rfl⟩
theorem kw181 : Cond.fieldLink "RopeRound$Best" 15 "RopeRound$Best" "steps" "[I" ∈ tg := kt 181 (by decide +kernel) (by decide +kernel)
theorem gf8f : gFF "RopeRound$Best" 15 4 (fun k => k = 1) := by
  refine ⟨_, _, _, kw181, fun ci h => ?_⟩
  rcases h with rfl
  · exact ⟨_, _, _, okC1, by decide, rfl, rfl, rfl, rfl, rfl⟩
theorem kw129 : Cond.arrayClass FieldType.long ∈ tg := kt 129 (by decide +kernel) (by decide +kernel)
theorem kw183 : Cond.fieldLink "RopeRound$Best" 18 "RopeRound$Best" "ways" "[J" ∈ tg := kt 183 (by decide +kernel) (by decide +kernel)
theorem gf9f : gFF "RopeRound$Best" 18 5 (fun k => k = 1) := by
  refine ⟨_, _, _, kw183, fun ci h => ?_⟩
  rcases h with rfl
  · exact ⟨_, _, _, okC1, by decide, rfl, rfl, rfl, rfl, rfl⟩
theorem kw185 : Cond.fieldLink "RopeRound$Best" 22 "RopeRound$Best" "known" "J" ∈ tg := kt 185 (by decide +kernel) (by decide +kernel)
theorem gf10 : gF "RopeRound$Best" 22 6 (fun k => k = 1) (fun n => n = 1) := by
  refine ⟨_, _, _, kw185, fun ci h => ?_⟩
  rcases h with rfl
  · exact ⟨_, _, _, okC1, by decide, rfl, rfl, Or.inl rfl, rfl⟩
theorem kn699 : Cond.methodLinkNest "RopeRound$Best" 26 ⟨"RopeRound", "has", "(JI)Z"⟩ "RopeRound" ∈ tb := kn 699 (by decide +kernel)
theorem kw547 : Cond.static ⟨"RopeRound", "has", "(JI)Z"⟩ ∈ tg := kt 547 (by decide +kernel) (by decide +kernel)
set_option maxRecDepth 100000 in
theorem kw548 : Cond.code ⟨"RopeRound", "has", "(JI)Z"⟩ prog_1_method_42_code 3 (some FieldType.boolean) ∈ tg := kt 548 rfl rfl
theorem mo122 : MOk (mT 122) 2 := ⟨kw548, kw1, by decide +kernel, by decide +kernel, by decide⟩
theorem kw186 : Cond.fieldLink "RopeRound$Best" 30 "RopeRound$Best" "base" "I" ∈ tg := kt 186 (by decide +kernel) (by decide +kernel)
theorem gf11 : gF "RopeRound$Best" 30 7 (fun k => k = 1) (fun n => n = 0 ∨ n = 4) := by
  refine ⟨_, _, _, kw186, fun ci h => ?_⟩
  rcases h with rfl
  · exact ⟨_, _, _, okC1, by decide, rfl, rfl, Or.inl rfl, Or.inl rfl⟩
theorem gf11w : gF "RopeRound$Best" 30 7 (fun k => k = 1) (fun n => n = 0) := by
  refine ⟨_, _, _, kw186, fun ci h => ?_⟩
  rcases h with rfl
  · exact ⟨_, _, _, okC1, by decide, rfl, rfl, Or.inl rfl, rfl⟩
theorem gf12 : gF "RopeRound$Best" 9 3 (fun k => k = 1) (fun n => n = 2) := by
  refine ⟨_, _, _, kw179, fun ci h => ?_⟩
  rcases h with rfl
  · exact ⟨_, _, _, okC1, by decide, rfl, rfl, Or.inl rfl, rfl⟩
theorem kw700 : Cond.constant "RopeRound$Best" 34 (-1000000) ∈ tg := kt 700 (by decide +kernel) (by decide +kernel)
theorem gf13 : gF "RopeRound$Best" 15 4 (fun k => k = 1) (fun n => n = 2) := by
  refine ⟨_, _, _, kw181, fun ci h => ?_⟩
  rcases h with rfl
  · exact ⟨_, _, _, okC1, by decide, rfl, rfl, Or.inl rfl, rfl⟩
set_option maxRecDepth 100000 in
theorem kw706 : Cond.code ⟨"RopeRound$Walk", "walkAll", "(LRopeRound$Ground;II)V"⟩ prog_11_method_2_code 4 none ∈ tg := kt 706 rfl rfl
theorem mo78 : MOk (mT 78) 3 := ⟨kw706, kw6, by decide +kernel, by decide +kernel, by decide⟩
theorem kw705 : Cond.instanceMethod ⟨"RopeRound$Walk", "walkAll", "(LRopeRound$Ground;II)V"⟩ ∈ tg := kt 705 (by decide +kernel) (by decide +kernel)
theorem kn703 : Cond.declares ⟨"RopeRound$Walk", "walkAll", "(LRopeRound$Ground;II)V"⟩ ∈ tb := kn 703 (by decide +kernel)
theorem kw701 : Cond.methodLink "RopeRound$Best" 35 ⟨"RopeRound$Best", "walkAll", "(LRopeRound$Ground;II)V"⟩ ∈ tg := kt 701 (by decide +kernel) (by decide +kernel)
theorem kw702 : Cond.sameMethod "RopeRound$Best" "RopeRound$Walk" "walkAll" "(LRopeRound$Ground;II)V" ∈ tg := kt 702 (by decide +kernel) (by decide +kernel)
theorem kw704 : Cond.selects "RopeRound$Best" ⟨"RopeRound$Best", "walkAll", "(LRopeRound$Ground;II)V"⟩ ⟨"RopeRound$Walk", "walkAll", "(LRopeRound$Ground;II)V"⟩ ∈ tg := kt 704 (by decide +kernel) (by decide +kernel)
theorem vk12 : ∀ ci y, (fun k => if k = 1 then some 78 else none) ci = some y → (∃ C T N, ClsOk ci C T N ∧ VOk mT "RopeRound$Best" 35 C y 3) ∨ (ci = 201 ∧ VOk mT "RopeRound$Best" 35 "java/lang/String" y 3) := by
  intro ci y h
  dsimp only at h
  by_cases h1 : ci = 1
  · subst h1
    have h := (Option.some.inj (by simpa using h)).symm
    subst h
    exact Or.inl ⟨_, _, _, okC1, ⟨mo78, kw705, Or.inr ⟨⟨"RopeRound$Best", "walkAll", "(LRopeRound$Ground;II)V"⟩, "RopeRound$Walk", by decide +kernel, by decide +kernel, kw701, kw702, Or.inl kn703, kw704⟩⟩⟩
  rw [if_neg h1] at h
  cases h
set_option maxRecDepth 100000 in
theorem kw750 : Cond.code ⟨"RopeRound$Best", "placeOf", "(II)I"⟩ prog_3_method_4_code 3 (some FieldType.int) ∈ tg := kt 750 rfl rfl
theorem kw7 : Cond.initialized "RopeRound$Best" ∈ tg := kt 7 (by decide +kernel) (by decide +kernel)
theorem mo15 : MOk (mT 15) 2 := ⟨kw750, kw7, by decide +kernel, by decide +kernel, by decide⟩
theorem kw748 : Cond.instanceMethod ⟨"RopeRound$Best", "placeOf", "(II)I"⟩ ∈ tg := kt 748 (by decide +kernel) (by decide +kernel)
theorem kw775 : Cond.methodLink "RopeRound$Best" 39 ⟨"RopeRound$Best", "placeOf", "(II)I"⟩ ∈ tg := kt 775 (by decide +kernel) (by decide +kernel)
theorem kw749 : Cond.selects "RopeRound$Best" ⟨"RopeRound$Best", "placeOf", "(II)I"⟩ ⟨"RopeRound$Best", "placeOf", "(II)I"⟩ ∈ tg := kt 749 (by decide +kernel) (by decide +kernel)
theorem vk13 : ∀ ci y, (fun k => if k = 1 then some 15 else none) ci = some y → (∃ C T N, ClsOk ci C T N ∧ VOk mT "RopeRound$Best" 39 C y 2) ∨ (ci = 201 ∧ VOk mT "RopeRound$Best" 39 "java/lang/String" y 2) := by
  intro ci y h
  dsimp only at h
  by_cases h1 : ci = 1
  · subst h1
    have h := (Option.some.inj (by simpa using h)).symm
    subst h
    exact Or.inl ⟨_, _, _, okC1, ⟨mo15, kw748, Or.inl ⟨rfl, kw775, kw749⟩⟩⟩
  rw [if_neg h1] at h
  cases h
theorem kw193 : Cond.sameField "RopeRound$Best" "RopeRound$Walk" "ground" "LRopeRound$Ground;" ∈ tg := kt 193 (by decide +kernel) (by decide +kernel)
theorem kw192 : Cond.fieldLink "RopeRound$Best" 43 "RopeRound$Best" "ground" "LRopeRound$Ground;" ∈ tg := kt 192 (by decide +kernel) (by decide +kernel)
theorem gf14 : gF "RopeRound$Best" 43 0 (fun k => k = 1) (fun n => n = 3) := by
  refine ⟨_, _, _, kw192, fun ci h => ?_⟩
  rcases h with rfl
  · exact ⟨_, _, _, okC1, by decide, rfl, rfl, Or.inr kw193, rfl⟩
theorem kw720 : Cond.methodLink "RopeRound$Best" 47 ⟨"RopeRound$Ground", "worthOf", "(J)I"⟩ ∈ tg := kt 720 (by decide +kernel) (by decide +kernel)
theorem vk14 : ∀ ci y, (fun k => if k = 3 then some 36 else none) ci = some y → (∃ C T N, ClsOk ci C T N ∧ VOk mT "RopeRound$Best" 47 C y 1) ∨ (ci = 201 ∧ VOk mT "RopeRound$Best" 47 "java/lang/String" y 1) := by
  intro ci y h
  dsimp only at h
  by_cases h3 : ci = 3
  · subst h3
    have h := (Option.some.inj (by simpa using h)).symm
    subst h
    exact Or.inl ⟨_, _, _, okC3, ⟨mo36, kw642, Or.inl ⟨rfl, kw720, kw643⟩⟩⟩
  rw [if_neg h3] at h
  cases h
set_option maxRecDepth 100000 in
theorem kw724 : Cond.code ⟨"RopeRound$Ground", "ropeAround", "(JJ)I"⟩ prog_5_method_14_code 9 (some FieldType.int) ∈ tg := kt 724 rfl rfl
theorem mo35 : MOk (mT 35) 2 := ⟨kw724, kw4, by decide +kernel, by decide +kernel, by decide⟩
theorem kw722 : Cond.instanceMethod ⟨"RopeRound$Ground", "ropeAround", "(JJ)I"⟩ ∈ tg := kt 722 (by decide +kernel) (by decide +kernel)
theorem kw721 : Cond.methodLink "RopeRound$Best" 53 ⟨"RopeRound$Ground", "ropeAround", "(JJ)I"⟩ ∈ tg := kt 721 (by decide +kernel) (by decide +kernel)
theorem kw723 : Cond.selects "RopeRound$Ground" ⟨"RopeRound$Ground", "ropeAround", "(JJ)I"⟩ ⟨"RopeRound$Ground", "ropeAround", "(JJ)I"⟩ ∈ tg := kt 723 (by decide +kernel) (by decide +kernel)
theorem vk15 : ∀ ci y, (fun k => if k = 3 then some 35 else none) ci = some y → (∃ C T N, ClsOk ci C T N ∧ VOk mT "RopeRound$Best" 53 C y 2) ∨ (ci = 201 ∧ VOk mT "RopeRound$Best" 53 "java/lang/String" y 2) := by
  intro ci y h
  dsimp only at h
  by_cases h3 : ci = 3
  · subst h3
    have h := (Option.some.inj (by simpa using h)).symm
    subst h
    exact Or.inl ⟨_, _, _, okC3, ⟨mo35, kw722, Or.inl ⟨rfl, kw721, kw723⟩⟩⟩
  rw [if_neg h3] at h
  cases h
theorem gf15 : gF "RopeRound$Best" 18 5 (fun k => k = 1) (fun n => n = 2) := by
  refine ⟨_, _, _, kw183, fun ci h => ?_⟩
  rcases h with rfl
  · exact ⟨_, _, _, okC1, by decide, rfl, rfl, Or.inl rfl, rfl⟩
theorem kn240 : Cond.methodLinkNest "RopeRound$Finder" 3 ⟨"RopeRound$Walk", "<init>", "()V"⟩ "RopeRound" ∈ tb := kn 240 (by decide +kernel)
theorem kw241 : Cond.fieldLink "RopeRound$Finder" 9 "RopeRound$Finder" "toldCorners" "J" ∈ tg := kt 241 (by decide +kernel) (by decide +kernel)
theorem gf16 : gF "RopeRound$Finder" 9 3 (fun k => k = 2) (fun n => n = 1) := by
  refine ⟨_, _, _, kw241, fun ci h => ?_⟩
  rcases h with rfl
  · exact ⟨_, _, _, okC2, by decide, rfl, rfl, Or.inl rfl, rfl⟩
theorem kw242 : Cond.fieldLink "RopeRound$Finder" 15 "RopeRound$Finder" "toldCells" "J" ∈ tg := kt 242 (by decide +kernel) (by decide +kernel)
theorem gf17 : gF "RopeRound$Finder" 15 4 (fun k => k = 2) (fun n => n = 1) := by
  refine ⟨_, _, _, kw242, fun ci h => ?_⟩
  rcases h with rfl
  · exact ⟨_, _, _, okC2, by decide, rfl, rfl, Or.inl rfl, rfl⟩
theorem kw290 : Cond.fieldLink "RopeRound$Finder" 18 "RopeRound$Row" "items" "[I" ∈ tg := kt 290 (by decide +kernel) (by decide +kernel)
theorem gf18 : gF "RopeRound$Finder" 18 0 (fun k => k = 6) (fun n => n = 2) := by
  refine ⟨_, _, _, kw290, fun ci h => ?_⟩
  rcases h with rfl
  · exact ⟨_, _, _, okC6, by decide, rfl, rfl, Or.inl rfl, rfl⟩
set_option maxRecDepth 100000 in
theorem kw556 : Cond.code ⟨"RopeRound$Ground", "hasCorner", "(I)Z"⟩ prog_5_method_7_code 2 (some FieldType.boolean) ∈ tg := kt 556 rfl rfl
theorem mo28 : MOk (mT 28) 1 := ⟨kw556, kw4, by decide +kernel, by decide +kernel, by decide⟩
theorem kw554 : Cond.instanceMethod ⟨"RopeRound$Ground", "hasCorner", "(I)Z"⟩ ∈ tg := kt 554 (by decide +kernel) (by decide +kernel)
theorem kw824 : Cond.methodLink "RopeRound$Finder" 24 ⟨"RopeRound$Ground", "hasCorner", "(I)Z"⟩ ∈ tg := kt 824 (by decide +kernel) (by decide +kernel)
theorem kw555 : Cond.selects "RopeRound$Ground" ⟨"RopeRound$Ground", "hasCorner", "(I)Z"⟩ ⟨"RopeRound$Ground", "hasCorner", "(I)Z"⟩ ∈ tg := kt 555 (by decide +kernel) (by decide +kernel)
theorem vk16 : ∀ ci y, (fun k => if k = 3 then some 28 else none) ci = some y → (∃ C T N, ClsOk ci C T N ∧ VOk mT "RopeRound$Finder" 24 C y 1) ∨ (ci = 201 ∧ VOk mT "RopeRound$Finder" 24 "java/lang/String" y 1) := by
  intro ci y h
  dsimp only at h
  by_cases h3 : ci = 3
  · subst h3
    have h := (Option.some.inj (by simpa using h)).symm
    subst h
    exact Or.inl ⟨_, _, _, okC3, ⟨mo28, kw554, Or.inl ⟨rfl, kw824, kw555⟩⟩⟩
  rw [if_neg h3] at h
  cases h
set_option maxRecDepth 100000 in
theorem kw681 : Cond.code ⟨"RopeRound$Ground", "hasCell", "(I)Z"⟩ prog_5_method_8_code 2 (some FieldType.boolean) ∈ tg := kt 681 rfl rfl
theorem mo29 : MOk (mT 29) 1 := ⟨kw681, kw4, by decide +kernel, by decide +kernel, by decide⟩
theorem kw679 : Cond.instanceMethod ⟨"RopeRound$Ground", "hasCell", "(I)Z"⟩ ∈ tg := kt 679 (by decide +kernel) (by decide +kernel)
theorem kw825 : Cond.methodLink "RopeRound$Finder" 30 ⟨"RopeRound$Ground", "hasCell", "(I)Z"⟩ ∈ tg := kt 825 (by decide +kernel) (by decide +kernel)
theorem kw680 : Cond.selects "RopeRound$Ground" ⟨"RopeRound$Ground", "hasCell", "(I)Z"⟩ ⟨"RopeRound$Ground", "hasCell", "(I)Z"⟩ ∈ tg := kt 680 (by decide +kernel) (by decide +kernel)
theorem vk17 : ∀ ci y, (fun k => if k = 3 then some 29 else none) ci = some y → (∃ C T N, ClsOk ci C T N ∧ VOk mT "RopeRound$Finder" 30 C y 1) ∨ (ci = 201 ∧ VOk mT "RopeRound$Finder" 30 "java/lang/String" y 1) := by
  intro ci y h
  dsimp only at h
  by_cases h3 : ci = 3
  · subst h3
    have h := (Option.some.inj (by simpa using h)).symm
    subst h
    exact Or.inl ⟨_, _, _, okC3, ⟨mo29, kw679, Or.inl ⟨rfl, kw825, kw680⟩⟩⟩
  rw [if_neg h3] at h
  cases h
theorem kn826 : Cond.methodLinkNest "RopeRound$Finder" 33 ⟨"RopeRound", "bitOfCell", "(I)I"⟩ "RopeRound" ∈ tb := kn 826 (by decide +kernel)
theorem kw91 : Cond.fieldLink "RopeRound$Finder" 37 "RopeRound$Ground" "ropes" "[I" ∈ tg := kt 91 (by decide +kernel) (by decide +kernel)
theorem gf19 : gF "RopeRound$Finder" 37 7 (fun k => k = 3) (fun n => n = 2) := by
  refine ⟨_, _, _, kw91, fun ci h => ?_⟩
  rcases h with rfl
  · exact ⟨_, _, _, okC3, by decide, rfl, rfl, Or.inl rfl, rfl⟩
theorem kw243 : Cond.fieldLink "RopeRound$Finder" 40 "RopeRound$Finder" "rope" "I" ∈ tg := kt 243 (by decide +kernel) (by decide +kernel)
theorem gf20 : gF "RopeRound$Finder" 40 5 (fun k => k = 2) (fun n => n = 0 ∨ n = 4) := by
  refine ⟨_, _, _, kw243, fun ci h => ?_⟩
  rcases h with rfl
  · exact ⟨_, _, _, okC2, by decide, rfl, rfl, Or.inl rfl, Or.inl rfl⟩
theorem gf20w : gF "RopeRound$Finder" 40 5 (fun k => k = 2) (fun n => n = 0) := by
  refine ⟨_, _, _, kw243, fun ci h => ?_⟩
  rcases h with rfl
  · exact ⟨_, _, _, okC2, by decide, rfl, rfl, Or.inl rfl, rfl⟩
theorem kw244 : Cond.fieldLink "RopeRound$Finder" 44 "RopeRound$Finder" "fitting" "I" ∈ tg := kt 244 (by decide +kernel) (by decide +kernel)
theorem gf21 : gF "RopeRound$Finder" 44 6 (fun k => k = 2) (fun n => n = 0 ∨ n = 4) := by
  refine ⟨_, _, _, kw244, fun ci h => ?_⟩
  rcases h with rfl
  · exact ⟨_, _, _, okC2, by decide, rfl, rfl, Or.inl rfl, Or.inl rfl⟩
theorem gf21w : gF "RopeRound$Finder" 44 6 (fun k => k = 2) (fun n => n = 0) := by
  refine ⟨_, _, _, kw244, fun ci h => ?_⟩
  rcases h with rfl
  · exact ⟨_, _, _, okC2, by decide, rfl, rfl, Or.inl rfl, rfl⟩
theorem kw86 : Cond.fieldLink "RopeRound$Finder" 47 "RopeRound$Ground" "pegs" "[I" ∈ tg := kt 86 (by decide +kernel) (by decide +kernel)
theorem gf22 : gF "RopeRound$Finder" 47 6 (fun k => k = 3) (fun n => n = 2) := by
  refine ⟨_, _, _, kw86, fun ci h => ?_⟩
  rcases h with rfl
  · exact ⟨_, _, _, okC3, by decide, rfl, rfl, Or.inl rfl, rfl⟩
theorem kw831 : Cond.methodLink "RopeRound$Finder" 50 ⟨"RopeRound$Finder", "walkAll", "(LRopeRound$Ground;II)V"⟩ ∈ tg := kt 831 (by decide +kernel) (by decide +kernel)
theorem kw832 : Cond.sameMethod "RopeRound$Finder" "RopeRound$Walk" "walkAll" "(LRopeRound$Ground;II)V" ∈ tg := kt 832 (by decide +kernel) (by decide +kernel)
theorem kw833 : Cond.selects "RopeRound$Finder" ⟨"RopeRound$Finder", "walkAll", "(LRopeRound$Ground;II)V"⟩ ⟨"RopeRound$Walk", "walkAll", "(LRopeRound$Ground;II)V"⟩ ∈ tg := kt 833 (by decide +kernel) (by decide +kernel)
theorem vk18 : ∀ ci y, (fun k => if k = 2 then some 78 else none) ci = some y → (∃ C T N, ClsOk ci C T N ∧ VOk mT "RopeRound$Finder" 50 C y 3) ∨ (ci = 201 ∧ VOk mT "RopeRound$Finder" 50 "java/lang/String" y 3) := by
  intro ci y h
  dsimp only at h
  by_cases h2 : ci = 2
  · subst h2
    have h := (Option.some.inj (by simpa using h)).symm
    subst h
    exact Or.inl ⟨_, _, _, okC2, ⟨mo78, kw705, Or.inr ⟨⟨"RopeRound$Finder", "walkAll", "(LRopeRound$Ground;II)V"⟩, "RopeRound$Walk", by decide +kernel, by decide +kernel, kw831, kw832, Or.inl kn703, kw833⟩⟩⟩
  rw [if_neg h2] at h
  cases h
theorem kw729 : Cond.constantLong "RopeRound$Finder" 54 (-1) ∈ tg := kt 729 (by decide +kernel) (by decide +kernel)
theorem kw191 : Cond.sameField "RopeRound$Finder" "RopeRound$Walk" "ground" "LRopeRound$Ground;" ∈ tg := kt 191 (by decide +kernel) (by decide +kernel)
theorem kw190 : Cond.fieldLink "RopeRound$Finder" 56 "RopeRound$Finder" "ground" "LRopeRound$Ground;" ∈ tg := kt 190 (by decide +kernel) (by decide +kernel)
theorem gf23 : gF "RopeRound$Finder" 56 0 (fun k => k = 2) (fun n => n = 3) := by
  refine ⟨_, _, _, kw190, fun ci h => ?_⟩
  rcases h with rfl
  · exact ⟨_, _, _, okC2, by decide, rfl, rfl, Or.inr kw191, rfl⟩
theorem kw730 : Cond.methodLink "RopeRound$Finder" 60 ⟨"RopeRound$Ground", "ropeAround", "(JJ)I"⟩ ∈ tg := kt 730 (by decide +kernel) (by decide +kernel)
theorem vk19 : ∀ ci y, (fun k => if k = 3 then some 35 else none) ci = some y → (∃ C T N, ClsOk ci C T N ∧ VOk mT "RopeRound$Finder" 60 C y 2) ∨ (ci = 201 ∧ VOk mT "RopeRound$Finder" 60 "java/lang/String" y 2) := by
  intro ci y h
  dsimp only at h
  by_cases h3 : ci = 3
  · subst h3
    have h := (Option.some.inj (by simpa using h)).symm
    subst h
    exact Or.inl ⟨_, _, _, okC3, ⟨mo35, kw722, Or.inl ⟨rfl, kw730, kw723⟩⟩⟩
  rw [if_neg h3] at h
  cases h
theorem kw69 : Cond.methodLink "RopeRound$Ground" 3 ⟨"java/lang/Object", "<init>", "()V"⟩ ∈ tg := kt 69 (by decide +kernel) (by decide +kernel)
theorem kw83 : Cond.fieldLink "RopeRound$Ground" 11 "RopeRound$Ground" "worthBits" "[J" ∈ tg := kt 83 (by decide +kernel) (by decide +kernel)
theorem gf24f : gFF "RopeRound$Ground" 11 5 (fun k => k = 3) := by
  refine ⟨_, _, _, kw83, fun ci h => ?_⟩
  rcases h with rfl
  · exact ⟨_, _, _, okC3, by decide, rfl, rfl, rfl, rfl, rfl⟩
theorem kw84 : Cond.fieldLink "RopeRound$Ground" 15 "RopeRound$Ground" "pegs" "[I" ∈ tg := kt 84 (by decide +kernel) (by decide +kernel)
theorem gf25f : gFF "RopeRound$Ground" 15 6 (fun k => k = 3) := by
  refine ⟨_, _, _, kw84, fun ci h => ?_⟩
  rcases h with rfl
  · exact ⟨_, _, _, okC3, by decide, rfl, rfl, rfl, rfl, rfl⟩
theorem kw89 : Cond.fieldLink "RopeRound$Ground" 19 "RopeRound$Ground" "ropes" "[I" ∈ tg := kt 89 (by decide +kernel) (by decide +kernel)
theorem gf26f : gFF "RopeRound$Ground" 19 7 (fun k => k = 3) := by
  refine ⟨_, _, _, kw89, fun ci h => ?_⟩
  rcases h with rfl
  · exact ⟨_, _, _, okC3, by decide, rfl, rfl, rfl, rfl, rfl⟩
theorem kw94 : Cond.fieldLink "RopeRound$Ground" 22 "RopeRound$Ground" "rings" "[J" ∈ tg := kt 94 (by decide +kernel) (by decide +kernel)
theorem gf27f : gFF "RopeRound$Ground" 22 8 (fun k => k = 3) := by
  refine ⟨_, _, _, kw94, fun ci h => ?_⟩
  rcases h with rfl
  · exact ⟨_, _, _, okC3, by decide, rfl, rfl, rfl, rfl, rfl⟩
theorem kw96 : Cond.fieldLink "RopeRound$Ground" 25 "RopeRound$Ground" "ways" "[J" ∈ tg := kt 96 (by decide +kernel) (by decide +kernel)
theorem gf28f : gFF "RopeRound$Ground" 25 9 (fun k => k = 3) := by
  refine ⟨_, _, _, kw96, fun ci h => ?_⟩
  rcases h with rfl
  · exact ⟨_, _, _, okC3, by decide, rfl, rfl, rfl, rfl, rfl⟩
theorem kw70 : Cond.fieldLink "RopeRound$Ground" 28 "RopeRound$Ground" "wide" "I" ∈ tg := kt 70 (by decide +kernel) (by decide +kernel)
theorem gf29 : gF "RopeRound$Ground" 28 0 (fun k => k = 3) (fun n => n = 0 ∨ n = 4) := by
  refine ⟨_, _, _, kw70, fun ci h => ?_⟩
  rcases h with rfl
  · exact ⟨_, _, _, okC3, by decide, rfl, rfl, Or.inl rfl, Or.inl rfl⟩
theorem gf29w : gF "RopeRound$Ground" 28 0 (fun k => k = 3) (fun n => n = 0) := by
  refine ⟨_, _, _, kw70, fun ci h => ?_⟩
  rcases h with rfl
  · exact ⟨_, _, _, okC3, by decide, rfl, rfl, Or.inl rfl, rfl⟩
theorem kw73 : Cond.fieldLink "RopeRound$Ground" 32 "RopeRound$Ground" "high" "I" ∈ tg := kt 73 (by decide +kernel) (by decide +kernel)
theorem gf30 : gF "RopeRound$Ground" 32 1 (fun k => k = 3) (fun n => n = 0 ∨ n = 4) := by
  refine ⟨_, _, _, kw73, fun ci h => ?_⟩
  rcases h with rfl
  · exact ⟨_, _, _, okC3, by decide, rfl, rfl, Or.inl rfl, Or.inl rfl⟩
theorem gf30w : gF "RopeRound$Ground" 32 1 (fun k => k = 3) (fun n => n = 0) := by
  refine ⟨_, _, _, kw73, fun ci h => ?_⟩
  rcases h with rfl
  · exact ⟨_, _, _, okC3, by decide, rfl, rfl, Or.inl rfl, rfl⟩
theorem kw76 : Cond.fieldLink "RopeRound$Ground" 35 "RopeRound$Ground" "men" "I" ∈ tg := kt 76 (by decide +kernel) (by decide +kernel)
theorem gf31 : gF "RopeRound$Ground" 35 2 (fun k => k = 3) (fun n => n = 0 ∨ n = 4) := by
  refine ⟨_, _, _, kw76, fun ci h => ?_⟩
  rcases h with rfl
  · exact ⟨_, _, _, okC3, by decide, rfl, rfl, Or.inl rfl, Or.inl rfl⟩
theorem gf31w : gF "RopeRound$Ground" 35 2 (fun k => k = 3) (fun n => n = 0) := by
  refine ⟨_, _, _, kw76, fun ci h => ?_⟩
  rcases h with rfl
  · exact ⟨_, _, _, okC3, by decide, rfl, rfl, Or.inl rfl, rfl⟩
theorem kw79 : Cond.fieldLink "RopeRound$Ground" 38 "RopeRound$Ground" "water" "J" ∈ tg := kt 79 (by decide +kernel) (by decide +kernel)
theorem gf32 : gF "RopeRound$Ground" 38 3 (fun k => k = 3) (fun n => n = 1) := by
  refine ⟨_, _, _, kw79, fun ci h => ?_⟩
  rcases h with rfl
  · exact ⟨_, _, _, okC3, by decide, rfl, rfl, Or.inl rfl, rfl⟩
theorem kw80 : Cond.fieldLink "RopeRound$Ground" 42 "RopeRound$Ground" "stones" "J" ∈ tg := kt 80 (by decide +kernel) (by decide +kernel)
theorem gf33 : gF "RopeRound$Ground" 42 4 (fun k => k = 3) (fun n => n = 1) := by
  refine ⟨_, _, _, kw80, fun ci h => ?_⟩
  rcases h with rfl
  · exact ⟨_, _, _, okC3, by decide, rfl, rfl, Or.inl rfl, rfl⟩
theorem gf34 : gF "RopeRound$Ground" 11 5 (fun k => k = 3) (fun n => n = 2) := by
  refine ⟨_, _, _, kw83, fun ci h => ?_⟩
  rcases h with rfl
  · exact ⟨_, _, _, okC3, by decide, rfl, rfl, Or.inl rfl, rfl⟩
theorem gf35 : gF "RopeRound$Ground" 22 8 (fun k => k = 3) (fun n => n = 2) := by
  refine ⟨_, _, _, kw94, fun ci h => ?_⟩
  rcases h with rfl
  · exact ⟨_, _, _, okC3, by decide, rfl, rfl, Or.inl rfl, rfl⟩
theorem kw579 : Cond.methodLink "RopeRound$Ground" 45 ⟨"java/lang/System", "arraycopy", "(Ljava/lang/Object;ILjava/lang/Object;II)V"⟩ ∈ tg := kt 579 (by decide +kernel) (by decide +kernel)
theorem kw384 : Cond.native ⟨"java/lang/System", "arraycopy", "(Ljava/lang/Object;ILjava/lang/Object;II)V"⟩ ∈ tg := kt 384 (by decide +kernel) (by decide +kernel)
theorem kw383 : Cond.static ⟨"java/lang/System", "arraycopy", "(Ljava/lang/Object;ILjava/lang/Object;II)V"⟩ ∈ tg := kt 383 (by decide +kernel) (by decide +kernel)
theorem kw13 : Cond.initialized "java/lang/System" ∈ tg := kt 13 (by decide +kernel) (by decide +kernel)
theorem gf36 : gF "RopeRound$Ground" 15 6 (fun k => k = 3) (fun n => n = 2) := by
  refine ⟨_, _, _, kw84, fun ci h => ?_⟩
  rcases h with rfl
  · exact ⟨_, _, _, okC3, by decide, rfl, rfl, Or.inl rfl, rfl⟩
theorem gf37 : gF "RopeRound$Ground" 19 7 (fun k => k = 3) (fun n => n = 2) := by
  refine ⟨_, _, _, kw89, fun ci h => ?_⟩
  rcases h with rfl
  · exact ⟨_, _, _, okC3, by decide, rfl, rfl, Or.inl rfl, rfl⟩
theorem gf38 : gF "RopeRound$Ground" 25 9 (fun k => k = 3) (fun n => n = 2) := by
  refine ⟨_, _, _, kw96, fun ci h => ?_⟩
  rcases h with rfl
  · exact ⟨_, _, _, okC3, by decide, rfl, rfl, Or.inl rfl, rfl⟩
theorem kw98 : Cond.fieldLink "RopeRound$Ground" 51 "RopeRound$Ground" "ringed" "J" ∈ tg := kt 98 (by decide +kernel) (by decide +kernel)
theorem gf39 : gF "RopeRound$Ground" 51 10 (fun k => k = 3) (fun n => n = 1) := by
  refine ⟨_, _, _, kw98, fun ci h => ?_⟩
  rcases h with rfl
  · exact ⟨_, _, _, okC3, by decide, rfl, rfl, Or.inl rfl, rfl⟩
theorem kw100 : Cond.fieldLink "RopeRound$Ground" 54 "RopeRound$Ground" "freeEast" "J" ∈ tg := kt 100 (by decide +kernel) (by decide +kernel)
theorem gf40 : gF "RopeRound$Ground" 54 11 (fun k => k = 3) (fun n => n = 1) := by
  refine ⟨_, _, _, kw100, fun ci h => ?_⟩
  rcases h with rfl
  · exact ⟨_, _, _, okC3, by decide, rfl, rfl, Or.inl rfl, rfl⟩
theorem kw101 : Cond.fieldLink "RopeRound$Ground" 57 "RopeRound$Ground" "freeSouth" "J" ∈ tg := kt 101 (by decide +kernel) (by decide +kernel)
theorem gf41 : gF "RopeRound$Ground" 57 12 (fun k => k = 3) (fun n => n = 1) := by
  refine ⟨_, _, _, kw101, fun ci h => ?_⟩
  rcases h with rfl
  · exact ⟨_, _, _, okC3, by decide, rfl, rfl, Or.inl rfl, rfl⟩
set_option maxRecDepth 100000 in
theorem kw560 : Cond.code ⟨"RopeRound$Ground", "isThere", "()Z"⟩ prog_5_method_4_code 1 (some FieldType.boolean) ∈ tg := kt 560 rfl rfl
theorem mo25 : MOk (mT 25) 0 := ⟨kw560, kw4, by decide +kernel, by decide +kernel, by decide⟩
theorem kw558 : Cond.instanceMethod ⟨"RopeRound$Ground", "isThere", "()Z"⟩ ∈ tg := kt 558 (by decide +kernel) (by decide +kernel)
theorem kw557 : Cond.methodLink "RopeRound$Ground" 60 ⟨"RopeRound$Ground", "isThere", "()Z"⟩ ∈ tg := kt 557 (by decide +kernel) (by decide +kernel)
theorem kw559 : Cond.selects "RopeRound$Ground" ⟨"RopeRound$Ground", "isThere", "()Z"⟩ ⟨"RopeRound$Ground", "isThere", "()Z"⟩ ∈ tg := kt 559 (by decide +kernel) (by decide +kernel)
theorem vk20 : ∀ ci y, (fun k => if k = 3 then some 25 else none) ci = some y → (∃ C T N, ClsOk ci C T N ∧ VOk mT "RopeRound$Ground" 60 C y 0) ∨ (ci = 201 ∧ VOk mT "RopeRound$Ground" 60 "java/lang/String" y 0) := by
  intro ci y h
  dsimp only at h
  by_cases h3 : ci = 3
  · subst h3
    have h := (Option.some.inj (by simpa using h)).symm
    subst h
    exact Or.inl ⟨_, _, _, okC3, ⟨mo25, kw558, Or.inl ⟨rfl, kw557, kw559⟩⟩⟩
  rw [if_neg h3] at h
  cases h
theorem kw553 : Cond.methodLink "RopeRound$Ground" 64 ⟨"RopeRound$Ground", "hasCorner", "(I)Z"⟩ ∈ tg := kt 553 (by decide +kernel) (by decide +kernel)
theorem vk21 : ∀ ci y, (fun k => if k = 3 then some 28 else none) ci = some y → (∃ C T N, ClsOk ci C T N ∧ VOk mT "RopeRound$Ground" 64 C y 1) ∨ (ci = 201 ∧ VOk mT "RopeRound$Ground" 64 "java/lang/String" y 1) := by
  intro ci y h
  dsimp only at h
  by_cases h3 : ci = 3
  · subst h3
    have h := (Option.some.inj (by simpa using h)).symm
    subst h
    exact Or.inl ⟨_, _, _, okC3, ⟨mo28, kw554, Or.inl ⟨rfl, kw553, kw555⟩⟩⟩
  rw [if_neg h3] at h
  cases h
theorem kn561 : Cond.methodLinkNest "RopeRound$Ground" 68 ⟨"RopeRound", "has", "(JI)Z"⟩ "RopeRound" ∈ tb := kn 561 (by decide +kernel)
theorem kw562 : Cond.constantLong "RopeRound$Ground" 72 9187201950435737471 ∈ tg := kt 562 (by decide +kernel) (by decide +kernel)
theorem kw563 : Cond.constantLong "RopeRound$Ground" 74 (-72340172838076674) ∈ tg := kt 563 (by decide +kernel) (by decide +kernel)
theorem kn568 : Cond.methodLinkNest "RopeRound$Ground" 76 ⟨"RopeRound", "bordersEast", "(J)J"⟩ "RopeRound" ∈ tb := kn 568 (by decide +kernel)
theorem kw569 : Cond.static ⟨"RopeRound", "bordersEast", "(J)J"⟩ ∈ tg := kt 569 (by decide +kernel) (by decide +kernel)
set_option maxRecDepth 100000 in
theorem kw570 : Cond.code ⟨"RopeRound", "bordersEast", "(J)J"⟩ prog_1_method_45_code 2 (some FieldType.long) ∈ tg := kt 570 rfl rfl
theorem mo125 : MOk (mT 125) 1 := ⟨kw570, kw1, by decide +kernel, by decide +kernel, by decide⟩
theorem kn571 : Cond.methodLinkNest "RopeRound$Ground" 80 ⟨"RopeRound", "bordersSouth", "(J)J"⟩ "RopeRound" ∈ tb := kn 571 (by decide +kernel)
theorem kw572 : Cond.static ⟨"RopeRound", "bordersSouth", "(J)J"⟩ ∈ tg := kt 572 (by decide +kernel) (by decide +kernel)
set_option maxRecDepth 100000 in
theorem kw573 : Cond.code ⟨"RopeRound", "bordersSouth", "(J)J"⟩ prog_1_method_46_code 2 (some FieldType.long) ∈ tg := kt 573 rfl rfl
theorem mo126 : MOk (mT 126) 1 := ⟨kw573, kw1, by decide +kernel, by decide +kernel, by decide⟩
theorem kn601 : Cond.fieldLinkNest "RopeRound$Ground" 83 "RopeRound" "STRIDES" "[I" "RopeRound" ∈ tb := kn 601 (by decide +kernel)
theorem kw725 : Cond.constantLong "RopeRound$Ground" 86 (-1) ∈ tg := kt 725 (by decide +kernel) (by decide +kernel)
theorem kw645 : Cond.methodLink "RopeRound$Ground" 88 ⟨"java/lang/Long", "bitCount", "(J)I"⟩ ∈ tg := kt 645 (by decide +kernel) (by decide +kernel)
theorem kw646 : Cond.static ⟨"java/lang/Long", "bitCount", "(J)I"⟩ ∈ tg := kt 646 (by decide +kernel) (by decide +kernel)
set_option maxRecDepth 100000 in
theorem kw647 : Cond.code ⟨"java/lang/Long", "bitCount", "(J)I"⟩ prog_14_method_50_code 2 (some FieldType.int) ∈ tg := kt 647 rfl rfl
theorem kw18 : Cond.initialized "java/lang/Long" ∈ tg := kt 18 (by decide +kernel) (by decide +kernel)
theorem mo210 : MOk (mT 210) 1 := ⟨kw647, kw18, by decide +kernel, by decide +kernel, by decide⟩
theorem kw689 : Cond.constant "RopeRound$Ground" 94 (-1000000) ∈ tg := kt 689 (by decide +kernel) (by decide +kernel)
set_option maxRecDepth 100000 in
theorem kw658 : Cond.code ⟨"RopeRound$Ground", "hasRing", "(I)Z"⟩ prog_5_method_6_code 2 (some FieldType.boolean) ∈ tg := kt 658 rfl rfl
theorem mo27 : MOk (mT 27) 1 := ⟨kw658, kw4, by decide +kernel, by decide +kernel, by decide⟩
theorem kw656 : Cond.instanceMethod ⟨"RopeRound$Ground", "hasRing", "(I)Z"⟩ ∈ tg := kt 656 (by decide +kernel) (by decide +kernel)
theorem kw931 : Cond.methodLink "RopeRound$Ground" 95 ⟨"RopeRound$Ground", "hasRing", "(I)Z"⟩ ∈ tg := kt 931 (by decide +kernel) (by decide +kernel)
theorem kw657 : Cond.selects "RopeRound$Ground" ⟨"RopeRound$Ground", "hasRing", "(I)Z"⟩ ⟨"RopeRound$Ground", "hasRing", "(I)Z"⟩ ∈ tg := kt 657 (by decide +kernel) (by decide +kernel)
theorem vk22 : ∀ ci y, (fun k => if k = 3 then some 27 else none) ci = some y → (∃ C T N, ClsOk ci C T N ∧ VOk mT "RopeRound$Ground" 95 C y 1) ∨ (ci = 201 ∧ VOk mT "RopeRound$Ground" 95 "java/lang/String" y 1) := by
  intro ci y h
  dsimp only at h
  by_cases h3 : ci = 3
  · subst h3
    have h := (Option.some.inj (by simpa using h)).symm
    subst h
    exact Or.inl ⟨_, _, _, okC3, ⟨mo27, kw656, Or.inl ⟨rfl, kw931, kw657⟩⟩⟩
  rw [if_neg h3] at h
  cases h
theorem kw851 : Cond.methodLink "RopeRound$Ground" 98 ⟨"RopeRound$Ground", "worthOf", "(J)I"⟩ ∈ tg := kt 851 (by decide +kernel) (by decide +kernel)
theorem vk23 : ∀ ci y, (fun k => if k = 3 then some 36 else none) ci = some y → (∃ C T N, ClsOk ci C T N ∧ VOk mT "RopeRound$Ground" 98 C y 1) ∨ (ci = 201 ∧ VOk mT "RopeRound$Ground" 98 "java/lang/String" y 1) := by
  intro ci y h
  dsimp only at h
  by_cases h3 : ci = 3
  · subst h3
    have h := (Option.some.inj (by simpa using h)).symm
    subst h
    exact Or.inl ⟨_, _, _, okC3, ⟨mo36, kw642, Or.inl ⟨rfl, kw851, kw643⟩⟩⟩
  rw [if_neg h3] at h
  cases h
theorem kw35 : Cond.methodLink "RopeRound$Reader" 3 ⟨"java/lang/Object", "<init>", "()V"⟩ ∈ tg := kt 35 (by decide +kernel) (by decide +kernel)
theorem kw36 : Cond.classLink "RopeRound$Reader" 9 "RopeRound$Tape" ∈ tg := kt 36 (by decide +kernel) (by decide +kernel)
theorem kn38 : Cond.methodLinkNest "RopeRound$Reader" 11 ⟨"RopeRound$Tape", "<init>", "()V"⟩ "RopeRound" ∈ tb := kn 38 (by decide +kernel)
theorem kw39 : Cond.instanceMethod ⟨"RopeRound$Tape", "<init>", "()V"⟩ ∈ tg := kt 39 (by decide +kernel) (by decide +kernel)
set_option maxRecDepth 100000 in
theorem kw40 : Cond.code ⟨"RopeRound$Tape", "<init>", "()V"⟩ prog_9_method_1_code 1 none ∈ tg := kt 40 rfl rfl
theorem kw3 : Cond.initialized "RopeRound$Tape" ∈ tg := kt 3 (by decide +kernel) (by decide +kernel)
theorem mo63 : MOk (mT 63) 0 := ⟨kw40, kw3, by decide +kernel, by decide +kernel, by decide⟩
theorem kw131 : Cond.fieldLink "RopeRound$Reader" 12 "RopeRound$Reader" "tape" "LRopeRound$Tape;" ∈ tg := kt 131 (by decide +kernel) (by decide +kernel)
theorem gf42f : gFF "RopeRound$Reader" 12 0 (fun k => k = 4) := by
  refine ⟨_, _, _, kw131, fun ci h => ?_⟩
  rcases h with rfl
  · exact ⟨_, _, _, okC4, by decide, rfl, rfl, rfl, rfl, rfl⟩
theorem kw64 : Cond.classLink "RopeRound$Reader" 18 "RopeRound$Ground" ∈ tg := kt 64 (by decide +kernel) (by decide +kernel)
theorem kn66 : Cond.methodLinkNest "RopeRound$Reader" 20 ⟨"RopeRound$Ground", "<init>", "()V"⟩ "RopeRound" ∈ tb := kn 66 (by decide +kernel)
theorem kw67 : Cond.instanceMethod ⟨"RopeRound$Ground", "<init>", "()V"⟩ ∈ tg := kt 67 (by decide +kernel) (by decide +kernel)
set_option maxRecDepth 100000 in
theorem kw68 : Cond.code ⟨"RopeRound$Ground", "<init>", "()V"⟩ prog_5_method_1_code 1 none ∈ tg := kt 68 rfl rfl
theorem mo22 : MOk (mT 22) 0 := ⟨kw68, kw4, by decide +kernel, by decide +kernel, by decide⟩
theorem kw133 : Cond.fieldLink "RopeRound$Reader" 21 "RopeRound$Reader" "draft" "LRopeRound$Ground;" ∈ tg := kt 133 (by decide +kernel) (by decide +kernel)
theorem gf43f : gFF "RopeRound$Reader" 21 1 (fun k => k = 4) := by
  refine ⟨_, _, _, kw133, fun ci h => ?_⟩
  rcases h with rfl
  · exact ⟨_, _, _, okC4, by decide, rfl, rfl, rfl, rfl, rfl⟩
theorem gf44 : gF "RopeRound$Reader" 21 1 (fun k => k = 4) (fun n => n = 2) := by
  refine ⟨_, _, _, kw133, fun ci h => ?_⟩
  rcases h with rfl
  · exact ⟨_, _, _, okC4, by decide, rfl, rfl, Or.inl rfl, rfl⟩
set_option maxRecDepth 100000 in
theorem kw413 : Cond.code ⟨"RopeRound$Ground", "clear", "()V"⟩ prog_5_method_2_code 2 none ∈ tg := kt 413 rfl rfl
theorem mo23 : MOk (mT 23) 0 := ⟨kw413, kw4, by decide +kernel, by decide +kernel, by decide⟩
theorem kw411 : Cond.instanceMethod ⟨"RopeRound$Ground", "clear", "()V"⟩ ∈ tg := kt 411 (by decide +kernel) (by decide +kernel)
theorem kw410 : Cond.methodLink "RopeRound$Reader" 25 ⟨"RopeRound$Ground", "clear", "()V"⟩ ∈ tg := kt 410 (by decide +kernel) (by decide +kernel)
theorem kw412 : Cond.selects "RopeRound$Ground" ⟨"RopeRound$Ground", "clear", "()V"⟩ ⟨"RopeRound$Ground", "clear", "()V"⟩ ∈ tg := kt 412 (by decide +kernel) (by decide +kernel)
theorem vk24 : ∀ ci y, (fun k => if k = 3 then some 23 else none) ci = some y → (∃ C T N, ClsOk ci C T N ∧ VOk mT "RopeRound$Reader" 25 C y 0) ∨ (ci = 201 ∧ VOk mT "RopeRound$Reader" 25 "java/lang/String" y 0) := by
  intro ci y h
  dsimp only at h
  by_cases h3 : ci = 3
  · subst h3
    have h := (Option.some.inj (by simpa using h)).symm
    subst h
    exact Or.inl ⟨_, _, _, okC3, ⟨mo23, kw411, Or.inl ⟨rfl, kw410, kw412⟩⟩⟩
  rw [if_neg h3] at h
  cases h
theorem gf45 : gF "RopeRound$Reader" 12 0 (fun k => k = 4) (fun n => n = 2) := by
  refine ⟨_, _, _, kw131, fun ci h => ?_⟩
  rcases h with rfl
  · exact ⟨_, _, _, okC4, by decide, rfl, rfl, Or.inl rfl, rfl⟩
set_option maxRecDepth 100000 in
theorem kw417 : Cond.code ⟨"RopeRound$Tape", "rewind", "()V"⟩ prog_9_method_3_code 1 none ∈ tg := kt 417 rfl rfl
theorem mo65 : MOk (mT 65) 0 := ⟨kw417, kw3, by decide +kernel, by decide +kernel, by decide⟩
theorem kw415 : Cond.instanceMethod ⟨"RopeRound$Tape", "rewind", "()V"⟩ ∈ tg := kt 415 (by decide +kernel) (by decide +kernel)
theorem kw414 : Cond.methodLink "RopeRound$Reader" 28 ⟨"RopeRound$Tape", "rewind", "()V"⟩ ∈ tg := kt 414 (by decide +kernel) (by decide +kernel)
theorem kw416 : Cond.selects "RopeRound$Tape" ⟨"RopeRound$Tape", "rewind", "()V"⟩ ⟨"RopeRound$Tape", "rewind", "()V"⟩ ∈ tg := kt 416 (by decide +kernel) (by decide +kernel)
theorem vk25 : ∀ ci y, (fun k => if k = 7 then some 65 else none) ci = some y → (∃ C T N, ClsOk ci C T N ∧ VOk mT "RopeRound$Reader" 28 C y 0) ∨ (ci = 201 ∧ VOk mT "RopeRound$Reader" 28 "java/lang/String" y 0) := by
  intro ci y h
  dsimp only at h
  by_cases h7 : ci = 7
  · subst h7
    have h := (Option.some.inj (by simpa using h)).symm
    subst h
    exact Or.inl ⟨_, _, _, okC7, ⟨mo65, kw415, Or.inl ⟨rfl, kw414, kw416⟩⟩⟩
  rw [if_neg h7] at h
  cases h
set_option maxRecDepth 100000 in
theorem kw441 : Cond.code ⟨"RopeRound$Reader", "readRows", "()Z"⟩ prog_6_method_4_code 3 (some FieldType.boolean) ∈ tg := kt 441 rfl rfl
theorem kw2 : Cond.initialized "RopeRound$Reader" ∈ tg := kt 2 (by decide +kernel) (by decide +kernel)
theorem mo43 : MOk (mT 43) 0 := ⟨kw441, kw2, by decide +kernel, by decide +kernel, by decide⟩
theorem kw440 : Cond.instanceMethod ⟨"RopeRound$Reader", "readRows", "()Z"⟩ ∈ tg := kt 440 (by decide +kernel) (by decide +kernel)
theorem kw438 : Cond.methodLink "RopeRound$Reader" 31 ⟨"RopeRound$Reader", "readRows", "()Z"⟩ ∈ tg := kt 438 (by decide +kernel) (by decide +kernel)
theorem vk26 : ∀ ci y, (fun k => if k = 4 then some 43 else none) ci = some y → (∃ C T N, ClsOk ci C T N ∧ VOk mT "RopeRound$Reader" 31 C y 0) ∨ (ci = 201 ∧ VOk mT "RopeRound$Reader" 31 "java/lang/String" y 0) := by
  intro ci y h
  dsimp only at h
  by_cases h4 : ci = 4
  · subst h4
    have h := (Option.some.inj (by simpa using h)).symm
    subst h
    exact Or.inl ⟨_, _, _, okC4, ⟨mo43, kw440, Or.inl ⟨rfl, kw438, (ks (q := (⟨"RopeRound$Reader", "readRows", "()Z"⟩, 4)) (by decide +kernel))⟩⟩⟩
  rw [if_neg h4] at h
  cases h
set_option maxRecDepth 100000 in
theorem kw519 : Cond.code ⟨"RopeRound$Reader", "readStones", "()Z"⟩ prog_6_method_5_code 2 (some FieldType.boolean) ∈ tg := kt 519 rfl rfl
theorem mo44 : MOk (mT 44) 0 := ⟨kw519, kw2, by decide +kernel, by decide +kernel, by decide⟩
theorem kw518 : Cond.instanceMethod ⟨"RopeRound$Reader", "readStones", "()Z"⟩ ∈ tg := kt 518 (by decide +kernel) (by decide +kernel)
theorem kw516 : Cond.methodLink "RopeRound$Reader" 35 ⟨"RopeRound$Reader", "readStones", "()Z"⟩ ∈ tg := kt 516 (by decide +kernel) (by decide +kernel)
theorem vk27 : ∀ ci y, (fun k => if k = 4 then some 44 else none) ci = some y → (∃ C T N, ClsOk ci C T N ∧ VOk mT "RopeRound$Reader" 35 C y 0) ∨ (ci = 201 ∧ VOk mT "RopeRound$Reader" 35 "java/lang/String" y 0) := by
  intro ci y h
  dsimp only at h
  by_cases h4 : ci = 4
  · subst h4
    have h := (Option.some.inj (by simpa using h)).symm
    subst h
    exact Or.inl ⟨_, _, _, okC4, ⟨mo44, kw518, Or.inl ⟨rfl, kw516, (ks (q := (⟨"RopeRound$Reader", "readStones", "()Z"⟩, 4)) (by decide +kernel))⟩⟩⟩
  rw [if_neg h4] at h
  cases h
set_option maxRecDepth 100000 in
theorem kw536 : Cond.code ⟨"RopeRound$Reader", "readMen", "()Z"⟩ prog_6_method_6_code 3 (some FieldType.boolean) ∈ tg := kt 536 rfl rfl
theorem mo45 : MOk (mT 45) 0 := ⟨kw536, kw2, by decide +kernel, by decide +kernel, by decide⟩
theorem kw535 : Cond.instanceMethod ⟨"RopeRound$Reader", "readMen", "()Z"⟩ ∈ tg := kt 535 (by decide +kernel) (by decide +kernel)
theorem kw533 : Cond.methodLink "RopeRound$Reader" 38 ⟨"RopeRound$Reader", "readMen", "()Z"⟩ ∈ tg := kt 533 (by decide +kernel) (by decide +kernel)
theorem vk28 : ∀ ci y, (fun k => if k = 4 then some 45 else none) ci = some y → (∃ C T N, ClsOk ci C T N ∧ VOk mT "RopeRound$Reader" 38 C y 0) ∨ (ci = 201 ∧ VOk mT "RopeRound$Reader" 38 "java/lang/String" y 0) := by
  intro ci y h
  dsimp only at h
  by_cases h4 : ci = 4
  · subst h4
    have h := (Option.some.inj (by simpa using h)).symm
    subst h
    exact Or.inl ⟨_, _, _, okC4, ⟨mo45, kw535, Or.inl ⟨rfl, kw533, (ks (q := (⟨"RopeRound$Reader", "readMen", "()Z"⟩, 4)) (by decide +kernel))⟩⟩⟩
  rw [if_neg h4] at h
  cases h
set_option maxRecDepth 100000 in
theorem kw552 : Cond.code ⟨"RopeRound$Ground", "reckonWays", "()V"⟩ prog_5_method_10_code 4 none ∈ tg := kt 552 rfl rfl
theorem mo31 : MOk (mT 31) 0 := ⟨kw552, kw4, by decide +kernel, by decide +kernel, by decide⟩
theorem kw550 : Cond.instanceMethod ⟨"RopeRound$Ground", "reckonWays", "()V"⟩ ∈ tg := kt 550 (by decide +kernel) (by decide +kernel)
theorem kw549 : Cond.methodLink "RopeRound$Reader" 41 ⟨"RopeRound$Ground", "reckonWays", "()V"⟩ ∈ tg := kt 549 (by decide +kernel) (by decide +kernel)
theorem kw551 : Cond.selects "RopeRound$Ground" ⟨"RopeRound$Ground", "reckonWays", "()V"⟩ ⟨"RopeRound$Ground", "reckonWays", "()V"⟩ ∈ tg := kt 551 (by decide +kernel) (by decide +kernel)
theorem vk29 : ∀ ci y, (fun k => if k = 3 then some 31 else none) ci = some y → (∃ C T N, ClsOk ci C T N ∧ VOk mT "RopeRound$Reader" 41 C y 0) ∨ (ci = 201 ∧ VOk mT "RopeRound$Reader" 41 "java/lang/String" y 0) := by
  intro ci y h
  dsimp only at h
  by_cases h3 : ci = 3
  · subst h3
    have h := (Option.some.inj (by simpa using h)).symm
    subst h
    exact Or.inl ⟨_, _, _, okC3, ⟨mo31, kw550, Or.inl ⟨rfl, kw549, kw551⟩⟩⟩
  rw [if_neg h3] at h
  cases h
set_option maxRecDepth 100000 in
theorem kw567 : Cond.code ⟨"RopeRound$Ground", "reckonRings", "()V"⟩ prog_5_method_11_code 2 none ∈ tg := kt 567 rfl rfl
theorem mo32 : MOk (mT 32) 0 := ⟨kw567, kw4, by decide +kernel, by decide +kernel, by decide⟩
theorem kw565 : Cond.instanceMethod ⟨"RopeRound$Ground", "reckonRings", "()V"⟩ ∈ tg := kt 565 (by decide +kernel) (by decide +kernel)
theorem kw564 : Cond.methodLink "RopeRound$Reader" 44 ⟨"RopeRound$Ground", "reckonRings", "()V"⟩ ∈ tg := kt 564 (by decide +kernel) (by decide +kernel)
theorem kw566 : Cond.selects "RopeRound$Ground" ⟨"RopeRound$Ground", "reckonRings", "()V"⟩ ⟨"RopeRound$Ground", "reckonRings", "()V"⟩ ∈ tg := kt 566 (by decide +kernel) (by decide +kernel)
theorem vk30 : ∀ ci y, (fun k => if k = 3 then some 32 else none) ci = some y → (∃ C T N, ClsOk ci C T N ∧ VOk mT "RopeRound$Reader" 44 C y 0) ∨ (ci = 201 ∧ VOk mT "RopeRound$Reader" 44 "java/lang/String" y 0) := by
  intro ci y h
  dsimp only at h
  by_cases h3 : ci = 3
  · subst h3
    have h := (Option.some.inj (by simpa using h)).symm
    subst h
    exact Or.inl ⟨_, _, _, okC3, ⟨mo32, kw565, Or.inl ⟨rfl, kw564, kw566⟩⟩⟩
  rw [if_neg h3] at h
  cases h
theorem kw135 : Cond.fieldLink "RopeRound$Reader" 47 "RopeRound$Reader" "fault" "I" ∈ tg := kt 135 (by decide +kernel) (by decide +kernel)
theorem gf46 : gF "RopeRound$Reader" 47 2 (fun k => k = 4) (fun n => n = 0 ∨ n = 4) := by
  refine ⟨_, _, _, kw135, fun ci h => ?_⟩
  rcases h with rfl
  · exact ⟨_, _, _, okC4, by decide, rfl, rfl, Or.inl rfl, Or.inl rfl⟩
theorem gf46w : gF "RopeRound$Reader" 47 2 (fun k => k = 4) (fun n => n = 0) := by
  refine ⟨_, _, _, kw135, fun ci h => ?_⟩
  rcases h with rfl
  · exact ⟨_, _, _, okC4, by decide, rfl, rfl, Or.inl rfl, rfl⟩
theorem kw48 : Cond.fieldLink "RopeRound$Reader" 51 "RopeRound$Tape" "start" "I" ∈ tg := kt 48 (by decide +kernel) (by decide +kernel)
theorem gf47 : gF "RopeRound$Reader" 51 3 (fun k => k = 7) (fun n => n = 0 ∨ n = 4) := by
  refine ⟨_, _, _, kw48, fun ci h => ?_⟩
  rcases h with rfl
  · exact ⟨_, _, _, okC7, by decide, rfl, rfl, Or.inl rfl, Or.inl rfl⟩
theorem gf47w : gF "RopeRound$Reader" 51 3 (fun k => k = 7) (fun n => n = 0) := by
  refine ⟨_, _, _, kw48, fun ci h => ?_⟩
  rcases h with rfl
  · exact ⟨_, _, _, okC7, by decide, rfl, rfl, Or.inl rfl, rfl⟩
theorem kw137 : Cond.fieldLink "RopeRound$Reader" 54 "RopeRound$Reader" "faultPlace" "I" ∈ tg := kt 137 (by decide +kernel) (by decide +kernel)
theorem gf48 : gF "RopeRound$Reader" 54 3 (fun k => k = 4) (fun n => n = 0 ∨ n = 4) := by
  refine ⟨_, _, _, kw137, fun ci h => ?_⟩
  rcases h with rfl
  · exact ⟨_, _, _, okC4, by decide, rfl, rfl, Or.inl rfl, Or.inl rfl⟩
theorem gf48w : gF "RopeRound$Reader" 54 3 (fun k => k = 4) (fun n => n = 0) := by
  refine ⟨_, _, _, kw137, fun ci h => ?_⟩
  rcases h with rfl
  · exact ⟨_, _, _, okC4, by decide, rfl, rfl, Or.inl rfl, rfl⟩
set_option maxRecDepth 100000 in
theorem kw446 : Cond.code ⟨"RopeRound$Reader", "readWord", "(Ljava/lang/String;II)Z"⟩ prog_6_method_7_code 4 (some FieldType.boolean) ∈ tg := kt 446 rfl rfl
theorem mo46 : MOk (mT 46) 3 := ⟨kw446, kw2, by decide +kernel, by decide +kernel, by decide⟩
theorem kw445 : Cond.instanceMethod ⟨"RopeRound$Reader", "readWord", "(Ljava/lang/String;II)Z"⟩ ∈ tg := kt 445 (by decide +kernel) (by decide +kernel)
theorem kw443 : Cond.methodLink "RopeRound$Reader" 59 ⟨"RopeRound$Reader", "readWord", "(Ljava/lang/String;II)Z"⟩ ∈ tg := kt 443 (by decide +kernel) (by decide +kernel)
theorem vk31 : ∀ ci y, (fun k => if k = 4 then some 46 else none) ci = some y → (∃ C T N, ClsOk ci C T N ∧ VOk mT "RopeRound$Reader" 59 C y 3) ∨ (ci = 201 ∧ VOk mT "RopeRound$Reader" 59 "java/lang/String" y 3) := by
  intro ci y h
  dsimp only at h
  by_cases h4 : ci = 4
  · subst h4
    have h := (Option.some.inj (by simpa using h)).symm
    subst h
    exact Or.inl ⟨_, _, _, okC4, ⟨mo46, kw445, Or.inl ⟨rfl, kw443, (ks (q := (⟨"RopeRound$Reader", "readWord", "(Ljava/lang/String;II)Z"⟩, 4)) (by decide +kernel))⟩⟩⟩
  rw [if_neg h4] at h
  cases h
set_option maxRecDepth 100000 in
theorem kw507 : Cond.code ⟨"RopeRound$Reader", "readCells", "()Z"⟩ prog_6_method_9_code 4 (some FieldType.boolean) ∈ tg := kt 507 rfl rfl
theorem mo48 : MOk (mT 48) 0 := ⟨kw507, kw2, by decide +kernel, by decide +kernel, by decide⟩
theorem kw506 : Cond.instanceMethod ⟨"RopeRound$Reader", "readCells", "()Z"⟩ ∈ tg := kt 506 (by decide +kernel) (by decide +kernel)
theorem kw504 : Cond.methodLink "RopeRound$Reader" 63 ⟨"RopeRound$Reader", "readCells", "()Z"⟩ ∈ tg := kt 504 (by decide +kernel) (by decide +kernel)
theorem vk32 : ∀ ci y, (fun k => if k = 4 then some 48 else none) ci = some y → (∃ C T N, ClsOk ci C T N ∧ VOk mT "RopeRound$Reader" 63 C y 0) ∨ (ci = 201 ∧ VOk mT "RopeRound$Reader" 63 "java/lang/String" y 0) := by
  intro ci y h
  dsimp only at h
  by_cases h4 : ci = 4
  · subst h4
    have h := (Option.some.inj (by simpa using h)).symm
    subst h
    exact Or.inl ⟨_, _, _, okC4, ⟨mo48, kw506, Or.inl ⟨rfl, kw504, (ks (q := (⟨"RopeRound$Reader", "readCells", "()Z"⟩, 4)) (by decide +kernel))⟩⟩⟩
  rw [if_neg h4] at h
  cases h
set_option maxRecDepth 100000 in
theorem kw515 : Cond.code ⟨"RopeRound$Reader", "readSign", "()Z"⟩ prog_6_method_8_code 1 (some FieldType.boolean) ∈ tg := kt 515 rfl rfl
theorem mo47 : MOk (mT 47) 0 := ⟨kw515, kw2, by decide +kernel, by decide +kernel, by decide⟩
theorem kw514 : Cond.instanceMethod ⟨"RopeRound$Reader", "readSign", "()Z"⟩ ∈ tg := kt 514 (by decide +kernel) (by decide +kernel)
theorem kw512 : Cond.methodLink "RopeRound$Reader" 66 ⟨"RopeRound$Reader", "readSign", "()Z"⟩ ∈ tg := kt 512 (by decide +kernel) (by decide +kernel)
theorem vk33 : ∀ ci y, (fun k => if k = 4 then some 47 else none) ci = some y → (∃ C T N, ClsOk ci C T N ∧ VOk mT "RopeRound$Reader" 66 C y 0) ∨ (ci = 201 ∧ VOk mT "RopeRound$Reader" 66 "java/lang/String" y 0) := by
  intro ci y h
  dsimp only at h
  by_cases h4 : ci = 4
  · subst h4
    have h := (Option.some.inj (by simpa using h)).symm
    subst h
    exact Or.inl ⟨_, _, _, okC4, ⟨mo47, kw514, Or.inl ⟨rfl, kw512, (ks (q := (⟨"RopeRound$Reader", "readSign", "()Z"⟩, 4)) (by decide +kernel))⟩⟩⟩
  rw [if_neg h4] at h
  cases h
set_option maxRecDepth 100000 in
theorem kw450 : Cond.code ⟨"RopeRound$Tape", "isWord", "(Ljava/lang/String;)Z"⟩ prog_9_method_9_code 3 (some FieldType.boolean) ∈ tg := kt 450 rfl rfl
theorem mo71 : MOk (mT 71) 1 := ⟨kw450, kw3, by decide +kernel, by decide +kernel, by decide⟩
theorem kw448 : Cond.instanceMethod ⟨"RopeRound$Tape", "isWord", "(Ljava/lang/String;)Z"⟩ ∈ tg := kt 448 (by decide +kernel) (by decide +kernel)
theorem kw447 : Cond.methodLink "RopeRound$Reader" 69 ⟨"RopeRound$Tape", "isWord", "(Ljava/lang/String;)Z"⟩ ∈ tg := kt 447 (by decide +kernel) (by decide +kernel)
theorem kw449 : Cond.selects "RopeRound$Tape" ⟨"RopeRound$Tape", "isWord", "(Ljava/lang/String;)Z"⟩ ⟨"RopeRound$Tape", "isWord", "(Ljava/lang/String;)Z"⟩ ∈ tg := kt 449 (by decide +kernel) (by decide +kernel)
theorem vk34 : ∀ ci y, (fun k => if k = 7 then some 71 else none) ci = some y → (∃ C T N, ClsOk ci C T N ∧ VOk mT "RopeRound$Reader" 69 C y 1) ∨ (ci = 201 ∧ VOk mT "RopeRound$Reader" 69 "java/lang/String" y 1) := by
  intro ci y h
  dsimp only at h
  by_cases h7 : ci = 7
  · subst h7
    have h := (Option.some.inj (by simpa using h)).symm
    subst h
    exact Or.inl ⟨_, _, _, okC7, ⟨mo71, kw448, Or.inl ⟨rfl, kw447, kw449⟩⟩⟩
  rw [if_neg h7] at h
  cases h
set_option maxRecDepth 100000 in
theorem kw524 : Cond.code ⟨"RopeRound$Reader", "readStone", "()Z"⟩ prog_6_method_11_code 3 (some FieldType.boolean) ∈ tg := kt 524 rfl rfl
theorem mo50 : MOk (mT 50) 0 := ⟨kw524, kw2, by decide +kernel, by decide +kernel, by decide⟩
theorem kw523 : Cond.instanceMethod ⟨"RopeRound$Reader", "readStone", "()Z"⟩ ∈ tg := kt 523 (by decide +kernel) (by decide +kernel)
theorem kw521 : Cond.methodLink "RopeRound$Reader" 75 ⟨"RopeRound$Reader", "readStone", "()Z"⟩ ∈ tg := kt 521 (by decide +kernel) (by decide +kernel)
theorem vk35 : ∀ ci y, (fun k => if k = 4 then some 50 else none) ci = some y → (∃ C T N, ClsOk ci C T N ∧ VOk mT "RopeRound$Reader" 75 C y 0) ∨ (ci = 201 ∧ VOk mT "RopeRound$Reader" 75 "java/lang/String" y 0) := by
  intro ci y h
  dsimp only at h
  by_cases h4 : ci = 4
  · subst h4
    have h := (Option.some.inj (by simpa using h)).symm
    subst h
    exact Or.inl ⟨_, _, _, okC4, ⟨mo50, kw523, Or.inl ⟨rfl, kw521, (ks (q := (⟨"RopeRound$Reader", "readStone", "()Z"⟩, 4)) (by decide +kernel))⟩⟩⟩
  rw [if_neg h4] at h
  cases h
set_option maxRecDepth 100000 in
theorem kw541 : Cond.code ⟨"RopeRound$Reader", "readMan", "()Z"⟩ prog_6_method_12_code 4 (some FieldType.boolean) ∈ tg := kt 541 rfl rfl
theorem mo51 : MOk (mT 51) 0 := ⟨kw541, kw2, by decide +kernel, by decide +kernel, by decide⟩
theorem kw540 : Cond.instanceMethod ⟨"RopeRound$Reader", "readMan", "()Z"⟩ ∈ tg := kt 540 (by decide +kernel) (by decide +kernel)
theorem kw538 : Cond.methodLink "RopeRound$Reader" 80 ⟨"RopeRound$Reader", "readMan", "()Z"⟩ ∈ tg := kt 538 (by decide +kernel) (by decide +kernel)
theorem vk36 : ∀ ci y, (fun k => if k = 4 then some 51 else none) ci = some y → (∃ C T N, ClsOk ci C T N ∧ VOk mT "RopeRound$Reader" 80 C y 0) ∨ (ci = 201 ∧ VOk mT "RopeRound$Reader" 80 "java/lang/String" y 0) := by
  intro ci y h
  dsimp only at h
  by_cases h4 : ci = 4
  · subst h4
    have h := (Option.some.inj (by simpa using h)).symm
    subst h
    exact Or.inl ⟨_, _, _, okC4, ⟨mo51, kw540, Or.inl ⟨rfl, kw538, (ks (q := (⟨"RopeRound$Reader", "readMan", "()Z"⟩, 4)) (by decide +kernel))⟩⟩⟩
  rw [if_neg h4] at h
  cases h
theorem kw47 : Cond.fieldLink "RopeRound$Reader" 83 "RopeRound$Tape" "sort" "I" ∈ tg := kt 47 (by decide +kernel) (by decide +kernel)
theorem gf49 : gF "RopeRound$Reader" 83 2 (fun k => k = 7) (fun n => n = 0 ∨ n = 4) := by
  refine ⟨_, _, _, kw47, fun ci h => ?_⟩
  rcases h with rfl
  · exact ⟨_, _, _, okC7, by decide, rfl, rfl, Or.inl rfl, Or.inl rfl⟩
theorem gf49w : gF "RopeRound$Reader" 83 2 (fun k => k = 7) (fun n => n = 0) := by
  refine ⟨_, _, _, kw47, fun ci h => ?_⟩
  rcases h with rfl
  · exact ⟨_, _, _, okC7, by decide, rfl, rfl, Or.inl rfl, rfl⟩
set_option maxRecDepth 100000 in
theorem kw502 : Cond.code ⟨"RopeRound$Reader", "wrong", "(I)Z"⟩ prog_6_method_3_code 2 (some FieldType.boolean) ∈ tg := kt 502 rfl rfl
theorem mo42 : MOk (mT 42) 1 := ⟨kw502, kw2, by decide +kernel, by decide +kernel, by decide⟩
theorem kw501 : Cond.instanceMethod ⟨"RopeRound$Reader", "wrong", "(I)Z"⟩ ∈ tg := kt 501 (by decide +kernel) (by decide +kernel)
theorem kw499 : Cond.methodLink "RopeRound$Reader" 86 ⟨"RopeRound$Reader", "wrong", "(I)Z"⟩ ∈ tg := kt 499 (by decide +kernel) (by decide +kernel)
theorem vk37 : ∀ ci y, (fun k => if k = 4 then some 42 else none) ci = some y → (∃ C T N, ClsOk ci C T N ∧ VOk mT "RopeRound$Reader" 86 C y 1) ∨ (ci = 201 ∧ VOk mT "RopeRound$Reader" 86 "java/lang/String" y 1) := by
  intro ci y h
  dsimp only at h
  by_cases h4 : ci = 4
  · subst h4
    have h := (Option.some.inj (by simpa using h)).symm
    subst h
    exact Or.inl ⟨_, _, _, okC4, ⟨mo42, kw501, Or.inl ⟨rfl, kw499, (ks (q := (⟨"RopeRound$Reader", "wrong", "(I)Z"⟩, 4)) (by decide +kernel))⟩⟩⟩
  rw [if_neg h4] at h
  cases h
set_option maxRecDepth 100000 in
theorem kw421 : Cond.code ⟨"RopeRound$Tape", "advance", "()V"⟩ prog_9_method_4_code 1 none ∈ tg := kt 421 rfl rfl
theorem mo66 : MOk (mT 66) 0 := ⟨kw421, kw3, by decide +kernel, by decide +kernel, by decide⟩
theorem kw419 : Cond.instanceMethod ⟨"RopeRound$Tape", "advance", "()V"⟩ ∈ tg := kt 419 (by decide +kernel) (by decide +kernel)
theorem kw503 : Cond.methodLink "RopeRound$Reader" 90 ⟨"RopeRound$Tape", "advance", "()V"⟩ ∈ tg := kt 503 (by decide +kernel) (by decide +kernel)
theorem kw420 : Cond.selects "RopeRound$Tape" ⟨"RopeRound$Tape", "advance", "()V"⟩ ⟨"RopeRound$Tape", "advance", "()V"⟩ ∈ tg := kt 420 (by decide +kernel) (by decide +kernel)
theorem vk38 : ∀ ci y, (fun k => if k = 7 then some 66 else none) ci = some y → (∃ C T N, ClsOk ci C T N ∧ VOk mT "RopeRound$Reader" 90 C y 0) ∨ (ci = 201 ∧ VOk mT "RopeRound$Reader" 90 "java/lang/String" y 0) := by
  intro ci y h
  dsimp only at h
  by_cases h7 : ci = 7
  · subst h7
    have h := (Option.some.inj (by simpa using h)).symm
    subst h
    exact Or.inl ⟨_, _, _, okC7, ⟨mo66, kw419, Or.inl ⟨rfl, kw503, kw420⟩⟩⟩
  rw [if_neg h7] at h
  cases h
theorem kw51 : Cond.fieldLink "RopeRound$Reader" 93 "RopeRound$Tape" "end" "I" ∈ tg := kt 51 (by decide +kernel) (by decide +kernel)
theorem gf50 : gF "RopeRound$Reader" 93 4 (fun k => k = 7) (fun n => n = 0 ∨ n = 4) := by
  refine ⟨_, _, _, kw51, fun ci h => ?_⟩
  rcases h with rfl
  · exact ⟨_, _, _, okC7, by decide, rfl, rfl, Or.inl rfl, Or.inl rfl⟩
theorem gf50w : gF "RopeRound$Reader" 93 4 (fun k => k = 7) (fun n => n = 0) := by
  refine ⟨_, _, _, kw51, fun ci h => ?_⟩
  rcases h with rfl
  · exact ⟨_, _, _, okC7, by decide, rfl, rfl, Or.inl rfl, rfl⟩
theorem kw74 : Cond.fieldLink "RopeRound$Reader" 96 "RopeRound$Ground" "high" "I" ∈ tg := kt 74 (by decide +kernel) (by decide +kernel)
theorem gf51 : gF "RopeRound$Reader" 96 1 (fun k => k = 3) (fun n => n = 0 ∨ n = 4) := by
  refine ⟨_, _, _, kw74, fun ci h => ?_⟩
  rcases h with rfl
  · exact ⟨_, _, _, okC3, by decide, rfl, rfl, Or.inl rfl, Or.inl rfl⟩
theorem gf51w : gF "RopeRound$Reader" 96 1 (fun k => k = 3) (fun n => n = 0) := by
  refine ⟨_, _, _, kw74, fun ci h => ?_⟩
  rcases h with rfl
  · exact ⟨_, _, _, okC3, by decide, rfl, rfl, Or.inl rfl, rfl⟩
theorem kw71 : Cond.fieldLink "RopeRound$Reader" 99 "RopeRound$Ground" "wide" "I" ∈ tg := kt 71 (by decide +kernel) (by decide +kernel)
theorem gf52 : gF "RopeRound$Reader" 99 0 (fun k => k = 3) (fun n => n = 0 ∨ n = 4) := by
  refine ⟨_, _, _, kw71, fun ci h => ?_⟩
  rcases h with rfl
  · exact ⟨_, _, _, okC3, by decide, rfl, rfl, Or.inl rfl, Or.inl rfl⟩
theorem gf52w : gF "RopeRound$Reader" 99 0 (fun k => k = 3) (fun n => n = 0) := by
  refine ⟨_, _, _, kw71, fun ci h => ?_⟩
  rcases h with rfl
  · exact ⟨_, _, _, okC3, by decide, rfl, rfl, Or.inl rfl, rfl⟩
theorem kw43 : Cond.fieldLink "RopeRound$Reader" 102 "RopeRound$Tape" "bytes" "[B" ∈ tg := kt 43 (by decide +kernel) (by decide +kernel)
theorem gf53 : gF "RopeRound$Reader" 102 0 (fun k => k = 7) (fun n => n = 2) := by
  refine ⟨_, _, _, kw43, fun ci h => ?_⟩
  rcases h with rfl
  · exact ⟨_, _, _, okC7, by decide, rfl, rfl, Or.inl rfl, rfl⟩
set_option maxRecDepth 100000 in
theorem kw511 : Cond.code ⟨"RopeRound$Ground", "setCell", "(II)V"⟩ prog_5_method_9_code 4 none ∈ tg := kt 511 rfl rfl
theorem mo30 : MOk (mT 30) 2 := ⟨kw511, kw4, by decide +kernel, by decide +kernel, by decide⟩
theorem kw509 : Cond.instanceMethod ⟨"RopeRound$Ground", "setCell", "(II)V"⟩ ∈ tg := kt 509 (by decide +kernel) (by decide +kernel)
theorem kw508 : Cond.methodLink "RopeRound$Reader" 106 ⟨"RopeRound$Ground", "setCell", "(II)V"⟩ ∈ tg := kt 508 (by decide +kernel) (by decide +kernel)
theorem kw510 : Cond.selects "RopeRound$Ground" ⟨"RopeRound$Ground", "setCell", "(II)V"⟩ ⟨"RopeRound$Ground", "setCell", "(II)V"⟩ ∈ tg := kt 510 (by decide +kernel) (by decide +kernel)
theorem vk39 : ∀ ci y, (fun k => if k = 3 then some 30 else none) ci = some y → (∃ C T N, ClsOk ci C T N ∧ VOk mT "RopeRound$Reader" 106 C y 2) ∨ (ci = 201 ∧ VOk mT "RopeRound$Reader" 106 "java/lang/String" y 2) := by
  intro ci y h
  dsimp only at h
  by_cases h3 : ci = 3
  · subst h3
    have h := (Option.some.inj (by simpa using h)).symm
    subst h
    exact Or.inl ⟨_, _, _, okC3, ⟨mo30, kw509, Or.inl ⟨rfl, kw508, kw510⟩⟩⟩
  rw [if_neg h3] at h
  cases h
set_option maxRecDepth 100000 in
theorem kw532 : Cond.code ⟨"RopeRound$Tape", "number", "()I"⟩ prog_9_method_10_code 3 (some FieldType.int) ∈ tg := kt 532 rfl rfl
theorem mo72 : MOk (mT 72) 0 := ⟨kw532, kw3, by decide +kernel, by decide +kernel, by decide⟩
theorem kw530 : Cond.instanceMethod ⟨"RopeRound$Tape", "number", "()I"⟩ ∈ tg := kt 530 (by decide +kernel) (by decide +kernel)
theorem kw529 : Cond.methodLink "RopeRound$Reader" 110 ⟨"RopeRound$Tape", "number", "()I"⟩ ∈ tg := kt 529 (by decide +kernel) (by decide +kernel)
theorem kw531 : Cond.selects "RopeRound$Tape" ⟨"RopeRound$Tape", "number", "()I"⟩ ⟨"RopeRound$Tape", "number", "()I"⟩ ∈ tg := kt 531 (by decide +kernel) (by decide +kernel)
theorem vk40 : ∀ ci y, (fun k => if k = 7 then some 72 else none) ci = some y → (∃ C T N, ClsOk ci C T N ∧ VOk mT "RopeRound$Reader" 110 C y 0) ∨ (ci = 201 ∧ VOk mT "RopeRound$Reader" 110 "java/lang/String" y 0) := by
  intro ci y h
  dsimp only at h
  by_cases h7 : ci = 7
  · subst h7
    have h := (Option.some.inj (by simpa using h)).symm
    subst h
    exact Or.inl ⟨_, _, _, okC7, ⟨mo72, kw530, Or.inl ⟨rfl, kw529, kw531⟩⟩⟩
  rw [if_neg h7] at h
  cases h
set_option maxRecDepth 100000 in
theorem kw528 : Cond.code ⟨"RopeRound$Reader", "readNumber", "(I)I"⟩ prog_6_method_10_code 4 (some FieldType.int) ∈ tg := kt 528 rfl rfl
theorem mo49 : MOk (mT 49) 1 := ⟨kw528, kw2, by decide +kernel, by decide +kernel, by decide⟩
theorem kw527 : Cond.instanceMethod ⟨"RopeRound$Reader", "readNumber", "(I)I"⟩ ∈ tg := kt 527 (by decide +kernel) (by decide +kernel)
theorem kw525 : Cond.methodLink "RopeRound$Reader" 114 ⟨"RopeRound$Reader", "readNumber", "(I)I"⟩ ∈ tg := kt 525 (by decide +kernel) (by decide +kernel)
theorem vk41 : ∀ ci y, (fun k => if k = 4 then some 49 else none) ci = some y → (∃ C T N, ClsOk ci C T N ∧ VOk mT "RopeRound$Reader" 114 C y 1) ∨ (ci = 201 ∧ VOk mT "RopeRound$Reader" 114 "java/lang/String" y 1) := by
  intro ci y h
  dsimp only at h
  by_cases h4 : ci = 4
  · subst h4
    have h := (Option.some.inj (by simpa using h)).symm
    subst h
    exact Or.inl ⟨_, _, _, okC4, ⟨mo49, kw527, Or.inl ⟨rfl, kw525, (ks (q := (⟨"RopeRound$Reader", "readNumber", "(I)I"⟩, 4)) (by decide +kernel))⟩⟩⟩
  rw [if_neg h4] at h
  cases h
theorem kw81 : Cond.fieldLink "RopeRound$Reader" 118 "RopeRound$Ground" "stones" "J" ∈ tg := kt 81 (by decide +kernel) (by decide +kernel)
theorem gf54 : gF "RopeRound$Reader" 118 4 (fun k => k = 3) (fun n => n = 1) := by
  refine ⟨_, _, _, kw81, fun ci h => ?_⟩
  rcases h with rfl
  · exact ⟨_, _, _, okC3, by decide, rfl, rfl, Or.inl rfl, rfl⟩
set_option maxRecDepth 100000 in
theorem kw545 : Cond.code ⟨"RopeRound$Reader", "isStone", "(II)Z"⟩ prog_6_method_13_code 3 (some FieldType.boolean) ∈ tg := kt 545 rfl rfl
theorem mo52 : MOk (mT 52) 2 := ⟨kw545, kw2, by decide +kernel, by decide +kernel, by decide⟩
theorem kw544 : Cond.instanceMethod ⟨"RopeRound$Reader", "isStone", "(II)Z"⟩ ∈ tg := kt 544 (by decide +kernel) (by decide +kernel)
theorem kw542 : Cond.methodLink "RopeRound$Reader" 122 ⟨"RopeRound$Reader", "isStone", "(II)Z"⟩ ∈ tg := kt 542 (by decide +kernel) (by decide +kernel)
theorem vk42 : ∀ ci y, (fun k => if k = 4 then some 52 else none) ci = some y → (∃ C T N, ClsOk ci C T N ∧ VOk mT "RopeRound$Reader" 122 C y 2) ∨ (ci = 201 ∧ VOk mT "RopeRound$Reader" 122 "java/lang/String" y 2) := by
  intro ci y h
  dsimp only at h
  by_cases h4 : ci = 4
  · subst h4
    have h := (Option.some.inj (by simpa using h)).symm
    subst h
    exact Or.inl ⟨_, _, _, okC4, ⟨mo52, kw544, Or.inl ⟨rfl, kw542, (ks (q := (⟨"RopeRound$Reader", "isStone", "(II)Z"⟩, 4)) (by decide +kernel))⟩⟩⟩
  rw [if_neg h4] at h
  cases h
theorem kw78 : Cond.fieldLink "RopeRound$Reader" 126 "RopeRound$Ground" "men" "I" ∈ tg := kt 78 (by decide +kernel) (by decide +kernel)
theorem gf55 : gF "RopeRound$Reader" 126 2 (fun k => k = 3) (fun n => n = 0 ∨ n = 4) := by
  refine ⟨_, _, _, kw78, fun ci h => ?_⟩
  rcases h with rfl
  · exact ⟨_, _, _, okC3, by decide, rfl, rfl, Or.inl rfl, Or.inl rfl⟩
theorem gf55w : gF "RopeRound$Reader" 126 2 (fun k => k = 3) (fun n => n = 0) := by
  refine ⟨_, _, _, kw78, fun ci h => ?_⟩
  rcases h with rfl
  · exact ⟨_, _, _, okC3, by decide, rfl, rfl, Or.inl rfl, rfl⟩
theorem kw87 : Cond.fieldLink "RopeRound$Reader" 129 "RopeRound$Ground" "pegs" "[I" ∈ tg := kt 87 (by decide +kernel) (by decide +kernel)
theorem gf56 : gF "RopeRound$Reader" 129 6 (fun k => k = 3) (fun n => n = 2) := by
  refine ⟨_, _, _, kw87, fun ci h => ?_⟩
  rcases h with rfl
  · exact ⟨_, _, _, okC3, by decide, rfl, rfl, Or.inl rfl, rfl⟩
theorem kw92 : Cond.fieldLink "RopeRound$Reader" 133 "RopeRound$Ground" "ropes" "[I" ∈ tg := kt 92 (by decide +kernel) (by decide +kernel)
theorem gf57 : gF "RopeRound$Reader" 133 7 (fun k => k = 3) (fun n => n = 2) := by
  refine ⟨_, _, _, kw92, fun ci h => ?_⟩
  rcases h with rfl
  · exact ⟨_, _, _, okC3, by decide, rfl, rfl, Or.inl rfl, rfl⟩
theorem kn546 : Cond.methodLinkNest "RopeRound$Reader" 136 ⟨"RopeRound", "has", "(JI)Z"⟩ "RopeRound" ∈ tb := kn 546 (by decide +kernel)
theorem kn218 : Cond.methodLinkNest "RopeRound$RingList" 3 ⟨"RopeRound$Walk", "<init>", "()V"⟩ "RopeRound" ∈ tb := kn 218 (by decide +kernel)
theorem kw219 : Cond.fieldLink "RopeRound$RingList" 11 "RopeRound$RingList" "rings" "[J" ∈ tg := kt 219 (by decide +kernel) (by decide +kernel)
theorem gf58f : gFF "RopeRound$RingList" 11 3 (fun k => k = 5) := by
  refine ⟨_, _, _, kw219, fun ci h => ?_⟩
  rcases h with rfl
  · exact ⟨_, _, _, okC5, by decide, rfl, rfl, rfl, rfl, rfl⟩
theorem kw221 : Cond.fieldLink "RopeRound$RingList" 15 "RopeRound$RingList" "worths" "[I" ∈ tg := kt 221 (by decide +kernel) (by decide +kernel)
theorem gf59f : gFF "RopeRound$RingList" 15 4 (fun k => k = 5) := by
  refine ⟨_, _, _, kw221, fun ci h => ?_⟩
  rcases h with rfl
  · exact ⟨_, _, _, okC5, by decide, rfl, rfl, rfl, rfl, rfl⟩
theorem kw223 : Cond.fieldLink "RopeRound$RingList" 19 "RopeRound$RingList" "size" "I" ∈ tg := kt 223 (by decide +kernel) (by decide +kernel)
theorem gf60 : gF "RopeRound$RingList" 19 5 (fun k => k = 5) (fun n => n = 0 ∨ n = 4) := by
  refine ⟨_, _, _, kw223, fun ci h => ?_⟩
  rcases h with rfl
  · exact ⟨_, _, _, okC5, by decide, rfl, rfl, Or.inl rfl, Or.inl rfl⟩
theorem gf60w : gF "RopeRound$RingList" 19 5 (fun k => k = 5) (fun n => n = 0) := by
  refine ⟨_, _, _, kw223, fun ci h => ?_⟩
  rcases h with rfl
  · exact ⟨_, _, _, okC5, by decide, rfl, rfl, Or.inl rfl, rfl⟩
theorem kw803 : Cond.methodLink "RopeRound$RingList" 23 ⟨"RopeRound$RingList", "walkAll", "(LRopeRound$Ground;II)V"⟩ ∈ tg := kt 803 (by decide +kernel) (by decide +kernel)
theorem kw804 : Cond.sameMethod "RopeRound$RingList" "RopeRound$Walk" "walkAll" "(LRopeRound$Ground;II)V" ∈ tg := kt 804 (by decide +kernel) (by decide +kernel)
theorem kw805 : Cond.selects "RopeRound$RingList" ⟨"RopeRound$RingList", "walkAll", "(LRopeRound$Ground;II)V"⟩ ⟨"RopeRound$Walk", "walkAll", "(LRopeRound$Ground;II)V"⟩ ∈ tg := kt 805 (by decide +kernel) (by decide +kernel)
theorem vk43 : ∀ ci y, (fun k => if k = 5 then some 78 else none) ci = some y → (∃ C T N, ClsOk ci C T N ∧ VOk mT "RopeRound$RingList" 23 C y 3) ∨ (ci = 201 ∧ VOk mT "RopeRound$RingList" 23 "java/lang/String" y 3) := by
  intro ci y h
  dsimp only at h
  by_cases h5 : ci = 5
  · subst h5
    have h := (Option.some.inj (by simpa using h)).symm
    subst h
    exact Or.inl ⟨_, _, _, okC5, ⟨mo78, kw705, Or.inr ⟨⟨"RopeRound$RingList", "walkAll", "(LRopeRound$Ground;II)V"⟩, "RopeRound$Walk", by decide +kernel, by decide +kernel, kw803, kw804, Or.inl kn703, kw805⟩⟩⟩
  rw [if_neg h5] at h
  cases h
theorem kn734 : Cond.methodLinkNest "RopeRound$RingList" 27 ⟨"RopeRound", "wayAt", "(JI)I"⟩ "RopeRound" ∈ tb := kn 734 (by decide +kernel)
theorem kw735 : Cond.static ⟨"RopeRound", "wayAt", "(JI)I"⟩ ∈ tg := kt 735 (by decide +kernel) (by decide +kernel)
set_option maxRecDepth 100000 in
theorem kw736 : Cond.code ⟨"RopeRound", "wayAt", "(JI)I"⟩ prog_1_method_44_code 3 (some FieldType.int) ∈ tg := kt 736 rfl rfl
theorem mo124 : MOk (mT 124) 2 := ⟨kw736, kw1, by decide +kernel, by decide +kernel, by decide⟩
theorem gf61 : gF "RopeRound$RingList" 11 3 (fun k => k = 5) (fun n => n = 2) := by
  refine ⟨_, _, _, kw219, fun ci h => ?_⟩
  rcases h with rfl
  · exact ⟨_, _, _, okC5, by decide, rfl, rfl, Or.inl rfl, rfl⟩
theorem gf62 : gF "RopeRound$RingList" 15 4 (fun k => k = 5) (fun n => n = 2) := by
  refine ⟨_, _, _, kw221, fun ci h => ?_⟩
  rcases h with rfl
  · exact ⟨_, _, _, okC5, by decide, rfl, rfl, Or.inl rfl, rfl⟩
theorem kw189 : Cond.sameField "RopeRound$RingList" "RopeRound$Walk" "ground" "LRopeRound$Ground;" ∈ tg := kt 189 (by decide +kernel) (by decide +kernel)
theorem kw188 : Cond.fieldLink "RopeRound$RingList" 31 "RopeRound$RingList" "ground" "LRopeRound$Ground;" ∈ tg := kt 188 (by decide +kernel) (by decide +kernel)
theorem gf63 : gF "RopeRound$RingList" 31 0 (fun k => k = 5) (fun n => n = 3) := by
  refine ⟨_, _, _, kw188, fun ci h => ?_⟩
  rcases h with rfl
  · exact ⟨_, _, _, okC5, by decide, rfl, rfl, Or.inr kw189, rfl⟩
theorem kw738 : Cond.methodLink "RopeRound$RingList" 35 ⟨"RopeRound$Ground", "worthOf", "(J)I"⟩ ∈ tg := kt 738 (by decide +kernel) (by decide +kernel)
theorem vk44 : ∀ ci y, (fun k => if k = 3 then some 36 else none) ci = some y → (∃ C T N, ClsOk ci C T N ∧ VOk mT "RopeRound$RingList" 35 C y 1) ∨ (ci = 201 ∧ VOk mT "RopeRound$RingList" 35 "java/lang/String" y 1) := by
  intro ci y h
  dsimp only at h
  by_cases h3 : ci = 3
  · subst h3
    have h := (Option.some.inj (by simpa using h)).symm
    subst h
    exact Or.inl ⟨_, _, _, okC3, ⟨mo36, kw642, Or.inl ⟨rfl, kw738, kw643⟩⟩⟩
  rw [if_neg h3] at h
  cases h
theorem kw811 : Cond.methodLink "RopeRound$RingList" 41 ⟨"RopeRound$Ground", "ropeAround", "(JJ)I"⟩ ∈ tg := kt 811 (by decide +kernel) (by decide +kernel)
theorem vk45 : ∀ ci y, (fun k => if k = 3 then some 35 else none) ci = some y → (∃ C T N, ClsOk ci C T N ∧ VOk mT "RopeRound$RingList" 41 C y 2) ∨ (ci = 201 ∧ VOk mT "RopeRound$RingList" 41 "java/lang/String" y 2) := by
  intro ci y h
  dsimp only at h
  by_cases h3 : ci = 3
  · subst h3
    have h := (Option.some.inj (by simpa using h)).symm
    subst h
    exact Or.inl ⟨_, _, _, okC3, ⟨mo35, kw722, Or.inl ⟨rfl, kw811, kw723⟩⟩⟩
  rw [if_neg h3] at h
  cases h
theorem kw288 : Cond.methodLink "RopeRound$Row" 3 ⟨"java/lang/Object", "<init>", "()V"⟩ ∈ tg := kt 288 (by decide +kernel) (by decide +kernel)
theorem kw289 : Cond.fieldLink "RopeRound$Row" 9 "RopeRound$Row" "items" "[I" ∈ tg := kt 289 (by decide +kernel) (by decide +kernel)
theorem gf64f : gFF "RopeRound$Row" 9 0 (fun k => k = 6) := by
  refine ⟨_, _, _, kw289, fun ci h => ?_⟩
  rcases h with rfl
  · exact ⟨_, _, _, okC6, by decide, rfl, rfl, rfl, rfl, rfl⟩
theorem kw293 : Cond.fieldLink "RopeRound$Row" 15 "RopeRound$Row" "lane" "I" ∈ tg := kt 293 (by decide +kernel) (by decide +kernel)
theorem gf65 : gF "RopeRound$Row" 15 1 (fun k => k = 6) (fun n => n = 0 ∨ n = 4) := by
  refine ⟨_, _, _, kw293, fun ci h => ?_⟩
  rcases h with rfl
  · exact ⟨_, _, _, okC6, by decide, rfl, rfl, Or.inl rfl, Or.inl rfl⟩
theorem gf65w : gF "RopeRound$Row" 15 1 (fun k => k = 6) (fun n => n = 0) := by
  refine ⟨_, _, _, kw293, fun ci h => ?_⟩
  rcases h with rfl
  · exact ⟨_, _, _, okC6, by decide, rfl, rfl, Or.inl rfl, rfl⟩
theorem kw295 : Cond.fieldLink "RopeRound$Row" 19 "RopeRound$Row" "size" "I" ∈ tg := kt 295 (by decide +kernel) (by decide +kernel)
theorem gf66 : gF "RopeRound$Row" 19 2 (fun k => k = 6) (fun n => n = 0 ∨ n = 4) := by
  refine ⟨_, _, _, kw295, fun ci h => ?_⟩
  rcases h with rfl
  · exact ⟨_, _, _, okC6, by decide, rfl, rfl, Or.inl rfl, Or.inl rfl⟩
theorem gf66w : gF "RopeRound$Row" 19 2 (fun k => k = 6) (fun n => n = 0) := by
  refine ⟨_, _, _, kw295, fun ci h => ?_⟩
  rcases h with rfl
  · exact ⟨_, _, _, okC6, by decide, rfl, rfl, Or.inl rfl, rfl⟩
theorem gf67 : gF "RopeRound$Row" 9 0 (fun k => k = 6) (fun n => n = 2) := by
  refine ⟨_, _, _, kw289, fun ci h => ?_⟩
  rcases h with rfl
  · exact ⟨_, _, _, okC6, by decide, rfl, rfl, Or.inl rfl, rfl⟩
theorem kw41 : Cond.methodLink "RopeRound$Tape" 3 ⟨"java/lang/Object", "<init>", "()V"⟩ ∈ tg := kt 41 (by decide +kernel) (by decide +kernel)
theorem kw63 : Cond.arrayClass FieldType.byte ∈ tg := kt 63 (by decide +kernel) (by decide +kernel)
theorem kw42 : Cond.fieldLink "RopeRound$Tape" 9 "RopeRound$Tape" "bytes" "[B" ∈ tg := kt 42 (by decide +kernel) (by decide +kernel)
theorem gf68f : gFF "RopeRound$Tape" 9 0 (fun k => k = 7) := by
  refine ⟨_, _, _, kw42, fun ci h => ?_⟩
  rcases h with rfl
  · exact ⟨_, _, _, okC7, by decide, rfl, rfl, rfl, rfl, rfl⟩
theorem kw44 : Cond.fieldLink "RopeRound$Tape" 15 "RopeRound$Tape" "length" "I" ∈ tg := kt 44 (by decide +kernel) (by decide +kernel)
theorem gf69 : gF "RopeRound$Tape" 15 1 (fun k => k = 7) (fun n => n = 0 ∨ n = 4) := by
  refine ⟨_, _, _, kw44, fun ci h => ?_⟩
  rcases h with rfl
  · exact ⟨_, _, _, okC7, by decide, rfl, rfl, Or.inl rfl, Or.inl rfl⟩
theorem gf69w : gF "RopeRound$Tape" 15 1 (fun k => k = 7) (fun n => n = 0) := by
  refine ⟨_, _, _, kw44, fun ci h => ?_⟩
  rcases h with rfl
  · exact ⟨_, _, _, okC7, by decide, rfl, rfl, Or.inl rfl, rfl⟩
theorem gf70 : gF "RopeRound$Tape" 9 0 (fun k => k = 7) (fun n => n = 2) := by
  refine ⟨_, _, _, kw42, fun ci h => ?_⟩
  rcases h with rfl
  · exact ⟨_, _, _, okC7, by decide, rfl, rfl, Or.inl rfl, rfl⟩
theorem kw50 : Cond.fieldLink "RopeRound$Tape" 19 "RopeRound$Tape" "end" "I" ∈ tg := kt 50 (by decide +kernel) (by decide +kernel)
theorem gf71 : gF "RopeRound$Tape" 19 4 (fun k => k = 7) (fun n => n = 0 ∨ n = 4) := by
  refine ⟨_, _, _, kw50, fun ci h => ?_⟩
  rcases h with rfl
  · exact ⟨_, _, _, okC7, by decide, rfl, rfl, Or.inl rfl, Or.inl rfl⟩
theorem gf71w : gF "RopeRound$Tape" 19 4 (fun k => k = 7) (fun n => n = 0) := by
  refine ⟨_, _, _, kw50, fun ci h => ?_⟩
  rcases h with rfl
  · exact ⟨_, _, _, okC7, by decide, rfl, rfl, Or.inl rfl, rfl⟩
theorem kw418 : Cond.methodLink "RopeRound$Tape" 22 ⟨"RopeRound$Tape", "advance", "()V"⟩ ∈ tg := kt 418 (by decide +kernel) (by decide +kernel)
theorem vk46 : ∀ ci y, (fun k => if k = 7 then some 66 else none) ci = some y → (∃ C T N, ClsOk ci C T N ∧ VOk mT "RopeRound$Tape" 22 C y 0) ∨ (ci = 201 ∧ VOk mT "RopeRound$Tape" 22 "java/lang/String" y 0) := by
  intro ci y h
  dsimp only at h
  by_cases h7 : ci = 7
  · subst h7
    have h := (Option.some.inj (by simpa using h)).symm
    subst h
    exact Or.inl ⟨_, _, _, okC7, ⟨mo66, kw419, Or.inl ⟨rfl, kw418, kw420⟩⟩⟩
  rw [if_neg h7] at h
  cases h
theorem kw49 : Cond.fieldLink "RopeRound$Tape" 25 "RopeRound$Tape" "start" "I" ∈ tg := kt 49 (by decide +kernel) (by decide +kernel)
theorem gf72 : gF "RopeRound$Tape" 25 3 (fun k => k = 7) (fun n => n = 0 ∨ n = 4) := by
  refine ⟨_, _, _, kw49, fun ci h => ?_⟩
  rcases h with rfl
  · exact ⟨_, _, _, okC7, by decide, rfl, rfl, Or.inl rfl, Or.inl rfl⟩
theorem gf72w : gF "RopeRound$Tape" 25 3 (fun k => k = 7) (fun n => n = 0) := by
  refine ⟨_, _, _, kw49, fun ci h => ?_⟩
  rcases h with rfl
  · exact ⟨_, _, _, okC7, by decide, rfl, rfl, Or.inl rfl, rfl⟩
theorem kw46 : Cond.fieldLink "RopeRound$Tape" 28 "RopeRound$Tape" "sort" "I" ∈ tg := kt 46 (by decide +kernel) (by decide +kernel)
theorem gf73 : gF "RopeRound$Tape" 28 2 (fun k => k = 7) (fun n => n = 0 ∨ n = 4) := by
  refine ⟨_, _, _, kw46, fun ci h => ?_⟩
  rcases h with rfl
  · exact ⟨_, _, _, okC7, by decide, rfl, rfl, Or.inl rfl, Or.inl rfl⟩
theorem gf73w : gF "RopeRound$Tape" 28 2 (fun k => k = 7) (fun n => n = 0) := by
  refine ⟨_, _, _, kw46, fun ci h => ?_⟩
  rcases h with rfl
  · exact ⟨_, _, _, okC7, by decide, rfl, rfl, Or.inl rfl, rfl⟩
set_option maxRecDepth 100000 in
theorem kw425 : Cond.code ⟨"RopeRound$Tape", "isLetter", "(I)Z"⟩ prog_9_method_7_code 2 (some FieldType.boolean) ∈ tg := kt 425 rfl rfl
theorem mo69 : MOk (mT 69) 1 := ⟨kw425, kw3, by decide +kernel, by decide +kernel, by decide⟩
theorem kw424 : Cond.instanceMethod ⟨"RopeRound$Tape", "isLetter", "(I)Z"⟩ ∈ tg := kt 424 (by decide +kernel) (by decide +kernel)
theorem kw422 : Cond.methodLink "RopeRound$Tape" 31 ⟨"RopeRound$Tape", "isLetter", "(I)Z"⟩ ∈ tg := kt 422 (by decide +kernel) (by decide +kernel)
theorem vk47 : ∀ ci y, (fun k => if k = 7 then some 69 else none) ci = some y → (∃ C T N, ClsOk ci C T N ∧ VOk mT "RopeRound$Tape" 31 C y 1) ∨ (ci = 201 ∧ VOk mT "RopeRound$Tape" 31 "java/lang/String" y 1) := by
  intro ci y h
  dsimp only at h
  by_cases h7 : ci = 7
  · subst h7
    have h := (Option.some.inj (by simpa using h)).symm
    subst h
    exact Or.inl ⟨_, _, _, okC7, ⟨mo69, kw424, Or.inl ⟨rfl, kw422, (ks (q := (⟨"RopeRound$Tape", "isLetter", "(I)Z"⟩, 5)) (by decide +kernel))⟩⟩⟩
  rw [if_neg h7] at h
  cases h
set_option maxRecDepth 100000 in
theorem kw429 : Cond.code ⟨"RopeRound$Tape", "takeName", "()V"⟩ prog_9_method_5_code 1 none ∈ tg := kt 429 rfl rfl
theorem mo67 : MOk (mT 67) 0 := ⟨kw429, kw3, by decide +kernel, by decide +kernel, by decide⟩
theorem kw428 : Cond.instanceMethod ⟨"RopeRound$Tape", "takeName", "()V"⟩ ∈ tg := kt 428 (by decide +kernel) (by decide +kernel)
theorem kw426 : Cond.methodLink "RopeRound$Tape" 35 ⟨"RopeRound$Tape", "takeName", "()V"⟩ ∈ tg := kt 426 (by decide +kernel) (by decide +kernel)
theorem vk48 : ∀ ci y, (fun k => if k = 7 then some 67 else none) ci = some y → (∃ C T N, ClsOk ci C T N ∧ VOk mT "RopeRound$Tape" 35 C y 0) ∨ (ci = 201 ∧ VOk mT "RopeRound$Tape" 35 "java/lang/String" y 0) := by
  intro ci y h
  dsimp only at h
  by_cases h7 : ci = 7
  · subst h7
    have h := (Option.some.inj (by simpa using h)).symm
    subst h
    exact Or.inl ⟨_, _, _, okC7, ⟨mo67, kw428, Or.inl ⟨rfl, kw426, (ks (q := (⟨"RopeRound$Tape", "takeName", "()V"⟩, 5)) (by decide +kernel))⟩⟩⟩
  rw [if_neg h7] at h
  cases h
set_option maxRecDepth 100000 in
theorem kw433 : Cond.code ⟨"RopeRound$Tape", "isFigure", "(I)Z"⟩ prog_9_method_8_code 2 (some FieldType.boolean) ∈ tg := kt 433 rfl rfl
theorem mo70 : MOk (mT 70) 1 := ⟨kw433, kw3, by decide +kernel, by decide +kernel, by decide⟩
theorem kw432 : Cond.instanceMethod ⟨"RopeRound$Tape", "isFigure", "(I)Z"⟩ ∈ tg := kt 432 (by decide +kernel) (by decide +kernel)
theorem kw430 : Cond.methodLink "RopeRound$Tape" 38 ⟨"RopeRound$Tape", "isFigure", "(I)Z"⟩ ∈ tg := kt 430 (by decide +kernel) (by decide +kernel)
theorem vk49 : ∀ ci y, (fun k => if k = 7 then some 70 else none) ci = some y → (∃ C T N, ClsOk ci C T N ∧ VOk mT "RopeRound$Tape" 38 C y 1) ∨ (ci = 201 ∧ VOk mT "RopeRound$Tape" 38 "java/lang/String" y 1) := by
  intro ci y h
  dsimp only at h
  by_cases h7 : ci = 7
  · subst h7
    have h := (Option.some.inj (by simpa using h)).symm
    subst h
    exact Or.inl ⟨_, _, _, okC7, ⟨mo70, kw432, Or.inl ⟨rfl, kw430, (ks (q := (⟨"RopeRound$Tape", "isFigure", "(I)Z"⟩, 5)) (by decide +kernel))⟩⟩⟩
  rw [if_neg h7] at h
  cases h
set_option maxRecDepth 100000 in
theorem kw437 : Cond.code ⟨"RopeRound$Tape", "takeNumber", "()V"⟩ prog_9_method_6_code 1 none ∈ tg := kt 437 rfl rfl
theorem mo68 : MOk (mT 68) 0 := ⟨kw437, kw3, by decide +kernel, by decide +kernel, by decide⟩
theorem kw436 : Cond.instanceMethod ⟨"RopeRound$Tape", "takeNumber", "()V"⟩ ∈ tg := kt 436 (by decide +kernel) (by decide +kernel)
theorem kw434 : Cond.methodLink "RopeRound$Tape" 41 ⟨"RopeRound$Tape", "takeNumber", "()V"⟩ ∈ tg := kt 434 (by decide +kernel) (by decide +kernel)
theorem vk50 : ∀ ci y, (fun k => if k = 7 then some 68 else none) ci = some y → (∃ C T N, ClsOk ci C T N ∧ VOk mT "RopeRound$Tape" 41 C y 0) ∨ (ci = 201 ∧ VOk mT "RopeRound$Tape" 41 "java/lang/String" y 0) := by
  intro ci y h
  dsimp only at h
  by_cases h7 : ci = 7
  · subst h7
    have h := (Option.some.inj (by simpa using h)).symm
    subst h
    exact Or.inl ⟨_, _, _, okC7, ⟨mo68, kw436, Or.inl ⟨rfl, kw434, (ks (q := (⟨"RopeRound$Tape", "takeNumber", "()V"⟩, 5)) (by decide +kernel))⟩⟩⟩
  rw [if_neg h7] at h
  cases h
set_option maxRecDepth 100000 in
theorem kw454 : Cond.code ⟨"java/lang/String", "length", "()I"⟩ prog_16_method_54_code 1 (some FieldType.int) ∈ tg := kt 454 rfl rfl
theorem kw14 : Cond.initialized "java/lang/String" ∈ tg := kt 14 (by decide +kernel) (by decide +kernel)
theorem mo211 : MOk (mT 211) 0 := ⟨kw454, kw14, by decide +kernel, by decide +kernel, by decide⟩
theorem kw452 : Cond.instanceMethod ⟨"java/lang/String", "length", "()I"⟩ ∈ tg := kt 452 (by decide +kernel) (by decide +kernel)
theorem kw451 : Cond.methodLink "RopeRound$Tape" 44 ⟨"java/lang/String", "length", "()I"⟩ ∈ tg := kt 451 (by decide +kernel) (by decide +kernel)
theorem kw453 : Cond.selects "java/lang/String" ⟨"java/lang/String", "length", "()I"⟩ ⟨"java/lang/String", "length", "()I"⟩ ∈ tg := kt 453 (by decide +kernel) (by decide +kernel)
theorem vk51 : ∀ ci y, (fun k => if k = 201 then some 211 else none) ci = some y → (∃ C T N, ClsOk ci C T N ∧ VOk mT "RopeRound$Tape" 44 C y 0) ∨ (ci = 201 ∧ VOk mT "RopeRound$Tape" 44 "java/lang/String" y 0) := by
  intro ci y h
  dsimp only at h
  by_cases h201 : ci = 201
  · subst h201
    have h := (Option.some.inj (by simpa using h)).symm
    subst h
    exact Or.inr ⟨rfl, ⟨mo211, kw452, Or.inl ⟨rfl, kw451, kw453⟩⟩⟩
  rw [if_neg h201] at h
  cases h
set_option maxRecDepth 100000 in
theorem kw464 : Cond.code ⟨"java/lang/String", "charAt", "(I)C"⟩ prog_16_method_56_code 2 (some FieldType.char) ∈ tg := kt 464 rfl rfl
theorem mo212 : MOk (mT 212) 1 := ⟨kw464, kw14, by decide +kernel, by decide +kernel, by decide⟩
theorem kw462 : Cond.instanceMethod ⟨"java/lang/String", "charAt", "(I)C"⟩ ∈ tg := kt 462 (by decide +kernel) (by decide +kernel)
theorem kw461 : Cond.methodLink "RopeRound$Tape" 49 ⟨"java/lang/String", "charAt", "(I)C"⟩ ∈ tg := kt 461 (by decide +kernel) (by decide +kernel)
theorem kw463 : Cond.selects "java/lang/String" ⟨"java/lang/String", "charAt", "(I)C"⟩ ⟨"java/lang/String", "charAt", "(I)C"⟩ ∈ tg := kt 463 (by decide +kernel) (by decide +kernel)
theorem vk52 : ∀ ci y, (fun k => if k = 201 then some 212 else none) ci = some y → (∃ C T N, ClsOk ci C T N ∧ VOk mT "RopeRound$Tape" 49 C y 1) ∨ (ci = 201 ∧ VOk mT "RopeRound$Tape" 49 "java/lang/String" y 1) := by
  intro ci y h
  dsimp only at h
  by_cases h201 : ci = 201
  · subst h201
    have h := (Option.some.inj (by simpa using h)).symm
    subst h
    exact Or.inr ⟨rfl, ⟨mo212, kw462, Or.inl ⟨rfl, kw461, kw463⟩⟩⟩
  rw [if_neg h201] at h
  cases h
theorem kw156 : Cond.methodLink "RopeRound$Trial" 1 ⟨"java/lang/Object", "<init>", "()V"⟩ ∈ tg := kt 156 (by decide +kernel) (by decide +kernel)
theorem kw85 : Cond.fieldLink "RopeRound$Trial" 7 "RopeRound$Ground" "pegs" "[I" ∈ tg := kt 85 (by decide +kernel) (by decide +kernel)
theorem gf74 : gF "RopeRound$Trial" 7 6 (fun k => k = 3) (fun n => n = 2) := by
  refine ⟨_, _, _, kw85, fun ci h => ?_⟩
  rcases h with rfl
  · exact ⟨_, _, _, okC3, by decide, rfl, rfl, Or.inl rfl, rfl⟩
theorem kw90 : Cond.fieldLink "RopeRound$Trial" 13 "RopeRound$Ground" "ropes" "[I" ∈ tg := kt 90 (by decide +kernel) (by decide +kernel)
theorem gf75 : gF "RopeRound$Trial" 13 7 (fun k => k = 3) (fun n => n = 2) := by
  refine ⟨_, _, _, kw90, fun ci h => ?_⟩
  rcases h with rfl
  · exact ⟨_, _, _, okC3, by decide, rfl, rfl, Or.inl rfl, rfl⟩
theorem kw157 : Cond.fieldLink "RopeRound$Trial" 16 "RopeRound$Trial" "cells" "J" ∈ tg := kt 157 (by decide +kernel) (by decide +kernel)
theorem gf76 : gF "RopeRound$Trial" 16 0 (fun k => k = 8) (fun n => n = 1) := by
  refine ⟨_, _, _, kw157, fun ci h => ?_⟩
  rcases h with rfl
  · exact ⟨_, _, _, okC8, by decide, rfl, rfl, Or.inl rfl, rfl⟩
theorem kw159 : Cond.fieldLink "RopeRound$Trial" 22 "RopeRound$Trial" "fault" "I" ∈ tg := kt 159 (by decide +kernel) (by decide +kernel)
theorem gf77 : gF "RopeRound$Trial" 22 1 (fun k => k = 8) (fun n => n = 0 ∨ n = 4) := by
  refine ⟨_, _, _, kw159, fun ci h => ?_⟩
  rcases h with rfl
  · exact ⟨_, _, _, okC8, by decide, rfl, rfl, Or.inl rfl, Or.inl rfl⟩
theorem gf77w : gF "RopeRound$Trial" 22 1 (fun k => k = 8) (fun n => n = 0) := by
  refine ⟨_, _, _, kw159, fun ci h => ?_⟩
  rcases h with rfl
  · exact ⟨_, _, _, okC8, by decide, rfl, rfl, Or.inl rfl, rfl⟩
theorem kw161 : Cond.fieldLink "RopeRound$Trial" 26 "RopeRound$Trial" "step" "I" ∈ tg := kt 161 (by decide +kernel) (by decide +kernel)
theorem gf78 : gF "RopeRound$Trial" 26 2 (fun k => k = 8) (fun n => n = 0 ∨ n = 4) := by
  refine ⟨_, _, _, kw161, fun ci h => ?_⟩
  rcases h with rfl
  · exact ⟨_, _, _, okC8, by decide, rfl, rfl, Or.inl rfl, Or.inl rfl⟩
theorem gf78w : gF "RopeRound$Trial" 26 2 (fun k => k = 8) (fun n => n = 0) := by
  refine ⟨_, _, _, kw161, fun ci h => ?_⟩
  rcases h with rfl
  · exact ⟨_, _, _, okC8, by decide, rfl, rfl, Or.inl rfl, rfl⟩
theorem kw291 : Cond.fieldLink "RopeRound$Trial" 29 "RopeRound$Row" "items" "[I" ∈ tg := kt 291 (by decide +kernel) (by decide +kernel)
theorem gf79 : gF "RopeRound$Trial" 29 0 (fun k => k = 6) (fun n => n = 2) := by
  refine ⟨_, _, _, kw291, fun ci h => ?_⟩
  rcases h with rfl
  · exact ⟨_, _, _, okC6, by decide, rfl, rfl, Or.inl rfl, rfl⟩
set_option maxRecDepth 100000 in
theorem kw596 : Cond.code ⟨"RopeRound$Ground", "leads", "(II)Z"⟩ prog_5_method_12_code 3 (some FieldType.boolean) ∈ tg := kt 596 rfl rfl
theorem mo33 : MOk (mT 33) 2 := ⟨kw596, kw4, by decide +kernel, by decide +kernel, by decide⟩
theorem kw594 : Cond.instanceMethod ⟨"RopeRound$Ground", "leads", "(II)Z"⟩ ∈ tg := kt 594 (by decide +kernel) (by decide +kernel)
theorem kw624 : Cond.methodLink "RopeRound$Trial" 34 ⟨"RopeRound$Ground", "leads", "(II)Z"⟩ ∈ tg := kt 624 (by decide +kernel) (by decide +kernel)
theorem kw595 : Cond.selects "RopeRound$Ground" ⟨"RopeRound$Ground", "leads", "(II)Z"⟩ ⟨"RopeRound$Ground", "leads", "(II)Z"⟩ ∈ tg := kt 595 (by decide +kernel) (by decide +kernel)
theorem vk53 : ∀ ci y, (fun k => if k = 3 then some 33 else none) ci = some y → (∃ C T N, ClsOk ci C T N ∧ VOk mT "RopeRound$Trial" 34 C y 2) ∨ (ci = 201 ∧ VOk mT "RopeRound$Trial" 34 "java/lang/String" y 2) := by
  intro ci y h
  dsimp only at h
  by_cases h3 : ci = 3
  · subst h3
    have h := (Option.some.inj (by simpa using h)).symm
    subst h
    exact Or.inl ⟨_, _, _, okC3, ⟨mo33, kw594, Or.inl ⟨rfl, kw624, kw595⟩⟩⟩
  rw [if_neg h3] at h
  cases h
set_option maxRecDepth 100000 in
theorem kw628 : Cond.code ⟨"RopeRound$Trial", "stop", "(II)V"⟩ prog_10_method_3_code 3 none ∈ tg := kt 628 rfl rfl
theorem kw5 : Cond.initialized "RopeRound$Trial" ∈ tg := kt 5 (by decide +kernel) (by decide +kernel)
theorem mo75 : MOk (mT 75) 2 := ⟨kw628, kw5, by decide +kernel, by decide +kernel, by decide⟩
theorem kw627 : Cond.instanceMethod ⟨"RopeRound$Trial", "stop", "(II)V"⟩ ∈ tg := kt 627 (by decide +kernel) (by decide +kernel)
theorem kw625 : Cond.methodLink "RopeRound$Trial" 38 ⟨"RopeRound$Trial", "stop", "(II)V"⟩ ∈ tg := kt 625 (by decide +kernel) (by decide +kernel)
theorem vk54 : ∀ ci y, (fun k => if k = 8 then some 75 else none) ci = some y → (∃ C T N, ClsOk ci C T N ∧ VOk mT "RopeRound$Trial" 38 C y 2) ∨ (ci = 201 ∧ VOk mT "RopeRound$Trial" 38 "java/lang/String" y 2) := by
  intro ci y h
  dsimp only at h
  by_cases h8 : ci = 8
  · subst h8
    have h := (Option.some.inj (by simpa using h)).symm
    subst h
    exact Or.inl ⟨_, _, _, okC8, ⟨mo75, kw627, Or.inl ⟨rfl, kw625, (ks (q := (⟨"RopeRound$Trial", "stop", "(II)V"⟩, 3)) (by decide +kernel))⟩⟩⟩
  rw [if_neg h8] at h
  cases h
theorem kn629 : Cond.fieldLinkNest "RopeRound$Trial" 42 "RopeRound" "STRIDES" "[I" "RopeRound" ∈ tb := kn 629 (by decide +kernel)
theorem kn630 : Cond.methodLinkNest "RopeRound$Trial" 47 ⟨"RopeRound", "has", "(JI)Z"⟩ "RopeRound" ∈ tb := kn 630 (by decide +kernel)
set_option maxRecDepth 100000 in
theorem kw600 : Cond.code ⟨"RopeRound$Ground", "ropeTaken", "(II)I"⟩ prog_5_method_13_code 5 (some FieldType.int) ∈ tg := kt 600 rfl rfl
theorem mo34 : MOk (mT 34) 2 := ⟨kw600, kw4, by decide +kernel, by decide +kernel, by decide⟩
theorem kw598 : Cond.instanceMethod ⟨"RopeRound$Ground", "ropeTaken", "(II)I"⟩ ∈ tg := kt 598 (by decide +kernel) (by decide +kernel)
theorem kw631 : Cond.methodLink "RopeRound$Trial" 51 ⟨"RopeRound$Ground", "ropeTaken", "(II)I"⟩ ∈ tg := kt 631 (by decide +kernel) (by decide +kernel)
theorem kw599 : Cond.selects "RopeRound$Ground" ⟨"RopeRound$Ground", "ropeTaken", "(II)I"⟩ ⟨"RopeRound$Ground", "ropeTaken", "(II)I"⟩ ∈ tg := kt 599 (by decide +kernel) (by decide +kernel)
theorem vk55 : ∀ ci y, (fun k => if k = 3 then some 34 else none) ci = some y → (∃ C T N, ClsOk ci C T N ∧ VOk mT "RopeRound$Trial" 51 C y 2) ∨ (ci = 201 ∧ VOk mT "RopeRound$Trial" 51 "java/lang/String" y 2) := by
  intro ci y h
  dsimp only at h
  by_cases h3 : ci = 3
  · subst h3
    have h := (Option.some.inj (by simpa using h)).symm
    subst h
    exact Or.inl ⟨_, _, _, okC3, ⟨mo34, kw598, Or.inl ⟨rfl, kw631, kw599⟩⟩⟩
  rw [if_neg h3] at h
  cases h
theorem kn632 : Cond.methodLinkNest "RopeRound$Trial" 55 ⟨"RopeRound", "cellsPassed", "(II)J"⟩ "RopeRound" ∈ tb := kn 632 (by decide +kernel)
theorem kw633 : Cond.static ⟨"RopeRound", "cellsPassed", "(II)J"⟩ ∈ tg := kt 633 (by decide +kernel) (by decide +kernel)
set_option maxRecDepth 100000 in
theorem kw634 : Cond.code ⟨"RopeRound", "cellsPassed", "(II)J"⟩ prog_1_method_47_code 3 (some FieldType.long) ∈ tg := kt 634 rfl rfl
theorem mo127 : MOk (mT 127) 2 := ⟨kw634, kw1, by decide +kernel, by decide +kernel, by decide⟩
set_option maxRecDepth 100000 in
theorem kw639 : Cond.code ⟨"RopeRound$Trial", "judgeWhole", "(LRopeRound$Ground;ZI)V"⟩ prog_10_method_4_code 4 none ∈ tg := kt 639 rfl rfl
theorem mo76 : MOk (mT 76) 3 := ⟨kw639, kw5, by decide +kernel, by decide +kernel, by decide⟩
theorem kw638 : Cond.instanceMethod ⟨"RopeRound$Trial", "judgeWhole", "(LRopeRound$Ground;ZI)V"⟩ ∈ tg := kt 638 (by decide +kernel) (by decide +kernel)
theorem kw636 : Cond.methodLink "RopeRound$Trial" 59 ⟨"RopeRound$Trial", "judgeWhole", "(LRopeRound$Ground;ZI)V"⟩ ∈ tg := kt 636 (by decide +kernel) (by decide +kernel)
theorem vk56 : ∀ ci y, (fun k => if k = 8 then some 76 else none) ci = some y → (∃ C T N, ClsOk ci C T N ∧ VOk mT "RopeRound$Trial" 59 C y 3) ∨ (ci = 201 ∧ VOk mT "RopeRound$Trial" 59 "java/lang/String" y 3) := by
  intro ci y h
  dsimp only at h
  by_cases h8 : ci = 8
  · subst h8
    have h := (Option.some.inj (by simpa using h)).symm
    subst h
    exact Or.inl ⟨_, _, _, okC8, ⟨mo76, kw638, Or.inl ⟨rfl, kw636, (ks (q := (⟨"RopeRound$Trial", "judgeWhole", "(LRopeRound$Ground;ZI)V"⟩, 3)) (by decide +kernel))⟩⟩⟩
  rw [if_neg h8] at h
  cases h
theorem kw99 : Cond.fieldLink "RopeRound$Trial" 63 "RopeRound$Ground" "ringed" "J" ∈ tg := kt 99 (by decide +kernel) (by decide +kernel)
theorem gf80 : gF "RopeRound$Trial" 63 10 (fun k => k = 3) (fun n => n = 1) := by
  refine ⟨_, _, _, kw99, fun ci h => ?_⟩
  rcases h with rfl
  · exact ⟨_, _, _, okC3, by decide, rfl, rfl, Or.inl rfl, rfl⟩
theorem kw178 : Cond.methodLink "RopeRound$Walk" 3 ⟨"java/lang/Object", "<init>", "()V"⟩ ∈ tg := kt 178 (by decide +kernel) (by decide +kernel)
theorem kw187 : Cond.fieldLink "RopeRound$Walk" 9 "RopeRound$Walk" "ground" "LRopeRound$Ground;" ∈ tg := kt 187 (by decide +kernel) (by decide +kernel)
theorem gf81 : gF "RopeRound$Walk" 9 0 (fun k => k = 1 ∨ k = 2 ∨ k = 5) (fun n => n = 3) := by
  refine ⟨_, _, _, kw187, fun ci h => ?_⟩
  rcases h with rfl | rfl | rfl
  · exact ⟨_, _, _, okC1, by decide, rfl, rfl, Or.inl rfl, rfl⟩
  · exact ⟨_, _, _, okC2, by decide, rfl, rfl, Or.inl rfl, rfl⟩
  · exact ⟨_, _, _, okC5, by decide, rfl, rfl, Or.inl rfl, rfl⟩
theorem kw194 : Cond.fieldLink "RopeRound$Walk" 15 "RopeRound$Walk" "home" "I" ∈ tg := kt 194 (by decide +kernel) (by decide +kernel)
theorem gf82 : gF "RopeRound$Walk" 15 1 (fun k => k = 1 ∨ k = 2 ∨ k = 5) (fun n => n = 0 ∨ n = 4) := by
  refine ⟨_, _, _, kw194, fun ci h => ?_⟩
  rcases h with rfl | rfl | rfl
  · exact ⟨_, _, _, okC1, by decide, rfl, rfl, Or.inl rfl, Or.inl rfl⟩
  · exact ⟨_, _, _, okC2, by decide, rfl, rfl, Or.inl rfl, Or.inl rfl⟩
  · exact ⟨_, _, _, okC5, by decide, rfl, rfl, Or.inl rfl, Or.inl rfl⟩
theorem gf82w : gF "RopeRound$Walk" 15 1 (fun k => k = 1 ∨ k = 2 ∨ k = 5) (fun n => n = 0) := by
  refine ⟨_, _, _, kw194, fun ci h => ?_⟩
  rcases h with rfl | rfl | rfl
  · exact ⟨_, _, _, okC1, by decide, rfl, rfl, Or.inl rfl, rfl⟩
  · exact ⟨_, _, _, okC2, by decide, rfl, rfl, Or.inl rfl, rfl⟩
  · exact ⟨_, _, _, okC5, by decide, rfl, rfl, Or.inl rfl, rfl⟩
theorem kw195 : Cond.fieldLink "RopeRound$Walk" 19 "RopeRound$Walk" "limit" "I" ∈ tg := kt 195 (by decide +kernel) (by decide +kernel)
theorem gf83 : gF "RopeRound$Walk" 19 2 (fun k => k = 1 ∨ k = 2 ∨ k = 5) (fun n => n = 0 ∨ n = 4) := by
  refine ⟨_, _, _, kw195, fun ci h => ?_⟩
  rcases h with rfl | rfl | rfl
  · exact ⟨_, _, _, okC1, by decide, rfl, rfl, Or.inl rfl, Or.inl rfl⟩
  · exact ⟨_, _, _, okC2, by decide, rfl, rfl, Or.inl rfl, Or.inl rfl⟩
  · exact ⟨_, _, _, okC5, by decide, rfl, rfl, Or.inl rfl, Or.inl rfl⟩
theorem gf83w : gF "RopeRound$Walk" 19 2 (fun k => k = 1 ∨ k = 2 ∨ k = 5) (fun n => n = 0) := by
  refine ⟨_, _, _, kw195, fun ci h => ?_⟩
  rcases h with rfl | rfl | rfl
  · exact ⟨_, _, _, okC1, by decide, rfl, rfl, Or.inl rfl, rfl⟩
  · exact ⟨_, _, _, okC2, by decide, rfl, rfl, Or.inl rfl, rfl⟩
  · exact ⟨_, _, _, okC5, by decide, rfl, rfl, Or.inl rfl, rfl⟩
set_option maxRecDepth 100000 in
theorem kw710 : Cond.code ⟨"RopeRound$Walk", "goOn", "(IIJJJ)V"⟩ prog_11_method_3_code 15 none ∈ tg := kt 710 rfl rfl
theorem mo79 : MOk (mT 79) 5 := ⟨kw710, kw6, by decide +kernel, by decide +kernel, by decide⟩
theorem kw709 : Cond.instanceMethod ⟨"RopeRound$Walk", "goOn", "(IIJJJ)V"⟩ ∈ tg := kt 709 (by decide +kernel) (by decide +kernel)
theorem kw707 : Cond.methodLink "RopeRound$Walk" 22 ⟨"RopeRound$Walk", "goOn", "(IIJJJ)V"⟩ ∈ tg := kt 707 (by decide +kernel) (by decide +kernel)
theorem kw1384 : Cond.sameMethod "RopeRound$Walk" "RopeRound$Walk" "goOn" "(IIJJJ)V" ∈ tg := kt 1384 (by decide +kernel) (by decide +kernel)
theorem vk57 : ∀ ci y, (fun k => if k = 1 then some 79 else if k = 2 then some 79 else if k = 5 then some 79 else none) ci = some y → (∃ C T N, ClsOk ci C T N ∧ VOk mT "RopeRound$Walk" 22 C y 5) ∨ (ci = 201 ∧ VOk mT "RopeRound$Walk" 22 "java/lang/String" y 5) := by
  intro ci y h
  dsimp only at h
  by_cases h1 : ci = 1
  · subst h1
    have h := (Option.some.inj (by simpa using h)).symm
    subst h
    exact Or.inl ⟨_, _, _, okC1, ⟨mo79, kw709, Or.inr ⟨⟨"RopeRound$Walk", "goOn", "(IIJJJ)V"⟩, "RopeRound$Walk", by decide +kernel, by decide +kernel, kw707, kw1384, Or.inr rfl, (tg_in (List.mem_append_left _ (List.mem_of_getElem? (i := 0) rfl)) rfl)⟩⟩⟩
  rw [if_neg h1] at h
  by_cases h2 : ci = 2
  · subst h2
    have h := (Option.some.inj (by simpa using h)).symm
    subst h
    exact Or.inl ⟨_, _, _, okC2, ⟨mo79, kw709, Or.inr ⟨⟨"RopeRound$Walk", "goOn", "(IIJJJ)V"⟩, "RopeRound$Walk", by decide +kernel, by decide +kernel, kw707, kw1384, Or.inr rfl, (tg_in (List.mem_append_left _ (List.mem_of_getElem? (i := 2) rfl)) rfl)⟩⟩⟩
  rw [if_neg h2] at h
  by_cases h5 : ci = 5
  · subst h5
    have h := (Option.some.inj (by simpa using h)).symm
    subst h
    exact Or.inl ⟨_, _, _, okC5, ⟨mo79, kw709, Or.inr ⟨⟨"RopeRound$Walk", "goOn", "(IIJJJ)V"⟩, "RopeRound$Walk", by decide +kernel, by decide +kernel, kw707, kw1384, Or.inr rfl, (tg_in (List.mem_append_left _ (List.mem_of_getElem? (i := 1) rfl)) rfl)⟩⟩⟩
  rw [if_neg h5] at h
  cases h
theorem kw711 : Cond.methodLink "RopeRound$Walk" 26 ⟨"RopeRound$Ground", "leads", "(II)Z"⟩ ∈ tg := kt 711 (by decide +kernel) (by decide +kernel)
theorem vk58 : ∀ ci y, (fun k => if k = 3 then some 33 else none) ci = some y → (∃ C T N, ClsOk ci C T N ∧ VOk mT "RopeRound$Walk" 26 C y 2) ∨ (ci = 201 ∧ VOk mT "RopeRound$Walk" 26 "java/lang/String" y 2) := by
  intro ci y h
  dsimp only at h
  by_cases h3 : ci = 3
  · subst h3
    have h := (Option.some.inj (by simpa using h)).symm
    subst h
    exact Or.inl ⟨_, _, _, okC3, ⟨mo33, kw594, Or.inl ⟨rfl, kw711, kw595⟩⟩⟩
  rw [if_neg h3] at h
  cases h
theorem kn712 : Cond.fieldLinkNest "RopeRound$Walk" 32 "RopeRound" "STRIDES" "[I" "RopeRound" ∈ tb := kn 712 (by decide +kernel)
theorem kn713 : Cond.methodLinkNest "RopeRound$Walk" 36 ⟨"RopeRound", "cellsPassed", "(II)J"⟩ "RopeRound" ∈ tb := kn 713 (by decide +kernel)
theorem kw97 : Cond.fieldLink "RopeRound$Walk" 42 "RopeRound$Ground" "ringed" "J" ∈ tg := kt 97 (by decide +kernel) (by decide +kernel)
theorem gf84 : gF "RopeRound$Walk" 42 10 (fun k => k = 3) (fun n => n = 1) := by
  refine ⟨_, _, _, kw97, fun ci h => ?_⟩
  rcases h with rfl
  · exact ⟨_, _, _, okC3, by decide, rfl, rfl, Or.inl rfl, rfl⟩
set_option maxRecDepth 100000 in
theorem kw719 : Cond.code ⟨"RopeRound$Best", "meet", "(JJJI)V"⟩ prog_3_method_6_code 11 none ∈ tg := kt 719 rfl rfl
theorem mo17 : MOk (mT 17) 4 := ⟨kw719, kw7, by decide +kernel, by decide +kernel, by decide⟩
theorem kw718 : Cond.instanceMethod ⟨"RopeRound$Best", "meet", "(JJJI)V"⟩ ∈ tg := kt 718 (by decide +kernel) (by decide +kernel)
theorem kn715 : Cond.declares ⟨"RopeRound$Walk", "meet", "(JJJI)V"⟩ ∈ tb := kn 715 (by decide +kernel)
theorem kw714 : Cond.methodLink "RopeRound$Walk" 46 ⟨"RopeRound$Walk", "meet", "(JJJI)V"⟩ ∈ tg := kt 714 (by decide +kernel) (by decide +kernel)
theorem kw716 : Cond.sameMethod "RopeRound$Walk" "RopeRound$Walk" "meet" "(JJJI)V" ∈ tg := kt 716 (by decide +kernel) (by decide +kernel)
theorem kw717 : Cond.selects "RopeRound$Best" ⟨"RopeRound$Walk", "meet", "(JJJI)V"⟩ ⟨"RopeRound$Best", "meet", "(JJJI)V"⟩ ∈ tg := kt 717 (by decide +kernel) (by decide +kernel)
set_option maxRecDepth 100000 in
theorem kw728 : Cond.code ⟨"RopeRound$Finder", "meet", "(JJJI)V"⟩ prog_4_method_4_code 9 none ∈ tg := kt 728 rfl rfl
theorem kw9 : Cond.initialized "RopeRound$Finder" ∈ tg := kt 9 (by decide +kernel) (by decide +kernel)
theorem mo21 : MOk (mT 21) 4 := ⟨kw728, kw9, by decide +kernel, by decide +kernel, by decide⟩
theorem kw727 : Cond.instanceMethod ⟨"RopeRound$Finder", "meet", "(JJJI)V"⟩ ∈ tg := kt 727 (by decide +kernel) (by decide +kernel)
theorem kw726 : Cond.selects "RopeRound$Finder" ⟨"RopeRound$Walk", "meet", "(JJJI)V"⟩ ⟨"RopeRound$Finder", "meet", "(JJJI)V"⟩ ∈ tg := kt 726 (by decide +kernel) (by decide +kernel)
set_option maxRecDepth 100000 in
theorem kw733 : Cond.code ⟨"RopeRound$RingList", "meet", "(JJJI)V"⟩ prog_7_method_3_code 10 none ∈ tg := kt 733 rfl rfl
theorem kw8 : Cond.initialized "RopeRound$RingList" ∈ tg := kt 8 (by decide +kernel) (by decide +kernel)
theorem mo55 : MOk (mT 55) 4 := ⟨kw733, kw8, by decide +kernel, by decide +kernel, by decide⟩
theorem kw732 : Cond.instanceMethod ⟨"RopeRound$RingList", "meet", "(JJJI)V"⟩ ∈ tg := kt 732 (by decide +kernel) (by decide +kernel)
theorem kw731 : Cond.selects "RopeRound$RingList" ⟨"RopeRound$Walk", "meet", "(JJJI)V"⟩ ⟨"RopeRound$RingList", "meet", "(JJJI)V"⟩ ∈ tg := kt 731 (by decide +kernel) (by decide +kernel)
theorem vk59 : ∀ ci y, (fun k => if k = 1 then some 17 else if k = 2 then some 21 else if k = 5 then some 55 else none) ci = some y → (∃ C T N, ClsOk ci C T N ∧ VOk mT "RopeRound$Walk" 46 C y 4) ∨ (ci = 201 ∧ VOk mT "RopeRound$Walk" 46 "java/lang/String" y 4) := by
  intro ci y h
  dsimp only at h
  by_cases h1 : ci = 1
  · subst h1
    have h := (Option.some.inj (by simpa using h)).symm
    subst h
    exact Or.inl ⟨_, _, _, okC1, ⟨mo17, kw718, Or.inr ⟨⟨"RopeRound$Walk", "meet", "(JJJI)V"⟩, "RopeRound$Walk", by decide +kernel, by decide +kernel, kw714, kw716, Or.inl kn715, kw717⟩⟩⟩
  rw [if_neg h1] at h
  by_cases h2 : ci = 2
  · subst h2
    have h := (Option.some.inj (by simpa using h)).symm
    subst h
    exact Or.inl ⟨_, _, _, okC2, ⟨mo21, kw727, Or.inr ⟨⟨"RopeRound$Walk", "meet", "(JJJI)V"⟩, "RopeRound$Walk", by decide +kernel, by decide +kernel, kw714, kw716, Or.inl kn715, kw726⟩⟩⟩
  rw [if_neg h2] at h
  by_cases h5 : ci = 5
  · subst h5
    have h := (Option.some.inj (by simpa using h)).symm
    subst h
    exact Or.inl ⟨_, _, _, okC5, ⟨mo55, kw732, Or.inr ⟨⟨"RopeRound$Walk", "meet", "(JJJI)V"⟩, "RopeRound$Walk", by decide +kernel, by decide +kernel, kw714, kw716, Or.inl kn715, kw731⟩⟩⟩
  rw [if_neg h5] at h
  cases h
theorem kn739 : Cond.methodLinkNest "RopeRound$Walk" 50 ⟨"RopeRound", "has", "(JI)Z"⟩ "RopeRound" ∈ tb := kn 739 (by decide +kernel)
set_option maxRecDepth 100000 in
theorem kw743 : Cond.code ⟨"RopeRound$Walk", "stepsHome", "(I)I"⟩ prog_11_method_4_code 2 (some FieldType.int) ∈ tg := kt 743 rfl rfl
theorem mo80 : MOk (mT 80) 1 := ⟨kw743, kw6, by decide +kernel, by decide +kernel, by decide⟩
theorem kw742 : Cond.instanceMethod ⟨"RopeRound$Walk", "stepsHome", "(I)I"⟩ ∈ tg := kt 742 (by decide +kernel) (by decide +kernel)
theorem kw740 : Cond.methodLink "RopeRound$Walk" 54 ⟨"RopeRound$Walk", "stepsHome", "(I)I"⟩ ∈ tg := kt 740 (by decide +kernel) (by decide +kernel)
theorem kw1385 : Cond.sameMethod "RopeRound$Walk" "RopeRound$Walk" "stepsHome" "(I)I" ∈ tg := kt 1385 (by decide +kernel) (by decide +kernel)
theorem vk60 : ∀ ci y, (fun k => if k = 1 then some 80 else if k = 2 then some 80 else if k = 5 then some 80 else none) ci = some y → (∃ C T N, ClsOk ci C T N ∧ VOk mT "RopeRound$Walk" 54 C y 1) ∨ (ci = 201 ∧ VOk mT "RopeRound$Walk" 54 "java/lang/String" y 1) := by
  intro ci y h
  dsimp only at h
  by_cases h1 : ci = 1
  · subst h1
    have h := (Option.some.inj (by simpa using h)).symm
    subst h
    exact Or.inl ⟨_, _, _, okC1, ⟨mo80, kw742, Or.inr ⟨⟨"RopeRound$Walk", "stepsHome", "(I)I"⟩, "RopeRound$Walk", by decide +kernel, by decide +kernel, kw740, kw1385, Or.inr rfl, (tg_in (List.mem_append_left _ (List.mem_of_getElem? (i := 3) rfl)) rfl)⟩⟩⟩
  rw [if_neg h1] at h
  by_cases h2 : ci = 2
  · subst h2
    have h := (Option.some.inj (by simpa using h)).symm
    subst h
    exact Or.inl ⟨_, _, _, okC2, ⟨mo80, kw742, Or.inr ⟨⟨"RopeRound$Walk", "stepsHome", "(I)I"⟩, "RopeRound$Walk", by decide +kernel, by decide +kernel, kw740, kw1385, Or.inr rfl, (tg_in (List.mem_append_left _ (List.mem_of_getElem? (i := 5) rfl)) rfl)⟩⟩⟩
  rw [if_neg h2] at h
  by_cases h5 : ci = 5
  · subst h5
    have h := (Option.some.inj (by simpa using h)).symm
    subst h
    exact Or.inl ⟨_, _, _, okC5, ⟨mo80, kw742, Or.inr ⟨⟨"RopeRound$Walk", "stepsHome", "(I)I"⟩, "RopeRound$Walk", by decide +kernel, by decide +kernel, kw740, kw1385, Or.inr rfl, (tg_in (List.mem_append_left _ (List.mem_of_getElem? (i := 4) rfl)) rfl)⟩⟩⟩
  rw [if_neg h5] at h
  cases h
theorem kw744 : Cond.methodLink "RopeRound$Walk" 58 ⟨"java/lang/Math", "abs", "(I)I"⟩ ∈ tg := kt 744 (by decide +kernel) (by decide +kernel)
theorem kw745 : Cond.static ⟨"java/lang/Math", "abs", "(I)I"⟩ ∈ tg := kt 745 (by decide +kernel) (by decide +kernel)
theorem kw19 : Cond.initialized "java/lang/Math" ∈ tg := kt 19 (by decide +kernel) (by decide +kernel)
set_option maxRecDepth 100000 in
theorem kw746 : Cond.code ⟨"java/lang/Math", "abs", "(I)I"⟩ prog_15_method_59_code 1 (some FieldType.int) ∈ tg := kt 746 rfl rfl
theorem kw25 : Cond.methodLink "RopeRound" 3 ⟨"java/lang/Object", "<init>", "()V"⟩ ∈ tg := kt 25 (by decide +kernel) (by decide +kernel)
theorem kw28 : Cond.classLink "RopeRound" 9 "RopeRound$Row" ∈ tg := kt 28 (by decide +kernel) (by decide +kernel)
theorem kn29 : Cond.arrayOver (FieldType.object "RopeRound$Row") ∈ tb := kn 29 (by decide +kernel)
theorem kw304 : Cond.fieldLink "RopeRound" 11 "RopeRound" "rows" "[LRopeRound$Row;" ∈ tg := kt 304 (by decide +kernel) (by decide +kernel)
theorem gf85f : gFF "RopeRound" 11 0 (fun k => k = 10) := by
  refine ⟨_, _, _, kw304, fun ci h => ?_⟩
  rcases h with rfl
  · exact ⟨_, _, _, okC10, by decide, rfl, rfl, rfl, rfl, rfl⟩
theorem kw30 : Cond.classLink "RopeRound" 15 "RopeRound$Reader" ∈ tg := kt 30 (by decide +kernel) (by decide +kernel)
theorem kn32 : Cond.methodLinkNest "RopeRound" 17 ⟨"RopeRound$Reader", "<init>", "()V"⟩ "RopeRound" ∈ tb := kn 32 (by decide +kernel)
theorem kw33 : Cond.instanceMethod ⟨"RopeRound$Reader", "<init>", "()V"⟩ ∈ tg := kt 33 (by decide +kernel) (by decide +kernel)
set_option maxRecDepth 100000 in
theorem kw34 : Cond.code ⟨"RopeRound$Reader", "<init>", "()V"⟩ prog_6_method_1_code 1 none ∈ tg := kt 34 rfl rfl
theorem mo40 : MOk (mT 40) 0 := ⟨kw34, kw2, by decide +kernel, by decide +kernel, by decide⟩
theorem kw305 : Cond.fieldLink "RopeRound" 18 "RopeRound" "reader" "LRopeRound$Reader;" ∈ tg := kt 305 (by decide +kernel) (by decide +kernel)
theorem gf86f : gFF "RopeRound" 18 1 (fun k => k = 10) := by
  refine ⟨_, _, _, kw305, fun ci h => ?_⟩
  rcases h with rfl
  · exact ⟨_, _, _, okC10, by decide, rfl, rfl, rfl, rfl, rfl⟩
theorem kw148 : Cond.classLink "RopeRound" 22 "RopeRound$Ground" ∈ tg := kt 148 (by decide +kernel) (by decide +kernel)
theorem kn149 : Cond.methodLinkNest "RopeRound" 24 ⟨"RopeRound$Ground", "<init>", "()V"⟩ "RopeRound" ∈ tb := kn 149 (by decide +kernel)
theorem kw306 : Cond.fieldLink "RopeRound" 25 "RopeRound" "here" "LRopeRound$Ground;" ∈ tg := kt 306 (by decide +kernel) (by decide +kernel)
theorem gf87f : gFF "RopeRound" 25 2 (fun k => k = 10) := by
  refine ⟨_, _, _, kw306, fun ci h => ?_⟩
  rcases h with rfl
  · exact ⟨_, _, _, okC10, by decide, rfl, rfl, rfl, rfl, rfl⟩
theorem kn150 : Cond.arrayOver (FieldType.object "RopeRound$Ground") ∈ tb := kn 150 (by decide +kernel)
theorem kw307 : Cond.fieldLink "RopeRound" 29 "RopeRound" "images" "[LRopeRound$Ground;" ∈ tg := kt 307 (by decide +kernel) (by decide +kernel)
theorem gf88f : gFF "RopeRound" 29 3 (fun k => k = 10) := by
  refine ⟨_, _, _, kw307, fun ci h => ?_⟩
  rcases h with rfl
  · exact ⟨_, _, _, okC10, by decide, rfl, rfl, rfl, rfl, rfl⟩
theorem kw151 : Cond.classLink "RopeRound" 33 "RopeRound$Trial" ∈ tg := kt 151 (by decide +kernel) (by decide +kernel)
theorem kn153 : Cond.methodLinkNest "RopeRound" 35 ⟨"RopeRound$Trial", "<init>", "()V"⟩ "RopeRound" ∈ tb := kn 153 (by decide +kernel)
theorem kw154 : Cond.instanceMethod ⟨"RopeRound$Trial", "<init>", "()V"⟩ ∈ tg := kt 154 (by decide +kernel) (by decide +kernel)
set_option maxRecDepth 100000 in
theorem kw155 : Cond.code ⟨"RopeRound$Trial", "<init>", "()V"⟩ prog_10_method_1_code 1 none ∈ tg := kt 155 rfl rfl
theorem mo73 : MOk (mT 73) 0 := ⟨kw155, kw5, by decide +kernel, by decide +kernel, by decide⟩
theorem kw308 : Cond.fieldLink "RopeRound" 36 "RopeRound" "trial" "LRopeRound$Trial;" ∈ tg := kt 308 (by decide +kernel) (by decide +kernel)
theorem gf89f : gFF "RopeRound" 36 4 (fun k => k = 10) := by
  refine ⟨_, _, _, kw308, fun ci h => ?_⟩
  rcases h with rfl
  · exact ⟨_, _, _, okC10, by decide, rfl, rfl, rfl, rfl, rfl⟩
theorem kw170 : Cond.classLink "RopeRound" 40 "RopeRound$Best" ∈ tg := kt 170 (by decide +kernel) (by decide +kernel)
theorem kn172 : Cond.methodLinkNest "RopeRound" 42 ⟨"RopeRound$Best", "<init>", "()V"⟩ "RopeRound" ∈ tb := kn 172 (by decide +kernel)
theorem kw173 : Cond.instanceMethod ⟨"RopeRound$Best", "<init>", "()V"⟩ ∈ tg := kt 173 (by decide +kernel) (by decide +kernel)
set_option maxRecDepth 100000 in
theorem kw174 : Cond.code ⟨"RopeRound$Best", "<init>", "()V"⟩ prog_3_method_1_code 1 none ∈ tg := kt 174 rfl rfl
theorem mo12 : MOk (mT 12) 0 := ⟨kw174, kw7, by decide +kernel, by decide +kernel, by decide⟩
theorem kw309 : Cond.fieldLink "RopeRound" 43 "RopeRound" "best" "LRopeRound$Best;" ∈ tg := kt 309 (by decide +kernel) (by decide +kernel)
theorem gf90f : gFF "RopeRound" 43 5 (fun k => k = 10) := by
  refine ⟨_, _, _, kw309, fun ci h => ?_⟩
  rcases h with rfl
  · exact ⟨_, _, _, okC10, by decide, rfl, rfl, rfl, rfl, rfl⟩
theorem kw213 : Cond.classLink "RopeRound" 47 "RopeRound$RingList" ∈ tg := kt 213 (by decide +kernel) (by decide +kernel)
theorem kn215 : Cond.methodLinkNest "RopeRound" 49 ⟨"RopeRound$RingList", "<init>", "()V"⟩ "RopeRound" ∈ tb := kn 215 (by decide +kernel)
theorem kw216 : Cond.instanceMethod ⟨"RopeRound$RingList", "<init>", "()V"⟩ ∈ tg := kt 216 (by decide +kernel) (by decide +kernel)
set_option maxRecDepth 100000 in
theorem kw217 : Cond.code ⟨"RopeRound$RingList", "<init>", "()V"⟩ prog_7_method_1_code 1 none ∈ tg := kt 217 rfl rfl
theorem mo53 : MOk (mT 53) 0 := ⟨kw217, kw8, by decide +kernel, by decide +kernel, by decide⟩
theorem kw310 : Cond.fieldLink "RopeRound" 50 "RopeRound" "firsts" "LRopeRound$RingList;" ∈ tg := kt 310 (by decide +kernel) (by decide +kernel)
theorem gf91f : gFF "RopeRound" 50 6 (fun k => k = 10) := by
  refine ⟨_, _, _, kw310, fun ci h => ?_⟩
  rcases h with rfl
  · exact ⟨_, _, _, okC10, by decide, rfl, rfl, rfl, rfl, rfl⟩
theorem kw311 : Cond.fieldLink "RopeRound" 54 "RopeRound" "seconds" "LRopeRound$RingList;" ∈ tg := kt 311 (by decide +kernel) (by decide +kernel)
theorem gf92f : gFF "RopeRound" 54 7 (fun k => k = 10) := by
  refine ⟨_, _, _, kw311, fun ci h => ?_⟩
  rcases h with rfl
  · exact ⟨_, _, _, okC10, by decide, rfl, rfl, rfl, rfl, rfl⟩
theorem kw235 : Cond.classLink "RopeRound" 57 "RopeRound$Finder" ∈ tg := kt 235 (by decide +kernel) (by decide +kernel)
theorem kn237 : Cond.methodLinkNest "RopeRound" 59 ⟨"RopeRound$Finder", "<init>", "()V"⟩ "RopeRound" ∈ tb := kn 237 (by decide +kernel)
theorem kw238 : Cond.instanceMethod ⟨"RopeRound$Finder", "<init>", "()V"⟩ ∈ tg := kt 238 (by decide +kernel) (by decide +kernel)
set_option maxRecDepth 100000 in
theorem kw239 : Cond.code ⟨"RopeRound$Finder", "<init>", "()V"⟩ prog_4_method_1_code 1 none ∈ tg := kt 239 rfl rfl
theorem mo18 : MOk (mT 18) 0 := ⟨kw239, kw9, by decide +kernel, by decide +kernel, by decide⟩
theorem kw312 : Cond.fieldLink "RopeRound" 60 "RopeRound" "finder" "LRopeRound$Finder;" ∈ tg := kt 312 (by decide +kernel) (by decide +kernel)
theorem gf93f : gFF "RopeRound" 60 8 (fun k => k = 10) := by
  refine ⟨_, _, _, kw312, fun ci h => ?_⟩
  rcases h with rfl
  · exact ⟨_, _, _, okC10, by decide, rfl, rfl, rfl, rfl, rfl⟩
theorem kw257 : Cond.classLink "RopeRound" 64 "RopeRound$Asker" ∈ tg := kt 257 (by decide +kernel) (by decide +kernel)
theorem kn259 : Cond.methodLinkNest "RopeRound" 66 ⟨"RopeRound$Asker", "<init>", "()V"⟩ "RopeRound" ∈ tb := kn 259 (by decide +kernel)
theorem kw260 : Cond.instanceMethod ⟨"RopeRound$Asker", "<init>", "()V"⟩ ∈ tg := kt 260 (by decide +kernel) (by decide +kernel)
set_option maxRecDepth 100000 in
theorem kw261 : Cond.code ⟨"RopeRound$Asker", "<init>", "()V"⟩ prog_2_method_1_code 1 none ∈ tg := kt 261 rfl rfl
theorem mo0 : MOk (mT 0) 0 := ⟨kw261, kw10, by decide +kernel, by decide +kernel, by decide⟩
theorem kw313 : Cond.fieldLink "RopeRound" 67 "RopeRound" "asker" "LRopeRound$Asker;" ∈ tg := kt 313 (by decide +kernel) (by decide +kernel)
theorem gf94f : gFF "RopeRound" 67 9 (fun k => k = 10) := by
  refine ⟨_, _, _, kw313, fun ci h => ?_⟩
  rcases h with rfl
  · exact ⟨_, _, _, okC10, by decide, rfl, rfl, rfl, rfl, rfl⟩
theorem gf95 : gF "RopeRound" 11 0 (fun k => k = 10) (fun n => n = 2) := by
  refine ⟨_, _, _, kw304, fun ci h => ?_⟩
  rcases h with rfl
  · exact ⟨_, _, _, okC10, by decide, rfl, rfl, Or.inl rfl, rfl⟩
theorem kn285 : Cond.methodLinkNest "RopeRound" 71 ⟨"RopeRound$Row", "<init>", "()V"⟩ "RopeRound" ∈ tb := kn 285 (by decide +kernel)
theorem kw286 : Cond.instanceMethod ⟨"RopeRound$Row", "<init>", "()V"⟩ ∈ tg := kt 286 (by decide +kernel) (by decide +kernel)
set_option maxRecDepth 100000 in
theorem kw287 : Cond.code ⟨"RopeRound$Row", "<init>", "()V"⟩ prog_8_method_1_code 1 none ∈ tg := kt 287 rfl rfl
theorem kw11 : Cond.initialized "RopeRound$Row" ∈ tg := kt 11 (by decide +kernel) (by decide +kernel)
theorem mo57 : MOk (mT 57) 0 := ⟨kw287, kw11, by decide +kernel, by decide +kernel, by decide⟩
theorem gf96 : gF "RopeRound" 29 3 (fun k => k = 10) (fun n => n = 2) := by
  refine ⟨_, _, _, kw307, fun ci h => ?_⟩
  rcases h with rfl
  · exact ⟨_, _, _, okC10, by decide, rfl, rfl, Or.inl rfl, rfl⟩
theorem kw345 : Cond.methodLink "RopeRound" 72 ⟨"RopeRound", "isRow", "(I)Z"⟩ ∈ tg := kt 345 (by decide +kernel) (by decide +kernel)
theorem kw346 : Cond.static ⟨"RopeRound", "isRow", "(I)Z"⟩ ∈ tg := kt 346 (by decide +kernel) (by decide +kernel)
set_option maxRecDepth 100000 in
theorem kw347 : Cond.code ⟨"RopeRound", "isRow", "(I)Z"⟩ prog_1_method_29_code 1 (some FieldType.boolean) ∈ tg := kt 347 rfl rfl
theorem mo109 : MOk (mT 109) 1 := ⟨kw347, kw1, by decide +kernel, by decide +kernel, by decide⟩
theorem kw348 : Cond.constant "RopeRound" 76 (-1000001) ∈ tg := kt 348 (by decide +kernel) (by decide +kernel)
set_option maxRecDepth 100000 in
theorem kw352 : Cond.code ⟨"RopeRound", "findingOf", "(I)I"⟩ prog_1_method_31_code 2 (some FieldType.int) ∈ tg := kt 352 rfl rfl
theorem mo111 : MOk (mT 111) 1 := ⟨kw352, kw1, by decide +kernel, by decide +kernel, by decide⟩
theorem kw351 : Cond.instanceMethod ⟨"RopeRound", "findingOf", "(I)I"⟩ ∈ tg := kt 351 (by decide +kernel) (by decide +kernel)
theorem kw349 : Cond.methodLink "RopeRound" 77 ⟨"RopeRound", "findingOf", "(I)I"⟩ ∈ tg := kt 349 (by decide +kernel) (by decide +kernel)
theorem vk61 : ∀ ci y, (fun k => if k = 10 then some 111 else none) ci = some y → (∃ C T N, ClsOk ci C T N ∧ VOk mT "RopeRound" 77 C y 1) ∨ (ci = 201 ∧ VOk mT "RopeRound" 77 "java/lang/String" y 1) := by
  intro ci y h
  dsimp only at h
  by_cases h10 : ci = 10
  · subst h10
    have h := (Option.some.inj (by simpa using h)).symm
    subst h
    exact Or.inl ⟨_, _, _, okC10, ⟨mo111, kw351, Or.inl ⟨rfl, kw349, (ks (q := (⟨"RopeRound", "findingOf", "(I)I"⟩, 12)) (by decide +kernel))⟩⟩⟩
  rw [if_neg h10] at h
  cases h
set_option maxRecDepth 100000 in
theorem kw357 : Cond.code ⟨"RopeRound$Row", "begin", "(II)V"⟩ prog_8_method_3_code 4 none ∈ tg := kt 357 rfl rfl
theorem mo59 : MOk (mT 59) 2 := ⟨kw357, kw11, by decide +kernel, by decide +kernel, by decide⟩
theorem kw355 : Cond.instanceMethod ⟨"RopeRound$Row", "begin", "(II)V"⟩ ∈ tg := kt 355 (by decide +kernel) (by decide +kernel)
theorem kw354 : Cond.methodLink "RopeRound" 81 ⟨"RopeRound$Row", "begin", "(II)V"⟩ ∈ tg := kt 354 (by decide +kernel) (by decide +kernel)
theorem kw356 : Cond.selects "RopeRound$Row" ⟨"RopeRound$Row", "begin", "(II)V"⟩ ⟨"RopeRound$Row", "begin", "(II)V"⟩ ∈ tg := kt 356 (by decide +kernel) (by decide +kernel)
theorem vk62 : ∀ ci y, (fun k => if k = 6 then some 59 else none) ci = some y → (∃ C T N, ClsOk ci C T N ∧ VOk mT "RopeRound" 81 C y 2) ∨ (ci = 201 ∧ VOk mT "RopeRound" 81 "java/lang/String" y 2) := by
  intro ci y h
  dsimp only at h
  by_cases h6 : ci = 6
  · subst h6
    have h := (Option.some.inj (by simpa using h)).symm
    subst h
    exact Or.inl ⟨_, _, _, okC6, ⟨mo59, kw355, Or.inl ⟨rfl, kw354, kw356⟩⟩⟩
  rw [if_neg h6] at h
  cases h
set_option maxRecDepth 100000 in
theorem kw361 : Cond.code ⟨"RopeRound", "unfound", "(I)I"⟩ prog_1_method_32_code 2 (some FieldType.int) ∈ tg := kt 361 rfl rfl
theorem mo112 : MOk (mT 112) 1 := ⟨kw361, kw1, by decide +kernel, by decide +kernel, by decide⟩
theorem kw360 : Cond.instanceMethod ⟨"RopeRound", "unfound", "(I)I"⟩ ∈ tg := kt 360 (by decide +kernel) (by decide +kernel)
theorem kw358 : Cond.methodLink "RopeRound" 85 ⟨"RopeRound", "unfound", "(I)I"⟩ ∈ tg := kt 358 (by decide +kernel) (by decide +kernel)
theorem vk63 : ∀ ci y, (fun k => if k = 10 then some 112 else none) ci = some y → (∃ C T N, ClsOk ci C T N ∧ VOk mT "RopeRound" 85 C y 1) ∨ (ci = 201 ∧ VOk mT "RopeRound" 85 "java/lang/String" y 1) := by
  intro ci y h
  dsimp only at h
  by_cases h10 : ci = 10
  · subst h10
    have h := (Option.some.inj (by simpa using h)).symm
    subst h
    exact Or.inl ⟨_, _, _, okC10, ⟨mo112, kw360, Or.inl ⟨rfl, kw358, (ks (q := (⟨"RopeRound", "unfound", "(I)I"⟩, 12)) (by decide +kernel))⟩⟩⟩
  rw [if_neg h10] at h
  cases h
set_option maxRecDepth 100000 in
theorem kw369 : Cond.code ⟨"RopeRound$Row", "isMissing", "()Z"⟩ prog_8_method_2_code 1 (some FieldType.boolean) ∈ tg := kt 369 rfl rfl
theorem mo58 : MOk (mT 58) 0 := ⟨kw369, kw11, by decide +kernel, by decide +kernel, by decide⟩
theorem kw367 : Cond.instanceMethod ⟨"RopeRound$Row", "isMissing", "()Z"⟩ ∈ tg := kt 367 (by decide +kernel) (by decide +kernel)
theorem kw366 : Cond.methodLink "RopeRound" 88 ⟨"RopeRound$Row", "isMissing", "()Z"⟩ ∈ tg := kt 366 (by decide +kernel) (by decide +kernel)
theorem kw368 : Cond.selects "RopeRound$Row" ⟨"RopeRound$Row", "isMissing", "()Z"⟩ ⟨"RopeRound$Row", "isMissing", "()Z"⟩ ∈ tg := kt 368 (by decide +kernel) (by decide +kernel)
theorem vk64 : ∀ ci y, (fun k => if k = 6 then some 58 else none) ci = some y → (∃ C T N, ClsOk ci C T N ∧ VOk mT "RopeRound" 88 C y 0) ∨ (ci = 201 ∧ VOk mT "RopeRound" 88 "java/lang/String" y 0) := by
  intro ci y h
  dsimp only at h
  by_cases h6 : ci = 6
  · subst h6
    have h := (Option.some.inj (by simpa using h)).symm
    subst h
    exact Or.inl ⟨_, _, _, okC6, ⟨mo58, kw367, Or.inl ⟨rfl, kw366, kw368⟩⟩⟩
  rw [if_neg h6] at h
  cases h
set_option maxRecDepth 100000 in
theorem kw373 : Cond.code ⟨"RopeRound$Row", "holds", "(II)Z"⟩ prog_8_method_5_code 3 (some FieldType.boolean) ∈ tg := kt 373 rfl rfl
theorem mo61 : MOk (mT 61) 2 := ⟨kw373, kw11, by decide +kernel, by decide +kernel, by decide⟩
theorem kw371 : Cond.instanceMethod ⟨"RopeRound$Row", "holds", "(II)Z"⟩ ∈ tg := kt 371 (by decide +kernel) (by decide +kernel)
theorem kw370 : Cond.methodLink "RopeRound" 92 ⟨"RopeRound$Row", "holds", "(II)Z"⟩ ∈ tg := kt 370 (by decide +kernel) (by decide +kernel)
theorem kw372 : Cond.selects "RopeRound$Row" ⟨"RopeRound$Row", "holds", "(II)Z"⟩ ⟨"RopeRound$Row", "holds", "(II)Z"⟩ ∈ tg := kt 372 (by decide +kernel) (by decide +kernel)
theorem vk65 : ∀ ci y, (fun k => if k = 6 then some 61 else none) ci = some y → (∃ C T N, ClsOk ci C T N ∧ VOk mT "RopeRound" 92 C y 2) ∨ (ci = 201 ∧ VOk mT "RopeRound" 92 "java/lang/String" y 2) := by
  intro ci y h
  dsimp only at h
  by_cases h6 : ci = 6
  · subst h6
    have h := (Option.some.inj (by simpa using h)).symm
    subst h
    exact Or.inl ⟨_, _, _, okC6, ⟨mo61, kw371, Or.inl ⟨rfl, kw370, kw372⟩⟩⟩
  rw [if_neg h6] at h
  cases h
set_option maxRecDepth 100000 in
theorem kw377 : Cond.code ⟨"RopeRound$Row", "put", "(II)I"⟩ prog_8_method_6_code 4 (some FieldType.int) ∈ tg := kt 377 rfl rfl
theorem mo62 : MOk (mT 62) 2 := ⟨kw377, kw11, by decide +kernel, by decide +kernel, by decide⟩
theorem kw375 : Cond.instanceMethod ⟨"RopeRound$Row", "put", "(II)I"⟩ ∈ tg := kt 375 (by decide +kernel) (by decide +kernel)
theorem kw374 : Cond.methodLink "RopeRound" 96 ⟨"RopeRound$Row", "put", "(II)I"⟩ ∈ tg := kt 374 (by decide +kernel) (by decide +kernel)
theorem kw376 : Cond.selects "RopeRound$Row" ⟨"RopeRound$Row", "put", "(II)I"⟩ ⟨"RopeRound$Row", "put", "(II)I"⟩ ∈ tg := kt 376 (by decide +kernel) (by decide +kernel)
theorem vk66 : ∀ ci y, (fun k => if k = 6 then some 62 else none) ci = some y → (∃ C T N, ClsOk ci C T N ∧ VOk mT "RopeRound" 96 C y 2) ∨ (ci = 201 ∧ VOk mT "RopeRound" 96 "java/lang/String" y 2) := by
  intro ci y h
  dsimp only at h
  by_cases h6 : ci = 6
  · subst h6
    have h := (Option.some.inj (by simpa using h)).symm
    subst h
    exact Or.inl ⟨_, _, _, okC6, ⟨mo62, kw375, Or.inl ⟨rfl, kw374, kw376⟩⟩⟩
  rw [if_neg h6] at h
  cases h
theorem kw294 : Cond.fieldLink "RopeRound" 100 "RopeRound$Row" "lane" "I" ∈ tg := kt 294 (by decide +kernel) (by decide +kernel)
theorem gf97 : gF "RopeRound" 100 1 (fun k => k = 6) (fun n => n = 0 ∨ n = 4) := by
  refine ⟨_, _, _, kw294, fun ci h => ?_⟩
  rcases h with rfl
  · exact ⟨_, _, _, okC6, by decide, rfl, rfl, Or.inl rfl, Or.inl rfl⟩
theorem gf97w : gF "RopeRound" 100 1 (fun k => k = 6) (fun n => n = 0) := by
  refine ⟨_, _, _, kw294, fun ci h => ?_⟩
  rcases h with rfl
  · exact ⟨_, _, _, okC6, by decide, rfl, rfl, Or.inl rfl, rfl⟩
theorem kw292 : Cond.fieldLink "RopeRound" 104 "RopeRound$Row" "items" "[I" ∈ tg := kt 292 (by decide +kernel) (by decide +kernel)
theorem gf98 : gF "RopeRound" 104 0 (fun k => k = 6) (fun n => n = 2) := by
  refine ⟨_, _, _, kw292, fun ci h => ?_⟩
  rcases h with rfl
  · exact ⟨_, _, _, okC6, by decide, rfl, rfl, Or.inl rfl, rfl⟩
theorem kw382 : Cond.methodLink "RopeRound" 108 ⟨"java/lang/System", "arraycopy", "(Ljava/lang/Object;ILjava/lang/Object;II)V"⟩ ∈ tg := kt 382 (by decide +kernel) (by decide +kernel)
theorem kw296 : Cond.fieldLink "RopeRound" 114 "RopeRound$Row" "size" "I" ∈ tg := kt 296 (by decide +kernel) (by decide +kernel)
theorem gf99 : gF "RopeRound" 114 2 (fun k => k = 6) (fun n => n = 0 ∨ n = 4) := by
  refine ⟨_, _, _, kw296, fun ci h => ?_⟩
  rcases h with rfl
  · exact ⟨_, _, _, okC6, by decide, rfl, rfl, Or.inl rfl, Or.inl rfl⟩
theorem gf99w : gF "RopeRound" 114 2 (fun k => k = 6) (fun n => n = 0) := by
  refine ⟨_, _, _, kw296, fun ci h => ?_⟩
  rcases h with rfl
  · exact ⟨_, _, _, okC6, by decide, rfl, rfl, Or.inl rfl, rfl⟩
set_option maxRecDepth 100000 in
theorem kw392 : Cond.code ⟨"RopeRound$Row", "vanish", "()V"⟩ prog_8_method_4_code 1 none ∈ tg := kt 392 rfl rfl
theorem mo60 : MOk (mT 60) 0 := ⟨kw392, kw11, by decide +kernel, by decide +kernel, by decide⟩
theorem kw390 : Cond.instanceMethod ⟨"RopeRound$Row", "vanish", "()V"⟩ ∈ tg := kt 390 (by decide +kernel) (by decide +kernel)
theorem kw389 : Cond.methodLink "RopeRound" 117 ⟨"RopeRound$Row", "vanish", "()V"⟩ ∈ tg := kt 389 (by decide +kernel) (by decide +kernel)
theorem kw391 : Cond.selects "RopeRound$Row" ⟨"RopeRound$Row", "vanish", "()V"⟩ ⟨"RopeRound$Row", "vanish", "()V"⟩ ∈ tg := kt 391 (by decide +kernel) (by decide +kernel)
theorem vk67 : ∀ ci y, (fun k => if k = 6 then some 60 else none) ci = some y → (∃ C T N, ClsOk ci C T N ∧ VOk mT "RopeRound" 117 C y 0) ∨ (ci = 201 ∧ VOk mT "RopeRound" 117 "java/lang/String" y 0) := by
  intro ci y h
  dsimp only at h
  by_cases h6 : ci = 6
  · subst h6
    have h := (Option.some.inj (by simpa using h)).symm
    subst h
    exact Or.inl ⟨_, _, _, okC6, ⟨mo60, kw390, Or.inl ⟨rfl, kw389, kw391⟩⟩⟩
  rw [if_neg h6] at h
  cases h
theorem gf100 : gF "RopeRound" 18 1 (fun k => k = 10) (fun n => n = 2) := by
  refine ⟨_, _, _, kw305, fun ci h => ?_⟩
  rcases h with rfl
  · exact ⟨_, _, _, okC10, by decide, rfl, rfl, Or.inl rfl, rfl⟩
theorem kw132 : Cond.fieldLink "RopeRound" 120 "RopeRound$Reader" "tape" "LRopeRound$Tape;" ∈ tg := kt 132 (by decide +kernel) (by decide +kernel)
theorem gf101 : gF "RopeRound" 120 0 (fun k => k = 4) (fun n => n = 2) := by
  refine ⟨_, _, _, kw132, fun ci h => ?_⟩
  rcases h with rfl
  · exact ⟨_, _, _, okC4, by decide, rfl, rfl, Or.inl rfl, rfl⟩
theorem kw45 : Cond.fieldLink "RopeRound" 124 "RopeRound$Tape" "length" "I" ∈ tg := kt 45 (by decide +kernel) (by decide +kernel)
theorem gf102 : gF "RopeRound" 124 1 (fun k => k = 7) (fun n => n = 0 ∨ n = 4) := by
  refine ⟨_, _, _, kw45, fun ci h => ?_⟩
  rcases h with rfl
  · exact ⟨_, _, _, okC7, by decide, rfl, rfl, Or.inl rfl, Or.inl rfl⟩
theorem gf102w : gF "RopeRound" 124 1 (fun k => k = 7) (fun n => n = 0) := by
  refine ⟨_, _, _, kw45, fun ci h => ?_⟩
  rcases h with rfl
  · exact ⟨_, _, _, okC7, by decide, rfl, rfl, Or.inl rfl, rfl⟩
theorem kw397 : Cond.constant "RopeRound" 129 (-1000003) ∈ tg := kt 397 (by decide +kernel) (by decide +kernel)
set_option maxRecDepth 100000 in
theorem kw401 : Cond.code ⟨"RopeRound$Tape", "append", "(JI)V"⟩ prog_9_method_2_code 5 none ∈ tg := kt 401 rfl rfl
theorem mo64 : MOk (mT 64) 2 := ⟨kw401, kw3, by decide +kernel, by decide +kernel, by decide⟩
theorem kw399 : Cond.instanceMethod ⟨"RopeRound$Tape", "append", "(JI)V"⟩ ∈ tg := kt 399 (by decide +kernel) (by decide +kernel)
theorem kw398 : Cond.methodLink "RopeRound" 130 ⟨"RopeRound$Tape", "append", "(JI)V"⟩ ∈ tg := kt 398 (by decide +kernel) (by decide +kernel)
theorem kw400 : Cond.selects "RopeRound$Tape" ⟨"RopeRound$Tape", "append", "(JI)V"⟩ ⟨"RopeRound$Tape", "append", "(JI)V"⟩ ∈ tg := kt 400 (by decide +kernel) (by decide +kernel)
theorem vk68 : ∀ ci y, (fun k => if k = 7 then some 64 else none) ci = some y → (∃ C T N, ClsOk ci C T N ∧ VOk mT "RopeRound" 130 C y 2) ∨ (ci = 201 ∧ VOk mT "RopeRound" 130 "java/lang/String" y 2) := by
  intro ci y h
  dsimp only at h
  by_cases h7 : ci = 7
  · subst h7
    have h := (Option.some.inj (by simpa using h)).symm
    subst h
    exact Or.inl ⟨_, _, _, okC7, ⟨mo64, kw399, Or.inl ⟨rfl, kw398, kw400⟩⟩⟩
  rw [if_neg h7] at h
  cases h
set_option maxRecDepth 100000 in
theorem kw409 : Cond.code ⟨"RopeRound$Reader", "readAll", "()Z"⟩ prog_6_method_2_code 1 (some FieldType.boolean) ∈ tg := kt 409 rfl rfl
theorem mo41 : MOk (mT 41) 0 := ⟨kw409, kw2, by decide +kernel, by decide +kernel, by decide⟩
theorem kw407 : Cond.instanceMethod ⟨"RopeRound$Reader", "readAll", "()Z"⟩ ∈ tg := kt 407 (by decide +kernel) (by decide +kernel)
theorem kw406 : Cond.methodLink "RopeRound" 134 ⟨"RopeRound$Reader", "readAll", "()Z"⟩ ∈ tg := kt 406 (by decide +kernel) (by decide +kernel)
theorem kw408 : Cond.selects "RopeRound$Reader" ⟨"RopeRound$Reader", "readAll", "()Z"⟩ ⟨"RopeRound$Reader", "readAll", "()Z"⟩ ∈ tg := kt 408 (by decide +kernel) (by decide +kernel)
theorem vk69 : ∀ ci y, (fun k => if k = 4 then some 41 else none) ci = some y → (∃ C T N, ClsOk ci C T N ∧ VOk mT "RopeRound" 134 C y 0) ∨ (ci = 201 ∧ VOk mT "RopeRound" 134 "java/lang/String" y 0) := by
  intro ci y h
  dsimp only at h
  by_cases h4 : ci = 4
  · subst h4
    have h := (Option.some.inj (by simpa using h)).symm
    subst h
    exact Or.inl ⟨_, _, _, okC4, ⟨mo41, kw407, Or.inl ⟨rfl, kw406, kw408⟩⟩⟩
  rw [if_neg h4] at h
  cases h
theorem kw136 : Cond.fieldLink "RopeRound" 137 "RopeRound$Reader" "fault" "I" ∈ tg := kt 136 (by decide +kernel) (by decide +kernel)
theorem gf103 : gF "RopeRound" 137 2 (fun k => k = 4) (fun n => n = 0 ∨ n = 4) := by
  refine ⟨_, _, _, kw136, fun ci h => ?_⟩
  rcases h with rfl
  · exact ⟨_, _, _, okC4, by decide, rfl, rfl, Or.inl rfl, Or.inl rfl⟩
theorem gf103w : gF "RopeRound" 137 2 (fun k => k = 4) (fun n => n = 0) := by
  refine ⟨_, _, _, kw136, fun ci h => ?_⟩
  rcases h with rfl
  · exact ⟨_, _, _, okC4, by decide, rfl, rfl, Or.inl rfl, rfl⟩
theorem kw315 : Cond.fieldLink "RopeRound" 140 "RopeRound" "textFault" "I" ∈ tg := kt 315 (by decide +kernel) (by decide +kernel)
theorem gf104 : gF "RopeRound" 140 11 (fun k => k = 10) (fun n => n = 0 ∨ n = 4) := by
  refine ⟨_, _, _, kw315, fun ci h => ?_⟩
  rcases h with rfl
  · exact ⟨_, _, _, okC10, by decide, rfl, rfl, Or.inl rfl, Or.inl rfl⟩
theorem gf104w : gF "RopeRound" 140 11 (fun k => k = 10) (fun n => n = 0) := by
  refine ⟨_, _, _, kw315, fun ci h => ?_⟩
  rcases h with rfl
  · exact ⟨_, _, _, okC10, by decide, rfl, rfl, Or.inl rfl, rfl⟩
theorem kw574 : Cond.constant "RopeRound" 143 (-1000100) ∈ tg := kt 574 (by decide +kernel) (by decide +kernel)
theorem kw138 : Cond.fieldLink "RopeRound" 144 "RopeRound$Reader" "faultPlace" "I" ∈ tg := kt 138 (by decide +kernel) (by decide +kernel)
theorem gf105 : gF "RopeRound" 144 3 (fun k => k = 4) (fun n => n = 0 ∨ n = 4) := by
  refine ⟨_, _, _, kw138, fun ci h => ?_⟩
  rcases h with rfl
  · exact ⟨_, _, _, okC4, by decide, rfl, rfl, Or.inl rfl, Or.inl rfl⟩
theorem gf105w : gF "RopeRound" 144 3 (fun k => k = 4) (fun n => n = 0) := by
  refine ⟨_, _, _, kw138, fun ci h => ?_⟩
  rcases h with rfl
  · exact ⟨_, _, _, okC4, by decide, rfl, rfl, Or.inl rfl, rfl⟩
theorem gf106 : gF "RopeRound" 25 2 (fun k => k = 10) (fun n => n = 2) := by
  refine ⟨_, _, _, kw306, fun ci h => ?_⟩
  rcases h with rfl
  · exact ⟨_, _, _, okC10, by decide, rfl, rfl, Or.inl rfl, rfl⟩
theorem kw134 : Cond.fieldLink "RopeRound" 147 "RopeRound$Reader" "draft" "LRopeRound$Ground;" ∈ tg := kt 134 (by decide +kernel) (by decide +kernel)
theorem gf107 : gF "RopeRound" 147 1 (fun k => k = 4) (fun n => n = 2) := by
  refine ⟨_, _, _, kw134, fun ci h => ?_⟩
  rcases h with rfl
  · exact ⟨_, _, _, okC4, by decide, rfl, rfl, Or.inl rfl, rfl⟩
set_option maxRecDepth 100000 in
theorem kw578 : Cond.code ⟨"RopeRound$Ground", "become", "(LRopeRound$Ground;)V"⟩ prog_5_method_3_code 2 none ∈ tg := kt 578 rfl rfl
theorem mo24 : MOk (mT 24) 1 := ⟨kw578, kw4, by decide +kernel, by decide +kernel, by decide⟩
theorem kw576 : Cond.instanceMethod ⟨"RopeRound$Ground", "become", "(LRopeRound$Ground;)V"⟩ ∈ tg := kt 576 (by decide +kernel) (by decide +kernel)
theorem kw575 : Cond.methodLink "RopeRound" 150 ⟨"RopeRound$Ground", "become", "(LRopeRound$Ground;)V"⟩ ∈ tg := kt 575 (by decide +kernel) (by decide +kernel)
theorem kw577 : Cond.selects "RopeRound$Ground" ⟨"RopeRound$Ground", "become", "(LRopeRound$Ground;)V"⟩ ⟨"RopeRound$Ground", "become", "(LRopeRound$Ground;)V"⟩ ∈ tg := kt 577 (by decide +kernel) (by decide +kernel)
theorem vk70 : ∀ ci y, (fun k => if k = 3 then some 24 else none) ci = some y → (∃ C T N, ClsOk ci C T N ∧ VOk mT "RopeRound" 150 C y 1) ∨ (ci = 201 ∧ VOk mT "RopeRound" 150 "java/lang/String" y 1) := by
  intro ci y h
  dsimp only at h
  by_cases h3 : ci = 3
  · subst h3
    have h := (Option.some.inj (by simpa using h)).symm
    subst h
    exact Or.inl ⟨_, _, _, okC3, ⟨mo24, kw576, Or.inl ⟨rfl, kw575, kw577⟩⟩⟩
  rw [if_neg h3] at h
  cases h
theorem gf108 : gF "RopeRound" 43 5 (fun k => k = 10) (fun n => n = 2) := by
  refine ⟨_, _, _, kw309, fun ci h => ?_⟩
  rcases h with rfl
  · exact ⟨_, _, _, okC10, by decide, rfl, rfl, Or.inl rfl, rfl⟩
set_option maxRecDepth 100000 in
theorem kw583 : Cond.code ⟨"RopeRound$Best", "forget", "()V"⟩ prog_3_method_2_code 1 none ∈ tg := kt 583 rfl rfl
theorem mo13 : MOk (mT 13) 0 := ⟨kw583, kw7, by decide +kernel, by decide +kernel, by decide⟩
theorem kw581 : Cond.instanceMethod ⟨"RopeRound$Best", "forget", "()V"⟩ ∈ tg := kt 581 (by decide +kernel) (by decide +kernel)
theorem kw580 : Cond.methodLink "RopeRound" 154 ⟨"RopeRound$Best", "forget", "()V"⟩ ∈ tg := kt 580 (by decide +kernel) (by decide +kernel)
theorem kw582 : Cond.selects "RopeRound$Best" ⟨"RopeRound$Best", "forget", "()V"⟩ ⟨"RopeRound$Best", "forget", "()V"⟩ ∈ tg := kt 582 (by decide +kernel) (by decide +kernel)
theorem vk71 : ∀ ci y, (fun k => if k = 1 then some 13 else none) ci = some y → (∃ C T N, ClsOk ci C T N ∧ VOk mT "RopeRound" 154 C y 0) ∨ (ci = 201 ∧ VOk mT "RopeRound" 154 "java/lang/String" y 0) := by
  intro ci y h
  dsimp only at h
  by_cases h1 : ci = 1
  · subst h1
    have h := (Option.some.inj (by simpa using h)).symm
    subst h
    exact Or.inl ⟨_, _, _, okC1, ⟨mo13, kw581, Or.inl ⟨rfl, kw580, kw582⟩⟩⟩
  rw [if_neg h1] at h
  cases h
theorem kw77 : Cond.fieldLink "RopeRound" 157 "RopeRound$Ground" "men" "I" ∈ tg := kt 77 (by decide +kernel) (by decide +kernel)
theorem gf109 : gF "RopeRound" 157 2 (fun k => k = 3) (fun n => n = 0 ∨ n = 4) := by
  refine ⟨_, _, _, kw77, fun ci h => ?_⟩
  rcases h with rfl
  · exact ⟨_, _, _, okC3, by decide, rfl, rfl, Or.inl rfl, Or.inl rfl⟩
theorem gf109w : gF "RopeRound" 157 2 (fun k => k = 3) (fun n => n = 0) := by
  refine ⟨_, _, _, kw77, fun ci h => ?_⟩
  rcases h with rfl
  · exact ⟨_, _, _, okC3, by decide, rfl, rfl, Or.inl rfl, rfl⟩
theorem kw592 : Cond.methodLink "RopeRound" 160 ⟨"RopeRound$Ground", "hasCorner", "(I)Z"⟩ ∈ tg := kt 592 (by decide +kernel) (by decide +kernel)
theorem vk72 : ∀ ci y, (fun k => if k = 3 then some 28 else none) ci = some y → (∃ C T N, ClsOk ci C T N ∧ VOk mT "RopeRound" 160 C y 1) ∨ (ci = 201 ∧ VOk mT "RopeRound" 160 "java/lang/String" y 1) := by
  intro ci y h
  dsimp only at h
  by_cases h3 : ci = 3
  · subst h3
    have h := (Option.some.inj (by simpa using h)).symm
    subst h
    exact Or.inl ⟨_, _, _, okC3, ⟨mo28, kw554, Or.inl ⟨rfl, kw592, kw555⟩⟩⟩
  rw [if_neg h3] at h
  cases h
theorem kw593 : Cond.methodLink "RopeRound" 163 ⟨"RopeRound$Ground", "leads", "(II)Z"⟩ ∈ tg := kt 593 (by decide +kernel) (by decide +kernel)
theorem vk73 : ∀ ci y, (fun k => if k = 3 then some 33 else none) ci = some y → (∃ C T N, ClsOk ci C T N ∧ VOk mT "RopeRound" 163 C y 2) ∨ (ci = 201 ∧ VOk mT "RopeRound" 163 "java/lang/String" y 2) := by
  intro ci y h
  dsimp only at h
  by_cases h3 : ci = 3
  · subst h3
    have h := (Option.some.inj (by simpa using h)).symm
    subst h
    exact Or.inl ⟨_, _, _, okC3, ⟨mo33, kw594, Or.inl ⟨rfl, kw593, kw595⟩⟩⟩
  rw [if_neg h3] at h
  cases h
theorem kw597 : Cond.methodLink "RopeRound" 166 ⟨"RopeRound$Ground", "ropeTaken", "(II)I"⟩ ∈ tg := kt 597 (by decide +kernel) (by decide +kernel)
theorem vk74 : ∀ ci y, (fun k => if k = 3 then some 34 else none) ci = some y → (∃ C T N, ClsOk ci C T N ∧ VOk mT "RopeRound" 166 C y 2) ∨ (ci = 201 ∧ VOk mT "RopeRound" 166 "java/lang/String" y 2) := by
  intro ci y h
  dsimp only at h
  by_cases h3 : ci = 3
  · subst h3
    have h := (Option.some.inj (by simpa using h)).symm
    subst h
    exact Or.inl ⟨_, _, _, okC3, ⟨mo34, kw598, Or.inl ⟨rfl, kw597, kw599⟩⟩⟩
  rw [if_neg h3] at h
  cases h
theorem kw603 : Cond.constant "RopeRound" 169 (-1000000) ∈ tg := kt 603 (by decide +kernel) (by decide +kernel)
set_option maxRecDepth 100000 in
theorem kw611 : Cond.code ⟨"RopeRound", "canBeLaying", "(III)Z"⟩ prog_1_method_33_code 4 (some FieldType.boolean) ∈ tg := kt 611 rfl rfl
theorem mo113 : MOk (mT 113) 3 := ⟨kw611, kw1, by decide +kernel, by decide +kernel, by decide⟩
theorem kw610 : Cond.instanceMethod ⟨"RopeRound", "canBeLaying", "(III)Z"⟩ ∈ tg := kt 610 (by decide +kernel) (by decide +kernel)
theorem kw608 : Cond.methodLink "RopeRound" 170 ⟨"RopeRound", "canBeLaying", "(III)Z"⟩ ∈ tg := kt 608 (by decide +kernel) (by decide +kernel)
theorem vk75 : ∀ ci y, (fun k => if k = 10 then some 113 else none) ci = some y → (∃ C T N, ClsOk ci C T N ∧ VOk mT "RopeRound" 170 C y 3) ∨ (ci = 201 ∧ VOk mT "RopeRound" 170 "java/lang/String" y 3) := by
  intro ci y h
  dsimp only at h
  by_cases h10 : ci = 10
  · subst h10
    have h := (Option.some.inj (by simpa using h)).symm
    subst h
    exact Or.inl ⟨_, _, _, okC10, ⟨mo113, kw610, Or.inl ⟨rfl, kw608, (ks (q := (⟨"RopeRound", "canBeLaying", "(III)Z"⟩, 12)) (by decide +kernel))⟩⟩⟩
  rw [if_neg h10] at h
  cases h
set_option maxRecDepth 100000 in
theorem kw619 : Cond.code ⟨"RopeRound", "judged", "(ILRopeRound$Row;II)I"⟩ prog_1_method_34_code 7 (some FieldType.int) ∈ tg := kt 619 rfl rfl
theorem mo114 : MOk (mT 114) 4 := ⟨kw619, kw1, by decide +kernel, by decide +kernel, by decide⟩
theorem kw618 : Cond.instanceMethod ⟨"RopeRound", "judged", "(ILRopeRound$Row;II)I"⟩ ∈ tg := kt 618 (by decide +kernel) (by decide +kernel)
theorem kw616 : Cond.methodLink "RopeRound" 174 ⟨"RopeRound", "judged", "(ILRopeRound$Row;II)I"⟩ ∈ tg := kt 616 (by decide +kernel) (by decide +kernel)
theorem vk76 : ∀ ci y, (fun k => if k = 10 then some 114 else none) ci = some y → (∃ C T N, ClsOk ci C T N ∧ VOk mT "RopeRound" 174 C y 4) ∨ (ci = 201 ∧ VOk mT "RopeRound" 174 "java/lang/String" y 4) := by
  intro ci y h
  dsimp only at h
  by_cases h10 : ci = 10
  · subst h10
    have h := (Option.some.inj (by simpa using h)).symm
    subst h
    exact Or.inl ⟨_, _, _, okC10, ⟨mo114, kw618, Or.inl ⟨rfl, kw616, (ks (q := (⟨"RopeRound", "judged", "(ILRopeRound$Row;II)I"⟩, 12)) (by decide +kernel))⟩⟩⟩
  rw [if_neg h10] at h
  cases h
theorem kw655 : Cond.methodLink "RopeRound" 178 ⟨"RopeRound$Ground", "hasRing", "(I)Z"⟩ ∈ tg := kt 655 (by decide +kernel) (by decide +kernel)
theorem vk77 : ∀ ci y, (fun k => if k = 3 then some 27 else none) ci = some y → (∃ C T N, ClsOk ci C T N ∧ VOk mT "RopeRound" 178 C y 1) ∨ (ci = 201 ∧ VOk mT "RopeRound" 178 "java/lang/String" y 1) := by
  intro ci y h
  dsimp only at h
  by_cases h3 : ci = 3
  · subst h3
    have h := (Option.some.inj (by simpa using h)).symm
    subst h
    exact Or.inl ⟨_, _, _, okC3, ⟨mo27, kw656, Or.inl ⟨rfl, kw655, kw657⟩⟩⟩
  rw [if_neg h3] at h
  cases h
theorem kw659 : Cond.constant "RopeRound" 181 (-1000002) ∈ tg := kt 659 (by decide +kernel) (by decide +kernel)
theorem gf110 : gF "RopeRound" 36 4 (fun k => k = 10) (fun n => n = 2) := by
  refine ⟨_, _, _, kw308, fun ci h => ?_⟩
  rcases h with rfl
  · exact ⟨_, _, _, okC10, by decide, rfl, rfl, Or.inl rfl, rfl⟩
theorem kw158 : Cond.fieldLink "RopeRound" 182 "RopeRound$Trial" "cells" "J" ∈ tg := kt 158 (by decide +kernel) (by decide +kernel)
theorem gf111 : gF "RopeRound" 182 0 (fun k => k = 8) (fun n => n = 1) := by
  refine ⟨_, _, _, kw158, fun ci h => ?_⟩
  rcases h with rfl
  · exact ⟨_, _, _, okC8, by decide, rfl, rfl, Or.inl rfl, rfl⟩
set_option maxRecDepth 100000 in
theorem kw663 : Cond.code ⟨"RopeRound", "putRing", "(IJ)V"⟩ prog_1_method_35_code 4 none ∈ tg := kt 663 rfl rfl
theorem mo115 : MOk (mT 115) 2 := ⟨kw663, kw1, by decide +kernel, by decide +kernel, by decide⟩
theorem kw662 : Cond.instanceMethod ⟨"RopeRound", "putRing", "(IJ)V"⟩ ∈ tg := kt 662 (by decide +kernel) (by decide +kernel)
theorem kw660 : Cond.methodLink "RopeRound" 186 ⟨"RopeRound", "putRing", "(IJ)V"⟩ ∈ tg := kt 660 (by decide +kernel) (by decide +kernel)
theorem vk78 : ∀ ci y, (fun k => if k = 10 then some 115 else none) ci = some y → (∃ C T N, ClsOk ci C T N ∧ VOk mT "RopeRound" 186 C y 2) ∨ (ci = 201 ∧ VOk mT "RopeRound" 186 "java/lang/String" y 2) := by
  intro ci y h
  dsimp only at h
  by_cases h10 : ci = 10
  · subst h10
    have h := (Option.some.inj (by simpa using h)).symm
    subst h
    exact Or.inl ⟨_, _, _, okC10, ⟨mo115, kw662, Or.inl ⟨rfl, kw660, (ks (q := (⟨"RopeRound", "putRing", "(IJ)V"⟩, 12)) (by decide +kernel))⟩⟩⟩
  rw [if_neg h10] at h
  cases h
set_option maxRecDepth 100000 in
theorem kw615 : Cond.code ⟨"RopeRound$Ground", "hasMan", "(I)Z"⟩ prog_5_method_5_code 2 (some FieldType.boolean) ∈ tg := kt 615 rfl rfl
theorem mo26 : MOk (mT 26) 1 := ⟨kw615, kw4, by decide +kernel, by decide +kernel, by decide⟩
theorem kw613 : Cond.instanceMethod ⟨"RopeRound$Ground", "hasMan", "(I)Z"⟩ ∈ tg := kt 613 (by decide +kernel) (by decide +kernel)
theorem kw612 : Cond.methodLink "RopeRound" 190 ⟨"RopeRound$Ground", "hasMan", "(I)Z"⟩ ∈ tg := kt 612 (by decide +kernel) (by decide +kernel)
theorem kw614 : Cond.selects "RopeRound$Ground" ⟨"RopeRound$Ground", "hasMan", "(I)Z"⟩ ⟨"RopeRound$Ground", "hasMan", "(I)Z"⟩ ∈ tg := kt 614 (by decide +kernel) (by decide +kernel)
theorem vk79 : ∀ ci y, (fun k => if k = 3 then some 26 else none) ci = some y → (∃ C T N, ClsOk ci C T N ∧ VOk mT "RopeRound" 190 C y 1) ∨ (ci = 201 ∧ VOk mT "RopeRound" 190 "java/lang/String" y 1) := by
  intro ci y h
  dsimp only at h
  by_cases h3 : ci = 3
  · subst h3
    have h := (Option.some.inj (by simpa using h)).symm
    subst h
    exact Or.inl ⟨_, _, _, okC3, ⟨mo26, kw613, Or.inl ⟨rfl, kw612, kw614⟩⟩⟩
  rw [if_neg h3] at h
  cases h
theorem kw95 : Cond.fieldLink "RopeRound" 193 "RopeRound$Ground" "rings" "[J" ∈ tg := kt 95 (by decide +kernel) (by decide +kernel)
theorem gf112 : gF "RopeRound" 193 8 (fun k => k = 3) (fun n => n = 2) := by
  refine ⟨_, _, _, kw95, fun ci h => ?_⟩
  rcases h with rfl
  · exact ⟨_, _, _, okC3, by decide, rfl, rfl, Or.inl rfl, rfl⟩
theorem kw641 : Cond.methodLink "RopeRound" 197 ⟨"RopeRound$Ground", "worthOf", "(J)I"⟩ ∈ tg := kt 641 (by decide +kernel) (by decide +kernel)
theorem vk80 : ∀ ci y, (fun k => if k = 3 then some 36 else none) ci = some y → (∃ C T N, ClsOk ci C T N ∧ VOk mT "RopeRound" 197 C y 1) ∨ (ci = 201 ∧ VOk mT "RopeRound" 197 "java/lang/String" y 1) := by
  intro ci y h
  dsimp only at h
  by_cases h3 : ci = 3
  · subst h3
    have h := (Option.some.inj (by simpa using h)).symm
    subst h
    exact Or.inl ⟨_, _, _, okC3, ⟨mo36, kw642, Or.inl ⟨rfl, kw641, kw643⟩⟩⟩
  rw [if_neg h3] at h
  cases h
theorem kw88 : Cond.fieldLink "RopeRound" 201 "RopeRound$Ground" "pegs" "[I" ∈ tg := kt 88 (by decide +kernel) (by decide +kernel)
theorem gf113 : gF "RopeRound" 201 6 (fun k => k = 3) (fun n => n = 2) := by
  refine ⟨_, _, _, kw88, fun ci h => ?_⟩
  rcases h with rfl
  · exact ⟨_, _, _, okC3, by decide, rfl, rfl, Or.inl rfl, rfl⟩
theorem kw93 : Cond.fieldLink "RopeRound" 204 "RopeRound$Ground" "ropes" "[I" ∈ tg := kt 93 (by decide +kernel) (by decide +kernel)
theorem gf114 : gF "RopeRound" 204 7 (fun k => k = 3) (fun n => n = 2) := by
  refine ⟨_, _, _, kw93, fun ci h => ?_⟩
  rcases h with rfl
  · exact ⟨_, _, _, okC3, by decide, rfl, rfl, Or.inl rfl, rfl⟩
theorem kw673 : Cond.methodLink "RopeRound" 207 ⟨"java/lang/Long", "bitCount", "(J)I"⟩ ∈ tg := kt 673 (by decide +kernel) (by decide +kernel)
theorem kw678 : Cond.methodLink "RopeRound" 212 ⟨"RopeRound$Ground", "hasCell", "(I)Z"⟩ ∈ tg := kt 678 (by decide +kernel) (by decide +kernel)
theorem vk81 : ∀ ci y, (fun k => if k = 3 then some 29 else none) ci = some y → (∃ C T N, ClsOk ci C T N ∧ VOk mT "RopeRound" 212 C y 1) ∨ (ci = 201 ∧ VOk mT "RopeRound" 212 "java/lang/String" y 1) := by
  intro ci y h
  dsimp only at h
  by_cases h3 : ci = 3
  · subst h3
    have h := (Option.some.inj (by simpa using h)).symm
    subst h
    exact Or.inl ⟨_, _, _, okC3, ⟨mo29, kw679, Or.inl ⟨rfl, kw678, kw680⟩⟩⟩
  rw [if_neg h3] at h
  cases h
theorem kw682 : Cond.methodLink "RopeRound" 215 ⟨"RopeRound", "bitOfCell", "(I)I"⟩ ∈ tg := kt 682 (by decide +kernel) (by decide +kernel)
theorem kw685 : Cond.methodLink "RopeRound" 218 ⟨"RopeRound$Ground", "ringMan", "(I)I"⟩ ∈ tg := kt 685 (by decide +kernel) (by decide +kernel)
theorem vk82 : ∀ ci y, (fun k => if k = 3 then some 37 else none) ci = some y → (∃ C T N, ClsOk ci C T N ∧ VOk mT "RopeRound" 218 C y 1) ∨ (ci = 201 ∧ VOk mT "RopeRound" 218 "java/lang/String" y 1) := by
  intro ci y h
  dsimp only at h
  by_cases h3 : ci = 3
  · subst h3
    have h := (Option.some.inj (by simpa using h)).symm
    subst h
    exact Or.inl ⟨_, _, _, okC3, ⟨mo37, kw686, Or.inl ⟨rfl, kw685, kw687⟩⟩⟩
  rw [if_neg h3] at h
  cases h
theorem kw82 : Cond.fieldLink "RopeRound" 221 "RopeRound$Ground" "stones" "J" ∈ tg := kt 82 (by decide +kernel) (by decide +kernel)
theorem gf115 : gF "RopeRound" 221 4 (fun k => k = 3) (fun n => n = 1) := by
  refine ⟨_, _, _, kw82, fun ci h => ?_⟩
  rcases h with rfl
  · exact ⟨_, _, _, okC3, by decide, rfl, rfl, Or.inl rfl, rfl⟩
theorem kw694 : Cond.methodLink "RopeRound" 224 ⟨"RopeRound", "has", "(JI)Z"⟩ ∈ tg := kt 694 (by decide +kernel) (by decide +kernel)
set_option maxRecDepth 100000 in
theorem kw698 : Cond.code ⟨"RopeRound$Best", "learn", "(LRopeRound$Ground;I)V"⟩ prog_3_method_3_code 4 none ∈ tg := kt 698 rfl rfl
theorem mo14 : MOk (mT 14) 2 := ⟨kw698, kw7, by decide +kernel, by decide +kernel, by decide⟩
theorem kw696 : Cond.instanceMethod ⟨"RopeRound$Best", "learn", "(LRopeRound$Ground;I)V"⟩ ∈ tg := kt 696 (by decide +kernel) (by decide +kernel)
theorem kw695 : Cond.methodLink "RopeRound" 228 ⟨"RopeRound$Best", "learn", "(LRopeRound$Ground;I)V"⟩ ∈ tg := kt 695 (by decide +kernel) (by decide +kernel)
theorem kw697 : Cond.selects "RopeRound$Best" ⟨"RopeRound$Best", "learn", "(LRopeRound$Ground;I)V"⟩ ⟨"RopeRound$Best", "learn", "(LRopeRound$Ground;I)V"⟩ ∈ tg := kt 697 (by decide +kernel) (by decide +kernel)
theorem vk83 : ∀ ci y, (fun k => if k = 1 then some 14 else none) ci = some y → (∃ C T N, ClsOk ci C T N ∧ VOk mT "RopeRound" 228 C y 2) ∨ (ci = 201 ∧ VOk mT "RopeRound" 228 "java/lang/String" y 2) := by
  intro ci y h
  dsimp only at h
  by_cases h1 : ci = 1
  · subst h1
    have h := (Option.some.inj (by simpa using h)).symm
    subst h
    exact Or.inl ⟨_, _, _, okC1, ⟨mo14, kw696, Or.inl ⟨rfl, kw695, kw697⟩⟩⟩
  rw [if_neg h1] at h
  cases h
theorem kw747 : Cond.methodLink "RopeRound" 232 ⟨"RopeRound$Best", "placeOf", "(II)I"⟩ ∈ tg := kt 747 (by decide +kernel) (by decide +kernel)
theorem vk84 : ∀ ci y, (fun k => if k = 1 then some 15 else none) ci = some y → (∃ C T N, ClsOk ci C T N ∧ VOk mT "RopeRound" 232 C y 2) ∨ (ci = 201 ∧ VOk mT "RopeRound" 232 "java/lang/String" y 2) := by
  intro ci y h
  dsimp only at h
  by_cases h1 : ci = 1
  · subst h1
    have h := (Option.some.inj (by simpa using h)).symm
    subst h
    exact Or.inl ⟨_, _, _, okC1, ⟨mo15, kw748, Or.inl ⟨rfl, kw747, kw749⟩⟩⟩
  rw [if_neg h1] at h
  cases h
theorem kw182 : Cond.fieldLink "RopeRound" 235 "RopeRound$Best" "steps" "[I" ∈ tg := kt 182 (by decide +kernel) (by decide +kernel)
theorem gf116 : gF "RopeRound" 235 4 (fun k => k = 1) (fun n => n = 2) := by
  refine ⟨_, _, _, kw182, fun ci h => ?_⟩
  rcases h with rfl
  · exact ⟨_, _, _, okC1, by decide, rfl, rfl, Or.inl rfl, rfl⟩
theorem kw180 : Cond.fieldLink "RopeRound" 238 "RopeRound$Best" "worths" "[I" ∈ tg := kt 180 (by decide +kernel) (by decide +kernel)
theorem gf117 : gF "RopeRound" 238 3 (fun k => k = 1) (fun n => n = 2) := by
  refine ⟨_, _, _, kw180, fun ci h => ?_⟩
  rcases h with rfl
  · exact ⟨_, _, _, okC1, by decide, rfl, rfl, Or.inl rfl, rfl⟩
theorem kw184 : Cond.fieldLink "RopeRound" 241 "RopeRound$Best" "ways" "[J" ∈ tg := kt 184 (by decide +kernel) (by decide +kernel)
theorem gf118 : gF "RopeRound" 241 5 (fun k => k = 1) (fun n => n = 2) := by
  refine ⟨_, _, _, kw184, fun ci h => ?_⟩
  rcases h with rfl
  · exact ⟨_, _, _, okC1, by decide, rfl, rfl, Or.inl rfl, rfl⟩
theorem kw751 : Cond.methodLink "RopeRound" 244 ⟨"RopeRound", "wayAt", "(JI)I"⟩ ∈ tg := kt 751 (by decide +kernel) (by decide +kernel)
set_option maxRecDepth 100000 in
theorem kw759 : Cond.code ⟨"RopeRound", "leaderOf", "(I)I"⟩ prog_1_method_36_code 4 (some FieldType.int) ∈ tg := kt 759 rfl rfl
theorem mo116 : MOk (mT 116) 1 := ⟨kw759, kw1, by decide +kernel, by decide +kernel, by decide⟩
theorem kw758 : Cond.instanceMethod ⟨"RopeRound", "leaderOf", "(I)I"⟩ ∈ tg := kt 758 (by decide +kernel) (by decide +kernel)
theorem kw756 : Cond.methodLink "RopeRound" 248 ⟨"RopeRound", "leaderOf", "(I)I"⟩ ∈ tg := kt 756 (by decide +kernel) (by decide +kernel)
theorem vk85 : ∀ ci y, (fun k => if k = 10 then some 116 else none) ci = some y → (∃ C T N, ClsOk ci C T N ∧ VOk mT "RopeRound" 248 C y 1) ∨ (ci = 201 ∧ VOk mT "RopeRound" 248 "java/lang/String" y 1) := by
  intro ci y h
  dsimp only at h
  by_cases h10 : ci = 10
  · subst h10
    have h := (Option.some.inj (by simpa using h)).symm
    subst h
    exact Or.inl ⟨_, _, _, okC10, ⟨mo116, kw758, Or.inl ⟨rfl, kw756, (ks (q := (⟨"RopeRound", "leaderOf", "(I)I"⟩, 12)) (by decide +kernel))⟩⟩⟩
  rw [if_neg h10] at h
  cases h
set_option maxRecDepth 100000 in
theorem kw763 : Cond.code ⟨"RopeRound", "tiedWorth", "(I)I"⟩ prog_1_method_38_code 2 (some FieldType.int) ∈ tg := kt 763 rfl rfl
theorem mo118 : MOk (mT 118) 1 := ⟨kw763, kw1, by decide +kernel, by decide +kernel, by decide⟩
theorem kw762 : Cond.instanceMethod ⟨"RopeRound", "tiedWorth", "(I)I"⟩ ∈ tg := kt 762 (by decide +kernel) (by decide +kernel)
theorem kw760 : Cond.methodLink "RopeRound" 251 ⟨"RopeRound", "tiedWorth", "(I)I"⟩ ∈ tg := kt 760 (by decide +kernel) (by decide +kernel)
theorem vk86 : ∀ ci y, (fun k => if k = 10 then some 118 else none) ci = some y → (∃ C T N, ClsOk ci C T N ∧ VOk mT "RopeRound" 251 C y 1) ∨ (ci = 201 ∧ VOk mT "RopeRound" 251 "java/lang/String" y 1) := by
  intro ci y h
  dsimp only at h
  by_cases h10 : ci = 10
  · subst h10
    have h := (Option.some.inj (by simpa using h)).symm
    subst h
    exact Or.inl ⟨_, _, _, okC10, ⟨mo118, kw762, Or.inl ⟨rfl, kw760, (ks (q := (⟨"RopeRound", "tiedWorth", "(I)I"⟩, 12)) (by decide +kernel))⟩⟩⟩
  rw [if_neg h10] at h
  cases h
set_option maxRecDepth 100000 in
theorem kw783 : Cond.code ⟨"RopeRound", "shareOf", "(I)I"⟩ prog_1_method_39_code 8 (some FieldType.int) ∈ tg := kt 783 rfl rfl
theorem mo119 : MOk (mT 119) 1 := ⟨kw783, kw1, by decide +kernel, by decide +kernel, by decide⟩
theorem kw782 : Cond.instanceMethod ⟨"RopeRound", "shareOf", "(I)I"⟩ ∈ tg := kt 782 (by decide +kernel) (by decide +kernel)
theorem kw780 : Cond.methodLink "RopeRound" 254 ⟨"RopeRound", "shareOf", "(I)I"⟩ ∈ tg := kt 780 (by decide +kernel) (by decide +kernel)
theorem vk87 : ∀ ci y, (fun k => if k = 10 then some 119 else none) ci = some y → (∃ C T N, ClsOk ci C T N ∧ VOk mT "RopeRound" 254 C y 1) ∨ (ci = 201 ∧ VOk mT "RopeRound" 254 "java/lang/String" y 1) := by
  intro ci y h
  dsimp only at h
  by_cases h10 : ci = 10
  · subst h10
    have h := (Option.some.inj (by simpa using h)).symm
    subst h
    exact Or.inl ⟨_, _, _, okC10, ⟨mo119, kw782, Or.inl ⟨rfl, kw780, (ks (q := (⟨"RopeRound", "shareOf", "(I)I"⟩, 12)) (by decide +kernel))⟩⟩⟩
  rw [if_neg h10] at h
  cases h
theorem gf119 : gF "RopeRound" 50 6 (fun k => k = 10) (fun n => n = 2) := by
  refine ⟨_, _, _, kw310, fun ci h => ?_⟩
  rcases h with rfl
  · exact ⟨_, _, _, okC10, by decide, rfl, rfl, Or.inl rfl, rfl⟩
set_option maxRecDepth 100000 in
theorem kw802 : Cond.code ⟨"RopeRound$RingList", "fill", "(LRopeRound$Ground;I)V"⟩ prog_7_method_2_code 3 none ∈ tg := kt 802 rfl rfl
theorem mo54 : MOk (mT 54) 2 := ⟨kw802, kw8, by decide +kernel, by decide +kernel, by decide⟩
theorem kw800 : Cond.instanceMethod ⟨"RopeRound$RingList", "fill", "(LRopeRound$Ground;I)V"⟩ ∈ tg := kt 800 (by decide +kernel) (by decide +kernel)
theorem kw799 : Cond.methodLink "RopeRound" 257 ⟨"RopeRound$RingList", "fill", "(LRopeRound$Ground;I)V"⟩ ∈ tg := kt 799 (by decide +kernel) (by decide +kernel)
theorem kw801 : Cond.selects "RopeRound$RingList" ⟨"RopeRound$RingList", "fill", "(LRopeRound$Ground;I)V"⟩ ⟨"RopeRound$RingList", "fill", "(LRopeRound$Ground;I)V"⟩ ∈ tg := kt 801 (by decide +kernel) (by decide +kernel)
theorem vk88 : ∀ ci y, (fun k => if k = 5 then some 54 else none) ci = some y → (∃ C T N, ClsOk ci C T N ∧ VOk mT "RopeRound" 257 C y 2) ∨ (ci = 201 ∧ VOk mT "RopeRound" 257 "java/lang/String" y 2) := by
  intro ci y h
  dsimp only at h
  by_cases h5 : ci = 5
  · subst h5
    have h := (Option.some.inj (by simpa using h)).symm
    subst h
    exact Or.inl ⟨_, _, _, okC5, ⟨mo54, kw800, Or.inl ⟨rfl, kw799, kw801⟩⟩⟩
  rw [if_neg h5] at h
  cases h
theorem gf120 : gF "RopeRound" 54 7 (fun k => k = 10) (fun n => n = 2) := by
  refine ⟨_, _, _, kw311, fun ci h => ?_⟩
  rcases h with rfl
  · exact ⟨_, _, _, okC10, by decide, rfl, rfl, Or.inl rfl, rfl⟩
theorem kw224 : Cond.fieldLink "RopeRound" 260 "RopeRound$RingList" "size" "I" ∈ tg := kt 224 (by decide +kernel) (by decide +kernel)
theorem gf121 : gF "RopeRound" 260 5 (fun k => k = 5) (fun n => n = 0 ∨ n = 4) := by
  refine ⟨_, _, _, kw224, fun ci h => ?_⟩
  rcases h with rfl
  · exact ⟨_, _, _, okC5, by decide, rfl, rfl, Or.inl rfl, Or.inl rfl⟩
theorem gf121w : gF "RopeRound" 260 5 (fun k => k = 5) (fun n => n = 0) := by
  refine ⟨_, _, _, kw224, fun ci h => ?_⟩
  rcases h with rfl
  · exact ⟨_, _, _, okC5, by decide, rfl, rfl, Or.inl rfl, rfl⟩
theorem kw220 : Cond.fieldLink "RopeRound" 261 "RopeRound$RingList" "rings" "[J" ∈ tg := kt 220 (by decide +kernel) (by decide +kernel)
theorem gf122 : gF "RopeRound" 261 3 (fun k => k = 5) (fun n => n = 2) := by
  refine ⟨_, _, _, kw220, fun ci h => ?_⟩
  rcases h with rfl
  · exact ⟨_, _, _, okC5, by decide, rfl, rfl, Or.inl rfl, rfl⟩
theorem kw806 : Cond.methodLink "RopeRound" 262 ⟨"RopeRound$Ground", "ropeAround", "(JJ)I"⟩ ∈ tg := kt 806 (by decide +kernel) (by decide +kernel)
theorem vk89 : ∀ ci y, (fun k => if k = 3 then some 35 else none) ci = some y → (∃ C T N, ClsOk ci C T N ∧ VOk mT "RopeRound" 262 C y 2) ∨ (ci = 201 ∧ VOk mT "RopeRound" 262 "java/lang/String" y 2) := by
  intro ci y h
  dsimp only at h
  by_cases h3 : ci = 3
  · subst h3
    have h := (Option.some.inj (by simpa using h)).symm
    subst h
    exact Or.inl ⟨_, _, _, okC3, ⟨mo35, kw722, Or.inl ⟨rfl, kw806, kw723⟩⟩⟩
  rw [if_neg h3] at h
  cases h
set_option maxRecDepth 100000 in
theorem kw810 : Cond.code ⟨"RopeRound$RingList", "mostBeside", "(LRopeRound$Ground;JI)I"⟩ prog_7_method_4_code 8 (some FieldType.int) ∈ tg := kt 810 rfl rfl
theorem mo56 : MOk (mT 56) 3 := ⟨kw810, kw8, by decide +kernel, by decide +kernel, by decide⟩
theorem kw808 : Cond.instanceMethod ⟨"RopeRound$RingList", "mostBeside", "(LRopeRound$Ground;JI)I"⟩ ∈ tg := kt 808 (by decide +kernel) (by decide +kernel)
theorem kw807 : Cond.methodLink "RopeRound" 266 ⟨"RopeRound$RingList", "mostBeside", "(LRopeRound$Ground;JI)I"⟩ ∈ tg := kt 807 (by decide +kernel) (by decide +kernel)
theorem kw809 : Cond.selects "RopeRound$RingList" ⟨"RopeRound$RingList", "mostBeside", "(LRopeRound$Ground;JI)I"⟩ ⟨"RopeRound$RingList", "mostBeside", "(LRopeRound$Ground;JI)I"⟩ ∈ tg := kt 809 (by decide +kernel) (by decide +kernel)
theorem vk90 : ∀ ci y, (fun k => if k = 5 then some 56 else none) ci = some y → (∃ C T N, ClsOk ci C T N ∧ VOk mT "RopeRound" 266 C y 3) ∨ (ci = 201 ∧ VOk mT "RopeRound" 266 "java/lang/String" y 3) := by
  intro ci y h
  dsimp only at h
  by_cases h5 : ci = 5
  · subst h5
    have h := (Option.some.inj (by simpa using h)).symm
    subst h
    exact Or.inl ⟨_, _, _, okC5, ⟨mo56, kw808, Or.inl ⟨rfl, kw807, kw809⟩⟩⟩
  rw [if_neg h5] at h
  cases h
theorem kw222 : Cond.fieldLink "RopeRound" 270 "RopeRound$RingList" "worths" "[I" ∈ tg := kt 222 (by decide +kernel) (by decide +kernel)
theorem gf123 : gF "RopeRound" 270 4 (fun k => k = 5) (fun n => n = 2) := by
  refine ⟨_, _, _, kw222, fun ci h => ?_⟩
  rcases h with rfl
  · exact ⟨_, _, _, okC5, by decide, rfl, rfl, Or.inl rfl, rfl⟩
set_option maxRecDepth 100000 in
theorem kw774 : Cond.code ⟨"RopeRound$Best", "worthOrNothing", "(II)I"⟩ prog_3_method_5_code 4 (some FieldType.int) ∈ tg := kt 774 rfl rfl
theorem mo16 : MOk (mT 16) 2 := ⟨kw774, kw7, by decide +kernel, by decide +kernel, by decide⟩
theorem kw772 : Cond.instanceMethod ⟨"RopeRound$Best", "worthOrNothing", "(II)I"⟩ ∈ tg := kt 772 (by decide +kernel) (by decide +kernel)
theorem kw771 : Cond.methodLink "RopeRound" 271 ⟨"RopeRound$Best", "worthOrNothing", "(II)I"⟩ ∈ tg := kt 771 (by decide +kernel) (by decide +kernel)
theorem kw773 : Cond.selects "RopeRound$Best" ⟨"RopeRound$Best", "worthOrNothing", "(II)I"⟩ ⟨"RopeRound$Best", "worthOrNothing", "(II)I"⟩ ∈ tg := kt 773 (by decide +kernel) (by decide +kernel)
theorem vk91 : ∀ ci y, (fun k => if k = 1 then some 16 else none) ci = some y → (∃ C T N, ClsOk ci C T N ∧ VOk mT "RopeRound" 271 C y 2) ∨ (ci = 201 ∧ VOk mT "RopeRound" 271 "java/lang/String" y 2) := by
  intro ci y h
  dsimp only at h
  by_cases h1 : ci = 1
  · subst h1
    have h := (Option.some.inj (by simpa using h)).symm
    subst h
    exact Or.inl ⟨_, _, _, okC1, ⟨mo16, kw772, Or.inl ⟨rfl, kw771, kw773⟩⟩⟩
  rw [if_neg h1] at h
  cases h
theorem gf124 : gF "RopeRound" 60 8 (fun k => k = 10) (fun n => n = 2) := by
  refine ⟨_, _, _, kw312, fun ci h => ?_⟩
  rcases h with rfl
  · exact ⟨_, _, _, okC10, by decide, rfl, rfl, Or.inl rfl, rfl⟩
set_option maxRecDepth 100000 in
theorem kw823 : Cond.code ⟨"RopeRound$Finder", "takeTold", "(LRopeRound$Ground;LRopeRound$Row;II)Z"⟩ prog_4_method_2_code 7 (some FieldType.boolean) ∈ tg := kt 823 rfl rfl
theorem mo19 : MOk (mT 19) 4 := ⟨kw823, kw9, by decide +kernel, by decide +kernel, by decide⟩
theorem kw821 : Cond.instanceMethod ⟨"RopeRound$Finder", "takeTold", "(LRopeRound$Ground;LRopeRound$Row;II)Z"⟩ ∈ tg := kt 821 (by decide +kernel) (by decide +kernel)
theorem kw820 : Cond.methodLink "RopeRound" 274 ⟨"RopeRound$Finder", "takeTold", "(LRopeRound$Ground;LRopeRound$Row;II)Z"⟩ ∈ tg := kt 820 (by decide +kernel) (by decide +kernel)
theorem kw822 : Cond.selects "RopeRound$Finder" ⟨"RopeRound$Finder", "takeTold", "(LRopeRound$Ground;LRopeRound$Row;II)Z"⟩ ⟨"RopeRound$Finder", "takeTold", "(LRopeRound$Ground;LRopeRound$Row;II)Z"⟩ ∈ tg := kt 822 (by decide +kernel) (by decide +kernel)
theorem vk92 : ∀ ci y, (fun k => if k = 2 then some 19 else none) ci = some y → (∃ C T N, ClsOk ci C T N ∧ VOk mT "RopeRound" 274 C y 4) ∨ (ci = 201 ∧ VOk mT "RopeRound" 274 "java/lang/String" y 4) := by
  intro ci y h
  dsimp only at h
  by_cases h2 : ci = 2
  · subst h2
    have h := (Option.some.inj (by simpa using h)).symm
    subst h
    exact Or.inl ⟨_, _, _, okC2, ⟨mo19, kw821, Or.inl ⟨rfl, kw820, kw822⟩⟩⟩
  rw [if_neg h2] at h
  cases h
set_option maxRecDepth 100000 in
theorem kw830 : Cond.code ⟨"RopeRound$Finder", "countFor", "(LRopeRound$Ground;I)I"⟩ prog_4_method_3_code 3 (some FieldType.int) ∈ tg := kt 830 rfl rfl
theorem mo20 : MOk (mT 20) 2 := ⟨kw830, kw9, by decide +kernel, by decide +kernel, by decide⟩
theorem kw828 : Cond.instanceMethod ⟨"RopeRound$Finder", "countFor", "(LRopeRound$Ground;I)I"⟩ ∈ tg := kt 828 (by decide +kernel) (by decide +kernel)
theorem kw827 : Cond.methodLink "RopeRound" 278 ⟨"RopeRound$Finder", "countFor", "(LRopeRound$Ground;I)I"⟩ ∈ tg := kt 827 (by decide +kernel) (by decide +kernel)
theorem kw829 : Cond.selects "RopeRound$Finder" ⟨"RopeRound$Finder", "countFor", "(LRopeRound$Ground;I)I"⟩ ⟨"RopeRound$Finder", "countFor", "(LRopeRound$Ground;I)I"⟩ ∈ tg := kt 829 (by decide +kernel) (by decide +kernel)
theorem vk93 : ∀ ci y, (fun k => if k = 2 then some 20 else none) ci = some y → (∃ C T N, ClsOk ci C T N ∧ VOk mT "RopeRound" 278 C y 2) ∨ (ci = 201 ∧ VOk mT "RopeRound" 278 "java/lang/String" y 2) := by
  intro ci y h
  dsimp only at h
  by_cases h2 : ci = 2
  · subst h2
    have h := (Option.some.inj (by simpa using h)).symm
    subst h
    exact Or.inl ⟨_, _, _, okC2, ⟨mo20, kw828, Or.inl ⟨rfl, kw827, kw829⟩⟩⟩
  rw [if_neg h2] at h
  cases h
theorem kw838 : Cond.methodLink "RopeRound" 282 ⟨"RopeRound$Ground", "isThere", "()Z"⟩ ∈ tg := kt 838 (by decide +kernel) (by decide +kernel)
theorem vk94 : ∀ ci y, (fun k => if k = 3 then some 25 else none) ci = some y → (∃ C T N, ClsOk ci C T N ∧ VOk mT "RopeRound" 282 C y 0) ∨ (ci = 201 ∧ VOk mT "RopeRound" 282 "java/lang/String" y 0) := by
  intro ci y h
  dsimp only at h
  by_cases h3 : ci = 3
  · subst h3
    have h := (Option.some.inj (by simpa using h)).symm
    subst h
    exact Or.inl ⟨_, _, _, okC3, ⟨mo25, kw558, Or.inl ⟨rfl, kw838, kw559⟩⟩⟩
  rw [if_neg h3] at h
  cases h
theorem kw847 : Cond.methodLink "RopeRound" 285 ⟨"RopeRound$Ground", "kindOf", "(I)I"⟩ ∈ tg := kt 847 (by decide +kernel) (by decide +kernel)
theorem vk95 : ∀ ci y, (fun k => if k = 3 then some 39 else none) ci = some y → (∃ C T N, ClsOk ci C T N ∧ VOk mT "RopeRound" 285 C y 1) ∨ (ci = 201 ∧ VOk mT "RopeRound" 285 "java/lang/String" y 1) := by
  intro ci y h
  dsimp only at h
  by_cases h3 : ci = 3
  · subst h3
    have h := (Option.some.inj (by simpa using h)).symm
    subst h
    exact Or.inl ⟨_, _, _, okC3, ⟨mo39, kw848, Or.inl ⟨rfl, kw847, kw849⟩⟩⟩
  rw [if_neg h3] at h
  cases h
theorem kw856 : Cond.methodLink "RopeRound" 288 ⟨"RopeRound", "isAlso", "(II)Z"⟩ ∈ tg := kt 856 (by decide +kernel) (by decide +kernel)
theorem kw857 : Cond.static ⟨"RopeRound", "isAlso", "(II)Z"⟩ ∈ tg := kt 857 (by decide +kernel) (by decide +kernel)
set_option maxRecDepth 100000 in
theorem kw858 : Cond.code ⟨"RopeRound", "isAlso", "(II)Z"⟩ prog_1_method_48_code 4 (some FieldType.boolean) ∈ tg := kt 858 rfl rfl
theorem mo128 : MOk (mT 128) 2 := ⟨kw858, kw1, by decide +kernel, by decide +kernel, by decide⟩
theorem gf125 : gF "RopeRound" 67 9 (fun k => k = 10) (fun n => n = 2) := by
  refine ⟨_, _, _, kw313, fun ci h => ?_⟩
  rcases h with rfl
  · exact ⟨_, _, _, okC10, by decide, rfl, rfl, Or.inl rfl, rfl⟩
set_option maxRecDepth 100000 in
theorem kw869 : Cond.code ⟨"RopeRound$Asker", "begin", "(LRopeRound$Ground;I)V"⟩ prog_2_method_2_code 4 none ∈ tg := kt 869 rfl rfl
theorem mo1 : MOk (mT 1) 2 := ⟨kw869, kw10, by decide +kernel, by decide +kernel, by decide⟩
theorem kw867 : Cond.instanceMethod ⟨"RopeRound$Asker", "begin", "(LRopeRound$Ground;I)V"⟩ ∈ tg := kt 867 (by decide +kernel) (by decide +kernel)
theorem kw866 : Cond.methodLink "RopeRound" 291 ⟨"RopeRound$Asker", "begin", "(LRopeRound$Ground;I)V"⟩ ∈ tg := kt 866 (by decide +kernel) (by decide +kernel)
theorem kw868 : Cond.selects "RopeRound$Asker" ⟨"RopeRound$Asker", "begin", "(LRopeRound$Ground;I)V"⟩ ⟨"RopeRound$Asker", "begin", "(LRopeRound$Ground;I)V"⟩ ∈ tg := kt 868 (by decide +kernel) (by decide +kernel)
theorem vk96 : ∀ ci y, (fun k => if k = 0 then some 1 else none) ci = some y → (∃ C T N, ClsOk ci C T N ∧ VOk mT "RopeRound" 291 C y 2) ∨ (ci = 201 ∧ VOk mT "RopeRound" 291 "java/lang/String" y 2) := by
  intro ci y h
  dsimp only at h
  by_cases h0 : ci = 0
  · subst h0
    have h := (Option.some.inj (by simpa using h)).symm
    subst h
    exact Or.inl ⟨_, _, _, okC0, ⟨mo1, kw867, Or.inl ⟨rfl, kw866, kw868⟩⟩⟩
  rw [if_neg h0] at h
  cases h
set_option maxRecDepth 100000 in
theorem kw877 : Cond.code ⟨"RopeRound$Asker", "sizeAsked", "()I"⟩ prog_2_method_4_code 1 (some FieldType.int) ∈ tg := kt 877 rfl rfl
theorem mo3 : MOk (mT 3) 0 := ⟨kw877, kw10, by decide +kernel, by decide +kernel, by decide⟩
theorem kw875 : Cond.instanceMethod ⟨"RopeRound$Asker", "sizeAsked", "()I"⟩ ∈ tg := kt 875 (by decide +kernel) (by decide +kernel)
theorem kw874 : Cond.methodLink "RopeRound" 293 ⟨"RopeRound$Asker", "sizeAsked", "()I"⟩ ∈ tg := kt 874 (by decide +kernel) (by decide +kernel)
theorem kw876 : Cond.selects "RopeRound$Asker" ⟨"RopeRound$Asker", "sizeAsked", "()I"⟩ ⟨"RopeRound$Asker", "sizeAsked", "()I"⟩ ∈ tg := kt 876 (by decide +kernel) (by decide +kernel)
theorem vk97 : ∀ ci y, (fun k => if k = 0 then some 3 else none) ci = some y → (∃ C T N, ClsOk ci C T N ∧ VOk mT "RopeRound" 293 C y 0) ∨ (ci = 201 ∧ VOk mT "RopeRound" 293 "java/lang/String" y 0) := by
  intro ci y h
  dsimp only at h
  by_cases h0 : ci = 0
  · subst h0
    have h := (Option.some.inj (by simpa using h)).symm
    subst h
    exact Or.inl ⟨_, _, _, okC0, ⟨mo3, kw875, Or.inl ⟨rfl, kw874, kw876⟩⟩⟩
  rw [if_neg h0] at h
  cases h
theorem kw914 : Cond.methodLink "RopeRound" 297 ⟨"RopeRound$Asker", "markAsked", "()I"⟩ ∈ tg := kt 914 (by decide +kernel) (by decide +kernel)
theorem vk98 : ∀ ci y, (fun k => if k = 0 then some 9 else none) ci = some y → (∃ C T N, ClsOk ci C T N ∧ VOk mT "RopeRound" 297 C y 0) ∨ (ci = 201 ∧ VOk mT "RopeRound" 297 "java/lang/String" y 0) := by
  intro ci y h
  dsimp only at h
  by_cases h0 : ci = 0
  · subst h0
    have h := (Option.some.inj (by simpa using h)).symm
    subst h
    exact Or.inl ⟨_, _, _, okC0, ⟨mo9, kw899, Or.inl ⟨rfl, kw914, kw900⟩⟩⟩
  rw [if_neg h0] at h
  cases h
theorem kw266 : Cond.fieldLink "RopeRound" 300 "RopeRound$Asker" "noted" "I" ∈ tg := kt 266 (by decide +kernel) (by decide +kernel)
theorem gf126 : gF "RopeRound" 300 1 (fun k => k = 0) (fun n => n = 0 ∨ n = 4) := by
  refine ⟨_, _, _, kw266, fun ci h => ?_⟩
  rcases h with rfl
  · exact ⟨_, _, _, okC0, by decide, rfl, rfl, Or.inl rfl, Or.inl rfl⟩
theorem gf126w : gF "RopeRound" 300 1 (fun k => k = 0) (fun n => n = 0) := by
  refine ⟨_, _, _, kw266, fun ci h => ?_⟩
  rcases h with rfl
  · exact ⟨_, _, _, okC0, by decide, rfl, rfl, Or.inl rfl, rfl⟩
theorem kw264 : Cond.fieldLink "RopeRound" 303 "RopeRound$Asker" "notes" "[I" ∈ tg := kt 264 (by decide +kernel) (by decide +kernel)
theorem gf127 : gF "RopeRound" 303 0 (fun k => k = 0) (fun n => n = 2) := by
  refine ⟨_, _, _, kw264, fun ci h => ?_⟩
  rcases h with rfl
  · exact ⟨_, _, _, okC0, by decide, rfl, rfl, Or.inl rfl, rfl⟩
set_option maxRecDepth 100000 in
theorem kw926 : Cond.code ⟨"RopeRound", "rowsThere", "()I"⟩ prog_1_method_30_code 3 (some FieldType.int) ∈ tg := kt 926 rfl rfl
theorem mo110 : MOk (mT 110) 0 := ⟨kw926, kw1, by decide +kernel, by decide +kernel, by decide⟩
theorem kw925 : Cond.instanceMethod ⟨"RopeRound", "rowsThere", "()I"⟩ ∈ tg := kt 925 (by decide +kernel) (by decide +kernel)
theorem kw923 : Cond.methodLink "RopeRound" 306 ⟨"RopeRound", "rowsThere", "()I"⟩ ∈ tg := kt 923 (by decide +kernel) (by decide +kernel)
theorem vk99 : ∀ ci y, (fun k => if k = 10 then some 110 else none) ci = some y → (∃ C T N, ClsOk ci C T N ∧ VOk mT "RopeRound" 306 C y 0) ∨ (ci = 201 ∧ VOk mT "RopeRound" 306 "java/lang/String" y 0) := by
  intro ci y h
  dsimp only at h
  by_cases h10 : ci = 10
  · subst h10
    have h := (Option.some.inj (by simpa using h)).symm
    subst h
    exact Or.inl ⟨_, _, _, okC10, ⟨mo110, kw925, Or.inl ⟨rfl, kw923, (ks (q := (⟨"RopeRound", "rowsThere", "()I"⟩, 12)) (by decide +kernel))⟩⟩⟩
  rw [if_neg h10] at h
  cases h
theorem kw72 : Cond.fieldLink "RopeRound" 309 "RopeRound$Ground" "wide" "I" ∈ tg := kt 72 (by decide +kernel) (by decide +kernel)
theorem gf128 : gF "RopeRound" 309 0 (fun k => k = 3) (fun n => n = 0 ∨ n = 4) := by
  refine ⟨_, _, _, kw72, fun ci h => ?_⟩
  rcases h with rfl
  · exact ⟨_, _, _, okC3, by decide, rfl, rfl, Or.inl rfl, Or.inl rfl⟩
theorem gf128w : gF "RopeRound" 309 0 (fun k => k = 3) (fun n => n = 0) := by
  refine ⟨_, _, _, kw72, fun ci h => ?_⟩
  rcases h with rfl
  · exact ⟨_, _, _, okC3, by decide, rfl, rfl, Or.inl rfl, rfl⟩
theorem kw75 : Cond.fieldLink "RopeRound" 312 "RopeRound$Ground" "high" "I" ∈ tg := kt 75 (by decide +kernel) (by decide +kernel)
theorem gf129 : gF "RopeRound" 312 1 (fun k => k = 3) (fun n => n = 0 ∨ n = 4) := by
  refine ⟨_, _, _, kw75, fun ci h => ?_⟩
  rcases h with rfl
  · exact ⟨_, _, _, okC3, by decide, rfl, rfl, Or.inl rfl, Or.inl rfl⟩
theorem gf129w : gF "RopeRound" 312 1 (fun k => k = 3) (fun n => n = 0) := by
  refine ⟨_, _, _, kw75, fun ci h => ?_⟩
  rcases h with rfl
  · exact ⟨_, _, _, okC3, by decide, rfl, rfl, Or.inl rfl, rfl⟩
set_option maxRecDepth 100000 in
theorem kw930 : Cond.code ⟨"RopeRound$Ground", "ringsThere", "()I"⟩ prog_5_method_17_code 3 (some FieldType.int) ∈ tg := kt 930 rfl rfl
theorem mo38 : MOk (mT 38) 0 := ⟨kw930, kw4, by decide +kernel, by decide +kernel, by decide⟩
theorem kw928 : Cond.instanceMethod ⟨"RopeRound$Ground", "ringsThere", "()I"⟩ ∈ tg := kt 928 (by decide +kernel) (by decide +kernel)
theorem kw927 : Cond.methodLink "RopeRound" 315 ⟨"RopeRound$Ground", "ringsThere", "()I"⟩ ∈ tg := kt 927 (by decide +kernel) (by decide +kernel)
theorem kw929 : Cond.selects "RopeRound$Ground" ⟨"RopeRound$Ground", "ringsThere", "()I"⟩ ⟨"RopeRound$Ground", "ringsThere", "()I"⟩ ∈ tg := kt 929 (by decide +kernel) (by decide +kernel)
theorem vk100 : ∀ ci y, (fun k => if k = 3 then some 38 else none) ci = some y → (∃ C T N, ClsOk ci C T N ∧ VOk mT "RopeRound" 315 C y 0) ∨ (ci = 201 ∧ VOk mT "RopeRound" 315 "java/lang/String" y 0) := by
  intro ci y h
  dsimp only at h
  by_cases h3 : ci = 3
  · subst h3
    have h := (Option.some.inj (by simpa using h)).symm
    subst h
    exact Or.inl ⟨_, _, _, okC3, ⟨mo38, kw928, Or.inl ⟨rfl, kw927, kw929⟩⟩⟩
  rw [if_neg h3] at h
  cases h
theorem kw314 : Cond.fieldLink "RopeRound" 318 "RopeRound" "finding" "I" ∈ tg := kt 314 (by decide +kernel) (by decide +kernel)
theorem gf130 : gF "RopeRound" 318 10 (fun k => k = 10) (fun n => n = 0 ∨ n = 4) := by
  refine ⟨_, _, _, kw314, fun ci h => ?_⟩
  rcases h with rfl
  · exact ⟨_, _, _, okC10, by decide, rfl, rfl, Or.inl rfl, Or.inl rfl⟩
theorem gf130w : gF "RopeRound" 318 10 (fun k => k = 10) (fun n => n = 0) := by
  refine ⟨_, _, _, kw314, fun ci h => ?_⟩
  rcases h with rfl
  · exact ⟨_, _, _, okC10, by decide, rfl, rfl, Or.inl rfl, rfl⟩
theorem kw353 : Cond.constant "RopeRound" 321 (-1000010) ∈ tg := kt 353 (by decide +kernel) (by decide +kernel)
set_option maxRecDepth 100000 in
theorem kw623 : Cond.code ⟨"RopeRound$Trial", "follow", "(LRopeRound$Ground;ILRopeRound$Row;II)V"⟩ prog_10_method_2_code 15 none ∈ tg := kt 623 rfl rfl
theorem mo74 : MOk (mT 74) 5 := ⟨kw623, kw5, by decide +kernel, by decide +kernel, by decide⟩
theorem kw621 : Cond.instanceMethod ⟨"RopeRound$Trial", "follow", "(LRopeRound$Ground;ILRopeRound$Row;II)V"⟩ ∈ tg := kt 621 (by decide +kernel) (by decide +kernel)
theorem kw620 : Cond.methodLink "RopeRound" 322 ⟨"RopeRound$Trial", "follow", "(LRopeRound$Ground;ILRopeRound$Row;II)V"⟩ ∈ tg := kt 620 (by decide +kernel) (by decide +kernel)
theorem kw622 : Cond.selects "RopeRound$Trial" ⟨"RopeRound$Trial", "follow", "(LRopeRound$Ground;ILRopeRound$Row;II)V"⟩ ⟨"RopeRound$Trial", "follow", "(LRopeRound$Ground;ILRopeRound$Row;II)V"⟩ ∈ tg := kt 622 (by decide +kernel) (by decide +kernel)
theorem vk101 : ∀ ci y, (fun k => if k = 8 then some 74 else none) ci = some y → (∃ C T N, ClsOk ci C T N ∧ VOk mT "RopeRound" 322 C y 5) ∨ (ci = 201 ∧ VOk mT "RopeRound" 322 "java/lang/String" y 5) := by
  intro ci y h
  dsimp only at h
  by_cases h8 : ci = 8
  · subst h8
    have h := (Option.some.inj (by simpa using h)).symm
    subst h
    exact Or.inl ⟨_, _, _, okC8, ⟨mo74, kw621, Or.inl ⟨rfl, kw620, kw622⟩⟩⟩
  rw [if_neg h8] at h
  cases h
theorem kw160 : Cond.fieldLink "RopeRound" 326 "RopeRound$Trial" "fault" "I" ∈ tg := kt 160 (by decide +kernel) (by decide +kernel)
theorem gf131 : gF "RopeRound" 326 1 (fun k => k = 8) (fun n => n = 0 ∨ n = 4) := by
  refine ⟨_, _, _, kw160, fun ci h => ?_⟩
  rcases h with rfl
  · exact ⟨_, _, _, okC8, by decide, rfl, rfl, Or.inl rfl, Or.inl rfl⟩
theorem gf131w : gF "RopeRound" 326 1 (fun k => k = 8) (fun n => n = 0) := by
  refine ⟨_, _, _, kw160, fun ci h => ?_⟩
  rcases h with rfl
  · exact ⟨_, _, _, okC8, by decide, rfl, rfl, Or.inl rfl, rfl⟩
theorem kw640 : Cond.constant "RopeRound" 327 (-1000200) ∈ tg := kt 640 (by decide +kernel) (by decide +kernel)
theorem kw162 : Cond.fieldLink "RopeRound" 328 "RopeRound$Trial" "step" "I" ∈ tg := kt 162 (by decide +kernel) (by decide +kernel)
theorem gf132 : gF "RopeRound" 328 2 (fun k => k = 8) (fun n => n = 0 ∨ n = 4) := by
  refine ⟨_, _, _, kw162, fun ci h => ?_⟩
  rcases h with rfl
  · exact ⟨_, _, _, okC8, by decide, rfl, rfl, Or.inl rfl, Or.inl rfl⟩
theorem gf132w : gF "RopeRound" 328 2 (fun k => k = 8) (fun n => n = 0) := by
  refine ⟨_, _, _, kw162, fun ci h => ?_⟩
  rcases h with rfl
  · exact ⟨_, _, _, okC8, by decide, rfl, rfl, Or.inl rfl, rfl⟩
theorem kw664 : Cond.methodLink "RopeRound" 331 ⟨"RopeRound$Ground", "reckonRings", "()V"⟩ ∈ tg := kt 664 (by decide +kernel) (by decide +kernel)
theorem vk102 : ∀ ci y, (fun k => if k = 3 then some 32 else none) ci = some y → (∃ C T N, ClsOk ci C T N ∧ VOk mT "RopeRound" 331 C y 0) ∨ (ci = 201 ∧ VOk mT "RopeRound" 331 "java/lang/String" y 0) := by
  intro ci y h
  dsimp only at h
  by_cases h3 : ci = 3
  · subst h3
    have h := (Option.some.inj (by simpa using h)).symm
    subst h
    exact Or.inl ⟨_, _, _, okC3, ⟨mo32, kw565, Or.inl ⟨rfl, kw664, kw566⟩⟩⟩
  rw [if_neg h3] at h
  cases h
theorem kw768 : Cond.methodLink "RopeRound" 334 ⟨"java/lang/Math", "min", "(II)I"⟩ ∈ tg := kt 768 (by decide +kernel) (by decide +kernel)
theorem kw769 : Cond.static ⟨"java/lang/Math", "min", "(II)I"⟩ ∈ tg := kt 769 (by decide +kernel) (by decide +kernel)
set_option maxRecDepth 100000 in
theorem kw770 : Cond.code ⟨"java/lang/Math", "min", "(II)I"⟩ prog_15_method_69_code 2 (some FieldType.int) ∈ tg := kt 770 rfl rfl
set_option maxRecDepth 100000 in
theorem kw767 : Cond.code ⟨"RopeRound", "ropeOf", "(I)I"⟩ prog_1_method_37_code 4 (some FieldType.int) ∈ tg := kt 767 rfl rfl
theorem mo117 : MOk (mT 117) 1 := ⟨kw767, kw1, by decide +kernel, by decide +kernel, by decide⟩
theorem kw766 : Cond.instanceMethod ⟨"RopeRound", "ropeOf", "(I)I"⟩ ∈ tg := kt 766 (by decide +kernel) (by decide +kernel)
theorem kw764 : Cond.methodLink "RopeRound" 339 ⟨"RopeRound", "ropeOf", "(I)I"⟩ ∈ tg := kt 764 (by decide +kernel) (by decide +kernel)
theorem vk103 : ∀ ci y, (fun k => if k = 10 then some 117 else none) ci = some y → (∃ C T N, ClsOk ci C T N ∧ VOk mT "RopeRound" 339 C y 1) ∨ (ci = 201 ∧ VOk mT "RopeRound" 339 "java/lang/String" y 1) := by
  intro ci y h
  dsimp only at h
  by_cases h10 : ci = 10
  · subst h10
    have h := (Option.some.inj (by simpa using h)).symm
    subst h
    exact Or.inl ⟨_, _, _, okC10, ⟨mo117, kw766, Or.inl ⟨rfl, kw764, (ks (q := (⟨"RopeRound", "ropeOf", "(I)I"⟩, 12)) (by decide +kernel))⟩⟩⟩
  rw [if_neg h10] at h
  cases h
set_option maxRecDepth 100000 in
theorem kw787 : Cond.code ⟨"RopeRound", "floorOf", "(I)I"⟩ prog_1_method_40_code 2 (some FieldType.int) ∈ tg := kt 787 rfl rfl
theorem mo120 : MOk (mT 120) 1 := ⟨kw787, kw1, by decide +kernel, by decide +kernel, by decide⟩
theorem kw786 : Cond.instanceMethod ⟨"RopeRound", "floorOf", "(I)I"⟩ ∈ tg := kt 786 (by decide +kernel) (by decide +kernel)
theorem kw784 : Cond.methodLink "RopeRound" 342 ⟨"RopeRound", "floorOf", "(I)I"⟩ ∈ tg := kt 784 (by decide +kernel) (by decide +kernel)
theorem vk104 : ∀ ci y, (fun k => if k = 10 then some 120 else none) ci = some y → (∃ C T N, ClsOk ci C T N ∧ VOk mT "RopeRound" 342 C y 1) ∨ (ci = 201 ∧ VOk mT "RopeRound" 342 "java/lang/String" y 1) := by
  intro ci y h
  dsimp only at h
  by_cases h10 : ci = 10
  · subst h10
    have h := (Option.some.inj (by simpa using h)).symm
    subst h
    exact Or.inl ⟨_, _, _, okC10, ⟨mo120, kw786, Or.inl ⟨rfl, kw784, (ks (q := (⟨"RopeRound", "floorOf", "(I)I"⟩, 12)) (by decide +kernel))⟩⟩⟩
  rw [if_neg h10] at h
  cases h
set_option maxRecDepth 100000 in
theorem kw791 : Cond.code ⟨"RopeRound", "ceilingOf", "(II)I"⟩ prog_1_method_41_code 4 (some FieldType.int) ∈ tg := kt 791 rfl rfl
theorem mo121 : MOk (mT 121) 2 := ⟨kw791, kw1, by decide +kernel, by decide +kernel, by decide⟩
theorem kw790 : Cond.instanceMethod ⟨"RopeRound", "ceilingOf", "(II)I"⟩ ∈ tg := kt 790 (by decide +kernel) (by decide +kernel)
theorem kw788 : Cond.methodLink "RopeRound" 345 ⟨"RopeRound", "ceilingOf", "(II)I"⟩ ∈ tg := kt 788 (by decide +kernel) (by decide +kernel)
theorem vk105 : ∀ ci y, (fun k => if k = 10 then some 121 else none) ci = some y → (∃ C T N, ClsOk ci C T N ∧ VOk mT "RopeRound" 345 C y 2) ∨ (ci = 201 ∧ VOk mT "RopeRound" 345 "java/lang/String" y 2) := by
  intro ci y h
  dsimp only at h
  by_cases h10 : ci = 10
  · subst h10
    have h := (Option.some.inj (by simpa using h)).symm
    subst h
    exact Or.inl ⟨_, _, _, okC10, ⟨mo121, kw790, Or.inl ⟨rfl, kw788, (ks (q := (⟨"RopeRound", "ceilingOf", "(II)I"⟩, 12)) (by decide +kernel))⟩⟩⟩
  rw [if_neg h10] at h
  cases h
theorem kw792 : Cond.methodLink "RopeRound" 348 ⟨"java/lang/Math", "max", "(II)I"⟩ ∈ tg := kt 792 (by decide +kernel) (by decide +kernel)
theorem kw793 : Cond.static ⟨"java/lang/Math", "max", "(II)I"⟩ ∈ tg := kt 793 (by decide +kernel) (by decide +kernel)
set_option maxRecDepth 100000 in
theorem kw794 : Cond.code ⟨"java/lang/Math", "max", "(II)I"⟩ prog_15_method_65_code 2 (some FieldType.int) ∈ tg := kt 794 rfl rfl
theorem kw737 : Cond.constantLong "RopeRound" 351 3 ∈ tg := kt 737 (by decide +kernel) (by decide +kernel)
theorem kw635 : Cond.constantLong "RopeRound" 353 72340172838076673 ∈ tg := kt 635 (by decide +kernel) (by decide +kernel)
theorem kw859 : Cond.methodLink "RopeRound" 355 ⟨"RopeRound", "nextKind", "(I)I"⟩ ∈ tg := kt 859 (by decide +kernel) (by decide +kernel)
theorem kw860 : Cond.static ⟨"RopeRound", "nextKind", "(I)I"⟩ ∈ tg := kt 860 (by decide +kernel) (by decide +kernel)
set_option maxRecDepth 100000 in
theorem kw861 : Cond.code ⟨"RopeRound", "nextKind", "(I)I"⟩ prog_1_method_49_code 1 (some FieldType.int) ∈ tg := kt 861 rfl rfl
theorem mo129 : MOk (mT 129) 1 := ⟨kw861, kw1, by decide +kernel, by decide +kernel, by decide⟩
theorem kw941 : Cond.methodLink "RopeRoundModel" 1 ⟨"java/lang/Object", "<init>", "()V"⟩ ∈ tg := kt 941 (by decide +kernel) (by decide +kernel)
theorem kw944 : Cond.fieldLink "RopeRoundModel" 7 "RopeRoundModel" "lane" "[I" ∈ tg := kt 944 (by decide +kernel) (by decide +kernel)
theorem gf133f : gFF "RopeRoundModel" 7 2 (fun k => k = 11) := by
  refine ⟨_, _, _, kw944, fun ci h => ?_⟩
  rcases h with rfl
  · exact ⟨_, _, _, okC11, by decide, rfl, rfl, rfl, rfl, rfl⟩
theorem kw945 : Cond.fieldLink "RopeRoundModel" 13 "RopeRoundModel" "many" "[I" ∈ tg := kt 945 (by decide +kernel) (by decide +kernel)
theorem gf134f : gFF "RopeRoundModel" 13 3 (fun k => k = 11) := by
  refine ⟨_, _, _, kw945, fun ci h => ?_⟩
  rcases h with rfl
  · exact ⟨_, _, _, okC11, by decide, rfl, rfl, rfl, rfl, rfl⟩
theorem kw946 : Cond.fieldLink "RopeRoundModel" 16 "RopeRoundModel" "item" "[I" ∈ tg := kt 946 (by decide +kernel) (by decide +kernel)
theorem gf135f : gFF "RopeRoundModel" 16 4 (fun k => k = 11) := by
  refine ⟨_, _, _, kw946, fun ci h => ?_⟩
  rcases h with rfl
  · exact ⟨_, _, _, okC11, by decide, rfl, rfl, rfl, rfl, rfl⟩
theorem kw947 : Cond.fieldLink "RopeRoundModel" 19 "RopeRoundModel" "ground" "[I" ∈ tg := kt 947 (by decide +kernel) (by decide +kernel)
theorem gf136f : gFF "RopeRoundModel" 19 5 (fun k => k = 11) := by
  refine ⟨_, _, _, kw947, fun ci h => ?_⟩
  rcases h with rfl
  · exact ⟨_, _, _, okC11, by decide, rfl, rfl, rfl, rfl, rfl⟩
theorem kw948 : Cond.fieldLink "RopeRoundModel" 22 "RopeRoundModel" "fresh" "[I" ∈ tg := kt 948 (by decide +kernel) (by decide +kernel)
theorem gf137f : gFF "RopeRoundModel" 22 6 (fun k => k = 11) := by
  refine ⟨_, _, _, kw948, fun ci h => ?_⟩
  rcases h with rfl
  · exact ⟨_, _, _, okC11, by decide, rfl, rfl, rfl, rfl, rfl⟩
theorem kw950 : Cond.fieldLink "RopeRoundModel" 25 "RopeRoundModel" "tape" "[I" ∈ tg := kt 950 (by decide +kernel) (by decide +kernel)
theorem gf138f : gFF "RopeRoundModel" 25 8 (fun k => k = 11) := by
  refine ⟨_, _, _, kw950, fun ci h => ?_⟩
  rcases h with rfl
  · exact ⟨_, _, _, okC11, by decide, rfl, rfl, rfl, rfl, rfl⟩
theorem kw1054 : Cond.arrayClass FieldType.boolean ∈ tg := kt 1054 (by decide +kernel) (by decide +kernel)
theorem kw960 : Cond.fieldLink "RopeRoundModel" 28 "RopeRoundModel" "runs" "[Z" ∈ tg := kt 960 (by decide +kernel) (by decide +kernel)
theorem gf139f : gFF "RopeRoundModel" 28 18 (fun k => k = 11) := by
  refine ⟨_, _, _, kw960, fun ci h => ?_⟩
  rcases h with rfl
  · exact ⟨_, _, _, okC11, by decide, rfl, rfl, rfl, rfl, rfl⟩
theorem kw961 : Cond.fieldLink "RopeRoundModel" 32 "RopeRoundModel" "owner" "[I" ∈ tg := kt 961 (by decide +kernel) (by decide +kernel)
theorem gf140f : gFF "RopeRoundModel" 32 19 (fun k => k = 11) := by
  refine ⟨_, _, _, kw961, fun ci h => ?_⟩
  rcases h with rfl
  · exact ⟨_, _, _, okC11, by decide, rfl, rfl, rfl, rfl, rfl⟩
theorem kw963 : Cond.fieldLink "RopeRoundModel" 35 "RopeRoundModel" "came" "[I" ∈ tg := kt 963 (by decide +kernel) (by decide +kernel)
theorem gf141f : gFF "RopeRoundModel" 35 21 (fun k => k = 11) := by
  refine ⟨_, _, _, kw963, fun ci h => ?_⟩
  rcases h with rfl
  · exact ⟨_, _, _, okC11, by decide, rfl, rfl, rfl, rfl, rfl⟩
theorem kw964 : Cond.fieldLink "RopeRoundModel" 38 "RopeRoundModel" "ways" "[I" ∈ tg := kt 964 (by decide +kernel) (by decide +kernel)
theorem gf142f : gFF "RopeRoundModel" 38 22 (fun k => k = 11) := by
  refine ⟨_, _, _, kw964, fun ci h => ?_⟩
  rcases h with rfl
  · exact ⟨_, _, _, okC11, by decide, rfl, rfl, rfl, rfl, rfl⟩
theorem kw965 : Cond.fieldLink "RopeRoundModel" 41 "RopeRoundModel" "at" "[I" ∈ tg := kt 965 (by decide +kernel) (by decide +kernel)
theorem gf143f : gFF "RopeRoundModel" 41 23 (fun k => k = 11) := by
  refine ⟨_, _, _, kw965, fun ci h => ?_⟩
  rcases h with rfl
  · exact ⟨_, _, _, okC11, by decide, rfl, rfl, rfl, rfl, rfl⟩
theorem kw966 : Cond.fieldLink "RopeRoundModel" 44 "RopeRoundModel" "taken" "[I" ∈ tg := kt 966 (by decide +kernel) (by decide +kernel)
theorem gf144f : gFF "RopeRoundModel" 44 24 (fun k => k = 11) := by
  refine ⟨_, _, _, kw966, fun ci h => ?_⟩
  rcases h with rfl
  · exact ⟨_, _, _, okC11, by decide, rfl, rfl, rfl, rfl, rfl⟩
theorem kw967 : Cond.fieldLink "RopeRoundModel" 47 "RopeRoundModel" "depth" "[I" ∈ tg := kt 967 (by decide +kernel) (by decide +kernel)
theorem gf145f : gFF "RopeRoundModel" 47 25 (fun k => k = 11) := by
  refine ⟨_, _, _, kw967, fun ci h => ?_⟩
  rcases h with rfl
  · exact ⟨_, _, _, okC11, by decide, rfl, rfl, rfl, rfl, rfl⟩
theorem kw968 : Cond.fieldLink "RopeRoundModel" 50 "RopeRoundModel" "mostSteps" "[I" ∈ tg := kt 968 (by decide +kernel) (by decide +kernel)
theorem gf146f : gFF "RopeRoundModel" 50 26 (fun k => k = 11) := by
  refine ⟨_, _, _, kw968, fun ci h => ?_⟩
  rcases h with rfl
  · exact ⟨_, _, _, okC11, by decide, rfl, rfl, rfl, rfl, rfl⟩
theorem kw969 : Cond.fieldLink "RopeRoundModel" 53 "RopeRoundModel" "ropes" "[I" ∈ tg := kt 969 (by decide +kernel) (by decide +kernel)
theorem gf147f : gFF "RopeRoundModel" 53 27 (fun k => k = 11) := by
  refine ⟨_, _, _, kw969, fun ci h => ?_⟩
  rcases h with rfl
  · exact ⟨_, _, _, okC11, by decide, rfl, rfl, rfl, rfl, rfl⟩
theorem kw970 : Cond.fieldLink "RopeRoundModel" 56 "RopeRoundModel" "steps" "[I" ∈ tg := kt 970 (by decide +kernel) (by decide +kernel)
theorem gf148f : gFF "RopeRoundModel" 56 28 (fun k => k = 11) := by
  refine ⟨_, _, _, kw970, fun ci h => ?_⟩
  rcases h with rfl
  · exact ⟨_, _, _, okC11, by decide, rfl, rfl, rfl, rfl, rfl⟩
theorem kw972 : Cond.fieldLink "RopeRoundModel" 59 "RopeRoundModel" "bestWays" "[I" ∈ tg := kt 972 (by decide +kernel) (by decide +kernel)
theorem gf149f : gFF "RopeRoundModel" 59 30 (fun k => k = 11) := by
  refine ⟨_, _, _, kw972, fun ci h => ?_⟩
  rcases h with rfl
  · exact ⟨_, _, _, okC11, by decide, rfl, rfl, rfl, rfl, rfl⟩
theorem kw974 : Cond.fieldLink "RopeRoundModel" 62 "RopeRoundModel" "due" "[I" ∈ tg := kt 974 (by decide +kernel) (by decide +kernel)
theorem gf150f : gFF "RopeRoundModel" 62 32 (fun k => k = 11) := by
  refine ⟨_, _, _, kw974, fun ci h => ?_⟩
  rcases h with rfl
  · exact ⟨_, _, _, okC11, by decide, rfl, rfl, rfl, rfl, rfl⟩
theorem kw975 : Cond.fieldLink "RopeRoundModel" 65 "RopeRoundModel" "isKept" "[Z" ∈ tg := kt 975 (by decide +kernel) (by decide +kernel)
theorem gf151f : gFF "RopeRoundModel" 65 33 (fun k => k = 11) := by
  refine ⟨_, _, _, kw975, fun ci h => ?_⟩
  rcases h with rfl
  · exact ⟨_, _, _, okC11, by decide, rfl, rfl, rfl, rfl, rfl⟩
theorem kw976 : Cond.fieldLink "RopeRoundModel" 68 "RopeRoundModel" "kept" "[I" ∈ tg := kt 976 (by decide +kernel) (by decide +kernel)
theorem gf152f : gFF "RopeRoundModel" 68 34 (fun k => k = 11) := by
  refine ⟨_, _, _, kw976, fun ci h => ?_⟩
  rcases h with rfl
  · exact ⟨_, _, _, okC11, by decide, rfl, rfl, rfl, rfl, rfl⟩
theorem kw977 : Cond.fieldLink "RopeRoundModel" 71 "RopeRoundModel" "trace" "[I" ∈ tg := kt 977 (by decide +kernel) (by decide +kernel)
theorem gf153f : gFF "RopeRoundModel" 71 35 (fun k => k = 11) := by
  refine ⟨_, _, _, kw977, fun ci h => ?_⟩
  rcases h with rfl
  · exact ⟨_, _, _, okC11, by decide, rfl, rfl, rfl, rfl, rfl⟩
theorem kw943 : Cond.fieldLink "RopeRoundModel" 78 "RopeRoundModel" "status" "I" ∈ tg := kt 943 (by decide +kernel) (by decide +kernel)
theorem gf154 : gF "RopeRoundModel" 78 1 (fun k => k = 11) (fun n => n = 0 ∨ n = 4) := by
  refine ⟨_, _, _, kw943, fun ci h => ?_⟩
  rcases h with rfl
  · exact ⟨_, _, _, okC11, by decide, rfl, rfl, Or.inl rfl, Or.inl rfl⟩
theorem gf154w : gF "RopeRoundModel" 78 1 (fun k => k = 11) (fun n => n = 0) := by
  refine ⟨_, _, _, kw943, fun ci h => ?_⟩
  rcases h with rfl
  · exact ⟨_, _, _, okC11, by decide, rfl, rfl, Or.inl rfl, rfl⟩
theorem kw1072 : Cond.constant "RopeRoundModel" 81 (-1000010) ∈ tg := kt 1072 (by decide +kernel) (by decide +kernel)
theorem kw1062 : Cond.constantLong "RopeRoundModel" 82 7 ∈ tg := kt 1062 (by decide +kernel) (by decide +kernel)
theorem kw1063 : Cond.methodLink "RopeRoundModel" 84 ⟨"RopeRoundModel", "in", "(JJJ)Z"⟩ ∈ tg := kt 1063 (by decide +kernel) (by decide +kernel)
theorem kw1064 : Cond.static ⟨"RopeRoundModel", "in", "(JJJ)Z"⟩ ∈ tg := kt 1064 (by decide +kernel) (by decide +kernel)
set_option maxRecDepth 100000 in
theorem kw1065 : Cond.code ⟨"RopeRoundModel", "in", "(JJJ)Z"⟩ prog_13_method_3_code 6 (some FieldType.boolean) ∈ tg := kt 1065 rfl rfl
theorem kw12 : Cond.initialized "RopeRoundModel" ∈ tg := kt 12 (by decide +kernel) (by decide +kernel)
theorem mo131 : MOk (mT 131) 3 := ⟨kw1065, kw12, by decide +kernel, by decide +kernel, by decide⟩
theorem kw942 : Cond.fieldLink "RopeRoundModel" 74 "RopeRoundModel" "thrown" "I" ∈ tg := kt 942 (by decide +kernel) (by decide +kernel)
theorem gf155 : gF "RopeRoundModel" 74 0 (fun k => k = 11) (fun n => n = 0 ∨ n = 4) := by
  refine ⟨_, _, _, kw942, fun ci h => ?_⟩
  rcases h with rfl
  · exact ⟨_, _, _, okC11, by decide, rfl, rfl, Or.inl rfl, Or.inl rfl⟩
theorem gf155w : gF "RopeRoundModel" 74 0 (fun k => k = 11) (fun n => n = 0) := by
  refine ⟨_, _, _, kw942, fun ci h => ?_⟩
  rcases h with rfl
  · exact ⟨_, _, _, okC11, by decide, rfl, rfl, Or.inl rfl, rfl⟩
theorem kw1059 : Cond.methodLink "RopeRoundModel" 88 ⟨"RopeRoundModel", "isRow", "(I)Z"⟩ ∈ tg := kt 1059 (by decide +kernel) (by decide +kernel)
theorem kw1060 : Cond.static ⟨"RopeRoundModel", "isRow", "(I)Z"⟩ ∈ tg := kt 1060 (by decide +kernel) (by decide +kernel)
set_option maxRecDepth 100000 in
theorem kw1061 : Cond.code ⟨"RopeRoundModel", "isRow", "(I)Z"⟩ prog_13_method_5_code 1 (some FieldType.boolean) ∈ tg := kt 1061 rfl rfl
theorem mo133 : MOk (mT 133) 1 := ⟨kw1061, kw12, by decide +kernel, by decide +kernel, by decide⟩
theorem kw1066 : Cond.constantLong "RopeRoundModel" 92 2 ∈ tg := kt 1066 (by decide +kernel) (by decide +kernel)
theorem kw1067 : Cond.constant "RopeRoundModel" 94 (-1000001) ∈ tg := kt 1067 (by decide +kernel) (by decide +kernel)
set_option maxRecDepth 100000 in
theorem kw1071 : Cond.code ⟨"RopeRoundModel", "finding", "(I)I"⟩ prog_13_method_4_code 2 (some FieldType.int) ∈ tg := kt 1071 rfl rfl
theorem mo132 : MOk (mT 132) 1 := ⟨kw1071, kw12, by decide +kernel, by decide +kernel, by decide⟩
theorem kw1070 : Cond.instanceMethod ⟨"RopeRoundModel", "finding", "(I)I"⟩ ∈ tg := kt 1070 (by decide +kernel) (by decide +kernel)
theorem kw1068 : Cond.methodLink "RopeRoundModel" 95 ⟨"RopeRoundModel", "finding", "(I)I"⟩ ∈ tg := kt 1068 (by decide +kernel) (by decide +kernel)
theorem vk106 : ∀ ci y, (fun k => if k = 11 then some 132 else none) ci = some y → (∃ C T N, ClsOk ci C T N ∧ VOk mT "RopeRoundModel" 95 C y 1) ∨ (ci = 201 ∧ VOk mT "RopeRoundModel" 95 "java/lang/String" y 1) := by
  intro ci y h
  dsimp only at h
  by_cases h11 : ci = 11
  · subst h11
    have h := (Option.some.inj (by simpa using h)).symm
    subst h
    exact Or.inl ⟨_, _, _, okC11, ⟨mo132, kw1070, Or.inl ⟨rfl, kw1068, (ks (q := (⟨"RopeRoundModel", "finding", "(I)I"⟩, 37)) (by decide +kernel))⟩⟩⟩
  rw [if_neg h11] at h
  cases h
theorem gf156 : gF "RopeRoundModel" 7 2 (fun k => k = 11) (fun n => n = 2) := by
  refine ⟨_, _, _, kw944, fun ci h => ?_⟩
  rcases h with rfl
  · exact ⟨_, _, _, okC11, by decide, rfl, rfl, Or.inl rfl, rfl⟩
theorem gf157 : gF "RopeRoundModel" 13 3 (fun k => k = 11) (fun n => n = 2) := by
  refine ⟨_, _, _, kw945, fun ci h => ?_⟩
  rcases h with rfl
  · exact ⟨_, _, _, okC11, by decide, rfl, rfl, Or.inl rfl, rfl⟩
theorem gf158 : gF "RopeRoundModel" 16 4 (fun k => k = 11) (fun n => n = 2) := by
  refine ⟨_, _, _, kw946, fun ci h => ?_⟩
  rcases h with rfl
  · exact ⟨_, _, _, okC11, by decide, rfl, rfl, Or.inl rfl, rfl⟩
theorem kw1089 : Cond.constantLong "RopeRoundModel" 99 8 ∈ tg := kt 1089 (by decide +kernel) (by decide +kernel)
theorem kw951 : Cond.fieldLink "RopeRoundModel" 101 "RopeRoundModel" "taped" "I" ∈ tg := kt 951 (by decide +kernel) (by decide +kernel)
theorem gf159 : gF "RopeRoundModel" 101 9 (fun k => k = 11) (fun n => n = 0 ∨ n = 4) := by
  refine ⟨_, _, _, kw951, fun ci h => ?_⟩
  rcases h with rfl
  · exact ⟨_, _, _, okC11, by decide, rfl, rfl, Or.inl rfl, Or.inl rfl⟩
theorem gf159w : gF "RopeRoundModel" 101 9 (fun k => k = 11) (fun n => n = 0) := by
  refine ⟨_, _, _, kw951, fun ci h => ?_⟩
  rcases h with rfl
  · exact ⟨_, _, _, okC11, by decide, rfl, rfl, Or.inl rfl, rfl⟩
theorem kw1090 : Cond.constant "RopeRoundModel" 104 (-1000003) ∈ tg := kt 1090 (by decide +kernel) (by decide +kernel)
theorem gf160 : gF "RopeRoundModel" 25 8 (fun k => k = 11) (fun n => n = 2) := by
  refine ⟨_, _, _, kw950, fun ci h => ?_⟩
  rcases h with rfl
  · exact ⟨_, _, _, okC11, by decide, rfl, rfl, Or.inl rfl, rfl⟩
theorem kw1091 : Cond.constantLong "RopeRoundModel" 105 255 ∈ tg := kt 1091 (by decide +kernel) (by decide +kernel)
theorem kw953 : Cond.fieldLink "RopeRoundModel" 107 "RopeRoundModel" "length" "I" ∈ tg := kt 953 (by decide +kernel) (by decide +kernel)
theorem gf161 : gF "RopeRoundModel" 107 11 (fun k => k = 11) (fun n => n = 0 ∨ n = 4) := by
  refine ⟨_, _, _, kw953, fun ci h => ?_⟩
  rcases h with rfl
  · exact ⟨_, _, _, okC11, by decide, rfl, rfl, Or.inl rfl, Or.inl rfl⟩
theorem gf161w : gF "RopeRoundModel" 107 11 (fun k => k = 11) (fun n => n = 0) := by
  refine ⟨_, _, _, kw953, fun ci h => ?_⟩
  rcases h with rfl
  · exact ⟨_, _, _, okC11, by decide, rfl, rfl, Or.inl rfl, rfl⟩
theorem kw1108 : Cond.constant "RopeRoundModel" 110 (-1000000) ∈ tg := kt 1108 (by decide +kernel) (by decide +kernel)
theorem kw954 : Cond.fieldLink "RopeRoundModel" 111 "RopeRoundModel" "cursor" "I" ∈ tg := kt 954 (by decide +kernel) (by decide +kernel)
theorem gf162 : gF "RopeRoundModel" 111 12 (fun k => k = 11) (fun n => n = 0 ∨ n = 4) := by
  refine ⟨_, _, _, kw954, fun ci h => ?_⟩
  rcases h with rfl
  · exact ⟨_, _, _, okC11, by decide, rfl, rfl, Or.inl rfl, Or.inl rfl⟩
theorem gf162w : gF "RopeRoundModel" 111 12 (fun k => k = 11) (fun n => n = 0) := by
  refine ⟨_, _, _, kw954, fun ci h => ?_⟩
  rcases h with rfl
  · exact ⟨_, _, _, okC11, by decide, rfl, rfl, Or.inl rfl, rfl⟩
set_option maxRecDepth 100000 in
theorem kw1107 : Cond.code ⟨"RopeRoundModel", "byteAt", "(I)I"⟩ prog_13_method_11_code 2 (some FieldType.int) ∈ tg := kt 1107 rfl rfl
theorem mo139 : MOk (mT 139) 1 := ⟨kw1107, kw12, by decide +kernel, by decide +kernel, by decide⟩
theorem kw1106 : Cond.instanceMethod ⟨"RopeRoundModel", "byteAt", "(I)I"⟩ ∈ tg := kt 1106 (by decide +kernel) (by decide +kernel)
theorem kw1104 : Cond.methodLink "RopeRoundModel" 114 ⟨"RopeRoundModel", "byteAt", "(I)I"⟩ ∈ tg := kt 1104 (by decide +kernel) (by decide +kernel)
theorem vk107 : ∀ ci y, (fun k => if k = 11 then some 139 else none) ci = some y → (∃ C T N, ClsOk ci C T N ∧ VOk mT "RopeRoundModel" 114 C y 1) ∨ (ci = 201 ∧ VOk mT "RopeRoundModel" 114 "java/lang/String" y 1) := by
  intro ci y h
  dsimp only at h
  by_cases h11 : ci = 11
  · subst h11
    have h := (Option.some.inj (by simpa using h)).symm
    subst h
    exact Or.inl ⟨_, _, _, okC11, ⟨mo139, kw1106, Or.inl ⟨rfl, kw1104, (ks (q := (⟨"RopeRoundModel", "byteAt", "(I)I"⟩, 37)) (by decide +kernel))⟩⟩⟩
  rw [if_neg h11] at h
  cases h
theorem kw956 : Cond.fieldLink "RopeRoundModel" 117 "RopeRoundModel" "start" "I" ∈ tg := kt 956 (by decide +kernel) (by decide +kernel)
theorem gf163 : gF "RopeRoundModel" 117 14 (fun k => k = 11) (fun n => n = 0 ∨ n = 4) := by
  refine ⟨_, _, _, kw956, fun ci h => ?_⟩
  rcases h with rfl
  · exact ⟨_, _, _, okC11, by decide, rfl, rfl, Or.inl rfl, Or.inl rfl⟩
theorem gf163w : gF "RopeRoundModel" 117 14 (fun k => k = 11) (fun n => n = 0) := by
  refine ⟨_, _, _, kw956, fun ci h => ?_⟩
  rcases h with rfl
  · exact ⟨_, _, _, okC11, by decide, rfl, rfl, Or.inl rfl, rfl⟩
theorem kw955 : Cond.fieldLink "RopeRoundModel" 120 "RopeRoundModel" "token" "I" ∈ tg := kt 955 (by decide +kernel) (by decide +kernel)
theorem gf164 : gF "RopeRoundModel" 120 13 (fun k => k = 11) (fun n => n = 0 ∨ n = 4) := by
  refine ⟨_, _, _, kw955, fun ci h => ?_⟩
  rcases h with rfl
  · exact ⟨_, _, _, okC11, by decide, rfl, rfl, Or.inl rfl, Or.inl rfl⟩
theorem gf164w : gF "RopeRoundModel" 120 13 (fun k => k = 11) (fun n => n = 0) := by
  refine ⟨_, _, _, kw955, fun ci h => ?_⟩
  rcases h with rfl
  · exact ⟨_, _, _, okC11, by decide, rfl, rfl, Or.inl rfl, rfl⟩
theorem kw1109 : Cond.methodLink "RopeRoundModel" 123 ⟨"RopeRoundModel", "isLetter", "(I)Z"⟩ ∈ tg := kt 1109 (by decide +kernel) (by decide +kernel)
theorem kw1110 : Cond.static ⟨"RopeRoundModel", "isLetter", "(I)Z"⟩ ∈ tg := kt 1110 (by decide +kernel) (by decide +kernel)
set_option maxRecDepth 100000 in
theorem kw1111 : Cond.code ⟨"RopeRoundModel", "isLetter", "(I)Z"⟩ prog_13_method_12_code 1 (some FieldType.boolean) ∈ tg := kt 1111 rfl rfl
theorem mo140 : MOk (mT 140) 1 := ⟨kw1111, kw12, by decide +kernel, by decide +kernel, by decide⟩
theorem kw1112 : Cond.methodLink "RopeRoundModel" 126 ⟨"RopeRoundModel", "isFigure", "(I)Z"⟩ ∈ tg := kt 1112 (by decide +kernel) (by decide +kernel)
theorem kw1113 : Cond.static ⟨"RopeRoundModel", "isFigure", "(I)Z"⟩ ∈ tg := kt 1113 (by decide +kernel) (by decide +kernel)
set_option maxRecDepth 100000 in
theorem kw1114 : Cond.code ⟨"RopeRoundModel", "isFigure", "(I)Z"⟩ prog_13_method_13_code 1 (some FieldType.boolean) ∈ tg := kt 1114 rfl rfl
theorem mo141 : MOk (mT 141) 1 := ⟨kw1114, kw12, by decide +kernel, by decide +kernel, by decide⟩
theorem kw957 : Cond.fieldLink "RopeRoundModel" 129 "RopeRoundModel" "till" "I" ∈ tg := kt 957 (by decide +kernel) (by decide +kernel)
theorem gf165 : gF "RopeRoundModel" 129 15 (fun k => k = 11) (fun n => n = 0 ∨ n = 4) := by
  refine ⟨_, _, _, kw957, fun ci h => ?_⟩
  rcases h with rfl
  · exact ⟨_, _, _, okC11, by decide, rfl, rfl, Or.inl rfl, Or.inl rfl⟩
theorem gf165w : gF "RopeRoundModel" 129 15 (fun k => k = 11) (fun n => n = 0) := by
  refine ⟨_, _, _, kw957, fun ci h => ?_⟩
  rcases h with rfl
  · exact ⟨_, _, _, okC11, by decide, rfl, rfl, Or.inl rfl, rfl⟩
theorem kw958 : Cond.fieldLink "RopeRoundModel" 132 "RopeRoundModel" "fault" "I" ∈ tg := kt 958 (by decide +kernel) (by decide +kernel)
theorem gf166 : gF "RopeRoundModel" 132 16 (fun k => k = 11) (fun n => n = 0 ∨ n = 4) := by
  refine ⟨_, _, _, kw958, fun ci h => ?_⟩
  rcases h with rfl
  · exact ⟨_, _, _, okC11, by decide, rfl, rfl, Or.inl rfl, Or.inl rfl⟩
theorem gf166w : gF "RopeRoundModel" 132 16 (fun k => k = 11) (fun n => n = 0) := by
  refine ⟨_, _, _, kw958, fun ci h => ?_⟩
  rcases h with rfl
  · exact ⟨_, _, _, okC11, by decide, rfl, rfl, Or.inl rfl, rfl⟩
set_option maxRecDepth 100000 in
theorem kw1103 : Cond.code ⟨"RopeRoundModel", "next", "()V"⟩ prog_13_method_14_code 2 none ∈ tg := kt 1103 rfl rfl
theorem mo142 : MOk (mT 142) 0 := ⟨kw1103, kw12, by decide +kernel, by decide +kernel, by decide⟩
theorem kw1102 : Cond.instanceMethod ⟨"RopeRoundModel", "next", "()V"⟩ ∈ tg := kt 1102 (by decide +kernel) (by decide +kernel)
theorem kw1100 : Cond.methodLink "RopeRoundModel" 135 ⟨"RopeRoundModel", "next", "()V"⟩ ∈ tg := kt 1100 (by decide +kernel) (by decide +kernel)
theorem vk108 : ∀ ci y, (fun k => if k = 11 then some 142 else none) ci = some y → (∃ C T N, ClsOk ci C T N ∧ VOk mT "RopeRoundModel" 135 C y 0) ∨ (ci = 201 ∧ VOk mT "RopeRoundModel" 135 "java/lang/String" y 0) := by
  intro ci y h
  dsimp only at h
  by_cases h11 : ci = 11
  · subst h11
    have h := (Option.some.inj (by simpa using h)).symm
    subst h
    exact Or.inl ⟨_, _, _, okC11, ⟨mo142, kw1102, Or.inl ⟨rfl, kw1100, (ks (q := (⟨"RopeRoundModel", "next", "()V"⟩, 37)) (by decide +kernel))⟩⟩⟩
  rw [if_neg h11] at h
  cases h
theorem kw959 : Cond.fieldLink "RopeRoundModel" 138 "RopeRoundModel" "faultAt" "I" ∈ tg := kt 959 (by decide +kernel) (by decide +kernel)
theorem gf167 : gF "RopeRoundModel" 138 17 (fun k => k = 11) (fun n => n = 0 ∨ n = 4) := by
  refine ⟨_, _, _, kw959, fun ci h => ?_⟩
  rcases h with rfl
  · exact ⟨_, _, _, okC11, by decide, rfl, rfl, Or.inl rfl, Or.inl rfl⟩
theorem gf167w : gF "RopeRoundModel" 138 17 (fun k => k = 11) (fun n => n = 0) := by
  refine ⟨_, _, _, kw959, fun ci h => ?_⟩
  rcases h with rfl
  · exact ⟨_, _, _, okC11, by decide, rfl, rfl, Or.inl rfl, rfl⟩
set_option maxRecDepth 100000 in
theorem kw1127 : Cond.code ⟨"RopeRoundModel", "bad", "(I)V"⟩ prog_13_method_16_code 2 none ∈ tg := kt 1127 rfl rfl
theorem mo144 : MOk (mT 144) 1 := ⟨kw1127, kw12, by decide +kernel, by decide +kernel, by decide⟩
theorem kw1126 : Cond.instanceMethod ⟨"RopeRoundModel", "bad", "(I)V"⟩ ∈ tg := kt 1126 (by decide +kernel) (by decide +kernel)
theorem kw1124 : Cond.methodLink "RopeRoundModel" 141 ⟨"RopeRoundModel", "bad", "(I)V"⟩ ∈ tg := kt 1124 (by decide +kernel) (by decide +kernel)
theorem vk109 : ∀ ci y, (fun k => if k = 11 then some 144 else none) ci = some y → (∃ C T N, ClsOk ci C T N ∧ VOk mT "RopeRoundModel" 141 C y 1) ∨ (ci = 201 ∧ VOk mT "RopeRoundModel" 141 "java/lang/String" y 1) := by
  intro ci y h
  dsimp only at h
  by_cases h11 : ci = 11
  · subst h11
    have h := (Option.some.inj (by simpa using h)).symm
    subst h
    exact Or.inl ⟨_, _, _, okC11, ⟨mo144, kw1126, Or.inl ⟨rfl, kw1124, (ks (q := (⟨"RopeRoundModel", "bad", "(I)V"⟩, 37)) (by decide +kernel))⟩⟩⟩
  rw [if_neg h11] at h
  cases h
set_option maxRecDepth 100000 in
theorem kw1162 : Cond.code ⟨"RopeRoundModel", "figures", "()I"⟩ prog_13_method_19_code 3 (some FieldType.int) ∈ tg := kt 1162 rfl rfl
theorem mo147 : MOk (mT 147) 0 := ⟨kw1162, kw12, by decide +kernel, by decide +kernel, by decide⟩
theorem kw1161 : Cond.instanceMethod ⟨"RopeRoundModel", "figures", "()I"⟩ ∈ tg := kt 1161 (by decide +kernel) (by decide +kernel)
theorem kw1159 : Cond.methodLink "RopeRoundModel" 145 ⟨"RopeRoundModel", "figures", "()I"⟩ ∈ tg := kt 1159 (by decide +kernel) (by decide +kernel)
theorem vk110 : ∀ ci y, (fun k => if k = 11 then some 147 else none) ci = some y → (∃ C T N, ClsOk ci C T N ∧ VOk mT "RopeRoundModel" 145 C y 0) ∨ (ci = 201 ∧ VOk mT "RopeRoundModel" 145 "java/lang/String" y 0) := by
  intro ci y h
  dsimp only at h
  by_cases h11 : ci = 11
  · subst h11
    have h := (Option.some.inj (by simpa using h)).symm
    subst h
    exact Or.inl ⟨_, _, _, okC11, ⟨mo147, kw1161, Or.inl ⟨rfl, kw1159, (ks (q := (⟨"RopeRoundModel", "figures", "()I"⟩, 37)) (by decide +kernel))⟩⟩⟩
  rw [if_neg h11] at h
  cases h
set_option maxRecDepth 100000 in
theorem kw1139 : Cond.code ⟨"RopeRoundModel", "must", "(Z)V"⟩ prog_13_method_17_code 2 none ∈ tg := kt 1139 rfl rfl
theorem mo145 : MOk (mT 145) 1 := ⟨kw1139, kw12, by decide +kernel, by decide +kernel, by decide⟩
theorem kw1138 : Cond.instanceMethod ⟨"RopeRoundModel", "must", "(Z)V"⟩ ∈ tg := kt 1138 (by decide +kernel) (by decide +kernel)
theorem kw1136 : Cond.methodLink "RopeRoundModel" 149 ⟨"RopeRoundModel", "must", "(Z)V"⟩ ∈ tg := kt 1136 (by decide +kernel) (by decide +kernel)
theorem vk111 : ∀ ci y, (fun k => if k = 11 then some 145 else none) ci = some y → (∃ C T N, ClsOk ci C T N ∧ VOk mT "RopeRoundModel" 149 C y 1) ∨ (ci = 201 ∧ VOk mT "RopeRoundModel" 149 "java/lang/String" y 1) := by
  intro ci y h
  dsimp only at h
  by_cases h11 : ci = 11
  · subst h11
    have h := (Option.some.inj (by simpa using h)).symm
    subst h
    exact Or.inl ⟨_, _, _, okC11, ⟨mo145, kw1138, Or.inl ⟨rfl, kw1136, (ks (q := (⟨"RopeRoundModel", "must", "(Z)V"⟩, 37)) (by decide +kernel))⟩⟩⟩
  rw [if_neg h11] at h
  cases h
theorem gf168 : gF "RopeRoundModel" 22 6 (fun k => k = 11) (fun n => n = 2) := by
  refine ⟨_, _, _, kw948, fun ci h => ?_⟩
  rcases h with rfl
  · exact ⟨_, _, _, okC11, by decide, rfl, rfl, Or.inl rfl, rfl⟩
theorem kw1144 : Cond.constantLong "RopeRoundModel" 153 97 ∈ tg := kt 1144 (by decide +kernel) (by decide +kernel)
theorem kw1145 : Cond.constantLong "RopeRoundModel" 155 106 ∈ tg := kt 1145 (by decide +kernel) (by decide +kernel)
set_option maxRecDepth 100000 in
theorem kw1135 : Cond.code ⟨"RopeRoundModel", "begins", "(II)V"⟩ prog_13_method_22_code 3 none ∈ tg := kt 1135 rfl rfl
theorem mo150 : MOk (mT 150) 2 := ⟨kw1135, kw12, by decide +kernel, by decide +kernel, by decide⟩
theorem kw1134 : Cond.instanceMethod ⟨"RopeRoundModel", "begins", "(II)V"⟩ ∈ tg := kt 1134 (by decide +kernel) (by decide +kernel)
theorem kw1132 : Cond.methodLink "RopeRoundModel" 157 ⟨"RopeRoundModel", "begins", "(II)V"⟩ ∈ tg := kt 1132 (by decide +kernel) (by decide +kernel)
theorem vk112 : ∀ ci y, (fun k => if k = 11 then some 150 else none) ci = some y → (∃ C T N, ClsOk ci C T N ∧ VOk mT "RopeRoundModel" 157 C y 2) ∨ (ci = 201 ∧ VOk mT "RopeRoundModel" 157 "java/lang/String" y 2) := by
  intro ci y h
  dsimp only at h
  by_cases h11 : ci = 11
  · subst h11
    have h := (Option.some.inj (by simpa using h)).symm
    subst h
    exact Or.inl ⟨_, _, _, okC11, ⟨mo150, kw1134, Or.inl ⟨rfl, kw1132, (ks (q := (⟨"RopeRoundModel", "begins", "(II)V"⟩, 37)) (by decide +kernel))⟩⟩⟩
  rw [if_neg h11] at h
  cases h
set_option maxRecDepth 100000 in
theorem kw1143 : Cond.code ⟨"RopeRoundModel", "isCells", "()Z"⟩ prog_13_method_23_code 4 (some FieldType.boolean) ∈ tg := kt 1143 rfl rfl
theorem mo151 : MOk (mT 151) 0 := ⟨kw1143, kw12, by decide +kernel, by decide +kernel, by decide⟩
theorem kw1142 : Cond.instanceMethod ⟨"RopeRoundModel", "isCells", "()Z"⟩ ∈ tg := kt 1142 (by decide +kernel) (by decide +kernel)
theorem kw1140 : Cond.methodLink "RopeRoundModel" 161 ⟨"RopeRoundModel", "isCells", "()Z"⟩ ∈ tg := kt 1140 (by decide +kernel) (by decide +kernel)
theorem vk113 : ∀ ci y, (fun k => if k = 11 then some 151 else none) ci = some y → (∃ C T N, ClsOk ci C T N ∧ VOk mT "RopeRoundModel" 161 C y 0) ∨ (ci = 201 ∧ VOk mT "RopeRoundModel" 161 "java/lang/String" y 0) := by
  intro ci y h
  dsimp only at h
  by_cases h11 : ci = 11
  · subst h11
    have h := (Option.some.inj (by simpa using h)).symm
    subst h
    exact Or.inl ⟨_, _, _, okC11, ⟨mo151, kw1142, Or.inl ⟨rfl, kw1140, (ks (q := (⟨"RopeRoundModel", "isCells", "()Z"⟩, 37)) (by decide +kernel))⟩⟩⟩
  rw [if_neg h11] at h
  cases h
set_option maxRecDepth 100000 in
theorem kw1149 : Cond.code ⟨"RopeRoundModel", "mustEnd", "()V"⟩ prog_13_method_21_code 1 none ∈ tg := kt 1149 rfl rfl
theorem mo149 : MOk (mT 149) 0 := ⟨kw1149, kw12, by decide +kernel, by decide +kernel, by decide⟩
theorem kw1148 : Cond.instanceMethod ⟨"RopeRoundModel", "mustEnd", "()V"⟩ ∈ tg := kt 1148 (by decide +kernel) (by decide +kernel)
theorem kw1146 : Cond.methodLink "RopeRoundModel" 165 ⟨"RopeRoundModel", "mustEnd", "()V"⟩ ∈ tg := kt 1146 (by decide +kernel) (by decide +kernel)
theorem vk114 : ∀ ci y, (fun k => if k = 11 then some 149 else none) ci = some y → (∃ C T N, ClsOk ci C T N ∧ VOk mT "RopeRoundModel" 165 C y 0) ∨ (ci = 201 ∧ VOk mT "RopeRoundModel" 165 "java/lang/String" y 0) := by
  intro ci y h
  dsimp only at h
  by_cases h11 : ci = 11
  · subst h11
    have h := (Option.some.inj (by simpa using h)).symm
    subst h
    exact Or.inl ⟨_, _, _, okC11, ⟨mo149, kw1148, Or.inl ⟨rfl, kw1146, (ks (q := (⟨"RopeRoundModel", "mustEnd", "()V"⟩, 37)) (by decide +kernel))⟩⟩⟩
  rw [if_neg h11] at h
  cases h
set_option maxRecDepth 100000 in
theorem kw1158 : Cond.code ⟨"RopeRoundModel", "number", "(II)I"⟩ prog_13_method_20_code 4 (some FieldType.int) ∈ tg := kt 1158 rfl rfl
theorem mo148 : MOk (mT 148) 2 := ⟨kw1158, kw12, by decide +kernel, by decide +kernel, by decide⟩
theorem kw1157 : Cond.instanceMethod ⟨"RopeRoundModel", "number", "(II)I"⟩ ∈ tg := kt 1157 (by decide +kernel) (by decide +kernel)
theorem kw1155 : Cond.methodLink "RopeRoundModel" 168 ⟨"RopeRoundModel", "number", "(II)I"⟩ ∈ tg := kt 1155 (by decide +kernel) (by decide +kernel)
theorem vk115 : ∀ ci y, (fun k => if k = 11 then some 148 else none) ci = some y → (∃ C T N, ClsOk ci C T N ∧ VOk mT "RopeRoundModel" 168 C y 2) ∨ (ci = 201 ∧ VOk mT "RopeRoundModel" 168 "java/lang/String" y 2) := by
  intro ci y h
  dsimp only at h
  by_cases h11 : ci = 11
  · subst h11
    have h := (Option.some.inj (by simpa using h)).symm
    subst h
    exact Or.inl ⟨_, _, _, okC11, ⟨mo148, kw1157, Or.inl ⟨rfl, kw1155, (ks (q := (⟨"RopeRoundModel", "number", "(II)I"⟩, 37)) (by decide +kernel))⟩⟩⟩
  rw [if_neg h11] at h
  cases h
set_option maxRecDepth 100000 in
theorem kw1123 : Cond.code ⟨"RopeRoundModel", "name", "()J"⟩ prog_13_method_18_code 4 (some FieldType.long) ∈ tg := kt 1123 rfl rfl
theorem mo146 : MOk (mT 146) 0 := ⟨kw1123, kw12, by decide +kernel, by decide +kernel, by decide⟩
theorem kw1122 : Cond.instanceMethod ⟨"RopeRoundModel", "name", "()J"⟩ ∈ tg := kt 1122 (by decide +kernel) (by decide +kernel)
theorem kw1120 : Cond.methodLink "RopeRoundModel" 172 ⟨"RopeRoundModel", "name", "()J"⟩ ∈ tg := kt 1120 (by decide +kernel) (by decide +kernel)
theorem vk116 : ∀ ci y, (fun k => if k = 11 then some 146 else none) ci = some y → (∃ C T N, ClsOk ci C T N ∧ VOk mT "RopeRoundModel" 172 C y 0) ∨ (ci = 201 ∧ VOk mT "RopeRoundModel" 172 "java/lang/String" y 0) := by
  intro ci y h
  dsimp only at h
  by_cases h11 : ci = 11
  · subst h11
    have h := (Option.some.inj (by simpa using h)).symm
    subst h
    exact Or.inl ⟨_, _, _, okC11, ⟨mo146, kw1122, Or.inl ⟨rfl, kw1120, (ks (q := (⟨"RopeRoundModel", "name", "()J"⟩, 37)) (by decide +kernel))⟩⟩⟩
  rw [if_neg h11] at h
  cases h
set_option maxRecDepth 100000 in
theorem kw1099 : Cond.code ⟨"RopeRoundModel", "begin", "()V"⟩ prog_13_method_15_code 1 none ∈ tg := kt 1099 rfl rfl
theorem mo143 : MOk (mT 143) 0 := ⟨kw1099, kw12, by decide +kernel, by decide +kernel, by decide⟩
theorem kw1098 : Cond.instanceMethod ⟨"RopeRoundModel", "begin", "()V"⟩ ∈ tg := kt 1098 (by decide +kernel) (by decide +kernel)
theorem kw1096 : Cond.methodLink "RopeRoundModel" 176 ⟨"RopeRoundModel", "begin", "()V"⟩ ∈ tg := kt 1096 (by decide +kernel) (by decide +kernel)
theorem vk117 : ∀ ci y, (fun k => if k = 11 then some 143 else none) ci = some y → (∃ C T N, ClsOk ci C T N ∧ VOk mT "RopeRoundModel" 176 C y 0) ∨ (ci = 201 ∧ VOk mT "RopeRoundModel" 176 "java/lang/String" y 0) := by
  intro ci y h
  dsimp only at h
  by_cases h11 : ci = 11
  · subst h11
    have h := (Option.some.inj (by simpa using h)).symm
    subst h
    exact Or.inl ⟨_, _, _, okC11, ⟨mo143, kw1098, Or.inl ⟨rfl, kw1096, (ks (q := (⟨"RopeRoundModel", "begin", "()V"⟩, 37)) (by decide +kernel))⟩⟩⟩
  rw [if_neg h11] at h
  cases h
theorem kw1115 : Cond.constantLong "RopeRoundModel" 179 7499639 ∈ tg := kt 1115 (by decide +kernel) (by decide +kernel)
set_option maxRecDepth 100000 in
theorem kw1119 : Cond.code ⟨"RopeRoundModel", "mustBegin", "(J)V"⟩ prog_13_method_27_code 3 none ∈ tg := kt 1119 rfl rfl
theorem mo155 : MOk (mT 155) 1 := ⟨kw1119, kw12, by decide +kernel, by decide +kernel, by decide⟩
theorem kw1118 : Cond.instanceMethod ⟨"RopeRoundModel", "mustBegin", "(J)V"⟩ ∈ tg := kt 1118 (by decide +kernel) (by decide +kernel)
theorem kw1116 : Cond.methodLink "RopeRoundModel" 181 ⟨"RopeRoundModel", "mustBegin", "(J)V"⟩ ∈ tg := kt 1116 (by decide +kernel) (by decide +kernel)
theorem vk118 : ∀ ci y, (fun k => if k = 11 then some 155 else none) ci = some y → (∃ C T N, ClsOk ci C T N ∧ VOk mT "RopeRoundModel" 181 C y 1) ∨ (ci = 201 ∧ VOk mT "RopeRoundModel" 181 "java/lang/String" y 1) := by
  intro ci y h
  dsimp only at h
  by_cases h11 : ci = 11
  · subst h11
    have h := (Option.some.inj (by simpa using h)).symm
    subst h
    exact Or.inl ⟨_, _, _, okC11, ⟨mo155, kw1118, Or.inl ⟨rfl, kw1116, (ks (q := (⟨"RopeRoundModel", "mustBegin", "(J)V"⟩, 37)) (by decide +kernel))⟩⟩⟩
  rw [if_neg h11] at h
  cases h
set_option maxRecDepth 100000 in
theorem kw1131 : Cond.code ⟨"RopeRoundModel", "readRow", "()V"⟩ prog_13_method_24_code 4 none ∈ tg := kt 1131 rfl rfl
theorem mo152 : MOk (mT 152) 0 := ⟨kw1131, kw12, by decide +kernel, by decide +kernel, by decide⟩
theorem kw1130 : Cond.instanceMethod ⟨"RopeRoundModel", "readRow", "()V"⟩ ∈ tg := kt 1130 (by decide +kernel) (by decide +kernel)
theorem kw1128 : Cond.methodLink "RopeRoundModel" 185 ⟨"RopeRoundModel", "readRow", "()V"⟩ ∈ tg := kt 1128 (by decide +kernel) (by decide +kernel)
theorem vk119 : ∀ ci y, (fun k => if k = 11 then some 152 else none) ci = some y → (∃ C T N, ClsOk ci C T N ∧ VOk mT "RopeRoundModel" 185 C y 0) ∨ (ci = 201 ∧ VOk mT "RopeRoundModel" 185 "java/lang/String" y 0) := by
  intro ci y h
  dsimp only at h
  by_cases h11 : ci = 11
  · subst h11
    have h := (Option.some.inj (by simpa using h)).symm
    subst h
    exact Or.inl ⟨_, _, _, okC11, ⟨mo152, kw1130, Or.inl ⟨rfl, kw1128, (ks (q := (⟨"RopeRoundModel", "readRow", "()V"⟩, 37)) (by decide +kernel))⟩⟩⟩
  rw [if_neg h11] at h
  cases h
theorem kw1150 : Cond.constantLong "RopeRoundModel" 188 495874698853 ∈ tg := kt 1150 (by decide +kernel) (by decide +kernel)
set_option maxRecDepth 100000 in
theorem kw1154 : Cond.code ⟨"RopeRoundModel", "readStone", "()V"⟩ prog_13_method_25_code 3 none ∈ tg := kt 1154 rfl rfl
theorem mo153 : MOk (mT 153) 0 := ⟨kw1154, kw12, by decide +kernel, by decide +kernel, by decide⟩
theorem kw1153 : Cond.instanceMethod ⟨"RopeRoundModel", "readStone", "()V"⟩ ∈ tg := kt 1153 (by decide +kernel) (by decide +kernel)
theorem kw1151 : Cond.methodLink "RopeRoundModel" 190 ⟨"RopeRoundModel", "readStone", "()V"⟩ ∈ tg := kt 1151 (by decide +kernel) (by decide +kernel)
theorem vk120 : ∀ ci y, (fun k => if k = 11 then some 153 else none) ci = some y → (∃ C T N, ClsOk ci C T N ∧ VOk mT "RopeRoundModel" 190 C y 0) ∨ (ci = 201 ∧ VOk mT "RopeRoundModel" 190 "java/lang/String" y 0) := by
  intro ci y h
  dsimp only at h
  by_cases h11 : ci = 11
  · subst h11
    have h := (Option.some.inj (by simpa using h)).symm
    subst h
    exact Or.inl ⟨_, _, _, okC11, ⟨mo153, kw1153, Or.inl ⟨rfl, kw1151, (ks (q := (⟨"RopeRoundModel", "readStone", "()V"⟩, 37)) (by decide +kernel))⟩⟩⟩
  rw [if_neg h11] at h
  cases h
theorem kw1163 : Cond.constantLong "RopeRoundModel" 193 7168366 ∈ tg := kt 1163 (by decide +kernel) (by decide +kernel)
set_option maxRecDepth 100000 in
theorem kw1167 : Cond.code ⟨"RopeRoundModel", "readMan", "()V"⟩ prog_13_method_26_code 4 none ∈ tg := kt 1167 rfl rfl
theorem mo154 : MOk (mT 154) 0 := ⟨kw1167, kw12, by decide +kernel, by decide +kernel, by decide⟩
theorem kw1166 : Cond.instanceMethod ⟨"RopeRoundModel", "readMan", "()V"⟩ ∈ tg := kt 1166 (by decide +kernel) (by decide +kernel)
theorem kw1164 : Cond.methodLink "RopeRoundModel" 195 ⟨"RopeRoundModel", "readMan", "()V"⟩ ∈ tg := kt 1164 (by decide +kernel) (by decide +kernel)
theorem vk121 : ∀ ci y, (fun k => if k = 11 then some 154 else none) ci = some y → (∃ C T N, ClsOk ci C T N ∧ VOk mT "RopeRoundModel" 195 C y 0) ∨ (ci = 201 ∧ VOk mT "RopeRoundModel" 195 "java/lang/String" y 0) := by
  intro ci y h
  dsimp only at h
  by_cases h11 : ci = 11
  · subst h11
    have h := (Option.some.inj (by simpa using h)).symm
    subst h
    exact Or.inl ⟨_, _, _, okC11, ⟨mo154, kw1166, Or.inl ⟨rfl, kw1164, (ks (q := (⟨"RopeRoundModel", "readMan", "()V"⟩, 37)) (by decide +kernel))⟩⟩⟩
  rw [if_neg h11] at h
  cases h
theorem kw952 : Cond.fieldLink "RopeRoundModel" 198 "RopeRoundModel" "latest" "I" ∈ tg := kt 952 (by decide +kernel) (by decide +kernel)
theorem gf169 : gF "RopeRoundModel" 198 10 (fun k => k = 11) (fun n => n = 0 ∨ n = 4) := by
  refine ⟨_, _, _, kw952, fun ci h => ?_⟩
  rcases h with rfl
  · exact ⟨_, _, _, okC11, by decide, rfl, rfl, Or.inl rfl, Or.inl rfl⟩
theorem gf169w : gF "RopeRoundModel" 198 10 (fun k => k = 11) (fun n => n = 0) := by
  refine ⟨_, _, _, kw952, fun ci h => ?_⟩
  rcases h with rfl
  · exact ⟨_, _, _, okC11, by decide, rfl, rfl, Or.inl rfl, rfl⟩
theorem kw1168 : Cond.constant "RopeRoundModel" 201 (-1000100) ∈ tg := kt 1168 (by decide +kernel) (by decide +kernel)
theorem kw949 : Cond.fieldLink "RopeRoundModel" 202 "RopeRoundModel" "isThere" "Z" ∈ tg := kt 949 (by decide +kernel) (by decide +kernel)
theorem gf170 : gF "RopeRoundModel" 202 7 (fun k => k = 11) (fun n => n = 0 ∨ n = 4) := by
  refine ⟨_, _, _, kw949, fun ci h => ?_⟩
  rcases h with rfl
  · exact ⟨_, _, _, okC11, by decide, rfl, rfl, Or.inl rfl, Or.inr rfl⟩
theorem gf170w : gF "RopeRoundModel" 202 7 (fun k => k = 11) (fun n => n = 4) := by
  refine ⟨_, _, _, kw949, fun ci h => ?_⟩
  rcases h with rfl
  · exact ⟨_, _, _, okC11, by decide, rfl, rfl, Or.inl rfl, rfl⟩
theorem gf171 : gF "RopeRoundModel" 19 5 (fun k => k = 11) (fun n => n = 2) := by
  refine ⟨_, _, _, kw947, fun ci h => ?_⟩
  rcases h with rfl
  · exact ⟨_, _, _, okC11, by decide, rfl, rfl, Or.inl rfl, rfl⟩
set_option maxRecDepth 100000 in
theorem kw1172 : Cond.code ⟨"RopeRoundModel", "layRings", "()V"⟩ prog_13_method_36_code 8 none ∈ tg := kt 1172 rfl rfl
theorem mo164 : MOk (mT 164) 0 := ⟨kw1172, kw12, by decide +kernel, by decide +kernel, by decide⟩
theorem kw1171 : Cond.instanceMethod ⟨"RopeRoundModel", "layRings", "()V"⟩ ∈ tg := kt 1171 (by decide +kernel) (by decide +kernel)
theorem kw1169 : Cond.methodLink "RopeRoundModel" 206 ⟨"RopeRoundModel", "layRings", "()V"⟩ ∈ tg := kt 1169 (by decide +kernel) (by decide +kernel)
theorem vk122 : ∀ ci y, (fun k => if k = 11 then some 164 else none) ci = some y → (∃ C T N, ClsOk ci C T N ∧ VOk mT "RopeRoundModel" 206 C y 0) ∨ (ci = 201 ∧ VOk mT "RopeRoundModel" 206 "java/lang/String" y 0) := by
  intro ci y h
  dsimp only at h
  by_cases h11 : ci = 11
  · subst h11
    have h := (Option.some.inj (by simpa using h)).symm
    subst h
    exact Or.inl ⟨_, _, _, okC11, ⟨mo164, kw1171, Or.inl ⟨rfl, kw1169, (ks (q := (⟨"RopeRoundModel", "layRings", "()V"⟩, 37)) (by decide +kernel))⟩⟩⟩
  rw [if_neg h11] at h
  cases h
set_option maxRecDepth 100000 in
theorem kw1180 : Cond.code ⟨"RopeRoundModel", "next", "(II)I"⟩ prog_13_method_33_code 5 (some FieldType.int) ∈ tg := kt 1180 rfl rfl
theorem mo161 : MOk (mT 161) 2 := ⟨kw1180, kw12, by decide +kernel, by decide +kernel, by decide⟩
theorem kw1179 : Cond.instanceMethod ⟨"RopeRoundModel", "next", "(II)I"⟩ ∈ tg := kt 1179 (by decide +kernel) (by decide +kernel)
theorem kw1177 : Cond.methodLink "RopeRoundModel" 209 ⟨"RopeRoundModel", "next", "(II)I"⟩ ∈ tg := kt 1177 (by decide +kernel) (by decide +kernel)
theorem vk123 : ∀ ci y, (fun k => if k = 11 then some 161 else none) ci = some y → (∃ C T N, ClsOk ci C T N ∧ VOk mT "RopeRoundModel" 209 C y 2) ∨ (ci = 201 ∧ VOk mT "RopeRoundModel" 209 "java/lang/String" y 2) := by
  intro ci y h
  dsimp only at h
  by_cases h11 : ci = 11
  · subst h11
    have h := (Option.some.inj (by simpa using h)).symm
    subst h
    exact Or.inl ⟨_, _, _, okC11, ⟨mo161, kw1179, Or.inl ⟨rfl, kw1177, (ks (q := (⟨"RopeRoundModel", "next", "(II)I"⟩, 37)) (by decide +kernel))⟩⟩⟩
  rw [if_neg h11] at h
  cases h
theorem kw962 : Cond.fieldLink "RopeRoundModel" 211 "RopeRoundModel" "ringed" "J" ∈ tg := kt 962 (by decide +kernel) (by decide +kernel)
theorem gf172 : gF "RopeRoundModel" 211 20 (fun k => k = 11) (fun n => n = 1) := by
  refine ⟨_, _, _, kw962, fun ci h => ?_⟩
  rcases h with rfl
  · exact ⟨_, _, _, okC11, by decide, rfl, rfl, Or.inl rfl, rfl⟩
theorem gf173 : gF "RopeRoundModel" 28 18 (fun k => k = 11) (fun n => n = 2) := by
  refine ⟨_, _, _, kw960, fun ci h => ?_⟩
  rcases h with rfl
  · exact ⟨_, _, _, okC11, by decide, rfl, rfl, Or.inl rfl, rfl⟩
theorem gf174 : gF "RopeRoundModel" 32 19 (fun k => k = 11) (fun n => n = 2) := by
  refine ⟨_, _, _, kw961, fun ci h => ?_⟩
  rcases h with rfl
  · exact ⟨_, _, _, okC11, by decide, rfl, rfl, Or.inl rfl, rfl⟩
set_option maxRecDepth 100000 in
theorem kw1176 : Cond.code ⟨"RopeRoundModel", "within", "(I[III)J"⟩ prog_13_method_35_code 14 (some FieldType.long) ∈ tg := kt 1176 rfl rfl
theorem mo163 : MOk (mT 163) 4 := ⟨kw1176, kw12, by decide +kernel, by decide +kernel, by decide⟩
theorem kw1175 : Cond.instanceMethod ⟨"RopeRoundModel", "within", "(I[III)J"⟩ ∈ tg := kt 1175 (by decide +kernel) (by decide +kernel)
theorem kw1173 : Cond.methodLink "RopeRoundModel" 215 ⟨"RopeRoundModel", "within", "(I[III)J"⟩ ∈ tg := kt 1173 (by decide +kernel) (by decide +kernel)
theorem vk124 : ∀ ci y, (fun k => if k = 11 then some 163 else none) ci = some y → (∃ C T N, ClsOk ci C T N ∧ VOk mT "RopeRoundModel" 215 C y 4) ∨ (ci = 201 ∧ VOk mT "RopeRoundModel" 215 "java/lang/String" y 4) := by
  intro ci y h
  dsimp only at h
  by_cases h11 : ci = 11
  · subst h11
    have h := (Option.some.inj (by simpa using h)).symm
    subst h
    exact Or.inl ⟨_, _, _, okC11, ⟨mo163, kw1175, Or.inl ⟨rfl, kw1173, (ks (q := (⟨"RopeRoundModel", "within", "(I[III)J"⟩, 37)) (by decide +kernel))⟩⟩⟩
  rw [if_neg h11] at h
  cases h
set_option maxRecDepth 100000 in
theorem kw1201 : Cond.code ⟨"RopeRoundModel", "waterAt", "(II)I"⟩ prog_13_method_34_code 3 (some FieldType.int) ∈ tg := kt 1201 rfl rfl
theorem mo162 : MOk (mT 162) 2 := ⟨kw1201, kw12, by decide +kernel, by decide +kernel, by decide⟩
theorem kw1200 : Cond.instanceMethod ⟨"RopeRoundModel", "waterAt", "(II)I"⟩ ∈ tg := kt 1200 (by decide +kernel) (by decide +kernel)
theorem kw1198 : Cond.methodLink "RopeRoundModel" 219 ⟨"RopeRoundModel", "waterAt", "(II)I"⟩ ∈ tg := kt 1198 (by decide +kernel) (by decide +kernel)
theorem vk125 : ∀ ci y, (fun k => if k = 11 then some 162 else none) ci = some y → (∃ C T N, ClsOk ci C T N ∧ VOk mT "RopeRoundModel" 219 C y 2) ∨ (ci = 201 ∧ VOk mT "RopeRoundModel" 219 "java/lang/String" y 2) := by
  intro ci y h
  dsimp only at h
  by_cases h11 : ci = 11
  · subst h11
    have h := (Option.some.inj (by simpa using h)).symm
    subst h
    exact Or.inl ⟨_, _, _, okC11, ⟨mo162, kw1200, Or.inl ⟨rfl, kw1198, (ks (q := (⟨"RopeRoundModel", "waterAt", "(II)I"⟩, 37)) (by decide +kernel))⟩⟩⟩
  rw [if_neg h11] at h
  cases h
set_option maxRecDepth 100000 in
theorem kw1192 : Cond.code ⟨"RopeRoundModel", "isCorner", "(I)Z"⟩ prog_13_method_30_code 2 (some FieldType.boolean) ∈ tg := kt 1192 rfl rfl
theorem mo158 : MOk (mT 158) 1 := ⟨kw1192, kw12, by decide +kernel, by decide +kernel, by decide⟩
theorem kw1191 : Cond.instanceMethod ⟨"RopeRoundModel", "isCorner", "(I)Z"⟩ ∈ tg := kt 1191 (by decide +kernel) (by decide +kernel)
theorem kw1189 : Cond.methodLink "RopeRoundModel" 222 ⟨"RopeRoundModel", "isCorner", "(I)Z"⟩ ∈ tg := kt 1189 (by decide +kernel) (by decide +kernel)
theorem vk126 : ∀ ci y, (fun k => if k = 11 then some 158 else none) ci = some y → (∃ C T N, ClsOk ci C T N ∧ VOk mT "RopeRoundModel" 222 C y 1) ∨ (ci = 201 ∧ VOk mT "RopeRoundModel" 222 "java/lang/String" y 1) := by
  intro ci y h
  dsimp only at h
  by_cases h11 : ci = 11
  · subst h11
    have h := (Option.some.inj (by simpa using h)).symm
    subst h
    exact Or.inl ⟨_, _, _, okC11, ⟨mo158, kw1191, Or.inl ⟨rfl, kw1189, (ks (q := (⟨"RopeRoundModel", "isCorner", "(I)Z"⟩, 37)) (by decide +kernel))⟩⟩⟩
  rw [if_neg h11] at h
  cases h
theorem kw1193 : Cond.constantLong "RopeRoundModel" 225 3 ∈ tg := kt 1193 (by decide +kernel) (by decide +kernel)
set_option maxRecDepth 100000 in
theorem kw1197 : Cond.code ⟨"RopeRoundModel", "takesFrom", "(II)I"⟩ prog_13_method_39_code 8 (some FieldType.int) ∈ tg := kt 1197 rfl rfl
theorem mo167 : MOk (mT 167) 2 := ⟨kw1197, kw12, by decide +kernel, by decide +kernel, by decide⟩
theorem kw1196 : Cond.instanceMethod ⟨"RopeRoundModel", "takesFrom", "(II)I"⟩ ∈ tg := kt 1196 (by decide +kernel) (by decide +kernel)
theorem kw1194 : Cond.methodLink "RopeRoundModel" 227 ⟨"RopeRoundModel", "takesFrom", "(II)I"⟩ ∈ tg := kt 1194 (by decide +kernel) (by decide +kernel)
theorem vk127 : ∀ ci y, (fun k => if k = 11 then some 167 else none) ci = some y → (∃ C T N, ClsOk ci C T N ∧ VOk mT "RopeRoundModel" 227 C y 2) ∨ (ci = 201 ∧ VOk mT "RopeRoundModel" 227 "java/lang/String" y 2) := by
  intro ci y h
  dsimp only at h
  by_cases h11 : ci = 11
  · subst h11
    have h := (Option.some.inj (by simpa using h)).symm
    subst h
    exact Or.inl ⟨_, _, _, okC11, ⟨mo167, kw1196, Or.inl ⟨rfl, kw1194, (ks (q := (⟨"RopeRoundModel", "takesFrom", "(II)I"⟩, 37)) (by decide +kernel))⟩⟩⟩
  rw [if_neg h11] at h
  cases h
theorem kw1229 : Cond.constant "RopeRoundModel" 230 (-1000200) ∈ tg := kt 1229 (by decide +kernel) (by decide +kernel)
theorem gf175 : gF "RopeRoundModel" 35 21 (fun k => k = 11) (fun n => n = 2) := by
  refine ⟨_, _, _, kw963, fun ci h => ?_⟩
  rcases h with rfl
  · exact ⟨_, _, _, okC11, by decide, rfl, rfl, Or.inl rfl, rfl⟩
theorem kw1226 : Cond.methodLink "RopeRoundModel" 231 ⟨"RopeRoundModel", "faulty", "(II)I"⟩ ∈ tg := kt 1226 (by decide +kernel) (by decide +kernel)
theorem kw1227 : Cond.static ⟨"RopeRoundModel", "faulty", "(II)I"⟩ ∈ tg := kt 1227 (by decide +kernel) (by decide +kernel)
set_option maxRecDepth 100000 in
theorem kw1228 : Cond.code ⟨"RopeRoundModel", "faulty", "(II)I"⟩ prog_13_method_41_code 2 (some FieldType.int) ∈ tg := kt 1228 rfl rfl
theorem mo169 : MOk (mT 169) 2 := ⟨kw1228, kw12, by decide +kernel, by decide +kernel, by decide⟩
set_option maxRecDepth 100000 in
theorem kw1233 : Cond.code ⟨"RopeRoundModel", "worthOf", "(J)I"⟩ prog_13_method_37_code 5 (some FieldType.int) ∈ tg := kt 1233 rfl rfl
theorem mo165 : MOk (mT 165) 1 := ⟨kw1233, kw12, by decide +kernel, by decide +kernel, by decide⟩
theorem kw1232 : Cond.instanceMethod ⟨"RopeRoundModel", "worthOf", "(J)I"⟩ ∈ tg := kt 1232 (by decide +kernel) (by decide +kernel)
theorem kw1230 : Cond.methodLink "RopeRoundModel" 234 ⟨"RopeRoundModel", "worthOf", "(J)I"⟩ ∈ tg := kt 1230 (by decide +kernel) (by decide +kernel)
theorem vk128 : ∀ ci y, (fun k => if k = 11 then some 165 else none) ci = some y → (∃ C T N, ClsOk ci C T N ∧ VOk mT "RopeRoundModel" 234 C y 1) ∨ (ci = 201 ∧ VOk mT "RopeRoundModel" 234 "java/lang/String" y 1) := by
  intro ci y h
  dsimp only at h
  by_cases h11 : ci = 11
  · subst h11
    have h := (Option.some.inj (by simpa using h)).symm
    subst h
    exact Or.inl ⟨_, _, _, okC11, ⟨mo165, kw1232, Or.inl ⟨rfl, kw1230, (ks (q := (⟨"RopeRoundModel", "worthOf", "(J)I"⟩, 37)) (by decide +kernel))⟩⟩⟩
  rw [if_neg h11] at h
  cases h
set_option maxRecDepth 100000 in
theorem kw1221 : Cond.code ⟨"RopeRoundModel", "lack", "(III)I"⟩ prog_13_method_43_code 4 (some FieldType.int) ∈ tg := kt 1221 rfl rfl
theorem mo171 : MOk (mT 171) 3 := ⟨kw1221, kw12, by decide +kernel, by decide +kernel, by decide⟩
theorem kw1220 : Cond.instanceMethod ⟨"RopeRoundModel", "lack", "(III)I"⟩ ∈ tg := kt 1220 (by decide +kernel) (by decide +kernel)
theorem kw1218 : Cond.methodLink "RopeRoundModel" 238 ⟨"RopeRoundModel", "lack", "(III)I"⟩ ∈ tg := kt 1218 (by decide +kernel) (by decide +kernel)
theorem vk129 : ∀ ci y, (fun k => if k = 11 then some 171 else none) ci = some y → (∃ C T N, ClsOk ci C T N ∧ VOk mT "RopeRoundModel" 238 C y 3) ∨ (ci = 201 ∧ VOk mT "RopeRoundModel" 238 "java/lang/String" y 3) := by
  intro ci y h
  dsimp only at h
  by_cases h11 : ci = 11
  · subst h11
    have h := (Option.some.inj (by simpa using h)).symm
    subst h
    exact Or.inl ⟨_, _, _, okC11, ⟨mo171, kw1220, Or.inl ⟨rfl, kw1218, (ks (q := (⟨"RopeRoundModel", "lack", "(III)I"⟩, 37)) (by decide +kernel))⟩⟩⟩
  rw [if_neg h11] at h
  cases h
theorem kw1213 : Cond.constantLong "RopeRoundModel" 242 20 ∈ tg := kt 1213 (by decide +kernel) (by decide +kernel)
set_option maxRecDepth 100000 in
theorem kw1209 : Cond.code ⟨"RopeRoundModel", "isMan", "(I)Z"⟩ prog_13_method_32_code 2 (some FieldType.boolean) ∈ tg := kt 1209 rfl rfl
theorem mo160 : MOk (mT 160) 1 := ⟨kw1209, kw12, by decide +kernel, by decide +kernel, by decide⟩
theorem kw1208 : Cond.instanceMethod ⟨"RopeRoundModel", "isMan", "(I)Z"⟩ ∈ tg := kt 1208 (by decide +kernel) (by decide +kernel)
theorem kw1206 : Cond.methodLink "RopeRoundModel" 244 ⟨"RopeRoundModel", "isMan", "(I)Z"⟩ ∈ tg := kt 1206 (by decide +kernel) (by decide +kernel)
theorem vk130 : ∀ ci y, (fun k => if k = 11 then some 160 else none) ci = some y → (∃ C T N, ClsOk ci C T N ∧ VOk mT "RopeRoundModel" 244 C y 1) ∨ (ci = 201 ∧ VOk mT "RopeRoundModel" 244 "java/lang/String" y 1) := by
  intro ci y h
  dsimp only at h
  by_cases h11 : ci = 11
  · subst h11
    have h := (Option.some.inj (by simpa using h)).symm
    subst h
    exact Or.inl ⟨_, _, _, okC11, ⟨mo160, kw1208, Or.inl ⟨rfl, kw1206, (ks (q := (⟨"RopeRoundModel", "isMan", "(I)Z"⟩, 37)) (by decide +kernel))⟩⟩⟩
  rw [if_neg h11] at h
  cases h
theorem kw1210 : Cond.methodLink "RopeRoundModel" 247 ⟨"RopeRoundModel", "isLong", "(I)Z"⟩ ∈ tg := kt 1210 (by decide +kernel) (by decide +kernel)
theorem kw1211 : Cond.static ⟨"RopeRoundModel", "isLong", "(I)Z"⟩ ∈ tg := kt 1211 (by decide +kernel) (by decide +kernel)
set_option maxRecDepth 100000 in
theorem kw1212 : Cond.code ⟨"RopeRoundModel", "isLong", "(I)Z"⟩ prog_13_method_45_code 1 (some FieldType.boolean) ∈ tg := kt 1212 rfl rfl
theorem mo173 : MOk (mT 173) 1 := ⟨kw1212, kw12, by decide +kernel, by decide +kernel, by decide⟩
set_option maxRecDepth 100000 in
theorem kw1217 : Cond.code ⟨"RopeRoundModel", "barOf", "(III)I"⟩ prog_13_method_44_code 6 (some FieldType.int) ∈ tg := kt 1217 rfl rfl
theorem mo172 : MOk (mT 172) 3 := ⟨kw1217, kw12, by decide +kernel, by decide +kernel, by decide⟩
theorem kw1216 : Cond.instanceMethod ⟨"RopeRoundModel", "barOf", "(III)I"⟩ ∈ tg := kt 1216 (by decide +kernel) (by decide +kernel)
theorem kw1214 : Cond.methodLink "RopeRoundModel" 250 ⟨"RopeRoundModel", "barOf", "(III)I"⟩ ∈ tg := kt 1214 (by decide +kernel) (by decide +kernel)
theorem vk131 : ∀ ci y, (fun k => if k = 11 then some 172 else none) ci = some y → (∃ C T N, ClsOk ci C T N ∧ VOk mT "RopeRoundModel" 250 C y 3) ∨ (ci = 201 ∧ VOk mT "RopeRoundModel" 250 "java/lang/String" y 3) := by
  intro ci y h
  dsimp only at h
  by_cases h11 : ci = 11
  · subst h11
    have h := (Option.some.inj (by simpa using h)).symm
    subst h
    exact Or.inl ⟨_, _, _, okC11, ⟨mo172, kw1216, Or.inl ⟨rfl, kw1214, (ks (q := (⟨"RopeRoundModel", "barOf", "(III)I"⟩, 37)) (by decide +kernel))⟩⟩⟩
  rw [if_neg h11] at h
  cases h
set_option maxRecDepth 100000 in
theorem kw1225 : Cond.code ⟨"RopeRoundModel", "judged", "(III)I"⟩ prog_13_method_42_code 9 (some FieldType.int) ∈ tg := kt 1225 rfl rfl
theorem mo170 : MOk (mT 170) 3 := ⟨kw1225, kw12, by decide +kernel, by decide +kernel, by decide⟩
theorem kw1224 : Cond.instanceMethod ⟨"RopeRoundModel", "judged", "(III)I"⟩ ∈ tg := kt 1224 (by decide +kernel) (by decide +kernel)
theorem kw1222 : Cond.methodLink "RopeRoundModel" 253 ⟨"RopeRoundModel", "judged", "(III)I"⟩ ∈ tg := kt 1222 (by decide +kernel) (by decide +kernel)
theorem vk132 : ∀ ci y, (fun k => if k = 11 then some 170 else none) ci = some y → (∃ C T N, ClsOk ci C T N ∧ VOk mT "RopeRoundModel" 253 C y 3) ∨ (ci = 201 ∧ VOk mT "RopeRoundModel" 253 "java/lang/String" y 3) := by
  intro ci y h
  dsimp only at h
  by_cases h11 : ci = 11
  · subst h11
    have h := (Option.some.inj (by simpa using h)).symm
    subst h
    exact Or.inl ⟨_, _, _, okC11, ⟨mo170, kw1224, Or.inl ⟨rfl, kw1222, (ks (q := (⟨"RopeRoundModel", "judged", "(III)I"⟩, 37)) (by decide +kernel))⟩⟩⟩
  rw [if_neg h11] at h
  cases h
set_option maxRecDepth 100000 in
theorem kw1241 : Cond.code ⟨"RopeRoundModel", "hasRing", "(I)Z"⟩ prog_13_method_47_code 2 (some FieldType.boolean) ∈ tg := kt 1241 rfl rfl
theorem mo175 : MOk (mT 175) 1 := ⟨kw1241, kw12, by decide +kernel, by decide +kernel, by decide⟩
theorem kw1240 : Cond.instanceMethod ⟨"RopeRoundModel", "hasRing", "(I)Z"⟩ ∈ tg := kt 1240 (by decide +kernel) (by decide +kernel)
theorem kw1238 : Cond.methodLink "RopeRoundModel" 256 ⟨"RopeRoundModel", "hasRing", "(I)Z"⟩ ∈ tg := kt 1238 (by decide +kernel) (by decide +kernel)
theorem vk133 : ∀ ci y, (fun k => if k = 11 then some 175 else none) ci = some y → (∃ C T N, ClsOk ci C T N ∧ VOk mT "RopeRoundModel" 256 C y 1) ∨ (ci = 201 ∧ VOk mT "RopeRoundModel" 256 "java/lang/String" y 1) := by
  intro ci y h
  dsimp only at h
  by_cases h11 : ci = 11
  · subst h11
    have h := (Option.some.inj (by simpa using h)).symm
    subst h
    exact Or.inl ⟨_, _, _, okC11, ⟨mo175, kw1240, Or.inl ⟨rfl, kw1238, (ks (q := (⟨"RopeRoundModel", "hasRing", "(I)Z"⟩, 37)) (by decide +kernel))⟩⟩⟩
  rw [if_neg h11] at h
  cases h
theorem kw1242 : Cond.constant "RopeRoundModel" 259 (-1000002) ∈ tg := kt 1242 (by decide +kernel) (by decide +kernel)
set_option maxRecDepth 100000 in
theorem kw1250 : Cond.code ⟨"RopeRoundModel", "ringOf", "(I)J"⟩ prog_13_method_49_code 3 (some FieldType.long) ∈ tg := kt 1250 rfl rfl
theorem mo177 : MOk (mT 177) 1 := ⟨kw1250, kw12, by decide +kernel, by decide +kernel, by decide⟩
theorem kw1249 : Cond.instanceMethod ⟨"RopeRoundModel", "ringOf", "(I)J"⟩ ∈ tg := kt 1249 (by decide +kernel) (by decide +kernel)
theorem kw1247 : Cond.methodLink "RopeRoundModel" 260 ⟨"RopeRoundModel", "ringOf", "(I)J"⟩ ∈ tg := kt 1247 (by decide +kernel) (by decide +kernel)
theorem vk134 : ∀ ci y, (fun k => if k = 11 then some 177 else none) ci = some y → (∃ C T N, ClsOk ci C T N ∧ VOk mT "RopeRoundModel" 260 C y 1) ∨ (ci = 201 ∧ VOk mT "RopeRoundModel" 260 "java/lang/String" y 1) := by
  intro ci y h
  dsimp only at h
  by_cases h11 : ci = 11
  · subst h11
    have h := (Option.some.inj (by simpa using h)).symm
    subst h
    exact Or.inl ⟨_, _, _, okC11, ⟨mo177, kw1249, Or.inl ⟨rfl, kw1247, (ks (q := (⟨"RopeRoundModel", "ringOf", "(I)J"⟩, 37)) (by decide +kernel))⟩⟩⟩
  rw [if_neg h11] at h
  cases h
theorem kw1255 : Cond.methodLink "RopeRoundModel" 264 ⟨"RopeRoundModel", "onesOf", "(J)I"⟩ ∈ tg := kt 1255 (by decide +kernel) (by decide +kernel)
theorem kw1256 : Cond.static ⟨"RopeRoundModel", "onesOf", "(J)I"⟩ ∈ tg := kt 1256 (by decide +kernel) (by decide +kernel)
set_option maxRecDepth 100000 in
theorem kw1257 : Cond.code ⟨"RopeRoundModel", "onesOf", "(J)I"⟩ prog_13_method_38_code 4 (some FieldType.int) ∈ tg := kt 1257 rfl rfl
theorem mo166 : MOk (mT 166) 1 := ⟨kw1257, kw12, by decide +kernel, by decide +kernel, by decide⟩
set_option maxRecDepth 100000 in
theorem kw1265 : Cond.code ⟨"RopeRoundModel", "isCell", "(I)Z"⟩ prog_13_method_31_code 2 (some FieldType.boolean) ∈ tg := kt 1265 rfl rfl
theorem mo159 : MOk (mT 159) 1 := ⟨kw1265, kw12, by decide +kernel, by decide +kernel, by decide⟩
theorem kw1264 : Cond.instanceMethod ⟨"RopeRoundModel", "isCell", "(I)Z"⟩ ∈ tg := kt 1264 (by decide +kernel) (by decide +kernel)
theorem kw1262 : Cond.methodLink "RopeRoundModel" 267 ⟨"RopeRoundModel", "isCell", "(I)Z"⟩ ∈ tg := kt 1262 (by decide +kernel) (by decide +kernel)
theorem vk135 : ∀ ci y, (fun k => if k = 11 then some 159 else none) ci = some y → (∃ C T N, ClsOk ci C T N ∧ VOk mT "RopeRoundModel" 267 C y 1) ∨ (ci = 201 ∧ VOk mT "RopeRoundModel" 267 "java/lang/String" y 1) := by
  intro ci y h
  dsimp only at h
  by_cases h11 : ci = 11
  · subst h11
    have h := (Option.some.inj (by simpa using h)).symm
    subst h
    exact Or.inl ⟨_, _, _, okC11, ⟨mo159, kw1264, Or.inl ⟨rfl, kw1262, (ks (q := (⟨"RopeRoundModel", "isCell", "(I)Z"⟩, 37)) (by decide +kernel))⟩⟩⟩
  rw [if_neg h11] at h
  cases h
theorem gf176 : gF "RopeRoundModel" 41 23 (fun k => k = 11) (fun n => n = 2) := by
  refine ⟨_, _, _, kw965, fun ci h => ?_⟩
  rcases h with rfl
  · exact ⟨_, _, _, okC11, by decide, rfl, rfl, Or.inl rfl, rfl⟩
theorem gf177 : gF "RopeRoundModel" 44 24 (fun k => k = 11) (fun n => n = 2) := by
  refine ⟨_, _, _, kw966, fun ci h => ?_⟩
  rcases h with rfl
  · exact ⟨_, _, _, okC11, by decide, rfl, rfl, Or.inl rfl, rfl⟩
theorem gf178 : gF "RopeRoundModel" 38 22 (fun k => k = 11) (fun n => n = 2) := by
  refine ⟨_, _, _, kw964, fun ci h => ?_⟩
  rcases h with rfl
  · exact ⟨_, _, _, okC11, by decide, rfl, rfl, Or.inl rfl, rfl⟩
theorem gf179 : gF "RopeRoundModel" 47 25 (fun k => k = 11) (fun n => n = 2) := by
  refine ⟨_, _, _, kw967, fun ci h => ?_⟩
  rcases h with rfl
  · exact ⟨_, _, _, okC11, by decide, rfl, rfl, Or.inl rfl, rfl⟩
theorem gf180 : gF "RopeRoundModel" 50 26 (fun k => k = 11) (fun n => n = 2) := by
  refine ⟨_, _, _, kw968, fun ci h => ?_⟩
  rcases h with rfl
  · exact ⟨_, _, _, okC11, by decide, rfl, rfl, Or.inl rfl, rfl⟩
theorem gf181 : gF "RopeRoundModel" 53 27 (fun k => k = 11) (fun n => n = 2) := by
  refine ⟨_, _, _, kw969, fun ci h => ?_⟩
  rcases h with rfl
  · exact ⟨_, _, _, okC11, by decide, rfl, rfl, Or.inl rfl, rfl⟩
theorem kw971 : Cond.fieldLink "RopeRoundModel" 270 "RopeRoundModel" "inside" "J" ∈ tg := kt 971 (by decide +kernel) (by decide +kernel)
theorem gf182 : gF "RopeRoundModel" 270 29 (fun k => k = 11) (fun n => n = 1) := by
  refine ⟨_, _, _, kw971, fun ci h => ?_⟩
  rcases h with rfl
  · exact ⟨_, _, _, okC11, by decide, rfl, rfl, Or.inl rfl, rfl⟩
theorem gf183 : gF "RopeRoundModel" 56 28 (fun k => k = 11) (fun n => n = 2) := by
  refine ⟨_, _, _, kw970, fun ci h => ?_⟩
  rcases h with rfl
  · exact ⟨_, _, _, okC11, by decide, rfl, rfl, Or.inl rfl, rfl⟩
set_option maxRecDepth 100000 in
theorem kw1286 : Cond.code ⟨"RopeRoundModel", "shuts", "(I)Z"⟩ prog_13_method_56_code 3 (some FieldType.boolean) ∈ tg := kt 1286 rfl rfl
theorem mo184 : MOk (mT 184) 1 := ⟨kw1286, kw12, by decide +kernel, by decide +kernel, by decide⟩
theorem kw1285 : Cond.instanceMethod ⟨"RopeRoundModel", "shuts", "(I)Z"⟩ ∈ tg := kt 1285 (by decide +kernel) (by decide +kernel)
theorem kw1283 : Cond.methodLink "RopeRoundModel" 273 ⟨"RopeRoundModel", "shuts", "(I)Z"⟩ ∈ tg := kt 1283 (by decide +kernel) (by decide +kernel)
theorem vk136 : ∀ ci y, (fun k => if k = 11 then some 184 else none) ci = some y → (∃ C T N, ClsOk ci C T N ∧ VOk mT "RopeRoundModel" 273 C y 1) ∨ (ci = 201 ∧ VOk mT "RopeRoundModel" 273 "java/lang/String" y 1) := by
  intro ci y h
  dsimp only at h
  by_cases h11 : ci = 11
  · subst h11
    have h := (Option.some.inj (by simpa using h)).symm
    subst h
    exact Or.inl ⟨_, _, _, okC11, ⟨mo184, kw1285, Or.inl ⟨rfl, kw1283, (ks (q := (⟨"RopeRoundModel", "shuts", "(I)Z"⟩, 37)) (by decide +kernel))⟩⟩⟩
  rw [if_neg h11] at h
  cases h
set_option maxRecDepth 100000 in
theorem kw1290 : Cond.code ⟨"RopeRoundModel", "wasAt", "(II)Z"⟩ prog_13_method_55_code 5 (some FieldType.boolean) ∈ tg := kt 1290 rfl rfl
theorem mo183 : MOk (mT 183) 2 := ⟨kw1290, kw12, by decide +kernel, by decide +kernel, by decide⟩
theorem kw1289 : Cond.instanceMethod ⟨"RopeRoundModel", "wasAt", "(II)Z"⟩ ∈ tg := kt 1289 (by decide +kernel) (by decide +kernel)
theorem kw1287 : Cond.methodLink "RopeRoundModel" 276 ⟨"RopeRoundModel", "wasAt", "(II)Z"⟩ ∈ tg := kt 1287 (by decide +kernel) (by decide +kernel)
theorem vk137 : ∀ ci y, (fun k => if k = 11 then some 183 else none) ci = some y → (∃ C T N, ClsOk ci C T N ∧ VOk mT "RopeRoundModel" 276 C y 2) ∨ (ci = 201 ∧ VOk mT "RopeRoundModel" 276 "java/lang/String" y 2) := by
  intro ci y h
  dsimp only at h
  by_cases h11 : ci = 11
  · subst h11
    have h := (Option.some.inj (by simpa using h)).symm
    subst h
    exact Or.inl ⟨_, _, _, okC11, ⟨mo183, kw1289, Or.inl ⟨rfl, kw1287, (ks (q := (⟨"RopeRoundModel", "wasAt", "(II)Z"⟩, 37)) (by decide +kernel))⟩⟩⟩
  rw [if_neg h11] at h
  cases h
theorem kw1291 : Cond.methodLink "RopeRoundModel" 280 ⟨"RopeRoundModel", "apart", "(II)I"⟩ ∈ tg := kt 1291 (by decide +kernel) (by decide +kernel)
theorem kw1292 : Cond.static ⟨"RopeRoundModel", "apart", "(II)I"⟩ ∈ tg := kt 1292 (by decide +kernel) (by decide +kernel)
set_option maxRecDepth 100000 in
theorem kw1293 : Cond.code ⟨"RopeRoundModel", "apart", "(II)I"⟩ prog_13_method_54_code 4 (some FieldType.int) ∈ tg := kt 1293 rfl rfl
theorem mo182 : MOk (mT 182) 2 := ⟨kw1293, kw12, by decide +kernel, by decide +kernel, by decide⟩
set_option maxRecDepth 100000 in
theorem kw1278 : Cond.code ⟨"RopeRoundModel", "startAt", "(IIII)V"⟩ prog_13_method_53_code 5 none ∈ tg := kt 1278 rfl rfl
theorem mo181 : MOk (mT 181) 4 := ⟨kw1278, kw12, by decide +kernel, by decide +kernel, by decide⟩
theorem kw1277 : Cond.instanceMethod ⟨"RopeRoundModel", "startAt", "(IIII)V"⟩ ∈ tg := kt 1277 (by decide +kernel) (by decide +kernel)
theorem kw1275 : Cond.methodLink "RopeRoundModel" 283 ⟨"RopeRoundModel", "startAt", "(IIII)V"⟩ ∈ tg := kt 1275 (by decide +kernel) (by decide +kernel)
theorem vk138 : ∀ ci y, (fun k => if k = 11 then some 181 else none) ci = some y → (∃ C T N, ClsOk ci C T N ∧ VOk mT "RopeRoundModel" 283 C y 4) ∨ (ci = 201 ∧ VOk mT "RopeRoundModel" 283 "java/lang/String" y 4) := by
  intro ci y h
  dsimp only at h
  by_cases h11 : ci = 11
  · subst h11
    have h := (Option.some.inj (by simpa using h)).symm
    subst h
    exact Or.inl ⟨_, _, _, okC11, ⟨mo181, kw1277, Or.inl ⟨rfl, kw1275, (ks (q := (⟨"RopeRoundModel", "startAt", "(IIII)V"⟩, 37)) (by decide +kernel))⟩⟩⟩
  rw [if_neg h11] at h
  cases h
set_option maxRecDepth 100000 in
theorem kw1282 : Cond.code ⟨"RopeRoundModel", "goesOn", "(I)Z"⟩ prog_13_method_57_code 6 (some FieldType.boolean) ∈ tg := kt 1282 rfl rfl
theorem mo185 : MOk (mT 185) 1 := ⟨kw1282, kw12, by decide +kernel, by decide +kernel, by decide⟩
theorem kw1281 : Cond.instanceMethod ⟨"RopeRoundModel", "goesOn", "(I)Z"⟩ ∈ tg := kt 1281 (by decide +kernel) (by decide +kernel)
theorem kw1279 : Cond.methodLink "RopeRoundModel" 287 ⟨"RopeRoundModel", "goesOn", "(I)Z"⟩ ∈ tg := kt 1279 (by decide +kernel) (by decide +kernel)
theorem vk139 : ∀ ci y, (fun k => if k = 11 then some 185 else none) ci = some y → (∃ C T N, ClsOk ci C T N ∧ VOk mT "RopeRoundModel" 287 C y 1) ∨ (ci = 201 ∧ VOk mT "RopeRoundModel" 287 "java/lang/String" y 1) := by
  intro ci y h
  dsimp only at h
  by_cases h11 : ci = 11
  · subst h11
    have h := (Option.some.inj (by simpa using h)).symm
    subst h
    exact Or.inl ⟨_, _, _, okC11, ⟨mo185, kw1281, Or.inl ⟨rfl, kw1279, (ks (q := (⟨"RopeRoundModel", "goesOn", "(I)Z"⟩, 37)) (by decide +kernel))⟩⟩⟩
  rw [if_neg h11] at h
  cases h
theorem kw973 : Cond.fieldLink "RopeRoundModel" 290 "RopeRoundModel" "bestSteps" "I" ∈ tg := kt 973 (by decide +kernel) (by decide +kernel)
theorem gf184 : gF "RopeRoundModel" 290 31 (fun k => k = 11) (fun n => n = 0 ∨ n = 4) := by
  refine ⟨_, _, _, kw973, fun ci h => ?_⟩
  rcases h with rfl
  · exact ⟨_, _, _, okC11, by decide, rfl, rfl, Or.inl rfl, Or.inl rfl⟩
theorem gf184w : gF "RopeRoundModel" 290 31 (fun k => k = 11) (fun n => n = 0) := by
  refine ⟨_, _, _, kw973, fun ci h => ?_⟩
  rcases h with rfl
  · exact ⟨_, _, _, okC11, by decide, rfl, rfl, Or.inl rfl, rfl⟩
theorem gf185 : gF "RopeRoundModel" 59 30 (fun k => k = 11) (fun n => n = 2) := by
  refine ⟨_, _, _, kw972, fun ci h => ?_⟩
  rcases h with rfl
  · exact ⟨_, _, _, okC11, by decide, rfl, rfl, Or.inl rfl, rfl⟩
theorem kw1270 : Cond.constantLong "RopeRoundModel" 293 12 ∈ tg := kt 1270 (by decide +kernel) (by decide +kernel)
set_option maxRecDepth 100000 in
theorem kw1274 : Cond.code ⟨"RopeRoundModel", "mostFrom", "(IIII)I"⟩ prog_13_method_58_code 8 (some FieldType.int) ∈ tg := kt 1274 rfl rfl
theorem mo186 : MOk (mT 186) 4 := ⟨kw1274, kw12, by decide +kernel, by decide +kernel, by decide⟩
theorem kw1273 : Cond.instanceMethod ⟨"RopeRoundModel", "mostFrom", "(IIII)I"⟩ ∈ tg := kt 1273 (by decide +kernel) (by decide +kernel)
theorem kw1271 : Cond.methodLink "RopeRoundModel" 295 ⟨"RopeRoundModel", "mostFrom", "(IIII)I"⟩ ∈ tg := kt 1271 (by decide +kernel) (by decide +kernel)
theorem vk140 : ∀ ci y, (fun k => if k = 11 then some 186 else none) ci = some y → (∃ C T N, ClsOk ci C T N ∧ VOk mT "RopeRoundModel" 295 C y 4) ∨ (ci = 201 ∧ VOk mT "RopeRoundModel" 295 "java/lang/String" y 4) := by
  intro ci y h
  dsimp only at h
  by_cases h11 : ci = 11
  · subst h11
    have h := (Option.some.inj (by simpa using h)).symm
    subst h
    exact Or.inl ⟨_, _, _, okC11, ⟨mo186, kw1273, Or.inl ⟨rfl, kw1271, (ks (q := (⟨"RopeRoundModel", "mostFrom", "(IIII)I"⟩, 37)) (by decide +kernel))⟩⟩⟩
  rw [if_neg h11] at h
  cases h
theorem kw1302 : Cond.methodLink "RopeRoundModel" 299 ⟨"RopeRoundModel", "orNothing", "(I)I"⟩ ∈ tg := kt 1302 (by decide +kernel) (by decide +kernel)
theorem kw1303 : Cond.static ⟨"RopeRoundModel", "orNothing", "(I)I"⟩ ∈ tg := kt 1303 (by decide +kernel) (by decide +kernel)
set_option maxRecDepth 100000 in
theorem kw1304 : Cond.code ⟨"RopeRoundModel", "orNothing", "(I)I"⟩ prog_13_method_60_code 1 (some FieldType.int) ∈ tg := kt 1304 rfl rfl
theorem mo188 : MOk (mT 188) 1 := ⟨kw1304, kw12, by decide +kernel, by decide +kernel, by decide⟩
set_option maxRecDepth 100000 in
theorem kw1301 : Cond.code ⟨"RopeRoundModel", "tiedOf", "(I)I"⟩ prog_13_method_61_code 5 (some FieldType.int) ∈ tg := kt 1301 rfl rfl
theorem mo189 : MOk (mT 189) 1 := ⟨kw1301, kw12, by decide +kernel, by decide +kernel, by decide⟩
theorem kw1300 : Cond.instanceMethod ⟨"RopeRoundModel", "tiedOf", "(I)I"⟩ ∈ tg := kt 1300 (by decide +kernel) (by decide +kernel)
theorem kw1298 : Cond.methodLink "RopeRoundModel" 302 ⟨"RopeRoundModel", "tiedOf", "(I)I"⟩ ∈ tg := kt 1298 (by decide +kernel) (by decide +kernel)
theorem vk141 : ∀ ci y, (fun k => if k = 11 then some 189 else none) ci = some y → (∃ C T N, ClsOk ci C T N ∧ VOk mT "RopeRoundModel" 302 C y 1) ∨ (ci = 201 ∧ VOk mT "RopeRoundModel" 302 "java/lang/String" y 1) := by
  intro ci y h
  dsimp only at h
  by_cases h11 : ci = 11
  · subst h11
    have h := (Option.some.inj (by simpa using h)).symm
    subst h
    exact Or.inl ⟨_, _, _, okC11, ⟨mo189, kw1300, Or.inl ⟨rfl, kw1298, (ks (q := (⟨"RopeRoundModel", "tiedOf", "(I)I"⟩, 37)) (by decide +kernel))⟩⟩⟩
  rw [if_neg h11] at h
  cases h
theorem gf186 : gF "RopeRoundModel" 62 32 (fun k => k = 11) (fun n => n = 2) := by
  refine ⟨_, _, _, kw974, fun ci h => ?_⟩
  rcases h with rfl
  · exact ⟨_, _, _, okC11, by decide, rfl, rfl, Or.inl rfl, rfl⟩
theorem kw1317 : Cond.constantLong "RopeRoundModel" 305 100 ∈ tg := kt 1317 (by decide +kernel) (by decide +kernel)
theorem kw1322 : Cond.constantLong "RopeRoundModel" 307 6 ∈ tg := kt 1322 (by decide +kernel) (by decide +kernel)
set_option maxRecDepth 100000 in
theorem kw1326 : Cond.code ⟨"RopeRoundModel", "isSo", "(III)Z"⟩ prog_13_method_66_code 6 (some FieldType.boolean) ∈ tg := kt 1326 rfl rfl
theorem mo194 : MOk (mT 194) 3 := ⟨kw1326, kw12, by decide +kernel, by decide +kernel, by decide⟩
theorem kw1325 : Cond.instanceMethod ⟨"RopeRoundModel", "isSo", "(III)Z"⟩ ∈ tg := kt 1325 (by decide +kernel) (by decide +kernel)
theorem kw1323 : Cond.methodLink "RopeRoundModel" 309 ⟨"RopeRoundModel", "isSo", "(III)Z"⟩ ∈ tg := kt 1323 (by decide +kernel) (by decide +kernel)
theorem vk142 : ∀ ci y, (fun k => if k = 11 then some 194 else none) ci = some y → (∃ C T N, ClsOk ci C T N ∧ VOk mT "RopeRoundModel" 309 C y 3) ∨ (ci = 201 ∧ VOk mT "RopeRoundModel" 309 "java/lang/String" y 3) := by
  intro ci y h
  dsimp only at h
  by_cases h11 : ci = 11
  · subst h11
    have h := (Option.some.inj (by simpa using h)).symm
    subst h
    exact Or.inl ⟨_, _, _, okC11, ⟨mo194, kw1325, Or.inl ⟨rfl, kw1323, (ks (q := (⟨"RopeRoundModel", "isSo", "(III)Z"⟩, 37)) (by decide +kernel))⟩⟩⟩
  rw [if_neg h11] at h
  cases h
theorem gf187 : gF "RopeRoundModel" 68 34 (fun k => k = 11) (fun n => n = 2) := by
  refine ⟨_, _, _, kw976, fun ci h => ?_⟩
  rcases h with rfl
  · exact ⟨_, _, _, okC11, by decide, rfl, rfl, Or.inl rfl, rfl⟩
theorem gf188 : gF "RopeRoundModel" 65 33 (fun k => k = 11) (fun n => n = 2) := by
  refine ⟨_, _, _, kw975, fun ci h => ?_⟩
  rcases h with rfl
  · exact ⟨_, _, _, okC11, by decide, rfl, rfl, Or.inl rfl, rfl⟩
set_option maxRecDepth 100000 in
theorem kw1342 : Cond.code ⟨"RopeRoundModel", "kindOf", "(I)I"⟩ prog_13_method_70_code 3 (some FieldType.int) ∈ tg := kt 1342 rfl rfl
theorem mo198 : MOk (mT 198) 1 := ⟨kw1342, kw12, by decide +kernel, by decide +kernel, by decide⟩
theorem kw1341 : Cond.instanceMethod ⟨"RopeRoundModel", "kindOf", "(I)I"⟩ ∈ tg := kt 1341 (by decide +kernel) (by decide +kernel)
theorem kw1339 : Cond.methodLink "RopeRoundModel" 313 ⟨"RopeRoundModel", "kindOf", "(I)I"⟩ ∈ tg := kt 1339 (by decide +kernel) (by decide +kernel)
theorem vk143 : ∀ ci y, (fun k => if k = 11 then some 198 else none) ci = some y → (∃ C T N, ClsOk ci C T N ∧ VOk mT "RopeRoundModel" 313 C y 1) ∨ (ci = 201 ∧ VOk mT "RopeRoundModel" 313 "java/lang/String" y 1) := by
  intro ci y h
  dsimp only at h
  by_cases h11 : ci = 11
  · subst h11
    have h := (Option.some.inj (by simpa using h)).symm
    subst h
    exact Or.inl ⟨_, _, _, okC11, ⟨mo198, kw1341, Or.inl ⟨rfl, kw1339, (ks (q := (⟨"RopeRoundModel", "kindOf", "(I)I"⟩, 37)) (by decide +kernel))⟩⟩⟩
  rw [if_neg h11] at h
  cases h
theorem kw1347 : Cond.constantLong "RopeRoundModel" 316 5 ∈ tg := kt 1347 (by decide +kernel) (by decide +kernel)
theorem kw1348 : Cond.methodLink "RopeRoundModel" 318 ⟨"RopeRoundModel", "isOf", "(II)Z"⟩ ∈ tg := kt 1348 (by decide +kernel) (by decide +kernel)
theorem kw1349 : Cond.static ⟨"RopeRoundModel", "isOf", "(II)Z"⟩ ∈ tg := kt 1349 (by decide +kernel) (by decide +kernel)
set_option maxRecDepth 100000 in
theorem kw1350 : Cond.code ⟨"RopeRoundModel", "isOf", "(II)Z"⟩ prog_13_method_71_code 2 (some FieldType.boolean) ∈ tg := kt 1350 rfl rfl
theorem mo199 : MOk (mT 199) 2 := ⟨kw1350, kw12, by decide +kernel, by decide +kernel, by decide⟩
theorem kw978 : Cond.fieldLink "RopeRoundModel" 321 "RopeRoundModel" "traced" "I" ∈ tg := kt 978 (by decide +kernel) (by decide +kernel)
theorem gf189 : gF "RopeRoundModel" 321 36 (fun k => k = 11) (fun n => n = 0 ∨ n = 4) := by
  refine ⟨_, _, _, kw978, fun ci h => ?_⟩
  rcases h with rfl
  · exact ⟨_, _, _, okC11, by decide, rfl, rfl, Or.inl rfl, Or.inl rfl⟩
theorem gf189w : gF "RopeRoundModel" 321 36 (fun k => k = 11) (fun n => n = 0) := by
  refine ⟨_, _, _, kw978, fun ci h => ?_⟩
  rcases h with rfl
  · exact ⟨_, _, _, okC11, by decide, rfl, rfl, Or.inl rfl, rfl⟩
theorem gf190 : gF "RopeRoundModel" 71 35 (fun k => k = 11) (fun n => n = 2) := by
  refine ⟨_, _, _, kw977, fun ci h => ?_⟩
  rcases h with rfl
  · exact ⟨_, _, _, okC11, by decide, rfl, rfl, Or.inl rfl, rfl⟩
set_option maxRecDepth 100000 in
theorem kw1366 : Cond.code ⟨"RopeRoundModel", "began", "(I)V"⟩ prog_13_method_74_code 2 none ∈ tg := kt 1366 rfl rfl
theorem mo202 : MOk (mT 202) 1 := ⟨kw1366, kw12, by decide +kernel, by decide +kernel, by decide⟩
theorem kw1365 : Cond.instanceMethod ⟨"RopeRoundModel", "began", "(I)V"⟩ ∈ tg := kt 1365 (by decide +kernel) (by decide +kernel)
theorem kw1363 : Cond.methodLink "RopeRoundModel" 324 ⟨"RopeRoundModel", "began", "(I)V"⟩ ∈ tg := kt 1363 (by decide +kernel) (by decide +kernel)
theorem vk144 : ∀ ci y, (fun k => if k = 11 then some 202 else none) ci = some y → (∃ C T N, ClsOk ci C T N ∧ VOk mT "RopeRoundModel" 324 C y 1) ∨ (ci = 201 ∧ VOk mT "RopeRoundModel" 324 "java/lang/String" y 1) := by
  intro ci y h
  dsimp only at h
  by_cases h11 : ci = 11
  · subst h11
    have h := (Option.some.inj (by simpa using h)).symm
    subst h
    exact Or.inl ⟨_, _, _, okC11, ⟨mo202, kw1365, Or.inl ⟨rfl, kw1363, (ks (q := (⟨"RopeRoundModel", "began", "(I)V"⟩, 37)) (by decide +kernel))⟩⟩⟩
  rw [if_neg h11] at h
  cases h
set_option maxRecDepth 100000 in
theorem kw1362 : Cond.code ⟨"RopeRoundModel", "plainSize", "(I)I"⟩ prog_13_method_75_code 2 (some FieldType.int) ∈ tg := kt 1362 rfl rfl
theorem mo203 : MOk (mT 203) 1 := ⟨kw1362, kw12, by decide +kernel, by decide +kernel, by decide⟩
theorem kw1361 : Cond.instanceMethod ⟨"RopeRoundModel", "plainSize", "(I)I"⟩ ∈ tg := kt 1361 (by decide +kernel) (by decide +kernel)
theorem kw1359 : Cond.methodLink "RopeRoundModel" 327 ⟨"RopeRoundModel", "plainSize", "(I)I"⟩ ∈ tg := kt 1359 (by decide +kernel) (by decide +kernel)
theorem vk145 : ∀ ci y, (fun k => if k = 11 then some 203 else none) ci = some y → (∃ C T N, ClsOk ci C T N ∧ VOk mT "RopeRoundModel" 327 C y 1) ∨ (ci = 201 ∧ VOk mT "RopeRoundModel" 327 "java/lang/String" y 1) := by
  intro ci y h
  dsimp only at h
  by_cases h11 : ci = 11
  · subst h11
    have h := (Option.some.inj (by simpa using h)).symm
    subst h
    exact Or.inl ⟨_, _, _, okC11, ⟨mo203, kw1361, Or.inl ⟨rfl, kw1359, (ks (q := (⟨"RopeRoundModel", "plainSize", "(I)I"⟩, 37)) (by decide +kernel))⟩⟩⟩
  rw [if_neg h11] at h
  cases h
set_option maxRecDepth 100000 in
theorem kw1370 : Cond.code ⟨"RopeRoundModel", "markOf", "(II)I"⟩ prog_13_method_76_code 3 (some FieldType.int) ∈ tg := kt 1370 rfl rfl
theorem mo204 : MOk (mT 204) 2 := ⟨kw1370, kw12, by decide +kernel, by decide +kernel, by decide⟩
theorem kw1369 : Cond.instanceMethod ⟨"RopeRoundModel", "markOf", "(II)I"⟩ ∈ tg := kt 1369 (by decide +kernel) (by decide +kernel)
theorem kw1367 : Cond.methodLink "RopeRoundModel" 330 ⟨"RopeRoundModel", "markOf", "(II)I"⟩ ∈ tg := kt 1367 (by decide +kernel) (by decide +kernel)
theorem vk146 : ∀ ci y, (fun k => if k = 11 then some 204 else none) ci = some y → (∃ C T N, ClsOk ci C T N ∧ VOk mT "RopeRoundModel" 330 C y 2) ∨ (ci = 201 ∧ VOk mT "RopeRoundModel" 330 "java/lang/String" y 2) := by
  intro ci y h
  dsimp only at h
  by_cases h11 : ci = 11
  · subst h11
    have h := (Option.some.inj (by simpa using h)).symm
    subst h
    exact Or.inl ⟨_, _, _, okC11, ⟨mo204, kw1369, Or.inl ⟨rfl, kw1367, (ks (q := (⟨"RopeRoundModel", "markOf", "(II)I"⟩, 37)) (by decide +kernel))⟩⟩⟩
  rw [if_neg h11] at h
  cases h
set_option maxRecDepth 100000 in
theorem kw1358 : Cond.code ⟨"RopeRoundModel", "sizeOf", "(II)I"⟩ prog_13_method_77_code 4 (some FieldType.int) ∈ tg := kt 1358 rfl rfl
theorem mo205 : MOk (mT 205) 2 := ⟨kw1358, kw12, by decide +kernel, by decide +kernel, by decide⟩
theorem kw1357 : Cond.instanceMethod ⟨"RopeRoundModel", "sizeOf", "(II)I"⟩ ∈ tg := kt 1357 (by decide +kernel) (by decide +kernel)
theorem kw1355 : Cond.methodLink "RopeRoundModel" 333 ⟨"RopeRoundModel", "sizeOf", "(II)I"⟩ ∈ tg := kt 1355 (by decide +kernel) (by decide +kernel)
theorem vk147 : ∀ ci y, (fun k => if k = 11 then some 205 else none) ci = some y → (∃ C T N, ClsOk ci C T N ∧ VOk mT "RopeRoundModel" 333 C y 2) ∨ (ci = 201 ∧ VOk mT "RopeRoundModel" 333 "java/lang/String" y 2) := by
  intro ci y h
  dsimp only at h
  by_cases h11 : ci = 11
  · subst h11
    have h := (Option.some.inj (by simpa using h)).symm
    subst h
    exact Or.inl ⟨_, _, _, okC11, ⟨mo205, kw1357, Or.inl ⟨rfl, kw1355, (ks (q := (⟨"RopeRoundModel", "sizeOf", "(II)I"⟩, 37)) (by decide +kernel))⟩⟩⟩
  rw [if_neg h11] at h
  cases h
theorem kw648 : Cond.constantLong "java/lang/Long" 314 6148914691236517205 ∈ tg := kt 648 (by decide +kernel) (by decide +kernel)
theorem kw649 : Cond.constantLong "java/lang/Long" 316 3689348814741910323 ∈ tg := kt 649 (by decide +kernel) (by decide +kernel)
theorem kw650 : Cond.constantLong "java/lang/Long" 318 1085102592571150095 ∈ tg := kt 650 (by decide +kernel) (by decide +kernel)
theorem kw1386 : Cond.fieldLink "java/lang/String" 9 "java/lang/String" "value" "[B" ∈ tg := kt 1386 (by decide +kernel) (by decide +kernel)
set_option maxRecDepth 100000 in
theorem kw458 : Cond.code ⟨"java/lang/String", "coder", "()B"⟩ prog_16_method_152_code 1 (some FieldType.byte) ∈ tg := kt 458 rfl rfl
theorem mo213 : MOk (mT 213) 0 := ⟨kw458, kw14, by decide +kernel, by decide +kernel, by decide⟩
theorem kw456 : Cond.instanceMethod ⟨"java/lang/String", "coder", "()B"⟩ ∈ tg := kt 456 (by decide +kernel) (by decide +kernel)
theorem kw455 : Cond.methodLink "java/lang/String" 335 ⟨"java/lang/String", "coder", "()B"⟩ ∈ tg := kt 455 (by decide +kernel) (by decide +kernel)
theorem kw457 : Cond.selects "java/lang/String" ⟨"java/lang/String", "coder", "()B"⟩ ⟨"java/lang/String", "coder", "()B"⟩ ∈ tg := kt 457 (by decide +kernel) (by decide +kernel)
theorem vk148 : ∀ ci y, (fun k => if k = 201 then some 213 else none) ci = some y → (∃ C T N, ClsOk ci C T N ∧ VOk mT "java/lang/String" 335 C y 0) ∨ (ci = 201 ∧ VOk mT "java/lang/String" 335 "java/lang/String" y 0) := by
  intro ci y h
  dsimp only at h
  by_cases h201 : ci = 201
  · subst h201
    have h := (Option.some.inj (by simpa using h)).symm
    subst h
    exact Or.inr ⟨rfl, ⟨mo213, kw456, Or.inl ⟨rfl, kw455, kw457⟩⟩⟩
  rw [if_neg h201] at h
  cases h
set_option maxRecDepth 100000 in
theorem kw468 : Cond.code ⟨"java/lang/String", "isLatin1", "()Z"⟩ prog_16_method_154_code 1 (some FieldType.boolean) ∈ tg := kt 468 rfl rfl
theorem mo214 : MOk (mT 214) 0 := ⟨kw468, kw14, by decide +kernel, by decide +kernel, by decide⟩
theorem kw466 : Cond.instanceMethod ⟨"java/lang/String", "isLatin1", "()Z"⟩ ∈ tg := kt 466 (by decide +kernel) (by decide +kernel)
theorem kw465 : Cond.methodLink "java/lang/String" 492 ⟨"java/lang/String", "isLatin1", "()Z"⟩ ∈ tg := kt 465 (by decide +kernel) (by decide +kernel)
theorem kw467 : Cond.selects "java/lang/String" ⟨"java/lang/String", "isLatin1", "()Z"⟩ ⟨"java/lang/String", "isLatin1", "()Z"⟩ ∈ tg := kt 467 (by decide +kernel) (by decide +kernel)
theorem vk149 : ∀ ci y, (fun k => if k = 201 then some 214 else none) ci = some y → (∃ C T N, ClsOk ci C T N ∧ VOk mT "java/lang/String" 492 C y 0) ∨ (ci = 201 ∧ VOk mT "java/lang/String" 492 "java/lang/String" y 0) := by
  intro ci y h
  dsimp only at h
  by_cases h201 : ci = 201
  · subst h201
    have h := (Option.some.inj (by simpa using h)).symm
    subst h
    exact Or.inr ⟨rfl, ⟨mo214, kw466, Or.inl ⟨rfl, kw465, kw467⟩⟩⟩
  rw [if_neg h201] at h
  cases h
theorem kw469 : Cond.methodLink "java/lang/String" 495 ⟨"java/lang/StringLatin1", "charAt", "([BI)C"⟩ ∈ tg := kt 469 (by decide +kernel) (by decide +kernel)
theorem kw470 : Cond.static ⟨"java/lang/StringLatin1", "charAt", "([BI)C"⟩ ∈ tg := kt 470 (by decide +kernel) (by decide +kernel)
set_option maxRecDepth 100000 in
theorem kw471 : Cond.code ⟨"java/lang/StringLatin1", "charAt", "([BI)C"⟩ prog_17_method_2_code 2 (some FieldType.char) ∈ tg := kt 471 rfl rfl
theorem kw15 : Cond.initialized "java/lang/StringLatin1" ∈ tg := kt 15 (by decide +kernel) (by decide +kernel)
theorem mo216 : MOk (mT 216) 2 := ⟨kw471, kw15, by decide +kernel, by decide +kernel, by decide⟩
theorem kw480 : Cond.methodLink "java/lang/String" 498 ⟨"java/lang/StringUTF16", "charAt", "([BI)C"⟩ ∈ tg := kt 480 (by decide +kernel) (by decide +kernel)
theorem kw459 : Cond.fieldLink "java/lang/String" 38 "java/lang/String" "COMPACT_STRINGS" "Z" ∈ tg := kt 459 (by decide +kernel) (by decide +kernel)
theorem kw1387 : Cond.fieldLink "java/lang/String" 15 "java/lang/String" "coder" "B" ∈ tg := kt 1387 (by decide +kernel) (by decide +kernel)
theorem kw475 : Cond.fieldLink "java/lang/String" 1053 "jdk/internal/util/Preconditions" "SIOOBE_FORMATTER" "Ljava/util/function/BiFunction;" ∈ tg := kt 475 (by decide +kernel) (by decide +kernel)
theorem kw477 : Cond.methodLink "java/lang/String" 1059 ⟨"jdk/internal/util/Preconditions", "checkIndex", "(IILjava/util/function/BiFunction;)I"⟩ ∈ tg := kt 477 (by decide +kernel) (by decide +kernel)
theorem kw478 : Cond.static ⟨"jdk/internal/util/Preconditions", "checkIndex", "(IILjava/util/function/BiFunction;)I"⟩ ∈ tg := kt 478 (by decide +kernel) (by decide +kernel)
set_option maxRecDepth 100000 in
theorem kw479 : Cond.code ⟨"jdk/internal/util/Preconditions", "checkIndex", "(IILjava/util/function/BiFunction;)I"⟩ prog_20_method_11_code 3 (some FieldType.int) ∈ tg := kt 479 rfl rfl
theorem kw16 : Cond.initialized "jdk/internal/util/Preconditions" ∈ tg := kt 16 (by decide +kernel) (by decide +kernel)
theorem mo217 : MOk (mT 217) 3 := ⟨kw479, kw16, by decide +kernel, by decide +kernel, by decide⟩
theorem kw472 : Cond.methodLink "java/lang/StringLatin1" 9 ⟨"java/lang/String", "checkIndex", "(II)V"⟩ ∈ tg := kt 472 (by decide +kernel) (by decide +kernel)
theorem kw473 : Cond.static ⟨"java/lang/String", "checkIndex", "(II)V"⟩ ∈ tg := kt 473 (by decide +kernel) (by decide +kernel)
set_option maxRecDepth 100000 in
theorem kw474 : Cond.code ⟨"java/lang/String", "checkIndex", "(II)V"⟩ prog_16_method_155_code 2 none ∈ tg := kt 474 rfl rfl
theorem mo215 : MOk (mT 215) 2 := ⟨kw474, kw14, by decide +kernel, by decide +kernel, by decide⟩
theorem kw20 : Cond.classLink "RopeRoundLaw" 7 "RopeRound" ∈ tg := kt 20 (by decide +kernel) (by decide +kernel)
theorem kw22 : Cond.methodLink "RopeRoundLaw" 9 ⟨"RopeRound", "<init>", "()V"⟩ ∈ tg := kt 22 (by decide +kernel) (by decide +kernel)
theorem kw23 : Cond.instanceMethod ⟨"RopeRound", "<init>", "()V"⟩ ∈ tg := kt 23 (by decide +kernel) (by decide +kernel)
set_option maxRecDepth 100000 in
theorem kw24 : Cond.code ⟨"RopeRound", "<init>", "()V"⟩ prog_1_method_1_code 2 none ∈ tg := kt 24 rfl rfl
theorem mo81 : MOk (mT 81) 0 := ⟨kw24, kw1, by decide +kernel, by decide +kernel, by decide⟩
theorem kw936 : Cond.classLink "RopeRoundLaw" 10 "RopeRoundModel" ∈ tg := kt 936 (by decide +kernel) (by decide +kernel)
theorem kw938 : Cond.methodLink "RopeRoundLaw" 12 ⟨"RopeRoundModel", "<init>", "()V"⟩ ∈ tg := kt 938 (by decide +kernel) (by decide +kernel)
theorem kw939 : Cond.instanceMethod ⟨"RopeRoundModel", "<init>", "()V"⟩ ∈ tg := kt 939 (by decide +kernel) (by decide +kernel)
set_option maxRecDepth 100000 in
theorem kw940 : Cond.code ⟨"RopeRoundModel", "<init>", "()V"⟩ prog_13_method_1_code 1 none ∈ tg := kt 940 rfl rfl
theorem mo130 : MOk (mT 130) 0 := ⟨kw940, kw12, by decide +kernel, by decide +kernel, by decide⟩
set_option maxRecDepth 100000 in
theorem kw344 : Cond.code ⟨"RopeRound", "row", "(III)I"⟩ prog_1_method_2_code 4 (some FieldType.int) ∈ tg := kt 344 rfl rfl
theorem mo82 : MOk (mT 82) 3 := ⟨kw344, kw1, by decide +kernel, by decide +kernel, by decide⟩
theorem kw342 : Cond.instanceMethod ⟨"RopeRound", "row", "(III)I"⟩ ∈ tg := kt 342 (by decide +kernel) (by decide +kernel)
theorem kw341 : Cond.methodLink "RopeRoundLaw" 13 ⟨"RopeRound", "row", "(III)I"⟩ ∈ tg := kt 341 (by decide +kernel) (by decide +kernel)
theorem kw343 : Cond.selects "RopeRound" ⟨"RopeRound", "row", "(III)I"⟩ ⟨"RopeRound", "row", "(III)I"⟩ ∈ tg := kt 343 (by decide +kernel) (by decide +kernel)
theorem vk150 : ∀ ci y, (fun k => if k = 10 then some 82 else none) ci = some y → (∃ C T N, ClsOk ci C T N ∧ VOk mT "RopeRoundLaw" 13 C y 3) ∨ (ci = 201 ∧ VOk mT "RopeRoundLaw" 13 "java/lang/String" y 3) := by
  intro ci y h
  dsimp only at h
  by_cases h10 : ci = 10
  · subst h10
    have h := (Option.some.inj (by simpa using h)).symm
    subst h
    exact Or.inl ⟨_, _, _, okC10, ⟨mo82, kw342, Or.inl ⟨rfl, kw341, kw343⟩⟩⟩
  rw [if_neg h10] at h
  cases h
set_option maxRecDepth 100000 in
theorem kw1058 : Cond.code ⟨"RopeRoundModel", "row", "(III)I"⟩ prog_13_method_6_code 5 (some FieldType.int) ∈ tg := kt 1058 rfl rfl
theorem mo134 : MOk (mT 134) 3 := ⟨kw1058, kw12, by decide +kernel, by decide +kernel, by decide⟩
theorem kw1056 : Cond.instanceMethod ⟨"RopeRoundModel", "row", "(III)I"⟩ ∈ tg := kt 1056 (by decide +kernel) (by decide +kernel)
theorem kw1055 : Cond.methodLink "RopeRoundLaw" 17 ⟨"RopeRoundModel", "row", "(III)I"⟩ ∈ tg := kt 1055 (by decide +kernel) (by decide +kernel)
theorem kw1057 : Cond.selects "RopeRoundModel" ⟨"RopeRoundModel", "row", "(III)I"⟩ ⟨"RopeRoundModel", "row", "(III)I"⟩ ∈ tg := kt 1057 (by decide +kernel) (by decide +kernel)
theorem vk151 : ∀ ci y, (fun k => if k = 11 then some 134 else none) ci = some y → (∃ C T N, ClsOk ci C T N ∧ VOk mT "RopeRoundLaw" 17 C y 3) ∨ (ci = 201 ∧ VOk mT "RopeRoundLaw" 17 "java/lang/String" y 3) := by
  intro ci y h
  dsimp only at h
  by_cases h11 : ci = 11
  · subst h11
    have h := (Option.some.inj (by simpa using h)).symm
    subst h
    exact Or.inl ⟨_, _, _, okC11, ⟨mo134, kw1056, Or.inl ⟨rfl, kw1055, kw1057⟩⟩⟩
  rw [if_neg h11] at h
  cases h
set_option maxRecDepth 100000 in
theorem kw365 : Cond.code ⟨"RopeRound", "set", "(III)I"⟩ prog_1_method_3_code 5 (some FieldType.int) ∈ tg := kt 365 rfl rfl
theorem mo83 : MOk (mT 83) 3 := ⟨kw365, kw1, by decide +kernel, by decide +kernel, by decide⟩
theorem kw363 : Cond.instanceMethod ⟨"RopeRound", "set", "(III)I"⟩ ∈ tg := kt 363 (by decide +kernel) (by decide +kernel)
theorem kw362 : Cond.methodLink "RopeRoundLaw" 18 ⟨"RopeRound", "set", "(III)I"⟩ ∈ tg := kt 362 (by decide +kernel) (by decide +kernel)
theorem kw364 : Cond.selects "RopeRound" ⟨"RopeRound", "set", "(III)I"⟩ ⟨"RopeRound", "set", "(III)I"⟩ ∈ tg := kt 364 (by decide +kernel) (by decide +kernel)
theorem vk152 : ∀ ci y, (fun k => if k = 10 then some 83 else none) ci = some y → (∃ C T N, ClsOk ci C T N ∧ VOk mT "RopeRoundLaw" 18 C y 3) ∨ (ci = 201 ∧ VOk mT "RopeRoundLaw" 18 "java/lang/String" y 3) := by
  intro ci y h
  dsimp only at h
  by_cases h10 : ci = 10
  · subst h10
    have h := (Option.some.inj (by simpa using h)).symm
    subst h
    exact Or.inl ⟨_, _, _, okC10, ⟨mo83, kw363, Or.inl ⟨rfl, kw362, kw364⟩⟩⟩
  rw [if_neg h10] at h
  cases h
set_option maxRecDepth 100000 in
theorem kw1076 : Cond.code ⟨"RopeRoundModel", "set", "(III)I"⟩ prog_13_method_7_code 4 (some FieldType.int) ∈ tg := kt 1076 rfl rfl
theorem mo135 : MOk (mT 135) 3 := ⟨kw1076, kw12, by decide +kernel, by decide +kernel, by decide⟩
theorem kw1074 : Cond.instanceMethod ⟨"RopeRoundModel", "set", "(III)I"⟩ ∈ tg := kt 1074 (by decide +kernel) (by decide +kernel)
theorem kw1073 : Cond.methodLink "RopeRoundLaw" 21 ⟨"RopeRoundModel", "set", "(III)I"⟩ ∈ tg := kt 1073 (by decide +kernel) (by decide +kernel)
theorem kw1075 : Cond.selects "RopeRoundModel" ⟨"RopeRoundModel", "set", "(III)I"⟩ ⟨"RopeRoundModel", "set", "(III)I"⟩ ∈ tg := kt 1075 (by decide +kernel) (by decide +kernel)
theorem vk153 : ∀ ci y, (fun k => if k = 11 then some 135 else none) ci = some y → (∃ C T N, ClsOk ci C T N ∧ VOk mT "RopeRoundLaw" 21 C y 3) ∨ (ci = 201 ∧ VOk mT "RopeRoundLaw" 21 "java/lang/String" y 3) := by
  intro ci y h
  dsimp only at h
  by_cases h11 : ci = 11
  · subst h11
    have h := (Option.some.inj (by simpa using h)).symm
    subst h
    exact Or.inl ⟨_, _, _, okC11, ⟨mo135, kw1074, Or.inl ⟨rfl, kw1073, kw1075⟩⟩⟩
  rw [if_neg h11] at h
  cases h
set_option maxRecDepth 100000 in
theorem kw381 : Cond.code ⟨"RopeRound", "copy", "(IIIII)I"⟩ prog_1_method_4_code 8 (some FieldType.int) ∈ tg := kt 381 rfl rfl
theorem mo84 : MOk (mT 84) 5 := ⟨kw381, kw1, by decide +kernel, by decide +kernel, by decide⟩
theorem kw379 : Cond.instanceMethod ⟨"RopeRound", "copy", "(IIIII)I"⟩ ∈ tg := kt 379 (by decide +kernel) (by decide +kernel)
theorem kw378 : Cond.methodLink "RopeRoundLaw" 22 ⟨"RopeRound", "copy", "(IIIII)I"⟩ ∈ tg := kt 378 (by decide +kernel) (by decide +kernel)
theorem kw380 : Cond.selects "RopeRound" ⟨"RopeRound", "copy", "(IIIII)I"⟩ ⟨"RopeRound", "copy", "(IIIII)I"⟩ ∈ tg := kt 380 (by decide +kernel) (by decide +kernel)
theorem vk154 : ∀ ci y, (fun k => if k = 10 then some 84 else none) ci = some y → (∃ C T N, ClsOk ci C T N ∧ VOk mT "RopeRoundLaw" 22 C y 5) ∨ (ci = 201 ∧ VOk mT "RopeRoundLaw" 22 "java/lang/String" y 5) := by
  intro ci y h
  dsimp only at h
  by_cases h10 : ci = 10
  · subst h10
    have h := (Option.some.inj (by simpa using h)).symm
    subst h
    exact Or.inl ⟨_, _, _, okC10, ⟨mo84, kw379, Or.inl ⟨rfl, kw378, kw380⟩⟩⟩
  rw [if_neg h10] at h
  cases h
set_option maxRecDepth 100000 in
theorem kw1080 : Cond.code ⟨"RopeRoundModel", "copy", "(IIIII)I"⟩ prog_13_method_8_code 9 (some FieldType.int) ∈ tg := kt 1080 rfl rfl
theorem mo136 : MOk (mT 136) 5 := ⟨kw1080, kw12, by decide +kernel, by decide +kernel, by decide⟩
theorem kw1078 : Cond.instanceMethod ⟨"RopeRoundModel", "copy", "(IIIII)I"⟩ ∈ tg := kt 1078 (by decide +kernel) (by decide +kernel)
theorem kw1077 : Cond.methodLink "RopeRoundLaw" 26 ⟨"RopeRoundModel", "copy", "(IIIII)I"⟩ ∈ tg := kt 1077 (by decide +kernel) (by decide +kernel)
theorem kw1079 : Cond.selects "RopeRoundModel" ⟨"RopeRoundModel", "copy", "(IIIII)I"⟩ ⟨"RopeRoundModel", "copy", "(IIIII)I"⟩ ∈ tg := kt 1079 (by decide +kernel) (by decide +kernel)
theorem vk155 : ∀ ci y, (fun k => if k = 11 then some 136 else none) ci = some y → (∃ C T N, ClsOk ci C T N ∧ VOk mT "RopeRoundLaw" 26 C y 5) ∨ (ci = 201 ∧ VOk mT "RopeRoundLaw" 26 "java/lang/String" y 5) := by
  intro ci y h
  dsimp only at h
  by_cases h11 : ci = 11
  · subst h11
    have h := (Option.some.inj (by simpa using h)).symm
    subst h
    exact Or.inl ⟨_, _, _, okC11, ⟨mo136, kw1078, Or.inl ⟨rfl, kw1077, kw1079⟩⟩⟩
  rw [if_neg h11] at h
  cases h
set_option maxRecDepth 100000 in
theorem kw388 : Cond.code ⟨"RopeRound", "drop", "(I)I"⟩ prog_1_method_5_code 4 (some FieldType.int) ∈ tg := kt 388 rfl rfl
theorem mo85 : MOk (mT 85) 1 := ⟨kw388, kw1, by decide +kernel, by decide +kernel, by decide⟩
theorem kw386 : Cond.instanceMethod ⟨"RopeRound", "drop", "(I)I"⟩ ∈ tg := kt 386 (by decide +kernel) (by decide +kernel)
theorem kw385 : Cond.methodLink "RopeRoundLaw" 27 ⟨"RopeRound", "drop", "(I)I"⟩ ∈ tg := kt 385 (by decide +kernel) (by decide +kernel)
theorem kw387 : Cond.selects "RopeRound" ⟨"RopeRound", "drop", "(I)I"⟩ ⟨"RopeRound", "drop", "(I)I"⟩ ∈ tg := kt 387 (by decide +kernel) (by decide +kernel)
theorem vk156 : ∀ ci y, (fun k => if k = 10 then some 85 else none) ci = some y → (∃ C T N, ClsOk ci C T N ∧ VOk mT "RopeRoundLaw" 27 C y 1) ∨ (ci = 201 ∧ VOk mT "RopeRoundLaw" 27 "java/lang/String" y 1) := by
  intro ci y h
  dsimp only at h
  by_cases h10 : ci = 10
  · subst h10
    have h := (Option.some.inj (by simpa using h)).symm
    subst h
    exact Or.inl ⟨_, _, _, okC10, ⟨mo85, kw386, Or.inl ⟨rfl, kw385, kw387⟩⟩⟩
  rw [if_neg h10] at h
  cases h
set_option maxRecDepth 100000 in
theorem kw1084 : Cond.code ⟨"RopeRoundModel", "drop", "(I)I"⟩ prog_13_method_9_code 2 (some FieldType.int) ∈ tg := kt 1084 rfl rfl
theorem mo137 : MOk (mT 137) 1 := ⟨kw1084, kw12, by decide +kernel, by decide +kernel, by decide⟩
theorem kw1082 : Cond.instanceMethod ⟨"RopeRoundModel", "drop", "(I)I"⟩ ∈ tg := kt 1082 (by decide +kernel) (by decide +kernel)
theorem kw1081 : Cond.methodLink "RopeRoundLaw" 31 ⟨"RopeRoundModel", "drop", "(I)I"⟩ ∈ tg := kt 1081 (by decide +kernel) (by decide +kernel)
theorem kw1083 : Cond.selects "RopeRoundModel" ⟨"RopeRoundModel", "drop", "(I)I"⟩ ⟨"RopeRoundModel", "drop", "(I)I"⟩ ∈ tg := kt 1083 (by decide +kernel) (by decide +kernel)
theorem vk157 : ∀ ci y, (fun k => if k = 11 then some 137 else none) ci = some y → (∃ C T N, ClsOk ci C T N ∧ VOk mT "RopeRoundLaw" 31 C y 1) ∨ (ci = 201 ∧ VOk mT "RopeRoundLaw" 31 "java/lang/String" y 1) := by
  intro ci y h
  dsimp only at h
  by_cases h11 : ci = 11
  · subst h11
    have h := (Option.some.inj (by simpa using h)).symm
    subst h
    exact Or.inl ⟨_, _, _, okC11, ⟨mo137, kw1082, Or.inl ⟨rfl, kw1081, kw1083⟩⟩⟩
  rw [if_neg h11] at h
  cases h
theorem kw1383 : Cond.constantLong "RopeRoundLaw" 32 4294967295 ∈ tg := kt 1383 (by decide +kernel) (by decide +kernel)
set_option maxRecDepth 100000 in
theorem kw396 : Cond.code ⟨"RopeRound", "feed", "(JI)I"⟩ prog_1_method_6_code 4 (some FieldType.int) ∈ tg := kt 396 rfl rfl
theorem mo86 : MOk (mT 86) 2 := ⟨kw396, kw1, by decide +kernel, by decide +kernel, by decide⟩
theorem kw394 : Cond.instanceMethod ⟨"RopeRound", "feed", "(JI)I"⟩ ∈ tg := kt 394 (by decide +kernel) (by decide +kernel)
theorem kw393 : Cond.methodLink "RopeRoundLaw" 34 ⟨"RopeRound", "feed", "(JI)I"⟩ ∈ tg := kt 393 (by decide +kernel) (by decide +kernel)
theorem kw395 : Cond.selects "RopeRound" ⟨"RopeRound", "feed", "(JI)I"⟩ ⟨"RopeRound", "feed", "(JI)I"⟩ ∈ tg := kt 395 (by decide +kernel) (by decide +kernel)
theorem vk158 : ∀ ci y, (fun k => if k = 10 then some 86 else none) ci = some y → (∃ C T N, ClsOk ci C T N ∧ VOk mT "RopeRoundLaw" 34 C y 2) ∨ (ci = 201 ∧ VOk mT "RopeRoundLaw" 34 "java/lang/String" y 2) := by
  intro ci y h
  dsimp only at h
  by_cases h10 : ci = 10
  · subst h10
    have h := (Option.some.inj (by simpa using h)).symm
    subst h
    exact Or.inl ⟨_, _, _, okC10, ⟨mo86, kw394, Or.inl ⟨rfl, kw393, kw395⟩⟩⟩
  rw [if_neg h10] at h
  cases h
set_option maxRecDepth 100000 in
theorem kw1088 : Cond.code ⟨"RopeRoundModel", "feed", "(JI)I"⟩ prog_13_method_10_code 5 (some FieldType.int) ∈ tg := kt 1088 rfl rfl
theorem mo138 : MOk (mT 138) 2 := ⟨kw1088, kw12, by decide +kernel, by decide +kernel, by decide⟩
theorem kw1086 : Cond.instanceMethod ⟨"RopeRoundModel", "feed", "(JI)I"⟩ ∈ tg := kt 1086 (by decide +kernel) (by decide +kernel)
theorem kw1085 : Cond.methodLink "RopeRoundLaw" 38 ⟨"RopeRoundModel", "feed", "(JI)I"⟩ ∈ tg := kt 1085 (by decide +kernel) (by decide +kernel)
theorem kw1087 : Cond.selects "RopeRoundModel" ⟨"RopeRoundModel", "feed", "(JI)I"⟩ ⟨"RopeRoundModel", "feed", "(JI)I"⟩ ∈ tg := kt 1087 (by decide +kernel) (by decide +kernel)
theorem vk159 : ∀ ci y, (fun k => if k = 11 then some 138 else none) ci = some y → (∃ C T N, ClsOk ci C T N ∧ VOk mT "RopeRoundLaw" 38 C y 2) ∨ (ci = 201 ∧ VOk mT "RopeRoundLaw" 38 "java/lang/String" y 2) := by
  intro ci y h
  dsimp only at h
  by_cases h11 : ci = 11
  · subst h11
    have h := (Option.some.inj (by simpa using h)).symm
    subst h
    exact Or.inl ⟨_, _, _, okC11, ⟨mo138, kw1086, Or.inl ⟨rfl, kw1085, kw1087⟩⟩⟩
  rw [if_neg h11] at h
  cases h
set_option maxRecDepth 100000 in
theorem kw405 : Cond.code ⟨"RopeRound", "ground", "()I"⟩ prog_1_method_7_code 2 (some FieldType.int) ∈ tg := kt 405 rfl rfl
theorem mo87 : MOk (mT 87) 0 := ⟨kw405, kw1, by decide +kernel, by decide +kernel, by decide⟩
theorem kw403 : Cond.instanceMethod ⟨"RopeRound", "ground", "()I"⟩ ∈ tg := kt 403 (by decide +kernel) (by decide +kernel)
theorem kw402 : Cond.methodLink "RopeRoundLaw" 39 ⟨"RopeRound", "ground", "()I"⟩ ∈ tg := kt 402 (by decide +kernel) (by decide +kernel)
theorem kw404 : Cond.selects "RopeRound" ⟨"RopeRound", "ground", "()I"⟩ ⟨"RopeRound", "ground", "()I"⟩ ∈ tg := kt 404 (by decide +kernel) (by decide +kernel)
theorem vk160 : ∀ ci y, (fun k => if k = 10 then some 87 else none) ci = some y → (∃ C T N, ClsOk ci C T N ∧ VOk mT "RopeRoundLaw" 39 C y 0) ∨ (ci = 201 ∧ VOk mT "RopeRoundLaw" 39 "java/lang/String" y 0) := by
  intro ci y h
  dsimp only at h
  by_cases h10 : ci = 10
  · subst h10
    have h := (Option.some.inj (by simpa using h)).symm
    subst h
    exact Or.inl ⟨_, _, _, okC10, ⟨mo87, kw403, Or.inl ⟨rfl, kw402, kw404⟩⟩⟩
  rw [if_neg h10] at h
  cases h
set_option maxRecDepth 100000 in
theorem kw1095 : Cond.code ⟨"RopeRoundModel", "ground", "()I"⟩ prog_13_method_28_code 2 (some FieldType.int) ∈ tg := kt 1095 rfl rfl
theorem mo156 : MOk (mT 156) 0 := ⟨kw1095, kw12, by decide +kernel, by decide +kernel, by decide⟩
theorem kw1093 : Cond.instanceMethod ⟨"RopeRoundModel", "ground", "()I"⟩ ∈ tg := kt 1093 (by decide +kernel) (by decide +kernel)
theorem kw1092 : Cond.methodLink "RopeRoundLaw" 43 ⟨"RopeRoundModel", "ground", "()I"⟩ ∈ tg := kt 1092 (by decide +kernel) (by decide +kernel)
theorem kw1094 : Cond.selects "RopeRoundModel" ⟨"RopeRoundModel", "ground", "()I"⟩ ⟨"RopeRoundModel", "ground", "()I"⟩ ∈ tg := kt 1094 (by decide +kernel) (by decide +kernel)
theorem vk161 : ∀ ci y, (fun k => if k = 11 then some 156 else none) ci = some y → (∃ C T N, ClsOk ci C T N ∧ VOk mT "RopeRoundLaw" 43 C y 0) ∨ (ci = 201 ∧ VOk mT "RopeRoundLaw" 43 "java/lang/String" y 0) := by
  intro ci y h
  dsimp only at h
  by_cases h11 : ci = 11
  · subst h11
    have h := (Option.some.inj (by simpa using h)).symm
    subst h
    exact Or.inl ⟨_, _, _, okC11, ⟨mo156, kw1093, Or.inl ⟨rfl, kw1092, kw1094⟩⟩⟩
  rw [if_neg h11] at h
  cases h
set_option maxRecDepth 100000 in
theorem kw587 : Cond.code ⟨"RopeRound", "fault", "()I"⟩ prog_1_method_8_code 1 (some FieldType.int) ∈ tg := kt 587 rfl rfl
theorem mo88 : MOk (mT 88) 0 := ⟨kw587, kw1, by decide +kernel, by decide +kernel, by decide⟩
theorem kw585 : Cond.instanceMethod ⟨"RopeRound", "fault", "()I"⟩ ∈ tg := kt 585 (by decide +kernel) (by decide +kernel)
theorem kw584 : Cond.methodLink "RopeRoundLaw" 44 ⟨"RopeRound", "fault", "()I"⟩ ∈ tg := kt 584 (by decide +kernel) (by decide +kernel)
theorem kw586 : Cond.selects "RopeRound" ⟨"RopeRound", "fault", "()I"⟩ ⟨"RopeRound", "fault", "()I"⟩ ∈ tg := kt 586 (by decide +kernel) (by decide +kernel)
theorem vk162 : ∀ ci y, (fun k => if k = 10 then some 88 else none) ci = some y → (∃ C T N, ClsOk ci C T N ∧ VOk mT "RopeRoundLaw" 44 C y 0) ∨ (ci = 201 ∧ VOk mT "RopeRoundLaw" 44 "java/lang/String" y 0) := by
  intro ci y h
  dsimp only at h
  by_cases h10 : ci = 10
  · subst h10
    have h := (Option.some.inj (by simpa using h)).symm
    subst h
    exact Or.inl ⟨_, _, _, okC10, ⟨mo88, kw585, Or.inl ⟨rfl, kw584, kw586⟩⟩⟩
  rw [if_neg h10] at h
  cases h
set_option maxRecDepth 100000 in
theorem kw1184 : Cond.code ⟨"RopeRoundModel", "fault", "()I"⟩ prog_13_method_29_code 1 (some FieldType.int) ∈ tg := kt 1184 rfl rfl
theorem mo157 : MOk (mT 157) 0 := ⟨kw1184, kw12, by decide +kernel, by decide +kernel, by decide⟩
theorem kw1182 : Cond.instanceMethod ⟨"RopeRoundModel", "fault", "()I"⟩ ∈ tg := kt 1182 (by decide +kernel) (by decide +kernel)
theorem kw1181 : Cond.methodLink "RopeRoundLaw" 47 ⟨"RopeRoundModel", "fault", "()I"⟩ ∈ tg := kt 1181 (by decide +kernel) (by decide +kernel)
theorem kw1183 : Cond.selects "RopeRoundModel" ⟨"RopeRoundModel", "fault", "()I"⟩ ⟨"RopeRoundModel", "fault", "()I"⟩ ∈ tg := kt 1183 (by decide +kernel) (by decide +kernel)
theorem vk163 : ∀ ci y, (fun k => if k = 11 then some 157 else none) ci = some y → (∃ C T N, ClsOk ci C T N ∧ VOk mT "RopeRoundLaw" 47 C y 0) ∨ (ci = 201 ∧ VOk mT "RopeRoundLaw" 47 "java/lang/String" y 0) := by
  intro ci y h
  dsimp only at h
  by_cases h11 : ci = 11
  · subst h11
    have h := (Option.some.inj (by simpa using h)).symm
    subst h
    exact Or.inl ⟨_, _, _, okC11, ⟨mo157, kw1182, Or.inl ⟨rfl, kw1181, kw1183⟩⟩⟩
  rw [if_neg h11] at h
  cases h
set_option maxRecDepth 100000 in
theorem kw591 : Cond.code ⟨"RopeRound", "takes", "(II)I"⟩ prog_1_method_9_code 3 (some FieldType.int) ∈ tg := kt 591 rfl rfl
theorem mo89 : MOk (mT 89) 2 := ⟨kw591, kw1, by decide +kernel, by decide +kernel, by decide⟩
theorem kw589 : Cond.instanceMethod ⟨"RopeRound", "takes", "(II)I"⟩ ∈ tg := kt 589 (by decide +kernel) (by decide +kernel)
theorem kw588 : Cond.methodLink "RopeRoundLaw" 48 ⟨"RopeRound", "takes", "(II)I"⟩ ∈ tg := kt 588 (by decide +kernel) (by decide +kernel)
theorem kw590 : Cond.selects "RopeRound" ⟨"RopeRound", "takes", "(II)I"⟩ ⟨"RopeRound", "takes", "(II)I"⟩ ∈ tg := kt 590 (by decide +kernel) (by decide +kernel)
theorem vk164 : ∀ ci y, (fun k => if k = 10 then some 89 else none) ci = some y → (∃ C T N, ClsOk ci C T N ∧ VOk mT "RopeRoundLaw" 48 C y 2) ∨ (ci = 201 ∧ VOk mT "RopeRoundLaw" 48 "java/lang/String" y 2) := by
  intro ci y h
  dsimp only at h
  by_cases h10 : ci = 10
  · subst h10
    have h := (Option.some.inj (by simpa using h)).symm
    subst h
    exact Or.inl ⟨_, _, _, okC10, ⟨mo89, kw589, Or.inl ⟨rfl, kw588, kw590⟩⟩⟩
  rw [if_neg h10] at h
  cases h
set_option maxRecDepth 100000 in
theorem kw1188 : Cond.code ⟨"RopeRoundModel", "takes", "(II)I"⟩ prog_13_method_40_code 3 (some FieldType.int) ∈ tg := kt 1188 rfl rfl
theorem mo168 : MOk (mT 168) 2 := ⟨kw1188, kw12, by decide +kernel, by decide +kernel, by decide⟩
theorem kw1186 : Cond.instanceMethod ⟨"RopeRoundModel", "takes", "(II)I"⟩ ∈ tg := kt 1186 (by decide +kernel) (by decide +kernel)
theorem kw1185 : Cond.methodLink "RopeRoundLaw" 52 ⟨"RopeRoundModel", "takes", "(II)I"⟩ ∈ tg := kt 1185 (by decide +kernel) (by decide +kernel)
theorem kw1187 : Cond.selects "RopeRoundModel" ⟨"RopeRoundModel", "takes", "(II)I"⟩ ⟨"RopeRoundModel", "takes", "(II)I"⟩ ∈ tg := kt 1187 (by decide +kernel) (by decide +kernel)
theorem vk165 : ∀ ci y, (fun k => if k = 11 then some 168 else none) ci = some y → (∃ C T N, ClsOk ci C T N ∧ VOk mT "RopeRoundLaw" 52 C y 2) ∨ (ci = 201 ∧ VOk mT "RopeRoundLaw" 52 "java/lang/String" y 2) := by
  intro ci y h
  dsimp only at h
  by_cases h11 : ci = 11
  · subst h11
    have h := (Option.some.inj (by simpa using h)).symm
    subst h
    exact Or.inl ⟨_, _, _, okC11, ⟨mo168, kw1186, Or.inl ⟨rfl, kw1185, kw1187⟩⟩⟩
  rw [if_neg h11] at h
  cases h
set_option maxRecDepth 100000 in
theorem kw607 : Cond.code ⟨"RopeRound", "judge", "(IIII)I"⟩ prog_1_method_10_code 5 (some FieldType.int) ∈ tg := kt 607 rfl rfl
theorem mo90 : MOk (mT 90) 4 := ⟨kw607, kw1, by decide +kernel, by decide +kernel, by decide⟩
theorem kw605 : Cond.instanceMethod ⟨"RopeRound", "judge", "(IIII)I"⟩ ∈ tg := kt 605 (by decide +kernel) (by decide +kernel)
theorem kw604 : Cond.methodLink "RopeRoundLaw" 53 ⟨"RopeRound", "judge", "(IIII)I"⟩ ∈ tg := kt 604 (by decide +kernel) (by decide +kernel)
theorem kw606 : Cond.selects "RopeRound" ⟨"RopeRound", "judge", "(IIII)I"⟩ ⟨"RopeRound", "judge", "(IIII)I"⟩ ∈ tg := kt 606 (by decide +kernel) (by decide +kernel)
theorem vk166 : ∀ ci y, (fun k => if k = 10 then some 90 else none) ci = some y → (∃ C T N, ClsOk ci C T N ∧ VOk mT "RopeRoundLaw" 53 C y 4) ∨ (ci = 201 ∧ VOk mT "RopeRoundLaw" 53 "java/lang/String" y 4) := by
  intro ci y h
  dsimp only at h
  by_cases h10 : ci = 10
  · subst h10
    have h := (Option.some.inj (by simpa using h)).symm
    subst h
    exact Or.inl ⟨_, _, _, okC10, ⟨mo90, kw605, Or.inl ⟨rfl, kw604, kw606⟩⟩⟩
  rw [if_neg h10] at h
  cases h
set_option maxRecDepth 100000 in
theorem kw1205 : Cond.code ⟨"RopeRoundModel", "judge", "(IIII)I"⟩ prog_13_method_46_code 6 (some FieldType.int) ∈ tg := kt 1205 rfl rfl
theorem mo174 : MOk (mT 174) 4 := ⟨kw1205, kw12, by decide +kernel, by decide +kernel, by decide⟩
theorem kw1203 : Cond.instanceMethod ⟨"RopeRoundModel", "judge", "(IIII)I"⟩ ∈ tg := kt 1203 (by decide +kernel) (by decide +kernel)
theorem kw1202 : Cond.methodLink "RopeRoundLaw" 57 ⟨"RopeRoundModel", "judge", "(IIII)I"⟩ ∈ tg := kt 1202 (by decide +kernel) (by decide +kernel)
theorem kw1204 : Cond.selects "RopeRoundModel" ⟨"RopeRoundModel", "judge", "(IIII)I"⟩ ⟨"RopeRoundModel", "judge", "(IIII)I"⟩ ∈ tg := kt 1204 (by decide +kernel) (by decide +kernel)
theorem vk167 : ∀ ci y, (fun k => if k = 11 then some 174 else none) ci = some y → (∃ C T N, ClsOk ci C T N ∧ VOk mT "RopeRoundLaw" 57 C y 4) ∨ (ci = 201 ∧ VOk mT "RopeRoundLaw" 57 "java/lang/String" y 4) := by
  intro ci y h
  dsimp only at h
  by_cases h11 : ci = 11
  · subst h11
    have h := (Option.some.inj (by simpa using h)).symm
    subst h
    exact Or.inl ⟨_, _, _, okC11, ⟨mo174, kw1203, Or.inl ⟨rfl, kw1202, kw1204⟩⟩⟩
  rw [if_neg h11] at h
  cases h
set_option maxRecDepth 100000 in
theorem kw654 : Cond.code ⟨"RopeRound", "lay", "(IIII)I"⟩ prog_1_method_11_code 6 (some FieldType.int) ∈ tg := kt 654 rfl rfl
theorem mo91 : MOk (mT 91) 4 := ⟨kw654, kw1, by decide +kernel, by decide +kernel, by decide⟩
theorem kw652 : Cond.instanceMethod ⟨"RopeRound", "lay", "(IIII)I"⟩ ∈ tg := kt 652 (by decide +kernel) (by decide +kernel)
theorem kw651 : Cond.methodLink "RopeRoundLaw" 58 ⟨"RopeRound", "lay", "(IIII)I"⟩ ∈ tg := kt 651 (by decide +kernel) (by decide +kernel)
theorem kw653 : Cond.selects "RopeRound" ⟨"RopeRound", "lay", "(IIII)I"⟩ ⟨"RopeRound", "lay", "(IIII)I"⟩ ∈ tg := kt 653 (by decide +kernel) (by decide +kernel)
theorem vk168 : ∀ ci y, (fun k => if k = 10 then some 91 else none) ci = some y → (∃ C T N, ClsOk ci C T N ∧ VOk mT "RopeRoundLaw" 58 C y 4) ∨ (ci = 201 ∧ VOk mT "RopeRoundLaw" 58 "java/lang/String" y 4) := by
  intro ci y h
  dsimp only at h
  by_cases h10 : ci = 10
  · subst h10
    have h := (Option.some.inj (by simpa using h)).symm
    subst h
    exact Or.inl ⟨_, _, _, okC10, ⟨mo91, kw652, Or.inl ⟨rfl, kw651, kw653⟩⟩⟩
  rw [if_neg h10] at h
  cases h
set_option maxRecDepth 100000 in
theorem kw1237 : Cond.code ⟨"RopeRoundModel", "lay", "(IIII)I"⟩ prog_13_method_48_code 8 (some FieldType.int) ∈ tg := kt 1237 rfl rfl
theorem mo176 : MOk (mT 176) 4 := ⟨kw1237, kw12, by decide +kernel, by decide +kernel, by decide⟩
theorem kw1235 : Cond.instanceMethod ⟨"RopeRoundModel", "lay", "(IIII)I"⟩ ∈ tg := kt 1235 (by decide +kernel) (by decide +kernel)
theorem kw1234 : Cond.methodLink "RopeRoundLaw" 61 ⟨"RopeRoundModel", "lay", "(IIII)I"⟩ ∈ tg := kt 1234 (by decide +kernel) (by decide +kernel)
theorem kw1236 : Cond.selects "RopeRoundModel" ⟨"RopeRoundModel", "lay", "(IIII)I"⟩ ⟨"RopeRoundModel", "lay", "(IIII)I"⟩ ∈ tg := kt 1236 (by decide +kernel) (by decide +kernel)
theorem vk169 : ∀ ci y, (fun k => if k = 11 then some 176 else none) ci = some y → (∃ C T N, ClsOk ci C T N ∧ VOk mT "RopeRoundLaw" 61 C y 4) ∨ (ci = 201 ∧ VOk mT "RopeRoundLaw" 61 "java/lang/String" y 4) := by
  intro ci y h
  dsimp only at h
  by_cases h11 : ci = 11
  · subst h11
    have h := (Option.some.inj (by simpa using h)).symm
    subst h
    exact Or.inl ⟨_, _, _, okC11, ⟨mo176, kw1235, Or.inl ⟨rfl, kw1234, kw1236⟩⟩⟩
  rw [if_neg h11] at h
  cases h
set_option maxRecDepth 100000 in
theorem kw668 : Cond.code ⟨"RopeRound", "lift", "(I)I"⟩ prog_1_method_12_code 3 (some FieldType.int) ∈ tg := kt 668 rfl rfl
theorem mo92 : MOk (mT 92) 1 := ⟨kw668, kw1, by decide +kernel, by decide +kernel, by decide⟩
theorem kw666 : Cond.instanceMethod ⟨"RopeRound", "lift", "(I)I"⟩ ∈ tg := kt 666 (by decide +kernel) (by decide +kernel)
theorem kw665 : Cond.methodLink "RopeRoundLaw" 62 ⟨"RopeRound", "lift", "(I)I"⟩ ∈ tg := kt 665 (by decide +kernel) (by decide +kernel)
theorem kw667 : Cond.selects "RopeRound" ⟨"RopeRound", "lift", "(I)I"⟩ ⟨"RopeRound", "lift", "(I)I"⟩ ∈ tg := kt 667 (by decide +kernel) (by decide +kernel)
theorem vk170 : ∀ ci y, (fun k => if k = 10 then some 92 else none) ci = some y → (∃ C T N, ClsOk ci C T N ∧ VOk mT "RopeRoundLaw" 62 C y 1) ∨ (ci = 201 ∧ VOk mT "RopeRoundLaw" 62 "java/lang/String" y 1) := by
  intro ci y h
  dsimp only at h
  by_cases h10 : ci = 10
  · subst h10
    have h := (Option.some.inj (by simpa using h)).symm
    subst h
    exact Or.inl ⟨_, _, _, okC10, ⟨mo92, kw666, Or.inl ⟨rfl, kw665, kw667⟩⟩⟩
  rw [if_neg h10] at h
  cases h
set_option maxRecDepth 100000 in
theorem kw1246 : Cond.code ⟨"RopeRoundModel", "lift", "(I)I"⟩ prog_13_method_50_code 3 (some FieldType.int) ∈ tg := kt 1246 rfl rfl
theorem mo178 : MOk (mT 178) 1 := ⟨kw1246, kw12, by decide +kernel, by decide +kernel, by decide⟩
theorem kw1244 : Cond.instanceMethod ⟨"RopeRoundModel", "lift", "(I)I"⟩ ∈ tg := kt 1244 (by decide +kernel) (by decide +kernel)
theorem kw1243 : Cond.methodLink "RopeRoundLaw" 65 ⟨"RopeRoundModel", "lift", "(I)I"⟩ ∈ tg := kt 1243 (by decide +kernel) (by decide +kernel)
theorem kw1245 : Cond.selects "RopeRoundModel" ⟨"RopeRoundModel", "lift", "(I)I"⟩ ⟨"RopeRoundModel", "lift", "(I)I"⟩ ∈ tg := kt 1245 (by decide +kernel) (by decide +kernel)
theorem vk171 : ∀ ci y, (fun k => if k = 11 then some 178 else none) ci = some y → (∃ C T N, ClsOk ci C T N ∧ VOk mT "RopeRoundLaw" 65 C y 1) ∨ (ci = 201 ∧ VOk mT "RopeRoundLaw" 65 "java/lang/String" y 1) := by
  intro ci y h
  dsimp only at h
  by_cases h11 : ci = 11
  · subst h11
    have h := (Option.some.inj (by simpa using h)).symm
    subst h
    exact Or.inl ⟨_, _, _, okC11, ⟨mo178, kw1244, Or.inl ⟨rfl, kw1243, kw1245⟩⟩⟩
  rw [if_neg h11] at h
  cases h
set_option maxRecDepth 100000 in
theorem kw672 : Cond.code ⟨"RopeRound", "man", "(II)I"⟩ prog_1_method_13_code 3 (some FieldType.int) ∈ tg := kt 672 rfl rfl
theorem mo93 : MOk (mT 93) 2 := ⟨kw672, kw1, by decide +kernel, by decide +kernel, by decide⟩
theorem kw670 : Cond.instanceMethod ⟨"RopeRound", "man", "(II)I"⟩ ∈ tg := kt 670 (by decide +kernel) (by decide +kernel)
theorem kw669 : Cond.methodLink "RopeRoundLaw" 66 ⟨"RopeRound", "man", "(II)I"⟩ ∈ tg := kt 669 (by decide +kernel) (by decide +kernel)
theorem kw671 : Cond.selects "RopeRound" ⟨"RopeRound", "man", "(II)I"⟩ ⟨"RopeRound", "man", "(II)I"⟩ ∈ tg := kt 671 (by decide +kernel) (by decide +kernel)
theorem vk172 : ∀ ci y, (fun k => if k = 10 then some 93 else none) ci = some y → (∃ C T N, ClsOk ci C T N ∧ VOk mT "RopeRoundLaw" 66 C y 2) ∨ (ci = 201 ∧ VOk mT "RopeRoundLaw" 66 "java/lang/String" y 2) := by
  intro ci y h
  dsimp only at h
  by_cases h10 : ci = 10
  · subst h10
    have h := (Option.some.inj (by simpa using h)).symm
    subst h
    exact Or.inl ⟨_, _, _, okC10, ⟨mo93, kw670, Or.inl ⟨rfl, kw669, kw671⟩⟩⟩
  rw [if_neg h10] at h
  cases h
set_option maxRecDepth 100000 in
theorem kw1254 : Cond.code ⟨"RopeRoundModel", "man", "(II)I"⟩ prog_13_method_51_code 3 (some FieldType.int) ∈ tg := kt 1254 rfl rfl
theorem mo179 : MOk (mT 179) 2 := ⟨kw1254, kw12, by decide +kernel, by decide +kernel, by decide⟩
theorem kw1252 : Cond.instanceMethod ⟨"RopeRoundModel", "man", "(II)I"⟩ ∈ tg := kt 1252 (by decide +kernel) (by decide +kernel)
theorem kw1251 : Cond.methodLink "RopeRoundLaw" 69 ⟨"RopeRoundModel", "man", "(II)I"⟩ ∈ tg := kt 1251 (by decide +kernel) (by decide +kernel)
theorem kw1253 : Cond.selects "RopeRoundModel" ⟨"RopeRoundModel", "man", "(II)I"⟩ ⟨"RopeRoundModel", "man", "(II)I"⟩ ∈ tg := kt 1253 (by decide +kernel) (by decide +kernel)
theorem vk173 : ∀ ci y, (fun k => if k = 11 then some 179 else none) ci = some y → (∃ C T N, ClsOk ci C T N ∧ VOk mT "RopeRoundLaw" 69 C y 2) ∨ (ci = 201 ∧ VOk mT "RopeRoundLaw" 69 "java/lang/String" y 2) := by
  intro ci y h
  dsimp only at h
  by_cases h11 : ci = 11
  · subst h11
    have h := (Option.some.inj (by simpa using h)).symm
    subst h
    exact Or.inl ⟨_, _, _, okC11, ⟨mo179, kw1252, Or.inl ⟨rfl, kw1251, kw1253⟩⟩⟩
  rw [if_neg h11] at h
  cases h
set_option maxRecDepth 100000 in
theorem kw677 : Cond.code ⟨"RopeRound", "whose", "(I)I"⟩ prog_1_method_14_code 2 (some FieldType.int) ∈ tg := kt 677 rfl rfl
theorem mo94 : MOk (mT 94) 1 := ⟨kw677, kw1, by decide +kernel, by decide +kernel, by decide⟩
theorem kw675 : Cond.instanceMethod ⟨"RopeRound", "whose", "(I)I"⟩ ∈ tg := kt 675 (by decide +kernel) (by decide +kernel)
theorem kw674 : Cond.methodLink "RopeRoundLaw" 70 ⟨"RopeRound", "whose", "(I)I"⟩ ∈ tg := kt 674 (by decide +kernel) (by decide +kernel)
theorem kw676 : Cond.selects "RopeRound" ⟨"RopeRound", "whose", "(I)I"⟩ ⟨"RopeRound", "whose", "(I)I"⟩ ∈ tg := kt 676 (by decide +kernel) (by decide +kernel)
theorem vk174 : ∀ ci y, (fun k => if k = 10 then some 94 else none) ci = some y → (∃ C T N, ClsOk ci C T N ∧ VOk mT "RopeRoundLaw" 70 C y 1) ∨ (ci = 201 ∧ VOk mT "RopeRoundLaw" 70 "java/lang/String" y 1) := by
  intro ci y h
  dsimp only at h
  by_cases h10 : ci = 10
  · subst h10
    have h := (Option.some.inj (by simpa using h)).symm
    subst h
    exact Or.inl ⟨_, _, _, okC10, ⟨mo94, kw675, Or.inl ⟨rfl, kw674, kw676⟩⟩⟩
  rw [if_neg h10] at h
  cases h
set_option maxRecDepth 100000 in
theorem kw1261 : Cond.code ⟨"RopeRoundModel", "whose", "(I)I"⟩ prog_13_method_52_code 2 (some FieldType.int) ∈ tg := kt 1261 rfl rfl
theorem mo180 : MOk (mT 180) 1 := ⟨kw1261, kw12, by decide +kernel, by decide +kernel, by decide⟩
theorem kw1259 : Cond.instanceMethod ⟨"RopeRoundModel", "whose", "(I)I"⟩ ∈ tg := kt 1259 (by decide +kernel) (by decide +kernel)
theorem kw1258 : Cond.methodLink "RopeRoundLaw" 73 ⟨"RopeRoundModel", "whose", "(I)I"⟩ ∈ tg := kt 1258 (by decide +kernel) (by decide +kernel)
theorem kw1260 : Cond.selects "RopeRoundModel" ⟨"RopeRoundModel", "whose", "(I)I"⟩ ⟨"RopeRoundModel", "whose", "(I)I"⟩ ∈ tg := kt 1260 (by decide +kernel) (by decide +kernel)
theorem vk175 : ∀ ci y, (fun k => if k = 11 then some 180 else none) ci = some y → (∃ C T N, ClsOk ci C T N ∧ VOk mT "RopeRoundLaw" 73 C y 1) ∨ (ci = 201 ∧ VOk mT "RopeRoundLaw" 73 "java/lang/String" y 1) := by
  intro ci y h
  dsimp only at h
  by_cases h11 : ci = 11
  · subst h11
    have h := (Option.some.inj (by simpa using h)).symm
    subst h
    exact Or.inl ⟨_, _, _, okC11, ⟨mo180, kw1259, Or.inl ⟨rfl, kw1258, kw1260⟩⟩⟩
  rw [if_neg h11] at h
  cases h
set_option maxRecDepth 100000 in
theorem kw693 : Cond.code ⟨"RopeRound", "most", "(III)I"⟩ prog_1_method_15_code 6 (some FieldType.int) ∈ tg := kt 693 rfl rfl
theorem mo95 : MOk (mT 95) 3 := ⟨kw693, kw1, by decide +kernel, by decide +kernel, by decide⟩
theorem kw691 : Cond.instanceMethod ⟨"RopeRound", "most", "(III)I"⟩ ∈ tg := kt 691 (by decide +kernel) (by decide +kernel)
theorem kw690 : Cond.methodLink "RopeRoundLaw" 74 ⟨"RopeRound", "most", "(III)I"⟩ ∈ tg := kt 690 (by decide +kernel) (by decide +kernel)
theorem kw692 : Cond.selects "RopeRound" ⟨"RopeRound", "most", "(III)I"⟩ ⟨"RopeRound", "most", "(III)I"⟩ ∈ tg := kt 692 (by decide +kernel) (by decide +kernel)
theorem vk176 : ∀ ci y, (fun k => if k = 10 then some 95 else none) ci = some y → (∃ C T N, ClsOk ci C T N ∧ VOk mT "RopeRoundLaw" 74 C y 3) ∨ (ci = 201 ∧ VOk mT "RopeRoundLaw" 74 "java/lang/String" y 3) := by
  intro ci y h
  dsimp only at h
  by_cases h10 : ci = 10
  · subst h10
    have h := (Option.some.inj (by simpa using h)).symm
    subst h
    exact Or.inl ⟨_, _, _, okC10, ⟨mo95, kw691, Or.inl ⟨rfl, kw690, kw692⟩⟩⟩
  rw [if_neg h10] at h
  cases h
set_option maxRecDepth 100000 in
theorem kw1269 : Cond.code ⟨"RopeRoundModel", "most", "(III)I"⟩ prog_13_method_59_code 5 (some FieldType.int) ∈ tg := kt 1269 rfl rfl
theorem mo187 : MOk (mT 187) 3 := ⟨kw1269, kw12, by decide +kernel, by decide +kernel, by decide⟩
theorem kw1267 : Cond.instanceMethod ⟨"RopeRoundModel", "most", "(III)I"⟩ ∈ tg := kt 1267 (by decide +kernel) (by decide +kernel)
theorem kw1266 : Cond.methodLink "RopeRoundLaw" 77 ⟨"RopeRoundModel", "most", "(III)I"⟩ ∈ tg := kt 1266 (by decide +kernel) (by decide +kernel)
theorem kw1268 : Cond.selects "RopeRoundModel" ⟨"RopeRoundModel", "most", "(III)I"⟩ ⟨"RopeRoundModel", "most", "(III)I"⟩ ∈ tg := kt 1268 (by decide +kernel) (by decide +kernel)
theorem vk177 : ∀ ci y, (fun k => if k = 11 then some 187 else none) ci = some y → (∃ C T N, ClsOk ci C T N ∧ VOk mT "RopeRoundLaw" 77 C y 3) ∨ (ci = 201 ∧ VOk mT "RopeRoundLaw" 77 "java/lang/String" y 3) := by
  intro ci y h
  dsimp only at h
  by_cases h11 : ci = 11
  · subst h11
    have h := (Option.some.inj (by simpa using h)).symm
    subst h
    exact Or.inl ⟨_, _, _, okC11, ⟨mo187, kw1267, Or.inl ⟨rfl, kw1266, kw1268⟩⟩⟩
  rw [if_neg h11] at h
  cases h
set_option maxRecDepth 100000 in
theorem kw755 : Cond.code ⟨"RopeRound", "tied", "(I)I"⟩ prog_1_method_16_code 2 (some FieldType.int) ∈ tg := kt 755 rfl rfl
theorem mo96 : MOk (mT 96) 1 := ⟨kw755, kw1, by decide +kernel, by decide +kernel, by decide⟩
theorem kw753 : Cond.instanceMethod ⟨"RopeRound", "tied", "(I)I"⟩ ∈ tg := kt 753 (by decide +kernel) (by decide +kernel)
theorem kw752 : Cond.methodLink "RopeRoundLaw" 78 ⟨"RopeRound", "tied", "(I)I"⟩ ∈ tg := kt 752 (by decide +kernel) (by decide +kernel)
theorem kw754 : Cond.selects "RopeRound" ⟨"RopeRound", "tied", "(I)I"⟩ ⟨"RopeRound", "tied", "(I)I"⟩ ∈ tg := kt 754 (by decide +kernel) (by decide +kernel)
theorem vk178 : ∀ ci y, (fun k => if k = 10 then some 96 else none) ci = some y → (∃ C T N, ClsOk ci C T N ∧ VOk mT "RopeRoundLaw" 78 C y 1) ∨ (ci = 201 ∧ VOk mT "RopeRoundLaw" 78 "java/lang/String" y 1) := by
  intro ci y h
  dsimp only at h
  by_cases h10 : ci = 10
  · subst h10
    have h := (Option.some.inj (by simpa using h)).symm
    subst h
    exact Or.inl ⟨_, _, _, okC10, ⟨mo96, kw753, Or.inl ⟨rfl, kw752, kw754⟩⟩⟩
  rw [if_neg h10] at h
  cases h
set_option maxRecDepth 100000 in
theorem kw1297 : Cond.code ⟨"RopeRoundModel", "tied", "(I)I"⟩ prog_13_method_62_code 2 (some FieldType.int) ∈ tg := kt 1297 rfl rfl
theorem mo190 : MOk (mT 190) 1 := ⟨kw1297, kw12, by decide +kernel, by decide +kernel, by decide⟩
theorem kw1295 : Cond.instanceMethod ⟨"RopeRoundModel", "tied", "(I)I"⟩ ∈ tg := kt 1295 (by decide +kernel) (by decide +kernel)
theorem kw1294 : Cond.methodLink "RopeRoundLaw" 81 ⟨"RopeRoundModel", "tied", "(I)I"⟩ ∈ tg := kt 1294 (by decide +kernel) (by decide +kernel)
theorem kw1296 : Cond.selects "RopeRoundModel" ⟨"RopeRoundModel", "tied", "(I)I"⟩ ⟨"RopeRoundModel", "tied", "(I)I"⟩ ∈ tg := kt 1296 (by decide +kernel) (by decide +kernel)
theorem vk179 : ∀ ci y, (fun k => if k = 11 then some 190 else none) ci = some y → (∃ C T N, ClsOk ci C T N ∧ VOk mT "RopeRoundLaw" 81 C y 1) ∨ (ci = 201 ∧ VOk mT "RopeRoundLaw" 81 "java/lang/String" y 1) := by
  intro ci y h
  dsimp only at h
  by_cases h11 : ci = 11
  · subst h11
    have h := (Option.some.inj (by simpa using h)).symm
    subst h
    exact Or.inl ⟨_, _, _, okC11, ⟨mo190, kw1295, Or.inl ⟨rfl, kw1294, kw1296⟩⟩⟩
  rw [if_neg h11] at h
  cases h
set_option maxRecDepth 100000 in
theorem kw779 : Cond.code ⟨"RopeRound", "shares", "(I)I"⟩ prog_1_method_17_code 3 (some FieldType.int) ∈ tg := kt 779 rfl rfl
theorem mo97 : MOk (mT 97) 1 := ⟨kw779, kw1, by decide +kernel, by decide +kernel, by decide⟩
theorem kw777 : Cond.instanceMethod ⟨"RopeRound", "shares", "(I)I"⟩ ∈ tg := kt 777 (by decide +kernel) (by decide +kernel)
theorem kw776 : Cond.methodLink "RopeRoundLaw" 82 ⟨"RopeRound", "shares", "(I)I"⟩ ∈ tg := kt 776 (by decide +kernel) (by decide +kernel)
theorem kw778 : Cond.selects "RopeRound" ⟨"RopeRound", "shares", "(I)I"⟩ ⟨"RopeRound", "shares", "(I)I"⟩ ∈ tg := kt 778 (by decide +kernel) (by decide +kernel)
theorem vk180 : ∀ ci y, (fun k => if k = 10 then some 97 else none) ci = some y → (∃ C T N, ClsOk ci C T N ∧ VOk mT "RopeRoundLaw" 82 C y 1) ∨ (ci = 201 ∧ VOk mT "RopeRoundLaw" 82 "java/lang/String" y 1) := by
  intro ci y h
  dsimp only at h
  by_cases h10 : ci = 10
  · subst h10
    have h := (Option.some.inj (by simpa using h)).symm
    subst h
    exact Or.inl ⟨_, _, _, okC10, ⟨mo97, kw777, Or.inl ⟨rfl, kw776, kw778⟩⟩⟩
  rw [if_neg h10] at h
  cases h
set_option maxRecDepth 100000 in
theorem kw1308 : Cond.code ⟨"RopeRoundModel", "shares", "(I)I"⟩ prog_13_method_63_code 8 (some FieldType.int) ∈ tg := kt 1308 rfl rfl
theorem mo191 : MOk (mT 191) 1 := ⟨kw1308, kw12, by decide +kernel, by decide +kernel, by decide⟩
theorem kw1306 : Cond.instanceMethod ⟨"RopeRoundModel", "shares", "(I)I"⟩ ∈ tg := kt 1306 (by decide +kernel) (by decide +kernel)
theorem kw1305 : Cond.methodLink "RopeRoundLaw" 85 ⟨"RopeRoundModel", "shares", "(I)I"⟩ ∈ tg := kt 1305 (by decide +kernel) (by decide +kernel)
theorem kw1307 : Cond.selects "RopeRoundModel" ⟨"RopeRoundModel", "shares", "(I)I"⟩ ⟨"RopeRoundModel", "shares", "(I)I"⟩ ∈ tg := kt 1307 (by decide +kernel) (by decide +kernel)
theorem vk181 : ∀ ci y, (fun k => if k = 11 then some 191 else none) ci = some y → (∃ C T N, ClsOk ci C T N ∧ VOk mT "RopeRoundLaw" 85 C y 1) ∨ (ci = 201 ∧ VOk mT "RopeRoundLaw" 85 "java/lang/String" y 1) := by
  intro ci y h
  dsimp only at h
  by_cases h11 : ci = 11
  · subst h11
    have h := (Option.some.inj (by simpa using h)).symm
    subst h
    exact Or.inl ⟨_, _, _, okC11, ⟨mo191, kw1306, Or.inl ⟨rfl, kw1305, kw1307⟩⟩⟩
  rw [if_neg h11] at h
  cases h
set_option maxRecDepth 100000 in
theorem kw798 : Cond.code ⟨"RopeRound", "least", "(III)I"⟩ prog_1_method_18_code 11 (some FieldType.int) ∈ tg := kt 798 rfl rfl
theorem mo98 : MOk (mT 98) 3 := ⟨kw798, kw1, by decide +kernel, by decide +kernel, by decide⟩
theorem kw796 : Cond.instanceMethod ⟨"RopeRound", "least", "(III)I"⟩ ∈ tg := kt 796 (by decide +kernel) (by decide +kernel)
theorem kw795 : Cond.methodLink "RopeRoundLaw" 86 ⟨"RopeRound", "least", "(III)I"⟩ ∈ tg := kt 795 (by decide +kernel) (by decide +kernel)
theorem kw797 : Cond.selects "RopeRound" ⟨"RopeRound", "least", "(III)I"⟩ ⟨"RopeRound", "least", "(III)I"⟩ ∈ tg := kt 797 (by decide +kernel) (by decide +kernel)
theorem vk182 : ∀ ci y, (fun k => if k = 10 then some 98 else none) ci = some y → (∃ C T N, ClsOk ci C T N ∧ VOk mT "RopeRoundLaw" 86 C y 3) ∨ (ci = 201 ∧ VOk mT "RopeRoundLaw" 86 "java/lang/String" y 3) := by
  intro ci y h
  dsimp only at h
  by_cases h10 : ci = 10
  · subst h10
    have h := (Option.some.inj (by simpa using h)).symm
    subst h
    exact Or.inl ⟨_, _, _, okC10, ⟨mo98, kw796, Or.inl ⟨rfl, kw795, kw797⟩⟩⟩
  rw [if_neg h10] at h
  cases h
set_option maxRecDepth 100000 in
theorem kw1312 : Cond.code ⟨"RopeRoundModel", "least", "(III)I"⟩ prog_13_method_64_code 10 (some FieldType.int) ∈ tg := kt 1312 rfl rfl
theorem mo192 : MOk (mT 192) 3 := ⟨kw1312, kw12, by decide +kernel, by decide +kernel, by decide⟩
theorem kw1310 : Cond.instanceMethod ⟨"RopeRoundModel", "least", "(III)I"⟩ ∈ tg := kt 1310 (by decide +kernel) (by decide +kernel)
theorem kw1309 : Cond.methodLink "RopeRoundLaw" 89 ⟨"RopeRoundModel", "least", "(III)I"⟩ ∈ tg := kt 1309 (by decide +kernel) (by decide +kernel)
theorem kw1311 : Cond.selects "RopeRoundModel" ⟨"RopeRoundModel", "least", "(III)I"⟩ ⟨"RopeRoundModel", "least", "(III)I"⟩ ∈ tg := kt 1311 (by decide +kernel) (by decide +kernel)
theorem vk183 : ∀ ci y, (fun k => if k = 11 then some 192 else none) ci = some y → (∃ C T N, ClsOk ci C T N ∧ VOk mT "RopeRoundLaw" 89 C y 3) ∨ (ci = 201 ∧ VOk mT "RopeRoundLaw" 89 "java/lang/String" y 3) := by
  intro ci y h
  dsimp only at h
  by_cases h11 : ci = 11
  · subst h11
    have h := (Option.some.inj (by simpa using h)).symm
    subst h
    exact Or.inl ⟨_, _, _, okC11, ⟨mo192, kw1310, Or.inl ⟨rfl, kw1309, kw1311⟩⟩⟩
  rw [if_neg h11] at h
  cases h
set_option maxRecDepth 100000 in
theorem kw815 : Cond.code ⟨"RopeRound", "wet", "(II)I"⟩ prog_1_method_19_code 5 (some FieldType.int) ∈ tg := kt 815 rfl rfl
theorem mo99 : MOk (mT 99) 2 := ⟨kw815, kw1, by decide +kernel, by decide +kernel, by decide⟩
theorem kw813 : Cond.instanceMethod ⟨"RopeRound", "wet", "(II)I"⟩ ∈ tg := kt 813 (by decide +kernel) (by decide +kernel)
theorem kw812 : Cond.methodLink "RopeRoundLaw" 90 ⟨"RopeRound", "wet", "(II)I"⟩ ∈ tg := kt 812 (by decide +kernel) (by decide +kernel)
theorem kw814 : Cond.selects "RopeRound" ⟨"RopeRound", "wet", "(II)I"⟩ ⟨"RopeRound", "wet", "(II)I"⟩ ∈ tg := kt 814 (by decide +kernel) (by decide +kernel)
theorem vk184 : ∀ ci y, (fun k => if k = 10 then some 99 else none) ci = some y → (∃ C T N, ClsOk ci C T N ∧ VOk mT "RopeRoundLaw" 90 C y 2) ∨ (ci = 201 ∧ VOk mT "RopeRoundLaw" 90 "java/lang/String" y 2) := by
  intro ci y h
  dsimp only at h
  by_cases h10 : ci = 10
  · subst h10
    have h := (Option.some.inj (by simpa using h)).symm
    subst h
    exact Or.inl ⟨_, _, _, okC10, ⟨mo99, kw813, Or.inl ⟨rfl, kw812, kw814⟩⟩⟩
  rw [if_neg h10] at h
  cases h
set_option maxRecDepth 100000 in
theorem kw1316 : Cond.code ⟨"RopeRoundModel", "wet", "(II)I"⟩ prog_13_method_65_code 6 (some FieldType.int) ∈ tg := kt 1316 rfl rfl
theorem mo193 : MOk (mT 193) 2 := ⟨kw1316, kw12, by decide +kernel, by decide +kernel, by decide⟩
theorem kw1314 : Cond.instanceMethod ⟨"RopeRoundModel", "wet", "(II)I"⟩ ∈ tg := kt 1314 (by decide +kernel) (by decide +kernel)
theorem kw1313 : Cond.methodLink "RopeRoundLaw" 93 ⟨"RopeRoundModel", "wet", "(II)I"⟩ ∈ tg := kt 1313 (by decide +kernel) (by decide +kernel)
theorem kw1315 : Cond.selects "RopeRoundModel" ⟨"RopeRoundModel", "wet", "(II)I"⟩ ⟨"RopeRoundModel", "wet", "(II)I"⟩ ∈ tg := kt 1315 (by decide +kernel) (by decide +kernel)
theorem vk185 : ∀ ci y, (fun k => if k = 11 then some 193 else none) ci = some y → (∃ C T N, ClsOk ci C T N ∧ VOk mT "RopeRoundLaw" 93 C y 2) ∨ (ci = 201 ∧ VOk mT "RopeRoundLaw" 93 "java/lang/String" y 2) := by
  intro ci y h
  dsimp only at h
  by_cases h11 : ci = 11
  · subst h11
    have h := (Option.some.inj (by simpa using h)).symm
    subst h
    exact Or.inl ⟨_, _, _, okC11, ⟨mo193, kw1314, Or.inl ⟨rfl, kw1313, kw1315⟩⟩⟩
  rw [if_neg h11] at h
  cases h
set_option maxRecDepth 100000 in
theorem kw819 : Cond.code ⟨"RopeRound", "found", "(IIII)I"⟩ prog_1_method_20_code 6 (some FieldType.int) ∈ tg := kt 819 rfl rfl
theorem mo100 : MOk (mT 100) 4 := ⟨kw819, kw1, by decide +kernel, by decide +kernel, by decide⟩
theorem kw817 : Cond.instanceMethod ⟨"RopeRound", "found", "(IIII)I"⟩ ∈ tg := kt 817 (by decide +kernel) (by decide +kernel)
theorem kw816 : Cond.methodLink "RopeRoundLaw" 94 ⟨"RopeRound", "found", "(IIII)I"⟩ ∈ tg := kt 816 (by decide +kernel) (by decide +kernel)
theorem kw818 : Cond.selects "RopeRound" ⟨"RopeRound", "found", "(IIII)I"⟩ ⟨"RopeRound", "found", "(IIII)I"⟩ ∈ tg := kt 818 (by decide +kernel) (by decide +kernel)
theorem vk186 : ∀ ci y, (fun k => if k = 10 then some 100 else none) ci = some y → (∃ C T N, ClsOk ci C T N ∧ VOk mT "RopeRoundLaw" 94 C y 4) ∨ (ci = 201 ∧ VOk mT "RopeRoundLaw" 94 "java/lang/String" y 4) := by
  intro ci y h
  dsimp only at h
  by_cases h10 : ci = 10
  · subst h10
    have h := (Option.some.inj (by simpa using h)).symm
    subst h
    exact Or.inl ⟨_, _, _, okC10, ⟨mo100, kw817, Or.inl ⟨rfl, kw816, kw818⟩⟩⟩
  rw [if_neg h10] at h
  cases h
set_option maxRecDepth 100000 in
theorem kw1321 : Cond.code ⟨"RopeRoundModel", "found", "(IIII)I"⟩ prog_13_method_67_code 8 (some FieldType.int) ∈ tg := kt 1321 rfl rfl
theorem mo195 : MOk (mT 195) 4 := ⟨kw1321, kw12, by decide +kernel, by decide +kernel, by decide⟩
theorem kw1319 : Cond.instanceMethod ⟨"RopeRoundModel", "found", "(IIII)I"⟩ ∈ tg := kt 1319 (by decide +kernel) (by decide +kernel)
theorem kw1318 : Cond.methodLink "RopeRoundLaw" 97 ⟨"RopeRoundModel", "found", "(IIII)I"⟩ ∈ tg := kt 1318 (by decide +kernel) (by decide +kernel)
theorem kw1320 : Cond.selects "RopeRoundModel" ⟨"RopeRoundModel", "found", "(IIII)I"⟩ ⟨"RopeRoundModel", "found", "(IIII)I"⟩ ∈ tg := kt 1320 (by decide +kernel) (by decide +kernel)
theorem vk187 : ∀ ci y, (fun k => if k = 11 then some 195 else none) ci = some y → (∃ C T N, ClsOk ci C T N ∧ VOk mT "RopeRoundLaw" 97 C y 4) ∨ (ci = 201 ∧ VOk mT "RopeRoundLaw" 97 "java/lang/String" y 4) := by
  intro ci y h
  dsimp only at h
  by_cases h11 : ci = 11
  · subst h11
    have h := (Option.some.inj (by simpa using h)).symm
    subst h
    exact Or.inl ⟨_, _, _, okC11, ⟨mo195, kw1319, Or.inl ⟨rfl, kw1318, kw1320⟩⟩⟩
  rw [if_neg h11] at h
  cases h
set_option maxRecDepth 100000 in
theorem kw837 : Cond.code ⟨"RopeRound", "image", "(I)I"⟩ prog_1_method_21_code 2 (some FieldType.int) ∈ tg := kt 837 rfl rfl
theorem mo101 : MOk (mT 101) 1 := ⟨kw837, kw1, by decide +kernel, by decide +kernel, by decide⟩
theorem kw835 : Cond.instanceMethod ⟨"RopeRound", "image", "(I)I"⟩ ∈ tg := kt 835 (by decide +kernel) (by decide +kernel)
theorem kw834 : Cond.methodLink "RopeRoundLaw" 98 ⟨"RopeRound", "image", "(I)I"⟩ ∈ tg := kt 834 (by decide +kernel) (by decide +kernel)
theorem kw836 : Cond.selects "RopeRound" ⟨"RopeRound", "image", "(I)I"⟩ ⟨"RopeRound", "image", "(I)I"⟩ ∈ tg := kt 836 (by decide +kernel) (by decide +kernel)
theorem vk188 : ∀ ci y, (fun k => if k = 10 then some 101 else none) ci = some y → (∃ C T N, ClsOk ci C T N ∧ VOk mT "RopeRoundLaw" 98 C y 1) ∨ (ci = 201 ∧ VOk mT "RopeRoundLaw" 98 "java/lang/String" y 1) := by
  intro ci y h
  dsimp only at h
  by_cases h10 : ci = 10
  · subst h10
    have h := (Option.some.inj (by simpa using h)).symm
    subst h
    exact Or.inl ⟨_, _, _, okC10, ⟨mo101, kw835, Or.inl ⟨rfl, kw834, kw836⟩⟩⟩
  rw [if_neg h10] at h
  cases h
set_option maxRecDepth 100000 in
theorem kw1330 : Cond.code ⟨"RopeRoundModel", "image", "(I)I"⟩ prog_13_method_68_code 3 (some FieldType.int) ∈ tg := kt 1330 rfl rfl
theorem mo196 : MOk (mT 196) 1 := ⟨kw1330, kw12, by decide +kernel, by decide +kernel, by decide⟩
theorem kw1328 : Cond.instanceMethod ⟨"RopeRoundModel", "image", "(I)I"⟩ ∈ tg := kt 1328 (by decide +kernel) (by decide +kernel)
theorem kw1327 : Cond.methodLink "RopeRoundLaw" 101 ⟨"RopeRoundModel", "image", "(I)I"⟩ ∈ tg := kt 1327 (by decide +kernel) (by decide +kernel)
theorem kw1329 : Cond.selects "RopeRoundModel" ⟨"RopeRoundModel", "image", "(I)I"⟩ ⟨"RopeRoundModel", "image", "(I)I"⟩ ∈ tg := kt 1329 (by decide +kernel) (by decide +kernel)
theorem vk189 : ∀ ci y, (fun k => if k = 11 then some 196 else none) ci = some y → (∃ C T N, ClsOk ci C T N ∧ VOk mT "RopeRoundLaw" 101 C y 1) ∨ (ci = 201 ∧ VOk mT "RopeRoundLaw" 101 "java/lang/String" y 1) := by
  intro ci y h
  dsimp only at h
  by_cases h11 : ci = 11
  · subst h11
    have h := (Option.some.inj (by simpa using h)).symm
    subst h
    exact Or.inl ⟨_, _, _, okC11, ⟨mo196, kw1328, Or.inl ⟨rfl, kw1327, kw1329⟩⟩⟩
  rw [if_neg h11] at h
  cases h
set_option maxRecDepth 100000 in
theorem kw842 : Cond.code ⟨"RopeRound", "restore", "(I)I"⟩ prog_1_method_22_code 2 (some FieldType.int) ∈ tg := kt 842 rfl rfl
theorem mo102 : MOk (mT 102) 1 := ⟨kw842, kw1, by decide +kernel, by decide +kernel, by decide⟩
theorem kw840 : Cond.instanceMethod ⟨"RopeRound", "restore", "(I)I"⟩ ∈ tg := kt 840 (by decide +kernel) (by decide +kernel)
theorem kw839 : Cond.methodLink "RopeRoundLaw" 102 ⟨"RopeRound", "restore", "(I)I"⟩ ∈ tg := kt 839 (by decide +kernel) (by decide +kernel)
theorem kw841 : Cond.selects "RopeRound" ⟨"RopeRound", "restore", "(I)I"⟩ ⟨"RopeRound", "restore", "(I)I"⟩ ∈ tg := kt 841 (by decide +kernel) (by decide +kernel)
theorem vk190 : ∀ ci y, (fun k => if k = 10 then some 102 else none) ci = some y → (∃ C T N, ClsOk ci C T N ∧ VOk mT "RopeRoundLaw" 102 C y 1) ∨ (ci = 201 ∧ VOk mT "RopeRoundLaw" 102 "java/lang/String" y 1) := by
  intro ci y h
  dsimp only at h
  by_cases h10 : ci = 10
  · subst h10
    have h := (Option.some.inj (by simpa using h)).symm
    subst h
    exact Or.inl ⟨_, _, _, okC10, ⟨mo102, kw840, Or.inl ⟨rfl, kw839, kw841⟩⟩⟩
  rw [if_neg h10] at h
  cases h
set_option maxRecDepth 100000 in
theorem kw1334 : Cond.code ⟨"RopeRoundModel", "restore", "(I)I"⟩ prog_13_method_69_code 3 (some FieldType.int) ∈ tg := kt 1334 rfl rfl
theorem mo197 : MOk (mT 197) 1 := ⟨kw1334, kw12, by decide +kernel, by decide +kernel, by decide⟩
theorem kw1332 : Cond.instanceMethod ⟨"RopeRoundModel", "restore", "(I)I"⟩ ∈ tg := kt 1332 (by decide +kernel) (by decide +kernel)
theorem kw1331 : Cond.methodLink "RopeRoundLaw" 105 ⟨"RopeRoundModel", "restore", "(I)I"⟩ ∈ tg := kt 1331 (by decide +kernel) (by decide +kernel)
theorem kw1333 : Cond.selects "RopeRoundModel" ⟨"RopeRoundModel", "restore", "(I)I"⟩ ⟨"RopeRoundModel", "restore", "(I)I"⟩ ∈ tg := kt 1333 (by decide +kernel) (by decide +kernel)
theorem vk191 : ∀ ci y, (fun k => if k = 11 then some 197 else none) ci = some y → (∃ C T N, ClsOk ci C T N ∧ VOk mT "RopeRoundLaw" 105 C y 1) ∨ (ci = 201 ∧ VOk mT "RopeRoundLaw" 105 "java/lang/String" y 1) := by
  intro ci y h
  dsimp only at h
  by_cases h11 : ci = 11
  · subst h11
    have h := (Option.some.inj (by simpa using h)).symm
    subst h
    exact Or.inl ⟨_, _, _, okC11, ⟨mo197, kw1332, Or.inl ⟨rfl, kw1331, kw1333⟩⟩⟩
  rw [if_neg h11] at h
  cases h
set_option maxRecDepth 100000 in
theorem kw846 : Cond.code ⟨"RopeRound", "kind", "(I)I"⟩ prog_1_method_23_code 2 (some FieldType.int) ∈ tg := kt 846 rfl rfl
theorem mo103 : MOk (mT 103) 1 := ⟨kw846, kw1, by decide +kernel, by decide +kernel, by decide⟩
theorem kw844 : Cond.instanceMethod ⟨"RopeRound", "kind", "(I)I"⟩ ∈ tg := kt 844 (by decide +kernel) (by decide +kernel)
theorem kw843 : Cond.methodLink "RopeRoundLaw" 106 ⟨"RopeRound", "kind", "(I)I"⟩ ∈ tg := kt 843 (by decide +kernel) (by decide +kernel)
theorem kw845 : Cond.selects "RopeRound" ⟨"RopeRound", "kind", "(I)I"⟩ ⟨"RopeRound", "kind", "(I)I"⟩ ∈ tg := kt 845 (by decide +kernel) (by decide +kernel)
theorem vk192 : ∀ ci y, (fun k => if k = 10 then some 103 else none) ci = some y → (∃ C T N, ClsOk ci C T N ∧ VOk mT "RopeRoundLaw" 106 C y 1) ∨ (ci = 201 ∧ VOk mT "RopeRoundLaw" 106 "java/lang/String" y 1) := by
  intro ci y h
  dsimp only at h
  by_cases h10 : ci = 10
  · subst h10
    have h := (Option.some.inj (by simpa using h)).symm
    subst h
    exact Or.inl ⟨_, _, _, okC10, ⟨mo103, kw844, Or.inl ⟨rfl, kw843, kw845⟩⟩⟩
  rw [if_neg h10] at h
  cases h
set_option maxRecDepth 100000 in
theorem kw1338 : Cond.code ⟨"RopeRoundModel", "kind", "(I)I"⟩ prog_13_method_72_code 2 (some FieldType.int) ∈ tg := kt 1338 rfl rfl
theorem mo200 : MOk (mT 200) 1 := ⟨kw1338, kw12, by decide +kernel, by decide +kernel, by decide⟩
theorem kw1336 : Cond.instanceMethod ⟨"RopeRoundModel", "kind", "(I)I"⟩ ∈ tg := kt 1336 (by decide +kernel) (by decide +kernel)
theorem kw1335 : Cond.methodLink "RopeRoundLaw" 109 ⟨"RopeRoundModel", "kind", "(I)I"⟩ ∈ tg := kt 1335 (by decide +kernel) (by decide +kernel)
theorem kw1337 : Cond.selects "RopeRoundModel" ⟨"RopeRoundModel", "kind", "(I)I"⟩ ⟨"RopeRoundModel", "kind", "(I)I"⟩ ∈ tg := kt 1337 (by decide +kernel) (by decide +kernel)
theorem vk193 : ∀ ci y, (fun k => if k = 11 then some 200 else none) ci = some y → (∃ C T N, ClsOk ci C T N ∧ VOk mT "RopeRoundLaw" 109 C y 1) ∨ (ci = 201 ∧ VOk mT "RopeRoundLaw" 109 "java/lang/String" y 1) := by
  intro ci y h
  dsimp only at h
  by_cases h11 : ci = 11
  · subst h11
    have h := (Option.some.inj (by simpa using h)).symm
    subst h
    exact Or.inl ⟨_, _, _, okC11, ⟨mo200, kw1336, Or.inl ⟨rfl, kw1335, kw1337⟩⟩⟩
  rw [if_neg h11] at h
  cases h
set_option maxRecDepth 100000 in
theorem kw855 : Cond.code ⟨"RopeRound", "as", "(II)I"⟩ prog_1_method_24_code 3 (some FieldType.int) ∈ tg := kt 855 rfl rfl
theorem mo104 : MOk (mT 104) 2 := ⟨kw855, kw1, by decide +kernel, by decide +kernel, by decide⟩
theorem kw853 : Cond.instanceMethod ⟨"RopeRound", "as", "(II)I"⟩ ∈ tg := kt 853 (by decide +kernel) (by decide +kernel)
theorem kw852 : Cond.methodLink "RopeRoundLaw" 110 ⟨"RopeRound", "as", "(II)I"⟩ ∈ tg := kt 852 (by decide +kernel) (by decide +kernel)
theorem kw854 : Cond.selects "RopeRound" ⟨"RopeRound", "as", "(II)I"⟩ ⟨"RopeRound", "as", "(II)I"⟩ ∈ tg := kt 854 (by decide +kernel) (by decide +kernel)
theorem vk194 : ∀ ci y, (fun k => if k = 10 then some 104 else none) ci = some y → (∃ C T N, ClsOk ci C T N ∧ VOk mT "RopeRoundLaw" 110 C y 2) ∨ (ci = 201 ∧ VOk mT "RopeRoundLaw" 110 "java/lang/String" y 2) := by
  intro ci y h
  dsimp only at h
  by_cases h10 : ci = 10
  · subst h10
    have h := (Option.some.inj (by simpa using h)).symm
    subst h
    exact Or.inl ⟨_, _, _, okC10, ⟨mo104, kw853, Or.inl ⟨rfl, kw852, kw854⟩⟩⟩
  rw [if_neg h10] at h
  cases h
set_option maxRecDepth 100000 in
theorem kw1346 : Cond.code ⟨"RopeRoundModel", "as", "(II)I"⟩ prog_13_method_73_code 3 (some FieldType.int) ∈ tg := kt 1346 rfl rfl
theorem mo201 : MOk (mT 201) 2 := ⟨kw1346, kw12, by decide +kernel, by decide +kernel, by decide⟩
theorem kw1344 : Cond.instanceMethod ⟨"RopeRoundModel", "as", "(II)I"⟩ ∈ tg := kt 1344 (by decide +kernel) (by decide +kernel)
theorem kw1343 : Cond.methodLink "RopeRoundLaw" 113 ⟨"RopeRoundModel", "as", "(II)I"⟩ ∈ tg := kt 1343 (by decide +kernel) (by decide +kernel)
theorem kw1345 : Cond.selects "RopeRoundModel" ⟨"RopeRoundModel", "as", "(II)I"⟩ ⟨"RopeRoundModel", "as", "(II)I"⟩ ∈ tg := kt 1345 (by decide +kernel) (by decide +kernel)
theorem vk195 : ∀ ci y, (fun k => if k = 11 then some 201 else none) ci = some y → (∃ C T N, ClsOk ci C T N ∧ VOk mT "RopeRoundLaw" 113 C y 2) ∨ (ci = 201 ∧ VOk mT "RopeRoundLaw" 113 "java/lang/String" y 2) := by
  intro ci y h
  dsimp only at h
  by_cases h11 : ci = 11
  · subst h11
    have h := (Option.some.inj (by simpa using h)).symm
    subst h
    exact Or.inl ⟨_, _, _, okC11, ⟨mo201, kw1344, Or.inl ⟨rfl, kw1343, kw1345⟩⟩⟩
  rw [if_neg h11] at h
  cases h
set_option maxRecDepth 100000 in
theorem kw865 : Cond.code ⟨"RopeRound", "ask", "(II)I"⟩ prog_1_method_25_code 3 (some FieldType.int) ∈ tg := kt 865 rfl rfl
theorem mo105 : MOk (mT 105) 2 := ⟨kw865, kw1, by decide +kernel, by decide +kernel, by decide⟩
theorem kw863 : Cond.instanceMethod ⟨"RopeRound", "ask", "(II)I"⟩ ∈ tg := kt 863 (by decide +kernel) (by decide +kernel)
theorem kw862 : Cond.methodLink "RopeRoundLaw" 114 ⟨"RopeRound", "ask", "(II)I"⟩ ∈ tg := kt 862 (by decide +kernel) (by decide +kernel)
theorem kw864 : Cond.selects "RopeRound" ⟨"RopeRound", "ask", "(II)I"⟩ ⟨"RopeRound", "ask", "(II)I"⟩ ∈ tg := kt 864 (by decide +kernel) (by decide +kernel)
theorem vk196 : ∀ ci y, (fun k => if k = 10 then some 105 else none) ci = some y → (∃ C T N, ClsOk ci C T N ∧ VOk mT "RopeRoundLaw" 114 C y 2) ∨ (ci = 201 ∧ VOk mT "RopeRoundLaw" 114 "java/lang/String" y 2) := by
  intro ci y h
  dsimp only at h
  by_cases h10 : ci = 10
  · subst h10
    have h := (Option.some.inj (by simpa using h)).symm
    subst h
    exact Or.inl ⟨_, _, _, okC10, ⟨mo105, kw863, Or.inl ⟨rfl, kw862, kw864⟩⟩⟩
  rw [if_neg h10] at h
  cases h
set_option maxRecDepth 100000 in
theorem kw1354 : Cond.code ⟨"RopeRoundModel", "ask", "(II)I"⟩ prog_13_method_78_code 3 (some FieldType.int) ∈ tg := kt 1354 rfl rfl
theorem mo206 : MOk (mT 206) 2 := ⟨kw1354, kw12, by decide +kernel, by decide +kernel, by decide⟩
theorem kw1352 : Cond.instanceMethod ⟨"RopeRoundModel", "ask", "(II)I"⟩ ∈ tg := kt 1352 (by decide +kernel) (by decide +kernel)
theorem kw1351 : Cond.methodLink "RopeRoundLaw" 117 ⟨"RopeRoundModel", "ask", "(II)I"⟩ ∈ tg := kt 1351 (by decide +kernel) (by decide +kernel)
theorem kw1353 : Cond.selects "RopeRoundModel" ⟨"RopeRoundModel", "ask", "(II)I"⟩ ⟨"RopeRoundModel", "ask", "(II)I"⟩ ∈ tg := kt 1353 (by decide +kernel) (by decide +kernel)
theorem vk197 : ∀ ci y, (fun k => if k = 11 then some 206 else none) ci = some y → (∃ C T N, ClsOk ci C T N ∧ VOk mT "RopeRoundLaw" 117 C y 2) ∨ (ci = 201 ∧ VOk mT "RopeRoundLaw" 117 "java/lang/String" y 2) := by
  intro ci y h
  dsimp only at h
  by_cases h11 : ci = 11
  · subst h11
    have h := (Option.some.inj (by simpa using h)).symm
    subst h
    exact Or.inl ⟨_, _, _, okC11, ⟨mo206, kw1352, Or.inl ⟨rfl, kw1351, kw1353⟩⟩⟩
  rw [if_neg h11] at h
  cases h
set_option maxRecDepth 100000 in
theorem kw918 : Cond.code ⟨"RopeRound", "trace", "(I)I"⟩ prog_1_method_26_code 2 (some FieldType.int) ∈ tg := kt 918 rfl rfl
theorem mo106 : MOk (mT 106) 1 := ⟨kw918, kw1, by decide +kernel, by decide +kernel, by decide⟩
theorem kw916 : Cond.instanceMethod ⟨"RopeRound", "trace", "(I)I"⟩ ∈ tg := kt 916 (by decide +kernel) (by decide +kernel)
theorem kw915 : Cond.methodLink "RopeRoundLaw" 118 ⟨"RopeRound", "trace", "(I)I"⟩ ∈ tg := kt 915 (by decide +kernel) (by decide +kernel)
theorem kw917 : Cond.selects "RopeRound" ⟨"RopeRound", "trace", "(I)I"⟩ ⟨"RopeRound", "trace", "(I)I"⟩ ∈ tg := kt 917 (by decide +kernel) (by decide +kernel)
theorem vk198 : ∀ ci y, (fun k => if k = 10 then some 106 else none) ci = some y → (∃ C T N, ClsOk ci C T N ∧ VOk mT "RopeRoundLaw" 118 C y 1) ∨ (ci = 201 ∧ VOk mT "RopeRoundLaw" 118 "java/lang/String" y 1) := by
  intro ci y h
  dsimp only at h
  by_cases h10 : ci = 10
  · subst h10
    have h := (Option.some.inj (by simpa using h)).symm
    subst h
    exact Or.inl ⟨_, _, _, okC10, ⟨mo106, kw916, Or.inl ⟨rfl, kw915, kw917⟩⟩⟩
  rw [if_neg h10] at h
  cases h
set_option maxRecDepth 100000 in
theorem kw1374 : Cond.code ⟨"RopeRoundModel", "trace", "(I)I"⟩ prog_13_method_79_code 2 (some FieldType.int) ∈ tg := kt 1374 rfl rfl
theorem mo207 : MOk (mT 207) 1 := ⟨kw1374, kw12, by decide +kernel, by decide +kernel, by decide⟩
theorem kw1372 : Cond.instanceMethod ⟨"RopeRoundModel", "trace", "(I)I"⟩ ∈ tg := kt 1372 (by decide +kernel) (by decide +kernel)
theorem kw1371 : Cond.methodLink "RopeRoundLaw" 121 ⟨"RopeRoundModel", "trace", "(I)I"⟩ ∈ tg := kt 1371 (by decide +kernel) (by decide +kernel)
theorem kw1373 : Cond.selects "RopeRoundModel" ⟨"RopeRoundModel", "trace", "(I)I"⟩ ⟨"RopeRoundModel", "trace", "(I)I"⟩ ∈ tg := kt 1373 (by decide +kernel) (by decide +kernel)
theorem vk199 : ∀ ci y, (fun k => if k = 11 then some 207 else none) ci = some y → (∃ C T N, ClsOk ci C T N ∧ VOk mT "RopeRoundLaw" 121 C y 1) ∨ (ci = 201 ∧ VOk mT "RopeRoundLaw" 121 "java/lang/String" y 1) := by
  intro ci y h
  dsimp only at h
  by_cases h11 : ci = 11
  · subst h11
    have h := (Option.some.inj (by simpa using h)).symm
    subst h
    exact Or.inl ⟨_, _, _, okC11, ⟨mo207, kw1372, Or.inl ⟨rfl, kw1371, kw1373⟩⟩⟩
  rw [if_neg h11] at h
  cases h
set_option maxRecDepth 100000 in
theorem kw922 : Cond.code ⟨"RopeRound", "count", "(I)I"⟩ prog_1_method_27_code 2 (some FieldType.int) ∈ tg := kt 922 rfl rfl
theorem mo107 : MOk (mT 107) 1 := ⟨kw922, kw1, by decide +kernel, by decide +kernel, by decide⟩
theorem kw920 : Cond.instanceMethod ⟨"RopeRound", "count", "(I)I"⟩ ∈ tg := kt 920 (by decide +kernel) (by decide +kernel)
theorem kw919 : Cond.methodLink "RopeRoundLaw" 122 ⟨"RopeRound", "count", "(I)I"⟩ ∈ tg := kt 919 (by decide +kernel) (by decide +kernel)
theorem kw921 : Cond.selects "RopeRound" ⟨"RopeRound", "count", "(I)I"⟩ ⟨"RopeRound", "count", "(I)I"⟩ ∈ tg := kt 921 (by decide +kernel) (by decide +kernel)
theorem vk200 : ∀ ci y, (fun k => if k = 10 then some 107 else none) ci = some y → (∃ C T N, ClsOk ci C T N ∧ VOk mT "RopeRoundLaw" 122 C y 1) ∨ (ci = 201 ∧ VOk mT "RopeRoundLaw" 122 "java/lang/String" y 1) := by
  intro ci y h
  dsimp only at h
  by_cases h10 : ci = 10
  · subst h10
    have h := (Option.some.inj (by simpa using h)).symm
    subst h
    exact Or.inl ⟨_, _, _, okC10, ⟨mo107, kw920, Or.inl ⟨rfl, kw919, kw921⟩⟩⟩
  rw [if_neg h10] at h
  cases h
set_option maxRecDepth 100000 in
theorem kw1378 : Cond.code ⟨"RopeRoundModel", "count", "(I)I"⟩ prog_13_method_80_code 4 (some FieldType.int) ∈ tg := kt 1378 rfl rfl
theorem mo208 : MOk (mT 208) 1 := ⟨kw1378, kw12, by decide +kernel, by decide +kernel, by decide⟩
theorem kw1376 : Cond.instanceMethod ⟨"RopeRoundModel", "count", "(I)I"⟩ ∈ tg := kt 1376 (by decide +kernel) (by decide +kernel)
theorem kw1375 : Cond.methodLink "RopeRoundLaw" 125 ⟨"RopeRoundModel", "count", "(I)I"⟩ ∈ tg := kt 1375 (by decide +kernel) (by decide +kernel)
theorem kw1377 : Cond.selects "RopeRoundModel" ⟨"RopeRoundModel", "count", "(I)I"⟩ ⟨"RopeRoundModel", "count", "(I)I"⟩ ∈ tg := kt 1377 (by decide +kernel) (by decide +kernel)
theorem vk201 : ∀ ci y, (fun k => if k = 11 then some 208 else none) ci = some y → (∃ C T N, ClsOk ci C T N ∧ VOk mT "RopeRoundLaw" 125 C y 1) ∨ (ci = 201 ∧ VOk mT "RopeRoundLaw" 125 "java/lang/String" y 1) := by
  intro ci y h
  dsimp only at h
  by_cases h11 : ci = 11
  · subst h11
    have h := (Option.some.inj (by simpa using h)).symm
    subst h
    exact Or.inl ⟨_, _, _, okC11, ⟨mo208, kw1376, Or.inl ⟨rfl, kw1375, kw1377⟩⟩⟩
  rw [if_neg h11] at h
  cases h
set_option maxRecDepth 100000 in
theorem kw935 : Cond.code ⟨"RopeRound", "status", "()I"⟩ prog_1_method_28_code 1 (some FieldType.int) ∈ tg := kt 935 rfl rfl
theorem mo108 : MOk (mT 108) 0 := ⟨kw935, kw1, by decide +kernel, by decide +kernel, by decide⟩
theorem kw933 : Cond.instanceMethod ⟨"RopeRound", "status", "()I"⟩ ∈ tg := kt 933 (by decide +kernel) (by decide +kernel)
theorem kw932 : Cond.methodLink "RopeRoundLaw" 126 ⟨"RopeRound", "status", "()I"⟩ ∈ tg := kt 932 (by decide +kernel) (by decide +kernel)
theorem kw934 : Cond.selects "RopeRound" ⟨"RopeRound", "status", "()I"⟩ ⟨"RopeRound", "status", "()I"⟩ ∈ tg := kt 934 (by decide +kernel) (by decide +kernel)
theorem vk202 : ∀ ci y, (fun k => if k = 10 then some 108 else none) ci = some y → (∃ C T N, ClsOk ci C T N ∧ VOk mT "RopeRoundLaw" 126 C y 0) ∨ (ci = 201 ∧ VOk mT "RopeRoundLaw" 126 "java/lang/String" y 0) := by
  intro ci y h
  dsimp only at h
  by_cases h10 : ci = 10
  · subst h10
    have h := (Option.some.inj (by simpa using h)).symm
    subst h
    exact Or.inl ⟨_, _, _, okC10, ⟨mo108, kw933, Or.inl ⟨rfl, kw932, kw934⟩⟩⟩
  rw [if_neg h10] at h
  cases h
set_option maxRecDepth 100000 in
theorem kw1382 : Cond.code ⟨"RopeRoundModel", "status", "()I"⟩ prog_13_method_81_code 1 (some FieldType.int) ∈ tg := kt 1382 rfl rfl
theorem mo209 : MOk (mT 209) 0 := ⟨kw1382, kw12, by decide +kernel, by decide +kernel, by decide⟩
theorem kw1380 : Cond.instanceMethod ⟨"RopeRoundModel", "status", "()I"⟩ ∈ tg := kt 1380 (by decide +kernel) (by decide +kernel)
theorem kw1379 : Cond.methodLink "RopeRoundLaw" 129 ⟨"RopeRoundModel", "status", "()I"⟩ ∈ tg := kt 1379 (by decide +kernel) (by decide +kernel)
theorem kw1381 : Cond.selects "RopeRoundModel" ⟨"RopeRoundModel", "status", "()I"⟩ ⟨"RopeRoundModel", "status", "()I"⟩ ∈ tg := kt 1381 (by decide +kernel) (by decide +kernel)
theorem vk203 : ∀ ci y, (fun k => if k = 11 then some 209 else none) ci = some y → (∃ C T N, ClsOk ci C T N ∧ VOk mT "RopeRoundLaw" 129 C y 0) ∨ (ci = 201 ∧ VOk mT "RopeRoundLaw" 129 "java/lang/String" y 0) := by
  intro ci y h
  dsimp only at h
  by_cases h11 : ci = 11
  · subst h11
    have h := (Option.some.inj (by simpa using h)).symm
    subst h
    exact Or.inl ⟨_, _, _, okC11, ⟨mo209, kw1380, Or.inl ⟨rfl, kw1379, kw1381⟩⟩⟩
  rw [if_neg h11] at h
  cases h
