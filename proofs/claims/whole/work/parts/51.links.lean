theorem kw262 : Cond.methodLink "RopeRound$Asker" 3 ⟨"java/lang/Object", "<init>", "()V"⟩ ∈ tg := kt 262 (by decide +kernel) (by decide +kernel)
theorem kw26 : Cond.instanceMethod ⟨"java/lang/Object", "<init>", "()V"⟩ ∈ tg := kt 26 (by decide +kernel) (by decide +kernel)
set_option maxRecDepth 100000 in
theorem kw27 : Cond.code ⟨"java/lang/Object", "<init>", "()V"⟩ object_method_1_code 1 none ∈ tg := kt 27 rfl rfl
theorem kw130 : Cond.arrayClass FieldType.int ∈ tg := kt 130 (by decide +kernel) (by decide +kernel)
theorem kw263 : Cond.fieldLink "RopeRound$Asker" 11 "RopeRound$Asker" "notes" "[I" ∈ tg := kt 263 (by decide +kernel) (by decide +kernel)
theorem gf0f : gFF "RopeRound$Asker" 11 0 (fun k => k = 0) := by
  refine ⟨_, _, _, kw263, fun ci h => ?_⟩
  rcases h with rfl
  · exact ⟨_, _, _, okC0, by decide, rfl, rfl, rfl, rfl, rfl⟩
theorem kn857 : Cond.methodLinkNest "RopeRound$Asker" 15 ⟨"RopeRound", "bitOfCell", "(I)I"⟩ "RopeRound" ∈ tb := kn 857 (by decide +kernel)
theorem kw670 : Cond.static ⟨"RopeRound", "bitOfCell", "(I)I"⟩ ∈ tg := kt 670 (by decide +kernel) (by decide +kernel)
set_option maxRecDepth 100000 in
theorem kw671 : Cond.code ⟨"RopeRound", "bitOfCell", "(I)I"⟩ prog_1_method_43_code 1 (some FieldType.int) ∈ tg := kt 671 rfl rfl
theorem kw1 : Cond.initialized "RopeRound" ∈ tg := kt 1 (by decide +kernel) (by decide +kernel)
theorem mo123 : MOk (mT 123) 1 := ⟨kw671, kw1, by decide +kernel, by decide +kernel, by decide⟩
theorem kw265 : Cond.fieldLink "RopeRound$Asker" 19 "RopeRound$Asker" "noted" "I" ∈ tg := kt 265 (by decide +kernel) (by decide +kernel)
theorem gf1 : gF "RopeRound$Asker" 19 1 (fun k => k = 0) (fun n => n = 0 ∨ n = 4) := by
  refine ⟨_, _, _, kw265, fun ci h => ?_⟩
  rcases h with rfl
  · exact ⟨_, _, _, okC0, by decide, rfl, rfl, Or.inl rfl, Or.inl rfl⟩
theorem gf1w : gF "RopeRound$Asker" 19 1 (fun k => k = 0) (fun n => n = 0) := by
  refine ⟨_, _, _, kw265, fun ci h => ?_⟩
  rcases h with rfl
  · exact ⟨_, _, _, okC0, by decide, rfl, rfl, Or.inl rfl, rfl⟩
theorem kw267 : Cond.fieldLink "RopeRound$Asker" 23 "RopeRound$Asker" "cell" "I" ∈ tg := kt 267 (by decide +kernel) (by decide +kernel)
theorem gf2 : gF "RopeRound$Asker" 23 2 (fun k => k = 0) (fun n => n = 0 ∨ n = 4) := by
  refine ⟨_, _, _, kw267, fun ci h => ?_⟩
  rcases h with rfl
  · exact ⟨_, _, _, okC0, by decide, rfl, rfl, Or.inl rfl, Or.inl rfl⟩
theorem gf2w : gF "RopeRound$Asker" 23 2 (fun k => k = 0) (fun n => n = 0) := by
  refine ⟨_, _, _, kw267, fun ci h => ?_⟩
  rcases h with rfl
  · exact ⟨_, _, _, okC0, by decide, rfl, rfl, Or.inl rfl, rfl⟩
set_option maxRecDepth 100000 in
theorem kw631 : Cond.code ⟨"RopeRound$Ground", "worthOf", "(J)I"⟩ prog_5_method_15_code 5 (some FieldType.int) ∈ tg := kt 631 rfl rfl
theorem kw4 : Cond.initialized "RopeRound$Ground" ∈ tg := kt 4 (by decide +kernel) (by decide +kernel)
theorem mo36 : MOk (mT 36) 1 := ⟨kw631, kw4, by decide +kernel, by decide +kernel, by decide⟩
theorem kw629 : Cond.instanceMethod ⟨"RopeRound$Ground", "worthOf", "(J)I"⟩ ∈ tg := kt 629 (by decide +kernel) (by decide +kernel)
theorem kw858 : Cond.methodLink "RopeRound$Asker" 26 ⟨"RopeRound$Ground", "worthOf", "(J)I"⟩ ∈ tg := kt 858 (by decide +kernel) (by decide +kernel)
theorem kw630 : Cond.selects "RopeRound$Ground" ⟨"RopeRound$Ground", "worthOf", "(J)I"⟩ ⟨"RopeRound$Ground", "worthOf", "(J)I"⟩ ∈ tg := kt 630 (by decide +kernel) (by decide +kernel)
theorem vk0 : ∀ ci y, (fun k => if k = 3 then some 36 else none) ci = some y → (∃ C T N, ClsOk ci C T N ∧ VOk mT "RopeRound$Asker" 26 C y 1) ∨ (ci = 201 ∧ VOk mT "RopeRound$Asker" 26 "java/lang/String" y 1) := by
  intro ci y h
  dsimp only at h
  by_cases h3 : ci = 3
  · subst h3
    have h := (Option.some.inj (by simpa using h)).symm
    subst h
    exact Or.inl ⟨_, _, _, okC3, ⟨mo36, kw629, Or.inl ⟨rfl, kw858, kw630⟩⟩⟩
  rw [if_neg h3] at h
  cases h
theorem kw268 : Cond.fieldLink "RopeRound$Asker" 32 "RopeRound$Asker" "worth" "I" ∈ tg := kt 268 (by decide +kernel) (by decide +kernel)
theorem gf3 : gF "RopeRound$Asker" 32 3 (fun k => k = 0) (fun n => n = 0 ∨ n = 4) := by
  refine ⟨_, _, _, kw268, fun ci h => ?_⟩
  rcases h with rfl
  · exact ⟨_, _, _, okC0, by decide, rfl, rfl, Or.inl rfl, Or.inl rfl⟩
theorem gf3w : gF "RopeRound$Asker" 32 3 (fun k => k = 0) (fun n => n = 0) := by
  refine ⟨_, _, _, kw268, fun ci h => ?_⟩
  rcases h with rfl
  · exact ⟨_, _, _, okC0, by decide, rfl, rfl, Or.inl rfl, rfl⟩
set_option maxRecDepth 100000 in
theorem kw837 : Cond.code ⟨"RopeRound$Ground", "kindOf", "(I)I"⟩ prog_5_method_18_code 3 (some FieldType.int) ∈ tg := kt 837 rfl rfl
theorem mo39 : MOk (mT 39) 1 := ⟨kw837, kw4, by decide +kernel, by decide +kernel, by decide⟩
theorem kw835 : Cond.instanceMethod ⟨"RopeRound$Ground", "kindOf", "(I)I"⟩ ∈ tg := kt 835 (by decide +kernel) (by decide +kernel)
theorem kw859 : Cond.methodLink "RopeRound$Asker" 35 ⟨"RopeRound$Ground", "kindOf", "(I)I"⟩ ∈ tg := kt 859 (by decide +kernel) (by decide +kernel)
theorem kw836 : Cond.selects "RopeRound$Ground" ⟨"RopeRound$Ground", "kindOf", "(I)I"⟩ ⟨"RopeRound$Ground", "kindOf", "(I)I"⟩ ∈ tg := kt 836 (by decide +kernel) (by decide +kernel)
theorem vk1 : ∀ ci y, (fun k => if k = 3 then some 39 else none) ci = some y → (∃ C T N, ClsOk ci C T N ∧ VOk mT "RopeRound$Asker" 35 C y 1) ∨ (ci = 201 ∧ VOk mT "RopeRound$Asker" 35 "java/lang/String" y 1) := by
  intro ci y h
  dsimp only at h
  by_cases h3 : ci = 3
  · subst h3
    have h := (Option.some.inj (by simpa using h)).symm
    subst h
    exact Or.inl ⟨_, _, _, okC3, ⟨mo39, kw835, Or.inl ⟨rfl, kw859, kw836⟩⟩⟩
  rw [if_neg h3] at h
  cases h
theorem kw269 : Cond.fieldLink "RopeRound$Asker" 38 "RopeRound$Asker" "kind" "I" ∈ tg := kt 269 (by decide +kernel) (by decide +kernel)
theorem gf4 : gF "RopeRound$Asker" 38 4 (fun k => k = 0) (fun n => n = 0 ∨ n = 4) := by
  refine ⟨_, _, _, kw269, fun ci h => ?_⟩
  rcases h with rfl
  · exact ⟨_, _, _, okC0, by decide, rfl, rfl, Or.inl rfl, Or.inl rfl⟩
theorem gf4w : gF "RopeRound$Asker" 38 4 (fun k => k = 0) (fun n => n = 0) := by
  refine ⟨_, _, _, kw269, fun ci h => ?_⟩
  rcases h with rfl
  · exact ⟨_, _, _, okC0, by decide, rfl, rfl, Or.inl rfl, rfl⟩
set_option maxRecDepth 100000 in
theorem kw675 : Cond.code ⟨"RopeRound$Ground", "ringMan", "(I)I"⟩ prog_5_method_16_code 3 (some FieldType.int) ∈ tg := kt 675 rfl rfl
theorem mo37 : MOk (mT 37) 1 := ⟨kw675, kw4, by decide +kernel, by decide +kernel, by decide⟩
theorem kw673 : Cond.instanceMethod ⟨"RopeRound$Ground", "ringMan", "(I)I"⟩ ∈ tg := kt 673 (by decide +kernel) (by decide +kernel)
theorem kw860 : Cond.methodLink "RopeRound$Asker" 41 ⟨"RopeRound$Ground", "ringMan", "(I)I"⟩ ∈ tg := kt 860 (by decide +kernel) (by decide +kernel)
theorem kw674 : Cond.selects "RopeRound$Ground" ⟨"RopeRound$Ground", "ringMan", "(I)I"⟩ ⟨"RopeRound$Ground", "ringMan", "(I)I"⟩ ∈ tg := kt 674 (by decide +kernel) (by decide +kernel)
theorem vk2 : ∀ ci y, (fun k => if k = 3 then some 37 else none) ci = some y → (∃ C T N, ClsOk ci C T N ∧ VOk mT "RopeRound$Asker" 41 C y 1) ∨ (ci = 201 ∧ VOk mT "RopeRound$Asker" 41 "java/lang/String" y 1) := by
  intro ci y h
  dsimp only at h
  by_cases h3 : ci = 3
  · subst h3
    have h := (Option.some.inj (by simpa using h)).symm
    subst h
    exact Or.inl ⟨_, _, _, okC3, ⟨mo37, kw673, Or.inl ⟨rfl, kw860, kw674⟩⟩⟩
  rw [if_neg h3] at h
  cases h
theorem kw270 : Cond.fieldLink "RopeRound$Asker" 44 "RopeRound$Asker" "ringMan" "I" ∈ tg := kt 270 (by decide +kernel) (by decide +kernel)
theorem gf5 : gF "RopeRound$Asker" 44 5 (fun k => k = 0) (fun n => n = 0 ∨ n = 4) := by
  refine ⟨_, _, _, kw270, fun ci h => ?_⟩
  rcases h with rfl
  · exact ⟨_, _, _, okC0, by decide, rfl, rfl, Or.inl rfl, Or.inl rfl⟩
theorem gf5w : gF "RopeRound$Asker" 44 5 (fun k => k = 0) (fun n => n = 0) := by
  refine ⟨_, _, _, kw270, fun ci h => ?_⟩
  rcases h with rfl
  · exact ⟨_, _, _, okC0, by decide, rfl, rfl, Or.inl rfl, rfl⟩
theorem gf6 : gF "RopeRound$Asker" 11 0 (fun k => k = 0) (fun n => n = 2) := by
  refine ⟨_, _, _, kw263, fun ci h => ?_⟩
  rcases h with rfl
  · exact ⟨_, _, _, okC0, by decide, rfl, rfl, Or.inl rfl, rfl⟩
set_option maxRecDepth 100000 in
theorem kw868 : Cond.code ⟨"RopeRound$Asker", "note", "(I)V"⟩ prog_2_method_3_code 2 none ∈ tg := kt 868 rfl rfl
theorem kw10 : Cond.initialized "RopeRound$Asker" ∈ tg := kt 10 (by decide +kernel) (by decide +kernel)
theorem mo2 : MOk (mT 2) 1 := ⟨kw868, kw10, by decide +kernel, by decide +kernel, by decide⟩
theorem kw867 : Cond.instanceMethod ⟨"RopeRound$Asker", "note", "(I)V"⟩ ∈ tg := kt 867 (by decide +kernel) (by decide +kernel)
theorem kw865 : Cond.methodLink "RopeRound$Asker" 46 ⟨"RopeRound$Asker", "note", "(I)V"⟩ ∈ tg := kt 865 (by decide +kernel) (by decide +kernel)
theorem vk3 : ∀ ci y, (fun k => if k = 0 then some 2 else none) ci = some y → (∃ C T N, ClsOk ci C T N ∧ VOk mT "RopeRound$Asker" 46 C y 1) ∨ (ci = 201 ∧ VOk mT "RopeRound$Asker" 46 "java/lang/String" y 1) := by
  intro ci y h
  dsimp only at h
  by_cases h0 : ci = 0
  · subst h0
    have h := (Option.some.inj (by simpa using h)).symm
    subst h
    exact Or.inl ⟨_, _, _, okC0, ⟨mo2, kw867, Or.inl ⟨rfl, kw865, (ks (q := (⟨"RopeRound$Asker", "note", "(I)V"⟩, 6)) (by decide +kernel))⟩⟩⟩
  rw [if_neg h0] at h
  cases h
set_option maxRecDepth 100000 in
theorem kw872 : Cond.code ⟨"RopeRound$Asker", "sizeOfRinged", "()I"⟩ prog_2_method_7_code 1 (some FieldType.int) ∈ tg := kt 872 rfl rfl
theorem mo6 : MOk (mT 6) 0 := ⟨kw872, kw10, by decide +kernel, by decide +kernel, by decide⟩
theorem kw871 : Cond.instanceMethod ⟨"RopeRound$Asker", "sizeOfRinged", "()I"⟩ ∈ tg := kt 871 (by decide +kernel) (by decide +kernel)
theorem kw869 : Cond.methodLink "RopeRound$Asker" 50 ⟨"RopeRound$Asker", "sizeOfRinged", "()I"⟩ ∈ tg := kt 869 (by decide +kernel) (by decide +kernel)
theorem vk4 : ∀ ci y, (fun k => if k = 0 then some 6 else none) ci = some y → (∃ C T N, ClsOk ci C T N ∧ VOk mT "RopeRound$Asker" 50 C y 0) ∨ (ci = 201 ∧ VOk mT "RopeRound$Asker" 50 "java/lang/String" y 0) := by
  intro ci y h
  dsimp only at h
  by_cases h0 : ci = 0
  · subst h0
    have h := (Option.some.inj (by simpa using h)).symm
    subst h
    exact Or.inl ⟨_, _, _, okC0, ⟨mo6, kw871, Or.inl ⟨rfl, kw869, (ks (q := (⟨"RopeRound$Asker", "sizeOfRinged", "()I"⟩, 6)) (by decide +kernel))⟩⟩⟩
  rw [if_neg h0] at h
  cases h
set_option maxRecDepth 100000 in
theorem kw876 : Cond.code ⟨"RopeRound$Asker", "sizeOfLand", "()I"⟩ prog_2_method_6_code 2 (some FieldType.int) ∈ tg := kt 876 rfl rfl
theorem mo5 : MOk (mT 5) 0 := ⟨kw876, kw10, by decide +kernel, by decide +kernel, by decide⟩
theorem kw875 : Cond.instanceMethod ⟨"RopeRound$Asker", "sizeOfLand", "()I"⟩ ∈ tg := kt 875 (by decide +kernel) (by decide +kernel)
theorem kw873 : Cond.methodLink "RopeRound$Asker" 54 ⟨"RopeRound$Asker", "sizeOfLand", "()I"⟩ ∈ tg := kt 873 (by decide +kernel) (by decide +kernel)
theorem vk5 : ∀ ci y, (fun k => if k = 0 then some 5 else none) ci = some y → (∃ C T N, ClsOk ci C T N ∧ VOk mT "RopeRound$Asker" 54 C y 0) ∨ (ci = 201 ∧ VOk mT "RopeRound$Asker" 54 "java/lang/String" y 0) := by
  intro ci y h
  dsimp only at h
  by_cases h0 : ci = 0
  · subst h0
    have h := (Option.some.inj (by simpa using h)).symm
    subst h
    exact Or.inl ⟨_, _, _, okC0, ⟨mo5, kw875, Or.inl ⟨rfl, kw873, (ks (q := (⟨"RopeRound$Asker", "sizeOfLand", "()I"⟩, 6)) (by decide +kernel))⟩⟩⟩
  rw [if_neg h0] at h
  cases h
set_option maxRecDepth 100000 in
theorem kw880 : Cond.code ⟨"RopeRound$Asker", "sizeLent", "()I"⟩ prog_2_method_5_code 1 (some FieldType.int) ∈ tg := kt 880 rfl rfl
theorem mo4 : MOk (mT 4) 0 := ⟨kw880, kw10, by decide +kernel, by decide +kernel, by decide⟩
theorem kw879 : Cond.instanceMethod ⟨"RopeRound$Asker", "sizeLent", "()I"⟩ ∈ tg := kt 879 (by decide +kernel) (by decide +kernel)
theorem kw877 : Cond.methodLink "RopeRound$Asker" 57 ⟨"RopeRound$Asker", "sizeLent", "()I"⟩ ∈ tg := kt 877 (by decide +kernel) (by decide +kernel)
theorem vk6 : ∀ ci y, (fun k => if k = 0 then some 4 else none) ci = some y → (∃ C T N, ClsOk ci C T N ∧ VOk mT "RopeRound$Asker" 57 C y 0) ∨ (ci = 201 ∧ VOk mT "RopeRound$Asker" 57 "java/lang/String" y 0) := by
  intro ci y h
  dsimp only at h
  by_cases h0 : ci = 0
  · subst h0
    have h := (Option.some.inj (by simpa using h)).symm
    subst h
    exact Or.inl ⟨_, _, _, okC0, ⟨mo4, kw879, Or.inl ⟨rfl, kw877, (ks (q := (⟨"RopeRound$Asker", "sizeLent", "()I"⟩, 6)) (by decide +kernel))⟩⟩⟩
  rw [if_neg h0] at h
  cases h
set_option maxRecDepth 100000 in
theorem kw884 : Cond.code ⟨"RopeRound$Asker", "markAsked", "()I"⟩ prog_2_method_8_code 2 (some FieldType.int) ∈ tg := kt 884 rfl rfl
theorem mo9 : MOk (mT 9) 0 := ⟨kw884, kw10, by decide +kernel, by decide +kernel, by decide⟩
theorem kw882 : Cond.instanceMethod ⟨"RopeRound$Asker", "markAsked", "()I"⟩ ∈ tg := kt 882 (by decide +kernel) (by decide +kernel)
theorem kw881 : Cond.methodLink "RopeRound$Asker" 60 ⟨"RopeRound$Asker", "markAsked", "()I"⟩ ∈ tg := kt 881 (by decide +kernel) (by decide +kernel)
theorem kw883 : Cond.selects "RopeRound$Asker" ⟨"RopeRound$Asker", "markAsked", "()I"⟩ ⟨"RopeRound$Asker", "markAsked", "()I"⟩ ∈ tg := kt 883 (by decide +kernel) (by decide +kernel)
theorem vk7 : ∀ ci y, (fun k => if k = 0 then some 9 else none) ci = some y → (∃ C T N, ClsOk ci C T N ∧ VOk mT "RopeRound$Asker" 60 C y 0) ∨ (ci = 201 ∧ VOk mT "RopeRound$Asker" 60 "java/lang/String" y 0) := by
  intro ci y h
  dsimp only at h
  by_cases h0 : ci = 0
  · subst h0
    have h := (Option.some.inj (by simpa using h)).symm
    subst h
    exact Or.inl ⟨_, _, _, okC0, ⟨mo9, kw882, Or.inl ⟨rfl, kw881, kw883⟩⟩⟩
  rw [if_neg h0] at h
  cases h
theorem kw76 : Cond.fieldLink "RopeRound$Ground" 35 "RopeRound$Ground" "men" "I" ∈ tg := kt 76 (by decide +kernel) (by decide +kernel)
theorem gf7 : gF "RopeRound$Ground" 35 2 (fun k => k = 3) (fun n => n = 0 ∨ n = 4) := by
  refine ⟨_, _, _, kw76, fun ci h => ?_⟩
  rcases h with rfl
  · exact ⟨_, _, _, okC3, by decide, rfl, rfl, Or.inl rfl, Or.inl rfl⟩
theorem gf7w : gF "RopeRound$Ground" 35 2 (fun k => k = 3) (fun n => n = 0) := by
  refine ⟨_, _, _, kw76, fun ci h => ?_⟩
  rcases h with rfl
  · exact ⟨_, _, _, okC3, by decide, rfl, rfl, Or.inl rfl, rfl⟩
set_option maxRecDepth 100000 in
theorem kw888 : Cond.code ⟨"RopeRound$Asker", "markLent", "()I"⟩ prog_2_method_9_code 1 (some FieldType.int) ∈ tg := kt 888 rfl rfl
theorem mo10 : MOk (mT 10) 0 := ⟨kw888, kw10, by decide +kernel, by decide +kernel, by decide⟩
theorem kw887 : Cond.instanceMethod ⟨"RopeRound$Asker", "markLent", "()I"⟩ ∈ tg := kt 887 (by decide +kernel) (by decide +kernel)
theorem kw885 : Cond.methodLink "RopeRound$Asker" 63 ⟨"RopeRound$Asker", "markLent", "()I"⟩ ∈ tg := kt 885 (by decide +kernel) (by decide +kernel)
theorem vk8 : ∀ ci y, (fun k => if k = 0 then some 10 else none) ci = some y → (∃ C T N, ClsOk ci C T N ∧ VOk mT "RopeRound$Asker" 63 C y 0) ∨ (ci = 201 ∧ VOk mT "RopeRound$Asker" 63 "java/lang/String" y 0) := by
  intro ci y h
  dsimp only at h
  by_cases h0 : ci = 0
  · subst h0
    have h := (Option.some.inj (by simpa using h)).symm
    subst h
    exact Or.inl ⟨_, _, _, okC0, ⟨mo10, kw887, Or.inl ⟨rfl, kw885, (ks (q := (⟨"RopeRound$Asker", "markLent", "()I"⟩, 6)) (by decide +kernel))⟩⟩⟩
  rw [if_neg h0] at h
  cases h
theorem kn175 : Cond.methodLinkNest "RopeRound$Best" 3 ⟨"RopeRound$Walk", "<init>", "()V"⟩ "RopeRound" ∈ tb := kn 175 (by decide +kernel)
theorem kw176 : Cond.instanceMethod ⟨"RopeRound$Walk", "<init>", "()V"⟩ ∈ tg := kt 176 (by decide +kernel) (by decide +kernel)
set_option maxRecDepth 100000 in
theorem kw177 : Cond.code ⟨"RopeRound$Walk", "<init>", "()V"⟩ prog_11_method_1_code 1 none ∈ tg := kt 177 rfl rfl
theorem kw6 : Cond.initialized "RopeRound$Walk" ∈ tg := kt 6 (by decide +kernel) (by decide +kernel)
theorem mo77 : MOk (mT 77) 0 := ⟨kw177, kw6, by decide +kernel, by decide +kernel, by decide⟩
theorem kw179 : Cond.fieldLink "RopeRound$Best" 9 "RopeRound$Best" "worths" "[I" ∈ tg := kt 179 (by decide +kernel) (by decide +kernel)
theorem gf8f : gFF "RopeRound$Best" 9 3 (fun k => k = 1) := by
  refine ⟨_, _, _, kw179, fun ci h => ?_⟩
  rcases h with rfl
  · exact ⟨_, _, _, okC1, by decide, rfl, rfl, rfl, rfl, rfl⟩
theorem kw181 : Cond.fieldLink "RopeRound$Best" 15 "RopeRound$Best" "steps" "[I" ∈ tg := kt 181 (by decide +kernel) (by decide +kernel)
theorem gf9f : gFF "RopeRound$Best" 15 4 (fun k => k = 1) := by
  refine ⟨_, _, _, kw181, fun ci h => ?_⟩
  rcases h with rfl
  · exact ⟨_, _, _, okC1, by decide, rfl, rfl, rfl, rfl, rfl⟩
theorem kw129 : Cond.arrayClass FieldType.long ∈ tg := kt 129 (by decide +kernel) (by decide +kernel)
theorem kw183 : Cond.fieldLink "RopeRound$Best" 18 "RopeRound$Best" "ways" "[J" ∈ tg := kt 183 (by decide +kernel) (by decide +kernel)
theorem gf10f : gFF "RopeRound$Best" 18 5 (fun k => k = 1) := by
  refine ⟨_, _, _, kw183, fun ci h => ?_⟩
  rcases h with rfl
  · exact ⟨_, _, _, okC1, by decide, rfl, rfl, rfl, rfl, rfl⟩
theorem kw185 : Cond.fieldLink "RopeRound$Best" 22 "RopeRound$Best" "known" "J" ∈ tg := kt 185 (by decide +kernel) (by decide +kernel)
theorem gf11 : gF "RopeRound$Best" 22 6 (fun k => k = 1) (fun n => n = 1) := by
  refine ⟨_, _, _, kw185, fun ci h => ?_⟩
  rcases h with rfl
  · exact ⟨_, _, _, okC1, by decide, rfl, rfl, Or.inl rfl, rfl⟩
theorem kn686 : Cond.methodLinkNest "RopeRound$Best" 26 ⟨"RopeRound", "has", "(JI)Z"⟩ "RopeRound" ∈ tb := kn 686 (by decide +kernel)
theorem kw534 : Cond.static ⟨"RopeRound", "has", "(JI)Z"⟩ ∈ tg := kt 534 (by decide +kernel) (by decide +kernel)
set_option maxRecDepth 100000 in
theorem kw535 : Cond.code ⟨"RopeRound", "has", "(JI)Z"⟩ prog_1_method_42_code 3 (some FieldType.boolean) ∈ tg := kt 535 rfl rfl
theorem mo122 : MOk (mT 122) 2 := ⟨kw535, kw1, by decide +kernel, by decide +kernel, by decide⟩
theorem kw186 : Cond.fieldLink "RopeRound$Best" 30 "RopeRound$Best" "base" "I" ∈ tg := kt 186 (by decide +kernel) (by decide +kernel)
theorem gf12 : gF "RopeRound$Best" 30 7 (fun k => k = 1) (fun n => n = 0 ∨ n = 4) := by
  refine ⟨_, _, _, kw186, fun ci h => ?_⟩
  rcases h with rfl
  · exact ⟨_, _, _, okC1, by decide, rfl, rfl, Or.inl rfl, Or.inl rfl⟩
theorem gf12w : gF "RopeRound$Best" 30 7 (fun k => k = 1) (fun n => n = 0) := by
  refine ⟨_, _, _, kw186, fun ci h => ?_⟩
  rcases h with rfl
  · exact ⟨_, _, _, okC1, by decide, rfl, rfl, Or.inl rfl, rfl⟩
theorem gf13 : gF "RopeRound$Best" 9 3 (fun k => k = 1) (fun n => n = 2) := by
  refine ⟨_, _, _, kw179, fun ci h => ?_⟩
  rcases h with rfl
  · exact ⟨_, _, _, okC1, by decide, rfl, rfl, Or.inl rfl, rfl⟩
theorem kw687 : Cond.constant "RopeRound$Best" 34 (-1000000) ∈ tg := kt 687 (by decide +kernel) (by decide +kernel)
theorem gf14 : gF "RopeRound$Best" 15 4 (fun k => k = 1) (fun n => n = 2) := by
  refine ⟨_, _, _, kw181, fun ci h => ?_⟩
  rcases h with rfl
  · exact ⟨_, _, _, okC1, by decide, rfl, rfl, Or.inl rfl, rfl⟩
set_option maxRecDepth 100000 in
theorem kw693 : Cond.code ⟨"RopeRound$Walk", "walkAll", "(LRopeRound$Ground;II)V"⟩ prog_11_method_2_code 4 none ∈ tg := kt 693 rfl rfl
theorem mo78 : MOk (mT 78) 3 := ⟨kw693, kw6, by decide +kernel, by decide +kernel, by decide⟩
theorem kw692 : Cond.instanceMethod ⟨"RopeRound$Walk", "walkAll", "(LRopeRound$Ground;II)V"⟩ ∈ tg := kt 692 (by decide +kernel) (by decide +kernel)
theorem kn690 : Cond.declares ⟨"RopeRound$Walk", "walkAll", "(LRopeRound$Ground;II)V"⟩ ∈ tb := kn 690 (by decide +kernel)
theorem kw688 : Cond.methodLink "RopeRound$Best" 35 ⟨"RopeRound$Best", "walkAll", "(LRopeRound$Ground;II)V"⟩ ∈ tg := kt 688 (by decide +kernel) (by decide +kernel)
theorem kw689 : Cond.sameMethod "RopeRound$Best" "RopeRound$Walk" "walkAll" "(LRopeRound$Ground;II)V" ∈ tg := kt 689 (by decide +kernel) (by decide +kernel)
theorem kw691 : Cond.selects "RopeRound$Best" ⟨"RopeRound$Best", "walkAll", "(LRopeRound$Ground;II)V"⟩ ⟨"RopeRound$Walk", "walkAll", "(LRopeRound$Ground;II)V"⟩ ∈ tg := kt 691 (by decide +kernel) (by decide +kernel)
theorem vk9 : ∀ ci y, (fun k => if k = 1 then some 78 else none) ci = some y → (∃ C T N, ClsOk ci C T N ∧ VOk mT "RopeRound$Best" 35 C y 3) ∨ (ci = 201 ∧ VOk mT "RopeRound$Best" 35 "java/lang/String" y 3) := by
  intro ci y h
  dsimp only at h
  by_cases h1 : ci = 1
  · subst h1
    have h := (Option.some.inj (by simpa using h)).symm
    subst h
    exact Or.inl ⟨_, _, _, okC1, ⟨mo78, kw692, Or.inr ⟨⟨"RopeRound$Best", "walkAll", "(LRopeRound$Ground;II)V"⟩, "RopeRound$Walk", by decide +kernel, by decide +kernel, kw688, kw689, Or.inl kn690, kw691⟩⟩⟩
  rw [if_neg h1] at h
  cases h
set_option maxRecDepth 100000 in
theorem kw737 : Cond.code ⟨"RopeRound$Best", "placeOf", "(II)I"⟩ prog_3_method_4_code 3 (some FieldType.int) ∈ tg := kt 737 rfl rfl
theorem kw7 : Cond.initialized "RopeRound$Best" ∈ tg := kt 7 (by decide +kernel) (by decide +kernel)
theorem mo15 : MOk (mT 15) 2 := ⟨kw737, kw7, by decide +kernel, by decide +kernel, by decide⟩
theorem kw735 : Cond.instanceMethod ⟨"RopeRound$Best", "placeOf", "(II)I"⟩ ∈ tg := kt 735 (by decide +kernel) (by decide +kernel)
theorem kw762 : Cond.methodLink "RopeRound$Best" 39 ⟨"RopeRound$Best", "placeOf", "(II)I"⟩ ∈ tg := kt 762 (by decide +kernel) (by decide +kernel)
theorem kw736 : Cond.selects "RopeRound$Best" ⟨"RopeRound$Best", "placeOf", "(II)I"⟩ ⟨"RopeRound$Best", "placeOf", "(II)I"⟩ ∈ tg := kt 736 (by decide +kernel) (by decide +kernel)
theorem vk10 : ∀ ci y, (fun k => if k = 1 then some 15 else none) ci = some y → (∃ C T N, ClsOk ci C T N ∧ VOk mT "RopeRound$Best" 39 C y 2) ∨ (ci = 201 ∧ VOk mT "RopeRound$Best" 39 "java/lang/String" y 2) := by
  intro ci y h
  dsimp only at h
  by_cases h1 : ci = 1
  · subst h1
    have h := (Option.some.inj (by simpa using h)).symm
    subst h
    exact Or.inl ⟨_, _, _, okC1, ⟨mo15, kw735, Or.inl ⟨rfl, kw762, kw736⟩⟩⟩
  rw [if_neg h1] at h
  cases h
theorem kw193 : Cond.sameField "RopeRound$Best" "RopeRound$Walk" "ground" "LRopeRound$Ground;" ∈ tg := kt 193 (by decide +kernel) (by decide +kernel)
theorem kw192 : Cond.fieldLink "RopeRound$Best" 43 "RopeRound$Best" "ground" "LRopeRound$Ground;" ∈ tg := kt 192 (by decide +kernel) (by decide +kernel)
theorem gf15 : gF "RopeRound$Best" 43 0 (fun k => k = 1) (fun n => n = 3) := by
  refine ⟨_, _, _, kw192, fun ci h => ?_⟩
  rcases h with rfl
  · exact ⟨_, _, _, okC1, by decide, rfl, rfl, Or.inr kw193, rfl⟩
theorem kw707 : Cond.methodLink "RopeRound$Best" 47 ⟨"RopeRound$Ground", "worthOf", "(J)I"⟩ ∈ tg := kt 707 (by decide +kernel) (by decide +kernel)
theorem vk11 : ∀ ci y, (fun k => if k = 3 then some 36 else none) ci = some y → (∃ C T N, ClsOk ci C T N ∧ VOk mT "RopeRound$Best" 47 C y 1) ∨ (ci = 201 ∧ VOk mT "RopeRound$Best" 47 "java/lang/String" y 1) := by
  intro ci y h
  dsimp only at h
  by_cases h3 : ci = 3
  · subst h3
    have h := (Option.some.inj (by simpa using h)).symm
    subst h
    exact Or.inl ⟨_, _, _, okC3, ⟨mo36, kw629, Or.inl ⟨rfl, kw707, kw630⟩⟩⟩
  rw [if_neg h3] at h
  cases h
set_option maxRecDepth 100000 in
theorem kw711 : Cond.code ⟨"RopeRound$Ground", "ropeAround", "(JJ)I"⟩ prog_5_method_14_code 9 (some FieldType.int) ∈ tg := kt 711 rfl rfl
theorem mo35 : MOk (mT 35) 2 := ⟨kw711, kw4, by decide +kernel, by decide +kernel, by decide⟩
theorem kw709 : Cond.instanceMethod ⟨"RopeRound$Ground", "ropeAround", "(JJ)I"⟩ ∈ tg := kt 709 (by decide +kernel) (by decide +kernel)
theorem kw708 : Cond.methodLink "RopeRound$Best" 53 ⟨"RopeRound$Ground", "ropeAround", "(JJ)I"⟩ ∈ tg := kt 708 (by decide +kernel) (by decide +kernel)
theorem kw710 : Cond.selects "RopeRound$Ground" ⟨"RopeRound$Ground", "ropeAround", "(JJ)I"⟩ ⟨"RopeRound$Ground", "ropeAround", "(JJ)I"⟩ ∈ tg := kt 710 (by decide +kernel) (by decide +kernel)
theorem vk12 : ∀ ci y, (fun k => if k = 3 then some 35 else none) ci = some y → (∃ C T N, ClsOk ci C T N ∧ VOk mT "RopeRound$Best" 53 C y 2) ∨ (ci = 201 ∧ VOk mT "RopeRound$Best" 53 "java/lang/String" y 2) := by
  intro ci y h
  dsimp only at h
  by_cases h3 : ci = 3
  · subst h3
    have h := (Option.some.inj (by simpa using h)).symm
    subst h
    exact Or.inl ⟨_, _, _, okC3, ⟨mo35, kw709, Or.inl ⟨rfl, kw708, kw710⟩⟩⟩
  rw [if_neg h3] at h
  cases h
theorem gf16 : gF "RopeRound$Best" 18 5 (fun k => k = 1) (fun n => n = 2) := by
  refine ⟨_, _, _, kw183, fun ci h => ?_⟩
  rcases h with rfl
  · exact ⟨_, _, _, okC1, by decide, rfl, rfl, Or.inl rfl, rfl⟩
theorem kn240 : Cond.methodLinkNest "RopeRound$Finder" 3 ⟨"RopeRound$Walk", "<init>", "()V"⟩ "RopeRound" ∈ tb := kn 240 (by decide +kernel)
theorem kw241 : Cond.fieldLink "RopeRound$Finder" 9 "RopeRound$Finder" "toldCorners" "J" ∈ tg := kt 241 (by decide +kernel) (by decide +kernel)
theorem gf17 : gF "RopeRound$Finder" 9 3 (fun k => k = 2) (fun n => n = 1) := by
  refine ⟨_, _, _, kw241, fun ci h => ?_⟩
  rcases h with rfl
  · exact ⟨_, _, _, okC2, by decide, rfl, rfl, Or.inl rfl, rfl⟩
theorem kw242 : Cond.fieldLink "RopeRound$Finder" 15 "RopeRound$Finder" "toldCells" "J" ∈ tg := kt 242 (by decide +kernel) (by decide +kernel)
theorem gf18 : gF "RopeRound$Finder" 15 4 (fun k => k = 2) (fun n => n = 1) := by
  refine ⟨_, _, _, kw242, fun ci h => ?_⟩
  rcases h with rfl
  · exact ⟨_, _, _, okC2, by decide, rfl, rfl, Or.inl rfl, rfl⟩
theorem kw290 : Cond.fieldLink "RopeRound$Finder" 18 "RopeRound$Row" "items" "[I" ∈ tg := kt 290 (by decide +kernel) (by decide +kernel)
theorem gf19 : gF "RopeRound$Finder" 18 0 (fun k => k = 6) (fun n => n = 2) := by
  refine ⟨_, _, _, kw290, fun ci h => ?_⟩
  rcases h with rfl
  · exact ⟨_, _, _, okC6, by decide, rfl, rfl, Or.inl rfl, rfl⟩
set_option maxRecDepth 100000 in
theorem kw543 : Cond.code ⟨"RopeRound$Ground", "hasCorner", "(I)Z"⟩ prog_5_method_7_code 2 (some FieldType.boolean) ∈ tg := kt 543 rfl rfl
theorem mo28 : MOk (mT 28) 1 := ⟨kw543, kw4, by decide +kernel, by decide +kernel, by decide⟩
theorem kw541 : Cond.instanceMethod ⟨"RopeRound$Ground", "hasCorner", "(I)Z"⟩ ∈ tg := kt 541 (by decide +kernel) (by decide +kernel)
theorem kw811 : Cond.methodLink "RopeRound$Finder" 24 ⟨"RopeRound$Ground", "hasCorner", "(I)Z"⟩ ∈ tg := kt 811 (by decide +kernel) (by decide +kernel)
theorem kw542 : Cond.selects "RopeRound$Ground" ⟨"RopeRound$Ground", "hasCorner", "(I)Z"⟩ ⟨"RopeRound$Ground", "hasCorner", "(I)Z"⟩ ∈ tg := kt 542 (by decide +kernel) (by decide +kernel)
theorem vk13 : ∀ ci y, (fun k => if k = 3 then some 28 else none) ci = some y → (∃ C T N, ClsOk ci C T N ∧ VOk mT "RopeRound$Finder" 24 C y 1) ∨ (ci = 201 ∧ VOk mT "RopeRound$Finder" 24 "java/lang/String" y 1) := by
  intro ci y h
  dsimp only at h
  by_cases h3 : ci = 3
  · subst h3
    have h := (Option.some.inj (by simpa using h)).symm
    subst h
    exact Or.inl ⟨_, _, _, okC3, ⟨mo28, kw541, Or.inl ⟨rfl, kw811, kw542⟩⟩⟩
  rw [if_neg h3] at h
  cases h
set_option maxRecDepth 100000 in
theorem kw668 : Cond.code ⟨"RopeRound$Ground", "hasCell", "(I)Z"⟩ prog_5_method_8_code 2 (some FieldType.boolean) ∈ tg := kt 668 rfl rfl
theorem mo29 : MOk (mT 29) 1 := ⟨kw668, kw4, by decide +kernel, by decide +kernel, by decide⟩
theorem kw666 : Cond.instanceMethod ⟨"RopeRound$Ground", "hasCell", "(I)Z"⟩ ∈ tg := kt 666 (by decide +kernel) (by decide +kernel)
theorem kw812 : Cond.methodLink "RopeRound$Finder" 30 ⟨"RopeRound$Ground", "hasCell", "(I)Z"⟩ ∈ tg := kt 812 (by decide +kernel) (by decide +kernel)
theorem kw667 : Cond.selects "RopeRound$Ground" ⟨"RopeRound$Ground", "hasCell", "(I)Z"⟩ ⟨"RopeRound$Ground", "hasCell", "(I)Z"⟩ ∈ tg := kt 667 (by decide +kernel) (by decide +kernel)
theorem vk14 : ∀ ci y, (fun k => if k = 3 then some 29 else none) ci = some y → (∃ C T N, ClsOk ci C T N ∧ VOk mT "RopeRound$Finder" 30 C y 1) ∨ (ci = 201 ∧ VOk mT "RopeRound$Finder" 30 "java/lang/String" y 1) := by
  intro ci y h
  dsimp only at h
  by_cases h3 : ci = 3
  · subst h3
    have h := (Option.some.inj (by simpa using h)).symm
    subst h
    exact Or.inl ⟨_, _, _, okC3, ⟨mo29, kw666, Or.inl ⟨rfl, kw812, kw667⟩⟩⟩
  rw [if_neg h3] at h
  cases h
theorem kn813 : Cond.methodLinkNest "RopeRound$Finder" 33 ⟨"RopeRound", "bitOfCell", "(I)I"⟩ "RopeRound" ∈ tb := kn 813 (by decide +kernel)
theorem kw91 : Cond.fieldLink "RopeRound$Finder" 37 "RopeRound$Ground" "ropes" "[I" ∈ tg := kt 91 (by decide +kernel) (by decide +kernel)
theorem gf20 : gF "RopeRound$Finder" 37 7 (fun k => k = 3) (fun n => n = 2) := by
  refine ⟨_, _, _, kw91, fun ci h => ?_⟩
  rcases h with rfl
  · exact ⟨_, _, _, okC3, by decide, rfl, rfl, Or.inl rfl, rfl⟩
theorem kw243 : Cond.fieldLink "RopeRound$Finder" 40 "RopeRound$Finder" "rope" "I" ∈ tg := kt 243 (by decide +kernel) (by decide +kernel)
theorem gf21 : gF "RopeRound$Finder" 40 5 (fun k => k = 2) (fun n => n = 0 ∨ n = 4) := by
  refine ⟨_, _, _, kw243, fun ci h => ?_⟩
  rcases h with rfl
  · exact ⟨_, _, _, okC2, by decide, rfl, rfl, Or.inl rfl, Or.inl rfl⟩
theorem gf21w : gF "RopeRound$Finder" 40 5 (fun k => k = 2) (fun n => n = 0) := by
  refine ⟨_, _, _, kw243, fun ci h => ?_⟩
  rcases h with rfl
  · exact ⟨_, _, _, okC2, by decide, rfl, rfl, Or.inl rfl, rfl⟩
theorem kw244 : Cond.fieldLink "RopeRound$Finder" 44 "RopeRound$Finder" "fitting" "I" ∈ tg := kt 244 (by decide +kernel) (by decide +kernel)
theorem gf22 : gF "RopeRound$Finder" 44 6 (fun k => k = 2) (fun n => n = 0 ∨ n = 4) := by
  refine ⟨_, _, _, kw244, fun ci h => ?_⟩
  rcases h with rfl
  · exact ⟨_, _, _, okC2, by decide, rfl, rfl, Or.inl rfl, Or.inl rfl⟩
theorem gf22w : gF "RopeRound$Finder" 44 6 (fun k => k = 2) (fun n => n = 0) := by
  refine ⟨_, _, _, kw244, fun ci h => ?_⟩
  rcases h with rfl
  · exact ⟨_, _, _, okC2, by decide, rfl, rfl, Or.inl rfl, rfl⟩
theorem kw86 : Cond.fieldLink "RopeRound$Finder" 47 "RopeRound$Ground" "pegs" "[I" ∈ tg := kt 86 (by decide +kernel) (by decide +kernel)
theorem gf23 : gF "RopeRound$Finder" 47 6 (fun k => k = 3) (fun n => n = 2) := by
  refine ⟨_, _, _, kw86, fun ci h => ?_⟩
  rcases h with rfl
  · exact ⟨_, _, _, okC3, by decide, rfl, rfl, Or.inl rfl, rfl⟩
theorem kw818 : Cond.methodLink "RopeRound$Finder" 50 ⟨"RopeRound$Finder", "walkAll", "(LRopeRound$Ground;II)V"⟩ ∈ tg := kt 818 (by decide +kernel) (by decide +kernel)
theorem kw819 : Cond.sameMethod "RopeRound$Finder" "RopeRound$Walk" "walkAll" "(LRopeRound$Ground;II)V" ∈ tg := kt 819 (by decide +kernel) (by decide +kernel)
theorem kw820 : Cond.selects "RopeRound$Finder" ⟨"RopeRound$Finder", "walkAll", "(LRopeRound$Ground;II)V"⟩ ⟨"RopeRound$Walk", "walkAll", "(LRopeRound$Ground;II)V"⟩ ∈ tg := kt 820 (by decide +kernel) (by decide +kernel)
theorem vk15 : ∀ ci y, (fun k => if k = 2 then some 78 else none) ci = some y → (∃ C T N, ClsOk ci C T N ∧ VOk mT "RopeRound$Finder" 50 C y 3) ∨ (ci = 201 ∧ VOk mT "RopeRound$Finder" 50 "java/lang/String" y 3) := by
  intro ci y h
  dsimp only at h
  by_cases h2 : ci = 2
  · subst h2
    have h := (Option.some.inj (by simpa using h)).symm
    subst h
    exact Or.inl ⟨_, _, _, okC2, ⟨mo78, kw692, Or.inr ⟨⟨"RopeRound$Finder", "walkAll", "(LRopeRound$Ground;II)V"⟩, "RopeRound$Walk", by decide +kernel, by decide +kernel, kw818, kw819, Or.inl kn690, kw820⟩⟩⟩
  rw [if_neg h2] at h
  cases h
theorem kw716 : Cond.constantLong "RopeRound$Finder" 54 (-1) ∈ tg := kt 716 (by decide +kernel) (by decide +kernel)
theorem kw191 : Cond.sameField "RopeRound$Finder" "RopeRound$Walk" "ground" "LRopeRound$Ground;" ∈ tg := kt 191 (by decide +kernel) (by decide +kernel)
theorem kw190 : Cond.fieldLink "RopeRound$Finder" 56 "RopeRound$Finder" "ground" "LRopeRound$Ground;" ∈ tg := kt 190 (by decide +kernel) (by decide +kernel)
theorem gf24 : gF "RopeRound$Finder" 56 0 (fun k => k = 2) (fun n => n = 3) := by
  refine ⟨_, _, _, kw190, fun ci h => ?_⟩
  rcases h with rfl
  · exact ⟨_, _, _, okC2, by decide, rfl, rfl, Or.inr kw191, rfl⟩
theorem kw717 : Cond.methodLink "RopeRound$Finder" 60 ⟨"RopeRound$Ground", "ropeAround", "(JJ)I"⟩ ∈ tg := kt 717 (by decide +kernel) (by decide +kernel)
theorem vk16 : ∀ ci y, (fun k => if k = 3 then some 35 else none) ci = some y → (∃ C T N, ClsOk ci C T N ∧ VOk mT "RopeRound$Finder" 60 C y 2) ∨ (ci = 201 ∧ VOk mT "RopeRound$Finder" 60 "java/lang/String" y 2) := by
  intro ci y h
  dsimp only at h
  by_cases h3 : ci = 3
  · subst h3
    have h := (Option.some.inj (by simpa using h)).symm
    subst h
    exact Or.inl ⟨_, _, _, okC3, ⟨mo35, kw709, Or.inl ⟨rfl, kw717, kw710⟩⟩⟩
  rw [if_neg h3] at h
  cases h
theorem kw69 : Cond.methodLink "RopeRound$Ground" 3 ⟨"java/lang/Object", "<init>", "()V"⟩ ∈ tg := kt 69 (by decide +kernel) (by decide +kernel)
theorem kw83 : Cond.fieldLink "RopeRound$Ground" 11 "RopeRound$Ground" "worthBits" "[J" ∈ tg := kt 83 (by decide +kernel) (by decide +kernel)
theorem gf25f : gFF "RopeRound$Ground" 11 5 (fun k => k = 3) := by
  refine ⟨_, _, _, kw83, fun ci h => ?_⟩
  rcases h with rfl
  · exact ⟨_, _, _, okC3, by decide, rfl, rfl, rfl, rfl, rfl⟩
theorem kw84 : Cond.fieldLink "RopeRound$Ground" 15 "RopeRound$Ground" "pegs" "[I" ∈ tg := kt 84 (by decide +kernel) (by decide +kernel)
theorem gf26f : gFF "RopeRound$Ground" 15 6 (fun k => k = 3) := by
  refine ⟨_, _, _, kw84, fun ci h => ?_⟩
  rcases h with rfl
  · exact ⟨_, _, _, okC3, by decide, rfl, rfl, rfl, rfl, rfl⟩
theorem kw89 : Cond.fieldLink "RopeRound$Ground" 19 "RopeRound$Ground" "ropes" "[I" ∈ tg := kt 89 (by decide +kernel) (by decide +kernel)
theorem gf27f : gFF "RopeRound$Ground" 19 7 (fun k => k = 3) := by
  refine ⟨_, _, _, kw89, fun ci h => ?_⟩
  rcases h with rfl
  · exact ⟨_, _, _, okC3, by decide, rfl, rfl, rfl, rfl, rfl⟩
theorem kw94 : Cond.fieldLink "RopeRound$Ground" 22 "RopeRound$Ground" "rings" "[J" ∈ tg := kt 94 (by decide +kernel) (by decide +kernel)
theorem gf28f : gFF "RopeRound$Ground" 22 8 (fun k => k = 3) := by
  refine ⟨_, _, _, kw94, fun ci h => ?_⟩
  rcases h with rfl
  · exact ⟨_, _, _, okC3, by decide, rfl, rfl, rfl, rfl, rfl⟩
theorem kw96 : Cond.fieldLink "RopeRound$Ground" 25 "RopeRound$Ground" "ways" "[J" ∈ tg := kt 96 (by decide +kernel) (by decide +kernel)
theorem gf29f : gFF "RopeRound$Ground" 25 9 (fun k => k = 3) := by
  refine ⟨_, _, _, kw96, fun ci h => ?_⟩
  rcases h with rfl
  · exact ⟨_, _, _, okC3, by decide, rfl, rfl, rfl, rfl, rfl⟩
theorem kw70 : Cond.fieldLink "RopeRound$Ground" 28 "RopeRound$Ground" "wide" "I" ∈ tg := kt 70 (by decide +kernel) (by decide +kernel)
theorem gf30 : gF "RopeRound$Ground" 28 0 (fun k => k = 3) (fun n => n = 0 ∨ n = 4) := by
  refine ⟨_, _, _, kw70, fun ci h => ?_⟩
  rcases h with rfl
  · exact ⟨_, _, _, okC3, by decide, rfl, rfl, Or.inl rfl, Or.inl rfl⟩
theorem gf30w : gF "RopeRound$Ground" 28 0 (fun k => k = 3) (fun n => n = 0) := by
  refine ⟨_, _, _, kw70, fun ci h => ?_⟩
  rcases h with rfl
  · exact ⟨_, _, _, okC3, by decide, rfl, rfl, Or.inl rfl, rfl⟩
theorem kw73 : Cond.fieldLink "RopeRound$Ground" 32 "RopeRound$Ground" "high" "I" ∈ tg := kt 73 (by decide +kernel) (by decide +kernel)
theorem gf31 : gF "RopeRound$Ground" 32 1 (fun k => k = 3) (fun n => n = 0 ∨ n = 4) := by
  refine ⟨_, _, _, kw73, fun ci h => ?_⟩
  rcases h with rfl
  · exact ⟨_, _, _, okC3, by decide, rfl, rfl, Or.inl rfl, Or.inl rfl⟩
theorem gf31w : gF "RopeRound$Ground" 32 1 (fun k => k = 3) (fun n => n = 0) := by
  refine ⟨_, _, _, kw73, fun ci h => ?_⟩
  rcases h with rfl
  · exact ⟨_, _, _, okC3, by decide, rfl, rfl, Or.inl rfl, rfl⟩
theorem kw79 : Cond.fieldLink "RopeRound$Ground" 38 "RopeRound$Ground" "water" "J" ∈ tg := kt 79 (by decide +kernel) (by decide +kernel)
theorem gf32 : gF "RopeRound$Ground" 38 3 (fun k => k = 3) (fun n => n = 1) := by
  refine ⟨_, _, _, kw79, fun ci h => ?_⟩
  rcases h with rfl
  · exact ⟨_, _, _, okC3, by decide, rfl, rfl, Or.inl rfl, rfl⟩
theorem kw80 : Cond.fieldLink "RopeRound$Ground" 42 "RopeRound$Ground" "stones" "J" ∈ tg := kt 80 (by decide +kernel) (by decide +kernel)
theorem gf33 : gF "RopeRound$Ground" 42 4 (fun k => k = 3) (fun n => n = 1) := by
  refine ⟨_, _, _, kw80, fun ci h => ?_⟩
  rcases h with rfl
  · exact ⟨_, _, _, okC3, by decide, rfl, rfl, Or.inl rfl, rfl⟩
theorem gf34 : gF "RopeRound$Ground" 11 5 (fun k => k = 3) (fun n => n = 2) := by
  refine ⟨_, _, _, kw83, fun ci h => ?_⟩
  rcases h with rfl
  · exact ⟨_, _, _, okC3, by decide, rfl, rfl, Or.inl rfl, rfl⟩
theorem gf35 : gF "RopeRound$Ground" 22 8 (fun k => k = 3) (fun n => n = 2) := by
  refine ⟨_, _, _, kw94, fun ci h => ?_⟩
  rcases h with rfl
  · exact ⟨_, _, _, okC3, by decide, rfl, rfl, Or.inl rfl, rfl⟩
theorem kw566 : Cond.methodLink "RopeRound$Ground" 45 ⟨"java/lang/System", "arraycopy", "(Ljava/lang/Object;ILjava/lang/Object;II)V"⟩ ∈ tg := kt 566 (by decide +kernel) (by decide +kernel)
theorem kw384 : Cond.native ⟨"java/lang/System", "arraycopy", "(Ljava/lang/Object;ILjava/lang/Object;II)V"⟩ ∈ tg := kt 384 (by decide +kernel) (by decide +kernel)
theorem kw383 : Cond.static ⟨"java/lang/System", "arraycopy", "(Ljava/lang/Object;ILjava/lang/Object;II)V"⟩ ∈ tg := kt 383 (by decide +kernel) (by decide +kernel)
theorem kw13 : Cond.initialized "java/lang/System" ∈ tg := kt 13 (by decide +kernel) (by decide +kernel)
theorem gf36 : gF "RopeRound$Ground" 15 6 (fun k => k = 3) (fun n => n = 2) := by
  refine ⟨_, _, _, kw84, fun ci h => ?_⟩
  rcases h with rfl
  · exact ⟨_, _, _, okC3, by decide, rfl, rfl, Or.inl rfl, rfl⟩
theorem gf37 : gF "RopeRound$Ground" 19 7 (fun k => k = 3) (fun n => n = 2) := by
  refine ⟨_, _, _, kw89, fun ci h => ?_⟩
  rcases h with rfl
  · exact ⟨_, _, _, okC3, by decide, rfl, rfl, Or.inl rfl, rfl⟩
theorem gf38 : gF "RopeRound$Ground" 25 9 (fun k => k = 3) (fun n => n = 2) := by
  refine ⟨_, _, _, kw96, fun ci h => ?_⟩
  rcases h with rfl
  · exact ⟨_, _, _, okC3, by decide, rfl, rfl, Or.inl rfl, rfl⟩
theorem kw98 : Cond.fieldLink "RopeRound$Ground" 51 "RopeRound$Ground" "ringed" "J" ∈ tg := kt 98 (by decide +kernel) (by decide +kernel)
theorem gf39 : gF "RopeRound$Ground" 51 10 (fun k => k = 3) (fun n => n = 1) := by
  refine ⟨_, _, _, kw98, fun ci h => ?_⟩
  rcases h with rfl
  · exact ⟨_, _, _, okC3, by decide, rfl, rfl, Or.inl rfl, rfl⟩
theorem kw100 : Cond.fieldLink "RopeRound$Ground" 54 "RopeRound$Ground" "freeEast" "J" ∈ tg := kt 100 (by decide +kernel) (by decide +kernel)
theorem gf40 : gF "RopeRound$Ground" 54 11 (fun k => k = 3) (fun n => n = 1) := by
  refine ⟨_, _, _, kw100, fun ci h => ?_⟩
  rcases h with rfl
  · exact ⟨_, _, _, okC3, by decide, rfl, rfl, Or.inl rfl, rfl⟩
theorem kw101 : Cond.fieldLink "RopeRound$Ground" 57 "RopeRound$Ground" "freeSouth" "J" ∈ tg := kt 101 (by decide +kernel) (by decide +kernel)
theorem gf41 : gF "RopeRound$Ground" 57 12 (fun k => k = 3) (fun n => n = 1) := by
  refine ⟨_, _, _, kw101, fun ci h => ?_⟩
  rcases h with rfl
  · exact ⟨_, _, _, okC3, by decide, rfl, rfl, Or.inl rfl, rfl⟩
set_option maxRecDepth 100000 in
theorem kw547 : Cond.code ⟨"RopeRound$Ground", "isThere", "()Z"⟩ prog_5_method_4_code 1 (some FieldType.boolean) ∈ tg := kt 547 rfl rfl
theorem mo25 : MOk (mT 25) 0 := ⟨kw547, kw4, by decide +kernel, by decide +kernel, by decide⟩
theorem kw545 : Cond.instanceMethod ⟨"RopeRound$Ground", "isThere", "()Z"⟩ ∈ tg := kt 545 (by decide +kernel) (by decide +kernel)
theorem kw544 : Cond.methodLink "RopeRound$Ground" 60 ⟨"RopeRound$Ground", "isThere", "()Z"⟩ ∈ tg := kt 544 (by decide +kernel) (by decide +kernel)
theorem kw546 : Cond.selects "RopeRound$Ground" ⟨"RopeRound$Ground", "isThere", "()Z"⟩ ⟨"RopeRound$Ground", "isThere", "()Z"⟩ ∈ tg := kt 546 (by decide +kernel) (by decide +kernel)
theorem vk17 : ∀ ci y, (fun k => if k = 3 then some 25 else none) ci = some y → (∃ C T N, ClsOk ci C T N ∧ VOk mT "RopeRound$Ground" 60 C y 0) ∨ (ci = 201 ∧ VOk mT "RopeRound$Ground" 60 "java/lang/String" y 0) := by
  intro ci y h
  dsimp only at h
  by_cases h3 : ci = 3
  · subst h3
    have h := (Option.some.inj (by simpa using h)).symm
    subst h
    exact Or.inl ⟨_, _, _, okC3, ⟨mo25, kw545, Or.inl ⟨rfl, kw544, kw546⟩⟩⟩
  rw [if_neg h3] at h
  cases h
theorem kw540 : Cond.methodLink "RopeRound$Ground" 64 ⟨"RopeRound$Ground", "hasCorner", "(I)Z"⟩ ∈ tg := kt 540 (by decide +kernel) (by decide +kernel)
theorem vk18 : ∀ ci y, (fun k => if k = 3 then some 28 else none) ci = some y → (∃ C T N, ClsOk ci C T N ∧ VOk mT "RopeRound$Ground" 64 C y 1) ∨ (ci = 201 ∧ VOk mT "RopeRound$Ground" 64 "java/lang/String" y 1) := by
  intro ci y h
  dsimp only at h
  by_cases h3 : ci = 3
  · subst h3
    have h := (Option.some.inj (by simpa using h)).symm
    subst h
    exact Or.inl ⟨_, _, _, okC3, ⟨mo28, kw541, Or.inl ⟨rfl, kw540, kw542⟩⟩⟩
  rw [if_neg h3] at h
  cases h
theorem kn548 : Cond.methodLinkNest "RopeRound$Ground" 68 ⟨"RopeRound", "has", "(JI)Z"⟩ "RopeRound" ∈ tb := kn 548 (by decide +kernel)
theorem kw549 : Cond.constantLong "RopeRound$Ground" 72 9187201950435737471 ∈ tg := kt 549 (by decide +kernel) (by decide +kernel)
theorem kw550 : Cond.constantLong "RopeRound$Ground" 74 (-72340172838076674) ∈ tg := kt 550 (by decide +kernel) (by decide +kernel)
theorem kn555 : Cond.methodLinkNest "RopeRound$Ground" 76 ⟨"RopeRound", "bordersEast", "(J)J"⟩ "RopeRound" ∈ tb := kn 555 (by decide +kernel)
theorem kw556 : Cond.static ⟨"RopeRound", "bordersEast", "(J)J"⟩ ∈ tg := kt 556 (by decide +kernel) (by decide +kernel)
set_option maxRecDepth 100000 in
theorem kw557 : Cond.code ⟨"RopeRound", "bordersEast", "(J)J"⟩ prog_1_method_45_code 2 (some FieldType.long) ∈ tg := kt 557 rfl rfl
theorem mo125 : MOk (mT 125) 1 := ⟨kw557, kw1, by decide +kernel, by decide +kernel, by decide⟩
theorem kn558 : Cond.methodLinkNest "RopeRound$Ground" 80 ⟨"RopeRound", "bordersSouth", "(J)J"⟩ "RopeRound" ∈ tb := kn 558 (by decide +kernel)
theorem kw559 : Cond.static ⟨"RopeRound", "bordersSouth", "(J)J"⟩ ∈ tg := kt 559 (by decide +kernel) (by decide +kernel)
set_option maxRecDepth 100000 in
theorem kw560 : Cond.code ⟨"RopeRound", "bordersSouth", "(J)J"⟩ prog_1_method_46_code 2 (some FieldType.long) ∈ tg := kt 560 rfl rfl
theorem mo126 : MOk (mT 126) 1 := ⟨kw560, kw1, by decide +kernel, by decide +kernel, by decide⟩
theorem kn588 : Cond.fieldLinkNest "RopeRound$Ground" 83 "RopeRound" "STRIDES" "[I" "RopeRound" ∈ tb := kn 588 (by decide +kernel)
theorem kw712 : Cond.constantLong "RopeRound$Ground" 86 (-1) ∈ tg := kt 712 (by decide +kernel) (by decide +kernel)
theorem kw632 : Cond.methodLink "RopeRound$Ground" 88 ⟨"java/lang/Long", "bitCount", "(J)I"⟩ ∈ tg := kt 632 (by decide +kernel) (by decide +kernel)
theorem kw633 : Cond.static ⟨"java/lang/Long", "bitCount", "(J)I"⟩ ∈ tg := kt 633 (by decide +kernel) (by decide +kernel)
set_option maxRecDepth 100000 in
theorem kw634 : Cond.code ⟨"java/lang/Long", "bitCount", "(J)I"⟩ prog_14_method_50_code 2 (some FieldType.int) ∈ tg := kt 634 rfl rfl
theorem kw18 : Cond.initialized "java/lang/Long" ∈ tg := kt 18 (by decide +kernel) (by decide +kernel)
theorem mo210 : MOk (mT 210) 1 := ⟨kw634, kw18, by decide +kernel, by decide +kernel, by decide⟩
theorem kw676 : Cond.constant "RopeRound$Ground" 94 (-1000000) ∈ tg := kt 676 (by decide +kernel) (by decide +kernel)
set_option maxRecDepth 100000 in
theorem kw645 : Cond.code ⟨"RopeRound$Ground", "hasRing", "(I)Z"⟩ prog_5_method_6_code 2 (some FieldType.boolean) ∈ tg := kt 645 rfl rfl
theorem mo27 : MOk (mT 27) 1 := ⟨kw645, kw4, by decide +kernel, by decide +kernel, by decide⟩
theorem kw643 : Cond.instanceMethod ⟨"RopeRound$Ground", "hasRing", "(I)Z"⟩ ∈ tg := kt 643 (by decide +kernel) (by decide +kernel)
theorem kw906 : Cond.methodLink "RopeRound$Ground" 95 ⟨"RopeRound$Ground", "hasRing", "(I)Z"⟩ ∈ tg := kt 906 (by decide +kernel) (by decide +kernel)
theorem kw644 : Cond.selects "RopeRound$Ground" ⟨"RopeRound$Ground", "hasRing", "(I)Z"⟩ ⟨"RopeRound$Ground", "hasRing", "(I)Z"⟩ ∈ tg := kt 644 (by decide +kernel) (by decide +kernel)
theorem vk19 : ∀ ci y, (fun k => if k = 3 then some 27 else none) ci = some y → (∃ C T N, ClsOk ci C T N ∧ VOk mT "RopeRound$Ground" 95 C y 1) ∨ (ci = 201 ∧ VOk mT "RopeRound$Ground" 95 "java/lang/String" y 1) := by
  intro ci y h
  dsimp only at h
  by_cases h3 : ci = 3
  · subst h3
    have h := (Option.some.inj (by simpa using h)).symm
    subst h
    exact Or.inl ⟨_, _, _, okC3, ⟨mo27, kw643, Or.inl ⟨rfl, kw906, kw644⟩⟩⟩
  rw [if_neg h3] at h
  cases h
theorem kw838 : Cond.methodLink "RopeRound$Ground" 98 ⟨"RopeRound$Ground", "worthOf", "(J)I"⟩ ∈ tg := kt 838 (by decide +kernel) (by decide +kernel)
theorem vk20 : ∀ ci y, (fun k => if k = 3 then some 36 else none) ci = some y → (∃ C T N, ClsOk ci C T N ∧ VOk mT "RopeRound$Ground" 98 C y 1) ∨ (ci = 201 ∧ VOk mT "RopeRound$Ground" 98 "java/lang/String" y 1) := by
  intro ci y h
  dsimp only at h
  by_cases h3 : ci = 3
  · subst h3
    have h := (Option.some.inj (by simpa using h)).symm
    subst h
    exact Or.inl ⟨_, _, _, okC3, ⟨mo36, kw629, Or.inl ⟨rfl, kw838, kw630⟩⟩⟩
  rw [if_neg h3] at h
  cases h
theorem kw35 : Cond.methodLink "RopeRound$Reader" 3 ⟨"java/lang/Object", "<init>", "()V"⟩ ∈ tg := kt 35 (by decide +kernel) (by decide +kernel)
theorem kw36 : Cond.classLink "RopeRound$Reader" 9 "RopeRound$Tape" ∈ tg := kt 36 (by decide +kernel) (by decide +kernel)
theorem kn38 : Cond.methodLinkNest "RopeRound$Reader" 11 ⟨"RopeRound$Tape", "<init>", "()V"⟩ "RopeRound" ∈ tb := kn 38 (by decide +kernel)
theorem kw39 : Cond.instanceMethod ⟨"RopeRound$Tape", "<init>", "()V"⟩ ∈ tg := kt 39 (by decide +kernel) (by decide +kernel)
set_option maxRecDepth 100000 in
theorem kw40 : Cond.code ⟨"RopeRound$Tape", "<init>", "()V"⟩ prog_9_method_1_code 1 none ∈ tg := kt 40 rfl rfl
theorem kw3 : Cond.initialized "RopeRound$Tape" ∈ tg := kt 3 (by decide +kernel) (by decide +kernel)
theorem mo63 : MOk (mT 63) 0 := ⟨kw40, kw3, by decide +kernel, by decide +kernel, by decide⟩
theorem kw131 : Cond.fieldLink "RopeRound$Reader" 12 "RopeRound$Reader" "tape" "LRopeRound$Tape;" ∈ tg := kt 131 (by decide +kernel) (by decide +kernel)
theorem gf42f : gFF "RopeRound$Reader" 12 0 (fun k => k = 4) := by
  refine ⟨_, _, _, kw131, fun ci h => ?_⟩
  rcases h with rfl
  · exact ⟨_, _, _, okC4, by decide, rfl, rfl, rfl, rfl, rfl⟩
theorem kw64 : Cond.classLink "RopeRound$Reader" 18 "RopeRound$Ground" ∈ tg := kt 64 (by decide +kernel) (by decide +kernel)
theorem kn66 : Cond.methodLinkNest "RopeRound$Reader" 20 ⟨"RopeRound$Ground", "<init>", "()V"⟩ "RopeRound" ∈ tb := kn 66 (by decide +kernel)
theorem kw67 : Cond.instanceMethod ⟨"RopeRound$Ground", "<init>", "()V"⟩ ∈ tg := kt 67 (by decide +kernel) (by decide +kernel)
set_option maxRecDepth 100000 in
theorem kw68 : Cond.code ⟨"RopeRound$Ground", "<init>", "()V"⟩ prog_5_method_1_code 1 none ∈ tg := kt 68 rfl rfl
theorem mo22 : MOk (mT 22) 0 := ⟨kw68, kw4, by decide +kernel, by decide +kernel, by decide⟩
theorem kw133 : Cond.fieldLink "RopeRound$Reader" 21 "RopeRound$Reader" "draft" "LRopeRound$Ground;" ∈ tg := kt 133 (by decide +kernel) (by decide +kernel)
theorem gf43f : gFF "RopeRound$Reader" 21 1 (fun k => k = 4) := by
  refine ⟨_, _, _, kw133, fun ci h => ?_⟩
  rcases h with rfl
  · exact ⟨_, _, _, okC4, by decide, rfl, rfl, rfl, rfl, rfl⟩
theorem gf44 : gF "RopeRound$Reader" 21 1 (fun k => k = 4) (fun n => n = 2) := by
  refine ⟨_, _, _, kw133, fun ci h => ?_⟩
  rcases h with rfl
  · exact ⟨_, _, _, okC4, by decide, rfl, rfl, Or.inl rfl, rfl⟩
set_option maxRecDepth 100000 in
theorem kw413 : Cond.code ⟨"RopeRound$Ground", "clear", "()V"⟩ prog_5_method_2_code 2 none ∈ tg := kt 413 rfl rfl
theorem mo23 : MOk (mT 23) 0 := ⟨kw413, kw4, by decide +kernel, by decide +kernel, by decide⟩
theorem kw411 : Cond.instanceMethod ⟨"RopeRound$Ground", "clear", "()V"⟩ ∈ tg := kt 411 (by decide +kernel) (by decide +kernel)
theorem kw410 : Cond.methodLink "RopeRound$Reader" 25 ⟨"RopeRound$Ground", "clear", "()V"⟩ ∈ tg := kt 410 (by decide +kernel) (by decide +kernel)
theorem kw412 : Cond.selects "RopeRound$Ground" ⟨"RopeRound$Ground", "clear", "()V"⟩ ⟨"RopeRound$Ground", "clear", "()V"⟩ ∈ tg := kt 412 (by decide +kernel) (by decide +kernel)
theorem vk21 : ∀ ci y, (fun k => if k = 3 then some 23 else none) ci = some y → (∃ C T N, ClsOk ci C T N ∧ VOk mT "RopeRound$Reader" 25 C y 0) ∨ (ci = 201 ∧ VOk mT "RopeRound$Reader" 25 "java/lang/String" y 0) := by
  intro ci y h
  dsimp only at h
  by_cases h3 : ci = 3
  · subst h3
    have h := (Option.some.inj (by simpa using h)).symm
    subst h
    exact Or.inl ⟨_, _, _, okC3, ⟨mo23, kw411, Or.inl ⟨rfl, kw410, kw412⟩⟩⟩
  rw [if_neg h3] at h
  cases h
theorem gf45 : gF "RopeRound$Reader" 12 0 (fun k => k = 4) (fun n => n = 2) := by
  refine ⟨_, _, _, kw131, fun ci h => ?_⟩
  rcases h with rfl
  · exact ⟨_, _, _, okC4, by decide, rfl, rfl, Or.inl rfl, rfl⟩
set_option maxRecDepth 100000 in
theorem kw417 : Cond.code ⟨"RopeRound$Tape", "rewind", "()V"⟩ prog_9_method_3_code 1 none ∈ tg := kt 417 rfl rfl
theorem mo65 : MOk (mT 65) 0 := ⟨kw417, kw3, by decide +kernel, by decide +kernel, by decide⟩
theorem kw415 : Cond.instanceMethod ⟨"RopeRound$Tape", "rewind", "()V"⟩ ∈ tg := kt 415 (by decide +kernel) (by decide +kernel)
theorem kw414 : Cond.methodLink "RopeRound$Reader" 28 ⟨"RopeRound$Tape", "rewind", "()V"⟩ ∈ tg := kt 414 (by decide +kernel) (by decide +kernel)
theorem kw416 : Cond.selects "RopeRound$Tape" ⟨"RopeRound$Tape", "rewind", "()V"⟩ ⟨"RopeRound$Tape", "rewind", "()V"⟩ ∈ tg := kt 416 (by decide +kernel) (by decide +kernel)
theorem vk22 : ∀ ci y, (fun k => if k = 7 then some 65 else none) ci = some y → (∃ C T N, ClsOk ci C T N ∧ VOk mT "RopeRound$Reader" 28 C y 0) ∨ (ci = 201 ∧ VOk mT "RopeRound$Reader" 28 "java/lang/String" y 0) := by
  intro ci y h
  dsimp only at h
  by_cases h7 : ci = 7
  · subst h7
    have h := (Option.some.inj (by simpa using h)).symm
    subst h
    exact Or.inl ⟨_, _, _, okC7, ⟨mo65, kw415, Or.inl ⟨rfl, kw414, kw416⟩⟩⟩
  rw [if_neg h7] at h
  cases h
set_option maxRecDepth 100000 in
theorem kw428 : Cond.code ⟨"RopeRound$Reader", "readRows", "()Z"⟩ prog_6_method_4_code 3 (some FieldType.boolean) ∈ tg := kt 428 rfl rfl
theorem kw2 : Cond.initialized "RopeRound$Reader" ∈ tg := kt 2 (by decide +kernel) (by decide +kernel)
theorem mo43 : MOk (mT 43) 0 := ⟨kw428, kw2, by decide +kernel, by decide +kernel, by decide⟩
theorem kw427 : Cond.instanceMethod ⟨"RopeRound$Reader", "readRows", "()Z"⟩ ∈ tg := kt 427 (by decide +kernel) (by decide +kernel)
theorem kw425 : Cond.methodLink "RopeRound$Reader" 31 ⟨"RopeRound$Reader", "readRows", "()Z"⟩ ∈ tg := kt 425 (by decide +kernel) (by decide +kernel)
theorem vk23 : ∀ ci y, (fun k => if k = 4 then some 43 else none) ci = some y → (∃ C T N, ClsOk ci C T N ∧ VOk mT "RopeRound$Reader" 31 C y 0) ∨ (ci = 201 ∧ VOk mT "RopeRound$Reader" 31 "java/lang/String" y 0) := by
  intro ci y h
  dsimp only at h
  by_cases h4 : ci = 4
  · subst h4
    have h := (Option.some.inj (by simpa using h)).symm
    subst h
    exact Or.inl ⟨_, _, _, okC4, ⟨mo43, kw427, Or.inl ⟨rfl, kw425, (ks (q := (⟨"RopeRound$Reader", "readRows", "()Z"⟩, 4)) (by decide +kernel))⟩⟩⟩
  rw [if_neg h4] at h
  cases h
set_option maxRecDepth 100000 in
theorem kw506 : Cond.code ⟨"RopeRound$Reader", "readStones", "()Z"⟩ prog_6_method_5_code 2 (some FieldType.boolean) ∈ tg := kt 506 rfl rfl
theorem mo44 : MOk (mT 44) 0 := ⟨kw506, kw2, by decide +kernel, by decide +kernel, by decide⟩
theorem kw505 : Cond.instanceMethod ⟨"RopeRound$Reader", "readStones", "()Z"⟩ ∈ tg := kt 505 (by decide +kernel) (by decide +kernel)
theorem kw503 : Cond.methodLink "RopeRound$Reader" 35 ⟨"RopeRound$Reader", "readStones", "()Z"⟩ ∈ tg := kt 503 (by decide +kernel) (by decide +kernel)
theorem vk24 : ∀ ci y, (fun k => if k = 4 then some 44 else none) ci = some y → (∃ C T N, ClsOk ci C T N ∧ VOk mT "RopeRound$Reader" 35 C y 0) ∨ (ci = 201 ∧ VOk mT "RopeRound$Reader" 35 "java/lang/String" y 0) := by
  intro ci y h
  dsimp only at h
  by_cases h4 : ci = 4
  · subst h4
    have h := (Option.some.inj (by simpa using h)).symm
    subst h
    exact Or.inl ⟨_, _, _, okC4, ⟨mo44, kw505, Or.inl ⟨rfl, kw503, (ks (q := (⟨"RopeRound$Reader", "readStones", "()Z"⟩, 4)) (by decide +kernel))⟩⟩⟩
  rw [if_neg h4] at h
  cases h
set_option maxRecDepth 100000 in
theorem kw523 : Cond.code ⟨"RopeRound$Reader", "readMen", "()Z"⟩ prog_6_method_6_code 3 (some FieldType.boolean) ∈ tg := kt 523 rfl rfl
theorem mo45 : MOk (mT 45) 0 := ⟨kw523, kw2, by decide +kernel, by decide +kernel, by decide⟩
theorem kw522 : Cond.instanceMethod ⟨"RopeRound$Reader", "readMen", "()Z"⟩ ∈ tg := kt 522 (by decide +kernel) (by decide +kernel)
theorem kw520 : Cond.methodLink "RopeRound$Reader" 38 ⟨"RopeRound$Reader", "readMen", "()Z"⟩ ∈ tg := kt 520 (by decide +kernel) (by decide +kernel)
theorem vk25 : ∀ ci y, (fun k => if k = 4 then some 45 else none) ci = some y → (∃ C T N, ClsOk ci C T N ∧ VOk mT "RopeRound$Reader" 38 C y 0) ∨ (ci = 201 ∧ VOk mT "RopeRound$Reader" 38 "java/lang/String" y 0) := by
  intro ci y h
  dsimp only at h
  by_cases h4 : ci = 4
  · subst h4
    have h := (Option.some.inj (by simpa using h)).symm
    subst h
    exact Or.inl ⟨_, _, _, okC4, ⟨mo45, kw522, Or.inl ⟨rfl, kw520, (ks (q := (⟨"RopeRound$Reader", "readMen", "()Z"⟩, 4)) (by decide +kernel))⟩⟩⟩
  rw [if_neg h4] at h
  cases h
set_option maxRecDepth 100000 in
theorem kw539 : Cond.code ⟨"RopeRound$Ground", "reckonWays", "()V"⟩ prog_5_method_10_code 4 none ∈ tg := kt 539 rfl rfl
theorem mo31 : MOk (mT 31) 0 := ⟨kw539, kw4, by decide +kernel, by decide +kernel, by decide⟩
theorem kw537 : Cond.instanceMethod ⟨"RopeRound$Ground", "reckonWays", "()V"⟩ ∈ tg := kt 537 (by decide +kernel) (by decide +kernel)
theorem kw536 : Cond.methodLink "RopeRound$Reader" 41 ⟨"RopeRound$Ground", "reckonWays", "()V"⟩ ∈ tg := kt 536 (by decide +kernel) (by decide +kernel)
theorem kw538 : Cond.selects "RopeRound$Ground" ⟨"RopeRound$Ground", "reckonWays", "()V"⟩ ⟨"RopeRound$Ground", "reckonWays", "()V"⟩ ∈ tg := kt 538 (by decide +kernel) (by decide +kernel)
theorem vk26 : ∀ ci y, (fun k => if k = 3 then some 31 else none) ci = some y → (∃ C T N, ClsOk ci C T N ∧ VOk mT "RopeRound$Reader" 41 C y 0) ∨ (ci = 201 ∧ VOk mT "RopeRound$Reader" 41 "java/lang/String" y 0) := by
  intro ci y h
  dsimp only at h
  by_cases h3 : ci = 3
  · subst h3
    have h := (Option.some.inj (by simpa using h)).symm
    subst h
    exact Or.inl ⟨_, _, _, okC3, ⟨mo31, kw537, Or.inl ⟨rfl, kw536, kw538⟩⟩⟩
  rw [if_neg h3] at h
  cases h
set_option maxRecDepth 100000 in
theorem kw554 : Cond.code ⟨"RopeRound$Ground", "reckonRings", "()V"⟩ prog_5_method_11_code 2 none ∈ tg := kt 554 rfl rfl
theorem mo32 : MOk (mT 32) 0 := ⟨kw554, kw4, by decide +kernel, by decide +kernel, by decide⟩
theorem kw552 : Cond.instanceMethod ⟨"RopeRound$Ground", "reckonRings", "()V"⟩ ∈ tg := kt 552 (by decide +kernel) (by decide +kernel)
theorem kw551 : Cond.methodLink "RopeRound$Reader" 44 ⟨"RopeRound$Ground", "reckonRings", "()V"⟩ ∈ tg := kt 551 (by decide +kernel) (by decide +kernel)
theorem kw553 : Cond.selects "RopeRound$Ground" ⟨"RopeRound$Ground", "reckonRings", "()V"⟩ ⟨"RopeRound$Ground", "reckonRings", "()V"⟩ ∈ tg := kt 553 (by decide +kernel) (by decide +kernel)
theorem vk27 : ∀ ci y, (fun k => if k = 3 then some 32 else none) ci = some y → (∃ C T N, ClsOk ci C T N ∧ VOk mT "RopeRound$Reader" 44 C y 0) ∨ (ci = 201 ∧ VOk mT "RopeRound$Reader" 44 "java/lang/String" y 0) := by
  intro ci y h
  dsimp only at h
  by_cases h3 : ci = 3
  · subst h3
    have h := (Option.some.inj (by simpa using h)).symm
    subst h
    exact Or.inl ⟨_, _, _, okC3, ⟨mo32, kw552, Or.inl ⟨rfl, kw551, kw553⟩⟩⟩
  rw [if_neg h3] at h
  cases h
theorem kw135 : Cond.fieldLink "RopeRound$Reader" 47 "RopeRound$Reader" "fault" "I" ∈ tg := kt 135 (by decide +kernel) (by decide +kernel)
theorem gf46 : gF "RopeRound$Reader" 47 2 (fun k => k = 4) (fun n => n = 0 ∨ n = 4) := by
  refine ⟨_, _, _, kw135, fun ci h => ?_⟩
  rcases h with rfl
  · exact ⟨_, _, _, okC4, by decide, rfl, rfl, Or.inl rfl, Or.inl rfl⟩
theorem gf46w : gF "RopeRound$Reader" 47 2 (fun k => k = 4) (fun n => n = 0) := by
  refine ⟨_, _, _, kw135, fun ci h => ?_⟩
  rcases h with rfl
  · exact ⟨_, _, _, okC4, by decide, rfl, rfl, Or.inl rfl, rfl⟩
theorem kw48 : Cond.fieldLink "RopeRound$Reader" 51 "RopeRound$Tape" "start" "I" ∈ tg := kt 48 (by decide +kernel) (by decide +kernel)
theorem gf47 : gF "RopeRound$Reader" 51 3 (fun k => k = 7) (fun n => n = 0 ∨ n = 4) := by
  refine ⟨_, _, _, kw48, fun ci h => ?_⟩
  rcases h with rfl
  · exact ⟨_, _, _, okC7, by decide, rfl, rfl, Or.inl rfl, Or.inl rfl⟩
theorem gf47w : gF "RopeRound$Reader" 51 3 (fun k => k = 7) (fun n => n = 0) := by
  refine ⟨_, _, _, kw48, fun ci h => ?_⟩
  rcases h with rfl
  · exact ⟨_, _, _, okC7, by decide, rfl, rfl, Or.inl rfl, rfl⟩
theorem kw137 : Cond.fieldLink "RopeRound$Reader" 54 "RopeRound$Reader" "faultPlace" "I" ∈ tg := kt 137 (by decide +kernel) (by decide +kernel)
theorem gf48 : gF "RopeRound$Reader" 54 3 (fun k => k = 4) (fun n => n = 0 ∨ n = 4) := by
  refine ⟨_, _, _, kw137, fun ci h => ?_⟩
  rcases h with rfl
  · exact ⟨_, _, _, okC4, by decide, rfl, rfl, Or.inl rfl, Or.inl rfl⟩
theorem gf48w : gF "RopeRound$Reader" 54 3 (fun k => k = 4) (fun n => n = 0) := by
  refine ⟨_, _, _, kw137, fun ci h => ?_⟩
  rcases h with rfl
  · exact ⟨_, _, _, okC4, by decide, rfl, rfl, Or.inl rfl, rfl⟩
set_option maxRecDepth 100000 in
theorem kw433 : Cond.code ⟨"RopeRound$Reader", "readWord", "(Ljava/lang/String;II)Z"⟩ prog_6_method_7_code 4 (some FieldType.boolean) ∈ tg := kt 433 rfl rfl
theorem mo46 : MOk (mT 46) 3 := ⟨kw433, kw2, by decide +kernel, by decide +kernel, by decide⟩
theorem kw432 : Cond.instanceMethod ⟨"RopeRound$Reader", "readWord", "(Ljava/lang/String;II)Z"⟩ ∈ tg := kt 432 (by decide +kernel) (by decide +kernel)
theorem kw430 : Cond.methodLink "RopeRound$Reader" 59 ⟨"RopeRound$Reader", "readWord", "(Ljava/lang/String;II)Z"⟩ ∈ tg := kt 430 (by decide +kernel) (by decide +kernel)
theorem vk28 : ∀ ci y, (fun k => if k = 4 then some 46 else none) ci = some y → (∃ C T N, ClsOk ci C T N ∧ VOk mT "RopeRound$Reader" 59 C y 3) ∨ (ci = 201 ∧ VOk mT "RopeRound$Reader" 59 "java/lang/String" y 3) := by
  intro ci y h
  dsimp only at h
  by_cases h4 : ci = 4
  · subst h4
    have h := (Option.some.inj (by simpa using h)).symm
    subst h
    exact Or.inl ⟨_, _, _, okC4, ⟨mo46, kw432, Or.inl ⟨rfl, kw430, (ks (q := (⟨"RopeRound$Reader", "readWord", "(Ljava/lang/String;II)Z"⟩, 4)) (by decide +kernel))⟩⟩⟩
  rw [if_neg h4] at h
  cases h
set_option maxRecDepth 100000 in
theorem kw494 : Cond.code ⟨"RopeRound$Reader", "readCells", "()Z"⟩ prog_6_method_9_code 4 (some FieldType.boolean) ∈ tg := kt 494 rfl rfl
theorem mo48 : MOk (mT 48) 0 := ⟨kw494, kw2, by decide +kernel, by decide +kernel, by decide⟩
theorem kw493 : Cond.instanceMethod ⟨"RopeRound$Reader", "readCells", "()Z"⟩ ∈ tg := kt 493 (by decide +kernel) (by decide +kernel)
theorem kw491 : Cond.methodLink "RopeRound$Reader" 63 ⟨"RopeRound$Reader", "readCells", "()Z"⟩ ∈ tg := kt 491 (by decide +kernel) (by decide +kernel)
theorem vk29 : ∀ ci y, (fun k => if k = 4 then some 48 else none) ci = some y → (∃ C T N, ClsOk ci C T N ∧ VOk mT "RopeRound$Reader" 63 C y 0) ∨ (ci = 201 ∧ VOk mT "RopeRound$Reader" 63 "java/lang/String" y 0) := by
  intro ci y h
  dsimp only at h
  by_cases h4 : ci = 4
  · subst h4
    have h := (Option.some.inj (by simpa using h)).symm
    subst h
    exact Or.inl ⟨_, _, _, okC4, ⟨mo48, kw493, Or.inl ⟨rfl, kw491, (ks (q := (⟨"RopeRound$Reader", "readCells", "()Z"⟩, 4)) (by decide +kernel))⟩⟩⟩
  rw [if_neg h4] at h
  cases h
set_option maxRecDepth 100000 in
theorem kw502 : Cond.code ⟨"RopeRound$Reader", "readSign", "()Z"⟩ prog_6_method_8_code 1 (some FieldType.boolean) ∈ tg := kt 502 rfl rfl
theorem mo47 : MOk (mT 47) 0 := ⟨kw502, kw2, by decide +kernel, by decide +kernel, by decide⟩
theorem kw501 : Cond.instanceMethod ⟨"RopeRound$Reader", "readSign", "()Z"⟩ ∈ tg := kt 501 (by decide +kernel) (by decide +kernel)
theorem kw499 : Cond.methodLink "RopeRound$Reader" 66 ⟨"RopeRound$Reader", "readSign", "()Z"⟩ ∈ tg := kt 499 (by decide +kernel) (by decide +kernel)
theorem vk30 : ∀ ci y, (fun k => if k = 4 then some 47 else none) ci = some y → (∃ C T N, ClsOk ci C T N ∧ VOk mT "RopeRound$Reader" 66 C y 0) ∨ (ci = 201 ∧ VOk mT "RopeRound$Reader" 66 "java/lang/String" y 0) := by
  intro ci y h
  dsimp only at h
  by_cases h4 : ci = 4
  · subst h4
    have h := (Option.some.inj (by simpa using h)).symm
    subst h
    exact Or.inl ⟨_, _, _, okC4, ⟨mo47, kw501, Or.inl ⟨rfl, kw499, (ks (q := (⟨"RopeRound$Reader", "readSign", "()Z"⟩, 4)) (by decide +kernel))⟩⟩⟩
  rw [if_neg h4] at h
  cases h
set_option maxRecDepth 100000 in
theorem kw437 : Cond.code ⟨"RopeRound$Tape", "isWord", "(Ljava/lang/String;)Z"⟩ prog_9_method_6_code 3 (some FieldType.boolean) ∈ tg := kt 437 rfl rfl
theorem mo71 : MOk (mT 71) 1 := ⟨kw437, kw3, by decide +kernel, by decide +kernel, by decide⟩
theorem kw435 : Cond.instanceMethod ⟨"RopeRound$Tape", "isWord", "(Ljava/lang/String;)Z"⟩ ∈ tg := kt 435 (by decide +kernel) (by decide +kernel)
theorem kw434 : Cond.methodLink "RopeRound$Reader" 69 ⟨"RopeRound$Tape", "isWord", "(Ljava/lang/String;)Z"⟩ ∈ tg := kt 434 (by decide +kernel) (by decide +kernel)
theorem kw436 : Cond.selects "RopeRound$Tape" ⟨"RopeRound$Tape", "isWord", "(Ljava/lang/String;)Z"⟩ ⟨"RopeRound$Tape", "isWord", "(Ljava/lang/String;)Z"⟩ ∈ tg := kt 436 (by decide +kernel) (by decide +kernel)
theorem vk31 : ∀ ci y, (fun k => if k = 7 then some 71 else none) ci = some y → (∃ C T N, ClsOk ci C T N ∧ VOk mT "RopeRound$Reader" 69 C y 1) ∨ (ci = 201 ∧ VOk mT "RopeRound$Reader" 69 "java/lang/String" y 1) := by
  intro ci y h
  dsimp only at h
  by_cases h7 : ci = 7
  · subst h7
    have h := (Option.some.inj (by simpa using h)).symm
    subst h
    exact Or.inl ⟨_, _, _, okC7, ⟨mo71, kw435, Or.inl ⟨rfl, kw434, kw436⟩⟩⟩
  rw [if_neg h7] at h
  cases h
set_option maxRecDepth 100000 in
theorem kw511 : Cond.code ⟨"RopeRound$Reader", "readStone", "()Z"⟩ prog_6_method_11_code 3 (some FieldType.boolean) ∈ tg := kt 511 rfl rfl
theorem mo50 : MOk (mT 50) 0 := ⟨kw511, kw2, by decide +kernel, by decide +kernel, by decide⟩
theorem kw510 : Cond.instanceMethod ⟨"RopeRound$Reader", "readStone", "()Z"⟩ ∈ tg := kt 510 (by decide +kernel) (by decide +kernel)
theorem kw508 : Cond.methodLink "RopeRound$Reader" 75 ⟨"RopeRound$Reader", "readStone", "()Z"⟩ ∈ tg := kt 508 (by decide +kernel) (by decide +kernel)
theorem vk32 : ∀ ci y, (fun k => if k = 4 then some 50 else none) ci = some y → (∃ C T N, ClsOk ci C T N ∧ VOk mT "RopeRound$Reader" 75 C y 0) ∨ (ci = 201 ∧ VOk mT "RopeRound$Reader" 75 "java/lang/String" y 0) := by
  intro ci y h
  dsimp only at h
  by_cases h4 : ci = 4
  · subst h4
    have h := (Option.some.inj (by simpa using h)).symm
    subst h
    exact Or.inl ⟨_, _, _, okC4, ⟨mo50, kw510, Or.inl ⟨rfl, kw508, (ks (q := (⟨"RopeRound$Reader", "readStone", "()Z"⟩, 4)) (by decide +kernel))⟩⟩⟩
  rw [if_neg h4] at h
  cases h
set_option maxRecDepth 100000 in
theorem kw528 : Cond.code ⟨"RopeRound$Reader", "readMan", "()Z"⟩ prog_6_method_12_code 4 (some FieldType.boolean) ∈ tg := kt 528 rfl rfl
theorem mo51 : MOk (mT 51) 0 := ⟨kw528, kw2, by decide +kernel, by decide +kernel, by decide⟩
theorem kw527 : Cond.instanceMethod ⟨"RopeRound$Reader", "readMan", "()Z"⟩ ∈ tg := kt 527 (by decide +kernel) (by decide +kernel)
theorem kw525 : Cond.methodLink "RopeRound$Reader" 80 ⟨"RopeRound$Reader", "readMan", "()Z"⟩ ∈ tg := kt 525 (by decide +kernel) (by decide +kernel)
theorem vk33 : ∀ ci y, (fun k => if k = 4 then some 51 else none) ci = some y → (∃ C T N, ClsOk ci C T N ∧ VOk mT "RopeRound$Reader" 80 C y 0) ∨ (ci = 201 ∧ VOk mT "RopeRound$Reader" 80 "java/lang/String" y 0) := by
  intro ci y h
  dsimp only at h
  by_cases h4 : ci = 4
  · subst h4
    have h := (Option.some.inj (by simpa using h)).symm
    subst h
    exact Or.inl ⟨_, _, _, okC4, ⟨mo51, kw527, Or.inl ⟨rfl, kw525, (ks (q := (⟨"RopeRound$Reader", "readMan", "()Z"⟩, 4)) (by decide +kernel))⟩⟩⟩
  rw [if_neg h4] at h
  cases h
theorem kw47 : Cond.fieldLink "RopeRound$Reader" 83 "RopeRound$Tape" "sort" "I" ∈ tg := kt 47 (by decide +kernel) (by decide +kernel)
theorem gf49 : gF "RopeRound$Reader" 83 2 (fun k => k = 7) (fun n => n = 0 ∨ n = 4) := by
  refine ⟨_, _, _, kw47, fun ci h => ?_⟩
  rcases h with rfl
  · exact ⟨_, _, _, okC7, by decide, rfl, rfl, Or.inl rfl, Or.inl rfl⟩
theorem gf49w : gF "RopeRound$Reader" 83 2 (fun k => k = 7) (fun n => n = 0) := by
  refine ⟨_, _, _, kw47, fun ci h => ?_⟩
  rcases h with rfl
  · exact ⟨_, _, _, okC7, by decide, rfl, rfl, Or.inl rfl, rfl⟩
set_option maxRecDepth 100000 in
theorem kw489 : Cond.code ⟨"RopeRound$Reader", "wrong", "(I)Z"⟩ prog_6_method_3_code 2 (some FieldType.boolean) ∈ tg := kt 489 rfl rfl
theorem mo42 : MOk (mT 42) 1 := ⟨kw489, kw2, by decide +kernel, by decide +kernel, by decide⟩
theorem kw488 : Cond.instanceMethod ⟨"RopeRound$Reader", "wrong", "(I)Z"⟩ ∈ tg := kt 488 (by decide +kernel) (by decide +kernel)
theorem kw486 : Cond.methodLink "RopeRound$Reader" 86 ⟨"RopeRound$Reader", "wrong", "(I)Z"⟩ ∈ tg := kt 486 (by decide +kernel) (by decide +kernel)
theorem vk34 : ∀ ci y, (fun k => if k = 4 then some 42 else none) ci = some y → (∃ C T N, ClsOk ci C T N ∧ VOk mT "RopeRound$Reader" 86 C y 1) ∨ (ci = 201 ∧ VOk mT "RopeRound$Reader" 86 "java/lang/String" y 1) := by
  intro ci y h
  dsimp only at h
  by_cases h4 : ci = 4
  · subst h4
    have h := (Option.some.inj (by simpa using h)).symm
    subst h
    exact Or.inl ⟨_, _, _, okC4, ⟨mo42, kw488, Or.inl ⟨rfl, kw486, (ks (q := (⟨"RopeRound$Reader", "wrong", "(I)Z"⟩, 4)) (by decide +kernel))⟩⟩⟩
  rw [if_neg h4] at h
  cases h
set_option maxRecDepth 100000 in
theorem kw421 : Cond.code ⟨"RopeRound$Tape", "advance", "()V"⟩ prog_9_method_4_code 2 none ∈ tg := kt 421 rfl rfl
theorem mo66 : MOk (mT 66) 0 := ⟨kw421, kw3, by decide +kernel, by decide +kernel, by decide⟩
theorem kw419 : Cond.instanceMethod ⟨"RopeRound$Tape", "advance", "()V"⟩ ∈ tg := kt 419 (by decide +kernel) (by decide +kernel)
theorem kw490 : Cond.methodLink "RopeRound$Reader" 90 ⟨"RopeRound$Tape", "advance", "()V"⟩ ∈ tg := kt 490 (by decide +kernel) (by decide +kernel)
theorem kw420 : Cond.selects "RopeRound$Tape" ⟨"RopeRound$Tape", "advance", "()V"⟩ ⟨"RopeRound$Tape", "advance", "()V"⟩ ∈ tg := kt 420 (by decide +kernel) (by decide +kernel)
theorem vk35 : ∀ ci y, (fun k => if k = 7 then some 66 else none) ci = some y → (∃ C T N, ClsOk ci C T N ∧ VOk mT "RopeRound$Reader" 90 C y 0) ∨ (ci = 201 ∧ VOk mT "RopeRound$Reader" 90 "java/lang/String" y 0) := by
  intro ci y h
  dsimp only at h
  by_cases h7 : ci = 7
  · subst h7
    have h := (Option.some.inj (by simpa using h)).symm
    subst h
    exact Or.inl ⟨_, _, _, okC7, ⟨mo66, kw419, Or.inl ⟨rfl, kw490, kw420⟩⟩⟩
  rw [if_neg h7] at h
  cases h
theorem kw51 : Cond.fieldLink "RopeRound$Reader" 93 "RopeRound$Tape" "end" "I" ∈ tg := kt 51 (by decide +kernel) (by decide +kernel)
theorem gf50 : gF "RopeRound$Reader" 93 4 (fun k => k = 7) (fun n => n = 0 ∨ n = 4) := by
  refine ⟨_, _, _, kw51, fun ci h => ?_⟩
  rcases h with rfl
  · exact ⟨_, _, _, okC7, by decide, rfl, rfl, Or.inl rfl, Or.inl rfl⟩
theorem gf50w : gF "RopeRound$Reader" 93 4 (fun k => k = 7) (fun n => n = 0) := by
  refine ⟨_, _, _, kw51, fun ci h => ?_⟩
  rcases h with rfl
  · exact ⟨_, _, _, okC7, by decide, rfl, rfl, Or.inl rfl, rfl⟩
theorem kw74 : Cond.fieldLink "RopeRound$Reader" 96 "RopeRound$Ground" "high" "I" ∈ tg := kt 74 (by decide +kernel) (by decide +kernel)
theorem gf51 : gF "RopeRound$Reader" 96 1 (fun k => k = 3) (fun n => n = 0 ∨ n = 4) := by
  refine ⟨_, _, _, kw74, fun ci h => ?_⟩
  rcases h with rfl
  · exact ⟨_, _, _, okC3, by decide, rfl, rfl, Or.inl rfl, Or.inl rfl⟩
theorem gf51w : gF "RopeRound$Reader" 96 1 (fun k => k = 3) (fun n => n = 0) := by
  refine ⟨_, _, _, kw74, fun ci h => ?_⟩
  rcases h with rfl
  · exact ⟨_, _, _, okC3, by decide, rfl, rfl, Or.inl rfl, rfl⟩
theorem kw71 : Cond.fieldLink "RopeRound$Reader" 99 "RopeRound$Ground" "wide" "I" ∈ tg := kt 71 (by decide +kernel) (by decide +kernel)
theorem gf52 : gF "RopeRound$Reader" 99 0 (fun k => k = 3) (fun n => n = 0 ∨ n = 4) := by
  refine ⟨_, _, _, kw71, fun ci h => ?_⟩
  rcases h with rfl
  · exact ⟨_, _, _, okC3, by decide, rfl, rfl, Or.inl rfl, Or.inl rfl⟩
theorem gf52w : gF "RopeRound$Reader" 99 0 (fun k => k = 3) (fun n => n = 0) := by
  refine ⟨_, _, _, kw71, fun ci h => ?_⟩
  rcases h with rfl
  · exact ⟨_, _, _, okC3, by decide, rfl, rfl, Or.inl rfl, rfl⟩
theorem kw43 : Cond.fieldLink "RopeRound$Reader" 102 "RopeRound$Tape" "bytes" "[B" ∈ tg := kt 43 (by decide +kernel) (by decide +kernel)
theorem gf53 : gF "RopeRound$Reader" 102 0 (fun k => k = 7) (fun n => n = 2) := by
  refine ⟨_, _, _, kw43, fun ci h => ?_⟩
  rcases h with rfl
  · exact ⟨_, _, _, okC7, by decide, rfl, rfl, Or.inl rfl, rfl⟩
set_option maxRecDepth 100000 in
theorem kw498 : Cond.code ⟨"RopeRound$Ground", "setCell", "(II)V"⟩ prog_5_method_9_code 4 none ∈ tg := kt 498 rfl rfl
theorem mo30 : MOk (mT 30) 2 := ⟨kw498, kw4, by decide +kernel, by decide +kernel, by decide⟩
theorem kw496 : Cond.instanceMethod ⟨"RopeRound$Ground", "setCell", "(II)V"⟩ ∈ tg := kt 496 (by decide +kernel) (by decide +kernel)
theorem kw495 : Cond.methodLink "RopeRound$Reader" 106 ⟨"RopeRound$Ground", "setCell", "(II)V"⟩ ∈ tg := kt 495 (by decide +kernel) (by decide +kernel)
theorem kw497 : Cond.selects "RopeRound$Ground" ⟨"RopeRound$Ground", "setCell", "(II)V"⟩ ⟨"RopeRound$Ground", "setCell", "(II)V"⟩ ∈ tg := kt 497 (by decide +kernel) (by decide +kernel)
theorem vk36 : ∀ ci y, (fun k => if k = 3 then some 30 else none) ci = some y → (∃ C T N, ClsOk ci C T N ∧ VOk mT "RopeRound$Reader" 106 C y 2) ∨ (ci = 201 ∧ VOk mT "RopeRound$Reader" 106 "java/lang/String" y 2) := by
  intro ci y h
  dsimp only at h
  by_cases h3 : ci = 3
  · subst h3
    have h := (Option.some.inj (by simpa using h)).symm
    subst h
    exact Or.inl ⟨_, _, _, okC3, ⟨mo30, kw496, Or.inl ⟨rfl, kw495, kw497⟩⟩⟩
  rw [if_neg h3] at h
  cases h
set_option maxRecDepth 100000 in
theorem kw519 : Cond.code ⟨"RopeRound$Tape", "number", "()I"⟩ prog_9_method_7_code 3 (some FieldType.int) ∈ tg := kt 519 rfl rfl
theorem mo72 : MOk (mT 72) 0 := ⟨kw519, kw3, by decide +kernel, by decide +kernel, by decide⟩
theorem kw517 : Cond.instanceMethod ⟨"RopeRound$Tape", "number", "()I"⟩ ∈ tg := kt 517 (by decide +kernel) (by decide +kernel)
theorem kw516 : Cond.methodLink "RopeRound$Reader" 110 ⟨"RopeRound$Tape", "number", "()I"⟩ ∈ tg := kt 516 (by decide +kernel) (by decide +kernel)
theorem kw518 : Cond.selects "RopeRound$Tape" ⟨"RopeRound$Tape", "number", "()I"⟩ ⟨"RopeRound$Tape", "number", "()I"⟩ ∈ tg := kt 518 (by decide +kernel) (by decide +kernel)
theorem vk37 : ∀ ci y, (fun k => if k = 7 then some 72 else none) ci = some y → (∃ C T N, ClsOk ci C T N ∧ VOk mT "RopeRound$Reader" 110 C y 0) ∨ (ci = 201 ∧ VOk mT "RopeRound$Reader" 110 "java/lang/String" y 0) := by
  intro ci y h
  dsimp only at h
  by_cases h7 : ci = 7
  · subst h7
    have h := (Option.some.inj (by simpa using h)).symm
    subst h
    exact Or.inl ⟨_, _, _, okC7, ⟨mo72, kw517, Or.inl ⟨rfl, kw516, kw518⟩⟩⟩
  rw [if_neg h7] at h
  cases h
set_option maxRecDepth 100000 in
theorem kw515 : Cond.code ⟨"RopeRound$Reader", "readNumber", "(I)I"⟩ prog_6_method_10_code 4 (some FieldType.int) ∈ tg := kt 515 rfl rfl
theorem mo49 : MOk (mT 49) 1 := ⟨kw515, kw2, by decide +kernel, by decide +kernel, by decide⟩
theorem kw514 : Cond.instanceMethod ⟨"RopeRound$Reader", "readNumber", "(I)I"⟩ ∈ tg := kt 514 (by decide +kernel) (by decide +kernel)
theorem kw512 : Cond.methodLink "RopeRound$Reader" 114 ⟨"RopeRound$Reader", "readNumber", "(I)I"⟩ ∈ tg := kt 512 (by decide +kernel) (by decide +kernel)
theorem vk38 : ∀ ci y, (fun k => if k = 4 then some 49 else none) ci = some y → (∃ C T N, ClsOk ci C T N ∧ VOk mT "RopeRound$Reader" 114 C y 1) ∨ (ci = 201 ∧ VOk mT "RopeRound$Reader" 114 "java/lang/String" y 1) := by
  intro ci y h
  dsimp only at h
  by_cases h4 : ci = 4
  · subst h4
    have h := (Option.some.inj (by simpa using h)).symm
    subst h
    exact Or.inl ⟨_, _, _, okC4, ⟨mo49, kw514, Or.inl ⟨rfl, kw512, (ks (q := (⟨"RopeRound$Reader", "readNumber", "(I)I"⟩, 4)) (by decide +kernel))⟩⟩⟩
  rw [if_neg h4] at h
  cases h
theorem kw81 : Cond.fieldLink "RopeRound$Reader" 118 "RopeRound$Ground" "stones" "J" ∈ tg := kt 81 (by decide +kernel) (by decide +kernel)
theorem gf54 : gF "RopeRound$Reader" 118 4 (fun k => k = 3) (fun n => n = 1) := by
  refine ⟨_, _, _, kw81, fun ci h => ?_⟩
  rcases h with rfl
  · exact ⟨_, _, _, okC3, by decide, rfl, rfl, Or.inl rfl, rfl⟩
set_option maxRecDepth 100000 in
theorem kw532 : Cond.code ⟨"RopeRound$Reader", "isStone", "(II)Z"⟩ prog_6_method_13_code 3 (some FieldType.boolean) ∈ tg := kt 532 rfl rfl
theorem mo52 : MOk (mT 52) 2 := ⟨kw532, kw2, by decide +kernel, by decide +kernel, by decide⟩
theorem kw531 : Cond.instanceMethod ⟨"RopeRound$Reader", "isStone", "(II)Z"⟩ ∈ tg := kt 531 (by decide +kernel) (by decide +kernel)
theorem kw529 : Cond.methodLink "RopeRound$Reader" 122 ⟨"RopeRound$Reader", "isStone", "(II)Z"⟩ ∈ tg := kt 529 (by decide +kernel) (by decide +kernel)
theorem vk39 : ∀ ci y, (fun k => if k = 4 then some 52 else none) ci = some y → (∃ C T N, ClsOk ci C T N ∧ VOk mT "RopeRound$Reader" 122 C y 2) ∨ (ci = 201 ∧ VOk mT "RopeRound$Reader" 122 "java/lang/String" y 2) := by
  intro ci y h
  dsimp only at h
  by_cases h4 : ci = 4
  · subst h4
    have h := (Option.some.inj (by simpa using h)).symm
    subst h
    exact Or.inl ⟨_, _, _, okC4, ⟨mo52, kw531, Or.inl ⟨rfl, kw529, (ks (q := (⟨"RopeRound$Reader", "isStone", "(II)Z"⟩, 4)) (by decide +kernel))⟩⟩⟩
  rw [if_neg h4] at h
  cases h
theorem kw78 : Cond.fieldLink "RopeRound$Reader" 126 "RopeRound$Ground" "men" "I" ∈ tg := kt 78 (by decide +kernel) (by decide +kernel)
theorem gf55 : gF "RopeRound$Reader" 126 2 (fun k => k = 3) (fun n => n = 0 ∨ n = 4) := by
  refine ⟨_, _, _, kw78, fun ci h => ?_⟩
  rcases h with rfl
  · exact ⟨_, _, _, okC3, by decide, rfl, rfl, Or.inl rfl, Or.inl rfl⟩
theorem gf55w : gF "RopeRound$Reader" 126 2 (fun k => k = 3) (fun n => n = 0) := by
  refine ⟨_, _, _, kw78, fun ci h => ?_⟩
  rcases h with rfl
  · exact ⟨_, _, _, okC3, by decide, rfl, rfl, Or.inl rfl, rfl⟩
theorem kw87 : Cond.fieldLink "RopeRound$Reader" 129 "RopeRound$Ground" "pegs" "[I" ∈ tg := kt 87 (by decide +kernel) (by decide +kernel)
theorem gf56 : gF "RopeRound$Reader" 129 6 (fun k => k = 3) (fun n => n = 2) := by
  refine ⟨_, _, _, kw87, fun ci h => ?_⟩
  rcases h with rfl
  · exact ⟨_, _, _, okC3, by decide, rfl, rfl, Or.inl rfl, rfl⟩
theorem kw92 : Cond.fieldLink "RopeRound$Reader" 133 "RopeRound$Ground" "ropes" "[I" ∈ tg := kt 92 (by decide +kernel) (by decide +kernel)
theorem gf57 : gF "RopeRound$Reader" 133 7 (fun k => k = 3) (fun n => n = 2) := by
  refine ⟨_, _, _, kw92, fun ci h => ?_⟩
  rcases h with rfl
  · exact ⟨_, _, _, okC3, by decide, rfl, rfl, Or.inl rfl, rfl⟩
theorem kn533 : Cond.methodLinkNest "RopeRound$Reader" 136 ⟨"RopeRound", "has", "(JI)Z"⟩ "RopeRound" ∈ tb := kn 533 (by decide +kernel)
theorem kn218 : Cond.methodLinkNest "RopeRound$RingList" 3 ⟨"RopeRound$Walk", "<init>", "()V"⟩ "RopeRound" ∈ tb := kn 218 (by decide +kernel)
theorem kw219 : Cond.fieldLink "RopeRound$RingList" 11 "RopeRound$RingList" "rings" "[J" ∈ tg := kt 219 (by decide +kernel) (by decide +kernel)
theorem gf58f : gFF "RopeRound$RingList" 11 3 (fun k => k = 5) := by
  refine ⟨_, _, _, kw219, fun ci h => ?_⟩
  rcases h with rfl
  · exact ⟨_, _, _, okC5, by decide, rfl, rfl, rfl, rfl, rfl⟩
theorem kw221 : Cond.fieldLink "RopeRound$RingList" 15 "RopeRound$RingList" "worths" "[I" ∈ tg := kt 221 (by decide +kernel) (by decide +kernel)
theorem gf59f : gFF "RopeRound$RingList" 15 4 (fun k => k = 5) := by
  refine ⟨_, _, _, kw221, fun ci h => ?_⟩
  rcases h with rfl
  · exact ⟨_, _, _, okC5, by decide, rfl, rfl, rfl, rfl, rfl⟩
theorem kw223 : Cond.fieldLink "RopeRound$RingList" 19 "RopeRound$RingList" "size" "I" ∈ tg := kt 223 (by decide +kernel) (by decide +kernel)
theorem gf60 : gF "RopeRound$RingList" 19 5 (fun k => k = 5) (fun n => n = 0 ∨ n = 4) := by
  refine ⟨_, _, _, kw223, fun ci h => ?_⟩
  rcases h with rfl
  · exact ⟨_, _, _, okC5, by decide, rfl, rfl, Or.inl rfl, Or.inl rfl⟩
theorem gf60w : gF "RopeRound$RingList" 19 5 (fun k => k = 5) (fun n => n = 0) := by
  refine ⟨_, _, _, kw223, fun ci h => ?_⟩
  rcases h with rfl
  · exact ⟨_, _, _, okC5, by decide, rfl, rfl, Or.inl rfl, rfl⟩
theorem kw790 : Cond.methodLink "RopeRound$RingList" 23 ⟨"RopeRound$RingList", "walkAll", "(LRopeRound$Ground;II)V"⟩ ∈ tg := kt 790 (by decide +kernel) (by decide +kernel)
theorem kw791 : Cond.sameMethod "RopeRound$RingList" "RopeRound$Walk" "walkAll" "(LRopeRound$Ground;II)V" ∈ tg := kt 791 (by decide +kernel) (by decide +kernel)
theorem kw792 : Cond.selects "RopeRound$RingList" ⟨"RopeRound$RingList", "walkAll", "(LRopeRound$Ground;II)V"⟩ ⟨"RopeRound$Walk", "walkAll", "(LRopeRound$Ground;II)V"⟩ ∈ tg := kt 792 (by decide +kernel) (by decide +kernel)
theorem vk40 : ∀ ci y, (fun k => if k = 5 then some 78 else none) ci = some y → (∃ C T N, ClsOk ci C T N ∧ VOk mT "RopeRound$RingList" 23 C y 3) ∨ (ci = 201 ∧ VOk mT "RopeRound$RingList" 23 "java/lang/String" y 3) := by
  intro ci y h
  dsimp only at h
  by_cases h5 : ci = 5
  · subst h5
    have h := (Option.some.inj (by simpa using h)).symm
    subst h
    exact Or.inl ⟨_, _, _, okC5, ⟨mo78, kw692, Or.inr ⟨⟨"RopeRound$RingList", "walkAll", "(LRopeRound$Ground;II)V"⟩, "RopeRound$Walk", by decide +kernel, by decide +kernel, kw790, kw791, Or.inl kn690, kw792⟩⟩⟩
  rw [if_neg h5] at h
  cases h
theorem kn721 : Cond.methodLinkNest "RopeRound$RingList" 27 ⟨"RopeRound", "wayAt", "(JI)I"⟩ "RopeRound" ∈ tb := kn 721 (by decide +kernel)
theorem kw722 : Cond.static ⟨"RopeRound", "wayAt", "(JI)I"⟩ ∈ tg := kt 722 (by decide +kernel) (by decide +kernel)
set_option maxRecDepth 100000 in
theorem kw723 : Cond.code ⟨"RopeRound", "wayAt", "(JI)I"⟩ prog_1_method_44_code 3 (some FieldType.int) ∈ tg := kt 723 rfl rfl
theorem mo124 : MOk (mT 124) 2 := ⟨kw723, kw1, by decide +kernel, by decide +kernel, by decide⟩
theorem gf61 : gF "RopeRound$RingList" 11 3 (fun k => k = 5) (fun n => n = 2) := by
  refine ⟨_, _, _, kw219, fun ci h => ?_⟩
  rcases h with rfl
  · exact ⟨_, _, _, okC5, by decide, rfl, rfl, Or.inl rfl, rfl⟩
theorem gf62 : gF "RopeRound$RingList" 15 4 (fun k => k = 5) (fun n => n = 2) := by
  refine ⟨_, _, _, kw221, fun ci h => ?_⟩
  rcases h with rfl
  · exact ⟨_, _, _, okC5, by decide, rfl, rfl, Or.inl rfl, rfl⟩
theorem kw189 : Cond.sameField "RopeRound$RingList" "RopeRound$Walk" "ground" "LRopeRound$Ground;" ∈ tg := kt 189 (by decide +kernel) (by decide +kernel)
theorem kw188 : Cond.fieldLink "RopeRound$RingList" 31 "RopeRound$RingList" "ground" "LRopeRound$Ground;" ∈ tg := kt 188 (by decide +kernel) (by decide +kernel)
theorem gf63 : gF "RopeRound$RingList" 31 0 (fun k => k = 5) (fun n => n = 3) := by
  refine ⟨_, _, _, kw188, fun ci h => ?_⟩
  rcases h with rfl
  · exact ⟨_, _, _, okC5, by decide, rfl, rfl, Or.inr kw189, rfl⟩
theorem kw725 : Cond.methodLink "RopeRound$RingList" 35 ⟨"RopeRound$Ground", "worthOf", "(J)I"⟩ ∈ tg := kt 725 (by decide +kernel) (by decide +kernel)
theorem vk41 : ∀ ci y, (fun k => if k = 3 then some 36 else none) ci = some y → (∃ C T N, ClsOk ci C T N ∧ VOk mT "RopeRound$RingList" 35 C y 1) ∨ (ci = 201 ∧ VOk mT "RopeRound$RingList" 35 "java/lang/String" y 1) := by
  intro ci y h
  dsimp only at h
  by_cases h3 : ci = 3
  · subst h3
    have h := (Option.some.inj (by simpa using h)).symm
    subst h
    exact Or.inl ⟨_, _, _, okC3, ⟨mo36, kw629, Or.inl ⟨rfl, kw725, kw630⟩⟩⟩
  rw [if_neg h3] at h
  cases h
theorem kw798 : Cond.methodLink "RopeRound$RingList" 41 ⟨"RopeRound$Ground", "ropeAround", "(JJ)I"⟩ ∈ tg := kt 798 (by decide +kernel) (by decide +kernel)
theorem vk42 : ∀ ci y, (fun k => if k = 3 then some 35 else none) ci = some y → (∃ C T N, ClsOk ci C T N ∧ VOk mT "RopeRound$RingList" 41 C y 2) ∨ (ci = 201 ∧ VOk mT "RopeRound$RingList" 41 "java/lang/String" y 2) := by
  intro ci y h
  dsimp only at h
  by_cases h3 : ci = 3
  · subst h3
    have h := (Option.some.inj (by simpa using h)).symm
    subst h
    exact Or.inl ⟨_, _, _, okC3, ⟨mo35, kw709, Or.inl ⟨rfl, kw798, kw710⟩⟩⟩
  rw [if_neg h3] at h
  cases h
theorem kw288 : Cond.methodLink "RopeRound$Row" 3 ⟨"java/lang/Object", "<init>", "()V"⟩ ∈ tg := kt 288 (by decide +kernel) (by decide +kernel)
theorem kw289 : Cond.fieldLink "RopeRound$Row" 9 "RopeRound$Row" "items" "[I" ∈ tg := kt 289 (by decide +kernel) (by decide +kernel)
theorem gf64f : gFF "RopeRound$Row" 9 0 (fun k => k = 6) := by
  refine ⟨_, _, _, kw289, fun ci h => ?_⟩
  rcases h with rfl
  · exact ⟨_, _, _, okC6, by decide, rfl, rfl, rfl, rfl, rfl⟩
theorem kw293 : Cond.fieldLink "RopeRound$Row" 15 "RopeRound$Row" "lane" "I" ∈ tg := kt 293 (by decide +kernel) (by decide +kernel)
theorem gf65 : gF "RopeRound$Row" 15 1 (fun k => k = 6) (fun n => n = 0 ∨ n = 4) := by
  refine ⟨_, _, _, kw293, fun ci h => ?_⟩
  rcases h with rfl
  · exact ⟨_, _, _, okC6, by decide, rfl, rfl, Or.inl rfl, Or.inl rfl⟩
theorem gf65w : gF "RopeRound$Row" 15 1 (fun k => k = 6) (fun n => n = 0) := by
  refine ⟨_, _, _, kw293, fun ci h => ?_⟩
  rcases h with rfl
  · exact ⟨_, _, _, okC6, by decide, rfl, rfl, Or.inl rfl, rfl⟩
theorem kw295 : Cond.fieldLink "RopeRound$Row" 19 "RopeRound$Row" "size" "I" ∈ tg := kt 295 (by decide +kernel) (by decide +kernel)
theorem gf66 : gF "RopeRound$Row" 19 2 (fun k => k = 6) (fun n => n = 0 ∨ n = 4) := by
  refine ⟨_, _, _, kw295, fun ci h => ?_⟩
  rcases h with rfl
  · exact ⟨_, _, _, okC6, by decide, rfl, rfl, Or.inl rfl, Or.inl rfl⟩
theorem gf66w : gF "RopeRound$Row" 19 2 (fun k => k = 6) (fun n => n = 0) := by
  refine ⟨_, _, _, kw295, fun ci h => ?_⟩
  rcases h with rfl
  · exact ⟨_, _, _, okC6, by decide, rfl, rfl, Or.inl rfl, rfl⟩
theorem gf67 : gF "RopeRound$Row" 9 0 (fun k => k = 6) (fun n => n = 2) := by
  refine ⟨_, _, _, kw289, fun ci h => ?_⟩
  rcases h with rfl
  · exact ⟨_, _, _, okC6, by decide, rfl, rfl, Or.inl rfl, rfl⟩
theorem kw41 : Cond.methodLink "RopeRound$Tape" 3 ⟨"java/lang/Object", "<init>", "()V"⟩ ∈ tg := kt 41 (by decide +kernel) (by decide +kernel)
theorem kw63 : Cond.arrayClass FieldType.byte ∈ tg := kt 63 (by decide +kernel) (by decide +kernel)
theorem kw42 : Cond.fieldLink "RopeRound$Tape" 9 "RopeRound$Tape" "bytes" "[B" ∈ tg := kt 42 (by decide +kernel) (by decide +kernel)
theorem gf68f : gFF "RopeRound$Tape" 9 0 (fun k => k = 7) := by
  refine ⟨_, _, _, kw42, fun ci h => ?_⟩
  rcases h with rfl
  · exact ⟨_, _, _, okC7, by decide, rfl, rfl, rfl, rfl, rfl⟩
theorem kw44 : Cond.fieldLink "RopeRound$Tape" 15 "RopeRound$Tape" "length" "I" ∈ tg := kt 44 (by decide +kernel) (by decide +kernel)
theorem gf69 : gF "RopeRound$Tape" 15 1 (fun k => k = 7) (fun n => n = 0 ∨ n = 4) := by
  refine ⟨_, _, _, kw44, fun ci h => ?_⟩
  rcases h with rfl
  · exact ⟨_, _, _, okC7, by decide, rfl, rfl, Or.inl rfl, Or.inl rfl⟩
theorem gf69w : gF "RopeRound$Tape" 15 1 (fun k => k = 7) (fun n => n = 0) := by
  refine ⟨_, _, _, kw44, fun ci h => ?_⟩
  rcases h with rfl
  · exact ⟨_, _, _, okC7, by decide, rfl, rfl, Or.inl rfl, rfl⟩
theorem gf70 : gF "RopeRound$Tape" 9 0 (fun k => k = 7) (fun n => n = 2) := by
  refine ⟨_, _, _, kw42, fun ci h => ?_⟩
  rcases h with rfl
  · exact ⟨_, _, _, okC7, by decide, rfl, rfl, Or.inl rfl, rfl⟩
theorem kw50 : Cond.fieldLink "RopeRound$Tape" 19 "RopeRound$Tape" "end" "I" ∈ tg := kt 50 (by decide +kernel) (by decide +kernel)
theorem gf71 : gF "RopeRound$Tape" 19 4 (fun k => k = 7) (fun n => n = 0 ∨ n = 4) := by
  refine ⟨_, _, _, kw50, fun ci h => ?_⟩
  rcases h with rfl
  · exact ⟨_, _, _, okC7, by decide, rfl, rfl, Or.inl rfl, Or.inl rfl⟩
theorem gf71w : gF "RopeRound$Tape" 19 4 (fun k => k = 7) (fun n => n = 0) := by
  refine ⟨_, _, _, kw50, fun ci h => ?_⟩
  rcases h with rfl
  · exact ⟨_, _, _, okC7, by decide, rfl, rfl, Or.inl rfl, rfl⟩
theorem kw418 : Cond.methodLink "RopeRound$Tape" 22 ⟨"RopeRound$Tape", "advance", "()V"⟩ ∈ tg := kt 418 (by decide +kernel) (by decide +kernel)
theorem vk43 : ∀ ci y, (fun k => if k = 7 then some 66 else none) ci = some y → (∃ C T N, ClsOk ci C T N ∧ VOk mT "RopeRound$Tape" 22 C y 0) ∨ (ci = 201 ∧ VOk mT "RopeRound$Tape" 22 "java/lang/String" y 0) := by
  intro ci y h
  dsimp only at h
  by_cases h7 : ci = 7
  · subst h7
    have h := (Option.some.inj (by simpa using h)).symm
    subst h
    exact Or.inl ⟨_, _, _, okC7, ⟨mo66, kw419, Or.inl ⟨rfl, kw418, kw420⟩⟩⟩
  rw [if_neg h7] at h
  cases h
theorem kw49 : Cond.fieldLink "RopeRound$Tape" 25 "RopeRound$Tape" "start" "I" ∈ tg := kt 49 (by decide +kernel) (by decide +kernel)
theorem gf72 : gF "RopeRound$Tape" 25 3 (fun k => k = 7) (fun n => n = 0 ∨ n = 4) := by
  refine ⟨_, _, _, kw49, fun ci h => ?_⟩
  rcases h with rfl
  · exact ⟨_, _, _, okC7, by decide, rfl, rfl, Or.inl rfl, Or.inl rfl⟩
theorem gf72w : gF "RopeRound$Tape" 25 3 (fun k => k = 7) (fun n => n = 0) := by
  refine ⟨_, _, _, kw49, fun ci h => ?_⟩
  rcases h with rfl
  · exact ⟨_, _, _, okC7, by decide, rfl, rfl, Or.inl rfl, rfl⟩
theorem kw46 : Cond.fieldLink "RopeRound$Tape" 28 "RopeRound$Tape" "sort" "I" ∈ tg := kt 46 (by decide +kernel) (by decide +kernel)
theorem gf73 : gF "RopeRound$Tape" 28 2 (fun k => k = 7) (fun n => n = 0 ∨ n = 4) := by
  refine ⟨_, _, _, kw46, fun ci h => ?_⟩
  rcases h with rfl
  · exact ⟨_, _, _, okC7, by decide, rfl, rfl, Or.inl rfl, Or.inl rfl⟩
theorem gf73w : gF "RopeRound$Tape" 28 2 (fun k => k = 7) (fun n => n = 0) := by
  refine ⟨_, _, _, kw46, fun ci h => ?_⟩
  rcases h with rfl
  · exact ⟨_, _, _, okC7, by decide, rfl, rfl, Or.inl rfl, rfl⟩
theorem kw422 : Cond.methodLink "RopeRound$Tape" 31 ⟨"RopeRound$Tape", "sortOf", "(B)I"⟩ ∈ tg := kt 422 (by decide +kernel) (by decide +kernel)
theorem kw423 : Cond.static ⟨"RopeRound$Tape", "sortOf", "(B)I"⟩ ∈ tg := kt 423 (by decide +kernel) (by decide +kernel)
set_option maxRecDepth 100000 in
theorem kw424 : Cond.code ⟨"RopeRound$Tape", "sortOf", "(B)I"⟩ prog_9_method_5_code 1 (some FieldType.int) ∈ tg := kt 424 rfl rfl
theorem mo69 : MOk (mT 69) 1 := ⟨kw424, kw3, by decide +kernel, by decide +kernel, by decide⟩
set_option maxRecDepth 100000 in
theorem kw441 : Cond.code ⟨"java/lang/String", "length", "()I"⟩ prog_16_method_54_code 1 (some FieldType.int) ∈ tg := kt 441 rfl rfl
theorem kw14 : Cond.initialized "java/lang/String" ∈ tg := kt 14 (by decide +kernel) (by decide +kernel)
theorem mo211 : MOk (mT 211) 0 := ⟨kw441, kw14, by decide +kernel, by decide +kernel, by decide⟩
theorem kw439 : Cond.instanceMethod ⟨"java/lang/String", "length", "()I"⟩ ∈ tg := kt 439 (by decide +kernel) (by decide +kernel)
theorem kw438 : Cond.methodLink "RopeRound$Tape" 35 ⟨"java/lang/String", "length", "()I"⟩ ∈ tg := kt 438 (by decide +kernel) (by decide +kernel)
theorem kw440 : Cond.selects "java/lang/String" ⟨"java/lang/String", "length", "()I"⟩ ⟨"java/lang/String", "length", "()I"⟩ ∈ tg := kt 440 (by decide +kernel) (by decide +kernel)
theorem vk44 : ∀ ci y, (fun k => if k = 201 then some 211 else none) ci = some y → (∃ C T N, ClsOk ci C T N ∧ VOk mT "RopeRound$Tape" 35 C y 0) ∨ (ci = 201 ∧ VOk mT "RopeRound$Tape" 35 "java/lang/String" y 0) := by
  intro ci y h
  dsimp only at h
  by_cases h201 : ci = 201
  · subst h201
    have h := (Option.some.inj (by simpa using h)).symm
    subst h
    exact Or.inr ⟨rfl, ⟨mo211, kw439, Or.inl ⟨rfl, kw438, kw440⟩⟩⟩
  rw [if_neg h201] at h
  cases h
set_option maxRecDepth 100000 in
theorem kw451 : Cond.code ⟨"java/lang/String", "charAt", "(I)C"⟩ prog_16_method_56_code 2 (some FieldType.char) ∈ tg := kt 451 rfl rfl
theorem mo212 : MOk (mT 212) 1 := ⟨kw451, kw14, by decide +kernel, by decide +kernel, by decide⟩
theorem kw449 : Cond.instanceMethod ⟨"java/lang/String", "charAt", "(I)C"⟩ ∈ tg := kt 449 (by decide +kernel) (by decide +kernel)
theorem kw448 : Cond.methodLink "RopeRound$Tape" 40 ⟨"java/lang/String", "charAt", "(I)C"⟩ ∈ tg := kt 448 (by decide +kernel) (by decide +kernel)
theorem kw450 : Cond.selects "java/lang/String" ⟨"java/lang/String", "charAt", "(I)C"⟩ ⟨"java/lang/String", "charAt", "(I)C"⟩ ∈ tg := kt 450 (by decide +kernel) (by decide +kernel)
theorem vk45 : ∀ ci y, (fun k => if k = 201 then some 212 else none) ci = some y → (∃ C T N, ClsOk ci C T N ∧ VOk mT "RopeRound$Tape" 40 C y 1) ∨ (ci = 201 ∧ VOk mT "RopeRound$Tape" 40 "java/lang/String" y 1) := by
  intro ci y h
  dsimp only at h
  by_cases h201 : ci = 201
  · subst h201
    have h := (Option.some.inj (by simpa using h)).symm
    subst h
    exact Or.inr ⟨rfl, ⟨mo212, kw449, Or.inl ⟨rfl, kw448, kw450⟩⟩⟩
  rw [if_neg h201] at h
  cases h
theorem kw156 : Cond.methodLink "RopeRound$Trial" 1 ⟨"java/lang/Object", "<init>", "()V"⟩ ∈ tg := kt 156 (by decide +kernel) (by decide +kernel)
theorem kw85 : Cond.fieldLink "RopeRound$Trial" 7 "RopeRound$Ground" "pegs" "[I" ∈ tg := kt 85 (by decide +kernel) (by decide +kernel)
theorem gf74 : gF "RopeRound$Trial" 7 6 (fun k => k = 3) (fun n => n = 2) := by
  refine ⟨_, _, _, kw85, fun ci h => ?_⟩
  rcases h with rfl
  · exact ⟨_, _, _, okC3, by decide, rfl, rfl, Or.inl rfl, rfl⟩
theorem kw90 : Cond.fieldLink "RopeRound$Trial" 13 "RopeRound$Ground" "ropes" "[I" ∈ tg := kt 90 (by decide +kernel) (by decide +kernel)
theorem gf75 : gF "RopeRound$Trial" 13 7 (fun k => k = 3) (fun n => n = 2) := by
  refine ⟨_, _, _, kw90, fun ci h => ?_⟩
  rcases h with rfl
  · exact ⟨_, _, _, okC3, by decide, rfl, rfl, Or.inl rfl, rfl⟩
theorem kw157 : Cond.fieldLink "RopeRound$Trial" 16 "RopeRound$Trial" "cells" "J" ∈ tg := kt 157 (by decide +kernel) (by decide +kernel)
theorem gf76 : gF "RopeRound$Trial" 16 0 (fun k => k = 8) (fun n => n = 1) := by
  refine ⟨_, _, _, kw157, fun ci h => ?_⟩
  rcases h with rfl
  · exact ⟨_, _, _, okC8, by decide, rfl, rfl, Or.inl rfl, rfl⟩
theorem kw159 : Cond.fieldLink "RopeRound$Trial" 22 "RopeRound$Trial" "fault" "I" ∈ tg := kt 159 (by decide +kernel) (by decide +kernel)
theorem gf77 : gF "RopeRound$Trial" 22 1 (fun k => k = 8) (fun n => n = 0 ∨ n = 4) := by
  refine ⟨_, _, _, kw159, fun ci h => ?_⟩
  rcases h with rfl
  · exact ⟨_, _, _, okC8, by decide, rfl, rfl, Or.inl rfl, Or.inl rfl⟩
theorem gf77w : gF "RopeRound$Trial" 22 1 (fun k => k = 8) (fun n => n = 0) := by
  refine ⟨_, _, _, kw159, fun ci h => ?_⟩
  rcases h with rfl
  · exact ⟨_, _, _, okC8, by decide, rfl, rfl, Or.inl rfl, rfl⟩
theorem kw161 : Cond.fieldLink "RopeRound$Trial" 26 "RopeRound$Trial" "step" "I" ∈ tg := kt 161 (by decide +kernel) (by decide +kernel)
theorem gf78 : gF "RopeRound$Trial" 26 2 (fun k => k = 8) (fun n => n = 0 ∨ n = 4) := by
  refine ⟨_, _, _, kw161, fun ci h => ?_⟩
  rcases h with rfl
  · exact ⟨_, _, _, okC8, by decide, rfl, rfl, Or.inl rfl, Or.inl rfl⟩
theorem gf78w : gF "RopeRound$Trial" 26 2 (fun k => k = 8) (fun n => n = 0) := by
  refine ⟨_, _, _, kw161, fun ci h => ?_⟩
  rcases h with rfl
  · exact ⟨_, _, _, okC8, by decide, rfl, rfl, Or.inl rfl, rfl⟩
theorem kw291 : Cond.fieldLink "RopeRound$Trial" 29 "RopeRound$Row" "items" "[I" ∈ tg := kt 291 (by decide +kernel) (by decide +kernel)
theorem gf79 : gF "RopeRound$Trial" 29 0 (fun k => k = 6) (fun n => n = 2) := by
  refine ⟨_, _, _, kw291, fun ci h => ?_⟩
  rcases h with rfl
  · exact ⟨_, _, _, okC6, by decide, rfl, rfl, Or.inl rfl, rfl⟩
set_option maxRecDepth 100000 in
theorem kw583 : Cond.code ⟨"RopeRound$Ground", "leads", "(II)Z"⟩ prog_5_method_12_code 3 (some FieldType.boolean) ∈ tg := kt 583 rfl rfl
theorem mo33 : MOk (mT 33) 2 := ⟨kw583, kw4, by decide +kernel, by decide +kernel, by decide⟩
theorem kw581 : Cond.instanceMethod ⟨"RopeRound$Ground", "leads", "(II)Z"⟩ ∈ tg := kt 581 (by decide +kernel) (by decide +kernel)
theorem kw611 : Cond.methodLink "RopeRound$Trial" 34 ⟨"RopeRound$Ground", "leads", "(II)Z"⟩ ∈ tg := kt 611 (by decide +kernel) (by decide +kernel)
theorem kw582 : Cond.selects "RopeRound$Ground" ⟨"RopeRound$Ground", "leads", "(II)Z"⟩ ⟨"RopeRound$Ground", "leads", "(II)Z"⟩ ∈ tg := kt 582 (by decide +kernel) (by decide +kernel)
theorem vk46 : ∀ ci y, (fun k => if k = 3 then some 33 else none) ci = some y → (∃ C T N, ClsOk ci C T N ∧ VOk mT "RopeRound$Trial" 34 C y 2) ∨ (ci = 201 ∧ VOk mT "RopeRound$Trial" 34 "java/lang/String" y 2) := by
  intro ci y h
  dsimp only at h
  by_cases h3 : ci = 3
  · subst h3
    have h := (Option.some.inj (by simpa using h)).symm
    subst h
    exact Or.inl ⟨_, _, _, okC3, ⟨mo33, kw581, Or.inl ⟨rfl, kw611, kw582⟩⟩⟩
  rw [if_neg h3] at h
  cases h
set_option maxRecDepth 100000 in
theorem kw615 : Cond.code ⟨"RopeRound$Trial", "stop", "(II)V"⟩ prog_10_method_3_code 3 none ∈ tg := kt 615 rfl rfl
theorem kw5 : Cond.initialized "RopeRound$Trial" ∈ tg := kt 5 (by decide +kernel) (by decide +kernel)
theorem mo75 : MOk (mT 75) 2 := ⟨kw615, kw5, by decide +kernel, by decide +kernel, by decide⟩
theorem kw614 : Cond.instanceMethod ⟨"RopeRound$Trial", "stop", "(II)V"⟩ ∈ tg := kt 614 (by decide +kernel) (by decide +kernel)
theorem kw612 : Cond.methodLink "RopeRound$Trial" 38 ⟨"RopeRound$Trial", "stop", "(II)V"⟩ ∈ tg := kt 612 (by decide +kernel) (by decide +kernel)
theorem vk47 : ∀ ci y, (fun k => if k = 8 then some 75 else none) ci = some y → (∃ C T N, ClsOk ci C T N ∧ VOk mT "RopeRound$Trial" 38 C y 2) ∨ (ci = 201 ∧ VOk mT "RopeRound$Trial" 38 "java/lang/String" y 2) := by
  intro ci y h
  dsimp only at h
  by_cases h8 : ci = 8
  · subst h8
    have h := (Option.some.inj (by simpa using h)).symm
    subst h
    exact Or.inl ⟨_, _, _, okC8, ⟨mo75, kw614, Or.inl ⟨rfl, kw612, (ks (q := (⟨"RopeRound$Trial", "stop", "(II)V"⟩, 3)) (by decide +kernel))⟩⟩⟩
  rw [if_neg h8] at h
  cases h
theorem kn616 : Cond.fieldLinkNest "RopeRound$Trial" 42 "RopeRound" "STRIDES" "[I" "RopeRound" ∈ tb := kn 616 (by decide +kernel)
theorem kn617 : Cond.methodLinkNest "RopeRound$Trial" 47 ⟨"RopeRound", "has", "(JI)Z"⟩ "RopeRound" ∈ tb := kn 617 (by decide +kernel)
set_option maxRecDepth 100000 in
theorem kw587 : Cond.code ⟨"RopeRound$Ground", "ropeTaken", "(II)I"⟩ prog_5_method_13_code 5 (some FieldType.int) ∈ tg := kt 587 rfl rfl
theorem mo34 : MOk (mT 34) 2 := ⟨kw587, kw4, by decide +kernel, by decide +kernel, by decide⟩
theorem kw585 : Cond.instanceMethod ⟨"RopeRound$Ground", "ropeTaken", "(II)I"⟩ ∈ tg := kt 585 (by decide +kernel) (by decide +kernel)
theorem kw618 : Cond.methodLink "RopeRound$Trial" 51 ⟨"RopeRound$Ground", "ropeTaken", "(II)I"⟩ ∈ tg := kt 618 (by decide +kernel) (by decide +kernel)
theorem kw586 : Cond.selects "RopeRound$Ground" ⟨"RopeRound$Ground", "ropeTaken", "(II)I"⟩ ⟨"RopeRound$Ground", "ropeTaken", "(II)I"⟩ ∈ tg := kt 586 (by decide +kernel) (by decide +kernel)
theorem vk48 : ∀ ci y, (fun k => if k = 3 then some 34 else none) ci = some y → (∃ C T N, ClsOk ci C T N ∧ VOk mT "RopeRound$Trial" 51 C y 2) ∨ (ci = 201 ∧ VOk mT "RopeRound$Trial" 51 "java/lang/String" y 2) := by
  intro ci y h
  dsimp only at h
  by_cases h3 : ci = 3
  · subst h3
    have h := (Option.some.inj (by simpa using h)).symm
    subst h
    exact Or.inl ⟨_, _, _, okC3, ⟨mo34, kw585, Or.inl ⟨rfl, kw618, kw586⟩⟩⟩
  rw [if_neg h3] at h
  cases h
theorem kn619 : Cond.methodLinkNest "RopeRound$Trial" 55 ⟨"RopeRound", "cellsPassed", "(II)J"⟩ "RopeRound" ∈ tb := kn 619 (by decide +kernel)
theorem kw620 : Cond.static ⟨"RopeRound", "cellsPassed", "(II)J"⟩ ∈ tg := kt 620 (by decide +kernel) (by decide +kernel)
set_option maxRecDepth 100000 in
theorem kw621 : Cond.code ⟨"RopeRound", "cellsPassed", "(II)J"⟩ prog_1_method_47_code 3 (some FieldType.long) ∈ tg := kt 621 rfl rfl
theorem mo127 : MOk (mT 127) 2 := ⟨kw621, kw1, by decide +kernel, by decide +kernel, by decide⟩
set_option maxRecDepth 100000 in
theorem kw626 : Cond.code ⟨"RopeRound$Trial", "judgeWhole", "(LRopeRound$Ground;ZI)V"⟩ prog_10_method_4_code 4 none ∈ tg := kt 626 rfl rfl
theorem mo76 : MOk (mT 76) 3 := ⟨kw626, kw5, by decide +kernel, by decide +kernel, by decide⟩
theorem kw625 : Cond.instanceMethod ⟨"RopeRound$Trial", "judgeWhole", "(LRopeRound$Ground;ZI)V"⟩ ∈ tg := kt 625 (by decide +kernel) (by decide +kernel)
theorem kw623 : Cond.methodLink "RopeRound$Trial" 59 ⟨"RopeRound$Trial", "judgeWhole", "(LRopeRound$Ground;ZI)V"⟩ ∈ tg := kt 623 (by decide +kernel) (by decide +kernel)
theorem vk49 : ∀ ci y, (fun k => if k = 8 then some 76 else none) ci = some y → (∃ C T N, ClsOk ci C T N ∧ VOk mT "RopeRound$Trial" 59 C y 3) ∨ (ci = 201 ∧ VOk mT "RopeRound$Trial" 59 "java/lang/String" y 3) := by
  intro ci y h
  dsimp only at h
  by_cases h8 : ci = 8
  · subst h8
    have h := (Option.some.inj (by simpa using h)).symm
    subst h
    exact Or.inl ⟨_, _, _, okC8, ⟨mo76, kw625, Or.inl ⟨rfl, kw623, (ks (q := (⟨"RopeRound$Trial", "judgeWhole", "(LRopeRound$Ground;ZI)V"⟩, 3)) (by decide +kernel))⟩⟩⟩
  rw [if_neg h8] at h
  cases h
theorem kw99 : Cond.fieldLink "RopeRound$Trial" 63 "RopeRound$Ground" "ringed" "J" ∈ tg := kt 99 (by decide +kernel) (by decide +kernel)
theorem gf80 : gF "RopeRound$Trial" 63 10 (fun k => k = 3) (fun n => n = 1) := by
  refine ⟨_, _, _, kw99, fun ci h => ?_⟩
  rcases h with rfl
  · exact ⟨_, _, _, okC3, by decide, rfl, rfl, Or.inl rfl, rfl⟩
theorem kw178 : Cond.methodLink "RopeRound$Walk" 3 ⟨"java/lang/Object", "<init>", "()V"⟩ ∈ tg := kt 178 (by decide +kernel) (by decide +kernel)
theorem kw187 : Cond.fieldLink "RopeRound$Walk" 9 "RopeRound$Walk" "ground" "LRopeRound$Ground;" ∈ tg := kt 187 (by decide +kernel) (by decide +kernel)
theorem gf81 : gF "RopeRound$Walk" 9 0 (fun k => k = 1 ∨ k = 2 ∨ k = 5) (fun n => n = 3) := by
  refine ⟨_, _, _, kw187, fun ci h => ?_⟩
  rcases h with rfl | rfl | rfl
  · exact ⟨_, _, _, okC1, by decide, rfl, rfl, Or.inl rfl, rfl⟩
  · exact ⟨_, _, _, okC2, by decide, rfl, rfl, Or.inl rfl, rfl⟩
  · exact ⟨_, _, _, okC5, by decide, rfl, rfl, Or.inl rfl, rfl⟩
theorem kw194 : Cond.fieldLink "RopeRound$Walk" 15 "RopeRound$Walk" "home" "I" ∈ tg := kt 194 (by decide +kernel) (by decide +kernel)
theorem gf82 : gF "RopeRound$Walk" 15 1 (fun k => k = 1 ∨ k = 2 ∨ k = 5) (fun n => n = 0 ∨ n = 4) := by
  refine ⟨_, _, _, kw194, fun ci h => ?_⟩
  rcases h with rfl | rfl | rfl
  · exact ⟨_, _, _, okC1, by decide, rfl, rfl, Or.inl rfl, Or.inl rfl⟩
  · exact ⟨_, _, _, okC2, by decide, rfl, rfl, Or.inl rfl, Or.inl rfl⟩
  · exact ⟨_, _, _, okC5, by decide, rfl, rfl, Or.inl rfl, Or.inl rfl⟩
theorem gf82w : gF "RopeRound$Walk" 15 1 (fun k => k = 1 ∨ k = 2 ∨ k = 5) (fun n => n = 0) := by
  refine ⟨_, _, _, kw194, fun ci h => ?_⟩
  rcases h with rfl | rfl | rfl
  · exact ⟨_, _, _, okC1, by decide, rfl, rfl, Or.inl rfl, rfl⟩
  · exact ⟨_, _, _, okC2, by decide, rfl, rfl, Or.inl rfl, rfl⟩
  · exact ⟨_, _, _, okC5, by decide, rfl, rfl, Or.inl rfl, rfl⟩
theorem kw195 : Cond.fieldLink "RopeRound$Walk" 19 "RopeRound$Walk" "limit" "I" ∈ tg := kt 195 (by decide +kernel) (by decide +kernel)
theorem gf83 : gF "RopeRound$Walk" 19 2 (fun k => k = 1 ∨ k = 2 ∨ k = 5) (fun n => n = 0 ∨ n = 4) := by
  refine ⟨_, _, _, kw195, fun ci h => ?_⟩
  rcases h with rfl | rfl | rfl
  · exact ⟨_, _, _, okC1, by decide, rfl, rfl, Or.inl rfl, Or.inl rfl⟩
  · exact ⟨_, _, _, okC2, by decide, rfl, rfl, Or.inl rfl, Or.inl rfl⟩
  · exact ⟨_, _, _, okC5, by decide, rfl, rfl, Or.inl rfl, Or.inl rfl⟩
theorem gf83w : gF "RopeRound$Walk" 19 2 (fun k => k = 1 ∨ k = 2 ∨ k = 5) (fun n => n = 0) := by
  refine ⟨_, _, _, kw195, fun ci h => ?_⟩
  rcases h with rfl | rfl | rfl
  · exact ⟨_, _, _, okC1, by decide, rfl, rfl, Or.inl rfl, rfl⟩
  · exact ⟨_, _, _, okC2, by decide, rfl, rfl, Or.inl rfl, rfl⟩
  · exact ⟨_, _, _, okC5, by decide, rfl, rfl, Or.inl rfl, rfl⟩
set_option maxRecDepth 100000 in
theorem kw697 : Cond.code ⟨"RopeRound$Walk", "goOn", "(IIJJJ)V"⟩ prog_11_method_3_code 15 none ∈ tg := kt 697 rfl rfl
theorem mo79 : MOk (mT 79) 5 := ⟨kw697, kw6, by decide +kernel, by decide +kernel, by decide⟩
theorem kw696 : Cond.instanceMethod ⟨"RopeRound$Walk", "goOn", "(IIJJJ)V"⟩ ∈ tg := kt 696 (by decide +kernel) (by decide +kernel)
theorem kw694 : Cond.methodLink "RopeRound$Walk" 22 ⟨"RopeRound$Walk", "goOn", "(IIJJJ)V"⟩ ∈ tg := kt 694 (by decide +kernel) (by decide +kernel)
theorem kw1359 : Cond.sameMethod "RopeRound$Walk" "RopeRound$Walk" "goOn" "(IIJJJ)V" ∈ tg := kt 1359 (by decide +kernel) (by decide +kernel)
theorem vk50 : ∀ ci y, (fun k => if k = 1 then some 79 else if k = 2 then some 79 else if k = 5 then some 79 else none) ci = some y → (∃ C T N, ClsOk ci C T N ∧ VOk mT "RopeRound$Walk" 22 C y 5) ∨ (ci = 201 ∧ VOk mT "RopeRound$Walk" 22 "java/lang/String" y 5) := by
  intro ci y h
  dsimp only at h
  by_cases h1 : ci = 1
  · subst h1
    have h := (Option.some.inj (by simpa using h)).symm
    subst h
    exact Or.inl ⟨_, _, _, okC1, ⟨mo79, kw696, Or.inr ⟨⟨"RopeRound$Walk", "goOn", "(IIJJJ)V"⟩, "RopeRound$Walk", by decide +kernel, by decide +kernel, kw694, kw1359, Or.inr rfl, (tg_in (List.mem_append_left _ (List.mem_of_getElem? (i := 0) rfl)) rfl)⟩⟩⟩
  rw [if_neg h1] at h
  by_cases h2 : ci = 2
  · subst h2
    have h := (Option.some.inj (by simpa using h)).symm
    subst h
    exact Or.inl ⟨_, _, _, okC2, ⟨mo79, kw696, Or.inr ⟨⟨"RopeRound$Walk", "goOn", "(IIJJJ)V"⟩, "RopeRound$Walk", by decide +kernel, by decide +kernel, kw694, kw1359, Or.inr rfl, (tg_in (List.mem_append_left _ (List.mem_of_getElem? (i := 2) rfl)) rfl)⟩⟩⟩
  rw [if_neg h2] at h
  by_cases h5 : ci = 5
  · subst h5
    have h := (Option.some.inj (by simpa using h)).symm
    subst h
    exact Or.inl ⟨_, _, _, okC5, ⟨mo79, kw696, Or.inr ⟨⟨"RopeRound$Walk", "goOn", "(IIJJJ)V"⟩, "RopeRound$Walk", by decide +kernel, by decide +kernel, kw694, kw1359, Or.inr rfl, (tg_in (List.mem_append_left _ (List.mem_of_getElem? (i := 1) rfl)) rfl)⟩⟩⟩
  rw [if_neg h5] at h
  cases h
theorem kw698 : Cond.methodLink "RopeRound$Walk" 26 ⟨"RopeRound$Ground", "leads", "(II)Z"⟩ ∈ tg := kt 698 (by decide +kernel) (by decide +kernel)
theorem vk51 : ∀ ci y, (fun k => if k = 3 then some 33 else none) ci = some y → (∃ C T N, ClsOk ci C T N ∧ VOk mT "RopeRound$Walk" 26 C y 2) ∨ (ci = 201 ∧ VOk mT "RopeRound$Walk" 26 "java/lang/String" y 2) := by
  intro ci y h
  dsimp only at h
  by_cases h3 : ci = 3
  · subst h3
    have h := (Option.some.inj (by simpa using h)).symm
    subst h
    exact Or.inl ⟨_, _, _, okC3, ⟨mo33, kw581, Or.inl ⟨rfl, kw698, kw582⟩⟩⟩
  rw [if_neg h3] at h
  cases h
theorem kn699 : Cond.fieldLinkNest "RopeRound$Walk" 32 "RopeRound" "STRIDES" "[I" "RopeRound" ∈ tb := kn 699 (by decide +kernel)
theorem kn700 : Cond.methodLinkNest "RopeRound$Walk" 36 ⟨"RopeRound", "cellsPassed", "(II)J"⟩ "RopeRound" ∈ tb := kn 700 (by decide +kernel)
theorem kw97 : Cond.fieldLink "RopeRound$Walk" 42 "RopeRound$Ground" "ringed" "J" ∈ tg := kt 97 (by decide +kernel) (by decide +kernel)
theorem gf84 : gF "RopeRound$Walk" 42 10 (fun k => k = 3) (fun n => n = 1) := by
  refine ⟨_, _, _, kw97, fun ci h => ?_⟩
  rcases h with rfl
  · exact ⟨_, _, _, okC3, by decide, rfl, rfl, Or.inl rfl, rfl⟩
set_option maxRecDepth 100000 in
theorem kw706 : Cond.code ⟨"RopeRound$Best", "meet", "(JJJI)V"⟩ prog_3_method_6_code 11 none ∈ tg := kt 706 rfl rfl
theorem mo17 : MOk (mT 17) 4 := ⟨kw706, kw7, by decide +kernel, by decide +kernel, by decide⟩
theorem kw705 : Cond.instanceMethod ⟨"RopeRound$Best", "meet", "(JJJI)V"⟩ ∈ tg := kt 705 (by decide +kernel) (by decide +kernel)
theorem kn702 : Cond.declares ⟨"RopeRound$Walk", "meet", "(JJJI)V"⟩ ∈ tb := kn 702 (by decide +kernel)
theorem kw701 : Cond.methodLink "RopeRound$Walk" 46 ⟨"RopeRound$Walk", "meet", "(JJJI)V"⟩ ∈ tg := kt 701 (by decide +kernel) (by decide +kernel)
theorem kw703 : Cond.sameMethod "RopeRound$Walk" "RopeRound$Walk" "meet" "(JJJI)V" ∈ tg := kt 703 (by decide +kernel) (by decide +kernel)
theorem kw704 : Cond.selects "RopeRound$Best" ⟨"RopeRound$Walk", "meet", "(JJJI)V"⟩ ⟨"RopeRound$Best", "meet", "(JJJI)V"⟩ ∈ tg := kt 704 (by decide +kernel) (by decide +kernel)
set_option maxRecDepth 100000 in
theorem kw715 : Cond.code ⟨"RopeRound$Finder", "meet", "(JJJI)V"⟩ prog_4_method_4_code 9 none ∈ tg := kt 715 rfl rfl
theorem kw9 : Cond.initialized "RopeRound$Finder" ∈ tg := kt 9 (by decide +kernel) (by decide +kernel)
theorem mo21 : MOk (mT 21) 4 := ⟨kw715, kw9, by decide +kernel, by decide +kernel, by decide⟩
theorem kw714 : Cond.instanceMethod ⟨"RopeRound$Finder", "meet", "(JJJI)V"⟩ ∈ tg := kt 714 (by decide +kernel) (by decide +kernel)
theorem kw713 : Cond.selects "RopeRound$Finder" ⟨"RopeRound$Walk", "meet", "(JJJI)V"⟩ ⟨"RopeRound$Finder", "meet", "(JJJI)V"⟩ ∈ tg := kt 713 (by decide +kernel) (by decide +kernel)
set_option maxRecDepth 100000 in
theorem kw720 : Cond.code ⟨"RopeRound$RingList", "meet", "(JJJI)V"⟩ prog_7_method_3_code 10 none ∈ tg := kt 720 rfl rfl
theorem kw8 : Cond.initialized "RopeRound$RingList" ∈ tg := kt 8 (by decide +kernel) (by decide +kernel)
theorem mo55 : MOk (mT 55) 4 := ⟨kw720, kw8, by decide +kernel, by decide +kernel, by decide⟩
theorem kw719 : Cond.instanceMethod ⟨"RopeRound$RingList", "meet", "(JJJI)V"⟩ ∈ tg := kt 719 (by decide +kernel) (by decide +kernel)
theorem kw718 : Cond.selects "RopeRound$RingList" ⟨"RopeRound$Walk", "meet", "(JJJI)V"⟩ ⟨"RopeRound$RingList", "meet", "(JJJI)V"⟩ ∈ tg := kt 718 (by decide +kernel) (by decide +kernel)
theorem vk52 : ∀ ci y, (fun k => if k = 1 then some 17 else if k = 2 then some 21 else if k = 5 then some 55 else none) ci = some y → (∃ C T N, ClsOk ci C T N ∧ VOk mT "RopeRound$Walk" 46 C y 4) ∨ (ci = 201 ∧ VOk mT "RopeRound$Walk" 46 "java/lang/String" y 4) := by
  intro ci y h
  dsimp only at h
  by_cases h1 : ci = 1
  · subst h1
    have h := (Option.some.inj (by simpa using h)).symm
    subst h
    exact Or.inl ⟨_, _, _, okC1, ⟨mo17, kw705, Or.inr ⟨⟨"RopeRound$Walk", "meet", "(JJJI)V"⟩, "RopeRound$Walk", by decide +kernel, by decide +kernel, kw701, kw703, Or.inl kn702, kw704⟩⟩⟩
  rw [if_neg h1] at h
  by_cases h2 : ci = 2
  · subst h2
    have h := (Option.some.inj (by simpa using h)).symm
    subst h
    exact Or.inl ⟨_, _, _, okC2, ⟨mo21, kw714, Or.inr ⟨⟨"RopeRound$Walk", "meet", "(JJJI)V"⟩, "RopeRound$Walk", by decide +kernel, by decide +kernel, kw701, kw703, Or.inl kn702, kw713⟩⟩⟩
  rw [if_neg h2] at h
  by_cases h5 : ci = 5
  · subst h5
    have h := (Option.some.inj (by simpa using h)).symm
    subst h
    exact Or.inl ⟨_, _, _, okC5, ⟨mo55, kw719, Or.inr ⟨⟨"RopeRound$Walk", "meet", "(JJJI)V"⟩, "RopeRound$Walk", by decide +kernel, by decide +kernel, kw701, kw703, Or.inl kn702, kw718⟩⟩⟩
  rw [if_neg h5] at h
  cases h
theorem kn726 : Cond.methodLinkNest "RopeRound$Walk" 50 ⟨"RopeRound", "has", "(JI)Z"⟩ "RopeRound" ∈ tb := kn 726 (by decide +kernel)
set_option maxRecDepth 100000 in
theorem kw730 : Cond.code ⟨"RopeRound$Walk", "stepsHome", "(I)I"⟩ prog_11_method_4_code 2 (some FieldType.int) ∈ tg := kt 730 rfl rfl
theorem mo80 : MOk (mT 80) 1 := ⟨kw730, kw6, by decide +kernel, by decide +kernel, by decide⟩
theorem kw729 : Cond.instanceMethod ⟨"RopeRound$Walk", "stepsHome", "(I)I"⟩ ∈ tg := kt 729 (by decide +kernel) (by decide +kernel)
theorem kw727 : Cond.methodLink "RopeRound$Walk" 54 ⟨"RopeRound$Walk", "stepsHome", "(I)I"⟩ ∈ tg := kt 727 (by decide +kernel) (by decide +kernel)
theorem kw1360 : Cond.sameMethod "RopeRound$Walk" "RopeRound$Walk" "stepsHome" "(I)I" ∈ tg := kt 1360 (by decide +kernel) (by decide +kernel)
theorem vk53 : ∀ ci y, (fun k => if k = 1 then some 80 else if k = 2 then some 80 else if k = 5 then some 80 else none) ci = some y → (∃ C T N, ClsOk ci C T N ∧ VOk mT "RopeRound$Walk" 54 C y 1) ∨ (ci = 201 ∧ VOk mT "RopeRound$Walk" 54 "java/lang/String" y 1) := by
  intro ci y h
  dsimp only at h
  by_cases h1 : ci = 1
  · subst h1
    have h := (Option.some.inj (by simpa using h)).symm
    subst h
    exact Or.inl ⟨_, _, _, okC1, ⟨mo80, kw729, Or.inr ⟨⟨"RopeRound$Walk", "stepsHome", "(I)I"⟩, "RopeRound$Walk", by decide +kernel, by decide +kernel, kw727, kw1360, Or.inr rfl, (tg_in (List.mem_append_left _ (List.mem_of_getElem? (i := 3) rfl)) rfl)⟩⟩⟩
  rw [if_neg h1] at h
  by_cases h2 : ci = 2
  · subst h2
    have h := (Option.some.inj (by simpa using h)).symm
    subst h
    exact Or.inl ⟨_, _, _, okC2, ⟨mo80, kw729, Or.inr ⟨⟨"RopeRound$Walk", "stepsHome", "(I)I"⟩, "RopeRound$Walk", by decide +kernel, by decide +kernel, kw727, kw1360, Or.inr rfl, (tg_in (List.mem_append_left _ (List.mem_of_getElem? (i := 5) rfl)) rfl)⟩⟩⟩
  rw [if_neg h2] at h
  by_cases h5 : ci = 5
  · subst h5
    have h := (Option.some.inj (by simpa using h)).symm
    subst h
    exact Or.inl ⟨_, _, _, okC5, ⟨mo80, kw729, Or.inr ⟨⟨"RopeRound$Walk", "stepsHome", "(I)I"⟩, "RopeRound$Walk", by decide +kernel, by decide +kernel, kw727, kw1360, Or.inr rfl, (tg_in (List.mem_append_left _ (List.mem_of_getElem? (i := 4) rfl)) rfl)⟩⟩⟩
  rw [if_neg h5] at h
  cases h
theorem kw731 : Cond.methodLink "RopeRound$Walk" 58 ⟨"java/lang/Math", "abs", "(I)I"⟩ ∈ tg := kt 731 (by decide +kernel) (by decide +kernel)
theorem kw732 : Cond.static ⟨"java/lang/Math", "abs", "(I)I"⟩ ∈ tg := kt 732 (by decide +kernel) (by decide +kernel)
theorem kw19 : Cond.initialized "java/lang/Math" ∈ tg := kt 19 (by decide +kernel) (by decide +kernel)
set_option maxRecDepth 100000 in
theorem kw733 : Cond.code ⟨"java/lang/Math", "abs", "(I)I"⟩ prog_15_method_59_code 1 (some FieldType.int) ∈ tg := kt 733 rfl rfl
theorem kw25 : Cond.methodLink "RopeRound" 3 ⟨"java/lang/Object", "<init>", "()V"⟩ ∈ tg := kt 25 (by decide +kernel) (by decide +kernel)
theorem kw28 : Cond.classLink "RopeRound" 9 "RopeRound$Row" ∈ tg := kt 28 (by decide +kernel) (by decide +kernel)
theorem kn29 : Cond.arrayOver (FieldType.object "RopeRound$Row") ∈ tb := kn 29 (by decide +kernel)
theorem kw304 : Cond.fieldLink "RopeRound" 11 "RopeRound" "rows" "[LRopeRound$Row;" ∈ tg := kt 304 (by decide +kernel) (by decide +kernel)
theorem gf85f : gFF "RopeRound" 11 0 (fun k => k = 10) := by
  refine ⟨_, _, _, kw304, fun ci h => ?_⟩
  rcases h with rfl
  · exact ⟨_, _, _, okC10, by decide, rfl, rfl, rfl, rfl, rfl⟩
theorem kw30 : Cond.classLink "RopeRound" 15 "RopeRound$Reader" ∈ tg := kt 30 (by decide +kernel) (by decide +kernel)
theorem kn32 : Cond.methodLinkNest "RopeRound" 17 ⟨"RopeRound$Reader", "<init>", "()V"⟩ "RopeRound" ∈ tb := kn 32 (by decide +kernel)
theorem kw33 : Cond.instanceMethod ⟨"RopeRound$Reader", "<init>", "()V"⟩ ∈ tg := kt 33 (by decide +kernel) (by decide +kernel)
set_option maxRecDepth 100000 in
theorem kw34 : Cond.code ⟨"RopeRound$Reader", "<init>", "()V"⟩ prog_6_method_1_code 1 none ∈ tg := kt 34 rfl rfl
theorem mo40 : MOk (mT 40) 0 := ⟨kw34, kw2, by decide +kernel, by decide +kernel, by decide⟩
theorem kw305 : Cond.fieldLink "RopeRound" 18 "RopeRound" "reader" "LRopeRound$Reader;" ∈ tg := kt 305 (by decide +kernel) (by decide +kernel)
theorem gf86f : gFF "RopeRound" 18 1 (fun k => k = 10) := by
  refine ⟨_, _, _, kw305, fun ci h => ?_⟩
  rcases h with rfl
  · exact ⟨_, _, _, okC10, by decide, rfl, rfl, rfl, rfl, rfl⟩
theorem kw148 : Cond.classLink "RopeRound" 22 "RopeRound$Ground" ∈ tg := kt 148 (by decide +kernel) (by decide +kernel)
theorem kn149 : Cond.methodLinkNest "RopeRound" 24 ⟨"RopeRound$Ground", "<init>", "()V"⟩ "RopeRound" ∈ tb := kn 149 (by decide +kernel)
theorem kw306 : Cond.fieldLink "RopeRound" 25 "RopeRound" "here" "LRopeRound$Ground;" ∈ tg := kt 306 (by decide +kernel) (by decide +kernel)
theorem gf87f : gFF "RopeRound" 25 2 (fun k => k = 10) := by
  refine ⟨_, _, _, kw306, fun ci h => ?_⟩
  rcases h with rfl
  · exact ⟨_, _, _, okC10, by decide, rfl, rfl, rfl, rfl, rfl⟩
theorem kn150 : Cond.arrayOver (FieldType.object "RopeRound$Ground") ∈ tb := kn 150 (by decide +kernel)
theorem kw307 : Cond.fieldLink "RopeRound" 29 "RopeRound" "images" "[LRopeRound$Ground;" ∈ tg := kt 307 (by decide +kernel) (by decide +kernel)
theorem gf88f : gFF "RopeRound" 29 3 (fun k => k = 10) := by
  refine ⟨_, _, _, kw307, fun ci h => ?_⟩
  rcases h with rfl
  · exact ⟨_, _, _, okC10, by decide, rfl, rfl, rfl, rfl, rfl⟩
theorem kw151 : Cond.classLink "RopeRound" 33 "RopeRound$Trial" ∈ tg := kt 151 (by decide +kernel) (by decide +kernel)
theorem kn153 : Cond.methodLinkNest "RopeRound" 35 ⟨"RopeRound$Trial", "<init>", "()V"⟩ "RopeRound" ∈ tb := kn 153 (by decide +kernel)
theorem kw154 : Cond.instanceMethod ⟨"RopeRound$Trial", "<init>", "()V"⟩ ∈ tg := kt 154 (by decide +kernel) (by decide +kernel)
set_option maxRecDepth 100000 in
theorem kw155 : Cond.code ⟨"RopeRound$Trial", "<init>", "()V"⟩ prog_10_method_1_code 1 none ∈ tg := kt 155 rfl rfl
theorem mo73 : MOk (mT 73) 0 := ⟨kw155, kw5, by decide +kernel, by decide +kernel, by decide⟩
theorem kw308 : Cond.fieldLink "RopeRound" 36 "RopeRound" "trial" "LRopeRound$Trial;" ∈ tg := kt 308 (by decide +kernel) (by decide +kernel)
theorem gf89f : gFF "RopeRound" 36 4 (fun k => k = 10) := by
  refine ⟨_, _, _, kw308, fun ci h => ?_⟩
  rcases h with rfl
  · exact ⟨_, _, _, okC10, by decide, rfl, rfl, rfl, rfl, rfl⟩
theorem kw170 : Cond.classLink "RopeRound" 40 "RopeRound$Best" ∈ tg := kt 170 (by decide +kernel) (by decide +kernel)
theorem kn172 : Cond.methodLinkNest "RopeRound" 42 ⟨"RopeRound$Best", "<init>", "()V"⟩ "RopeRound" ∈ tb := kn 172 (by decide +kernel)
theorem kw173 : Cond.instanceMethod ⟨"RopeRound$Best", "<init>", "()V"⟩ ∈ tg := kt 173 (by decide +kernel) (by decide +kernel)
set_option maxRecDepth 100000 in
theorem kw174 : Cond.code ⟨"RopeRound$Best", "<init>", "()V"⟩ prog_3_method_1_code 1 none ∈ tg := kt 174 rfl rfl
theorem mo12 : MOk (mT 12) 0 := ⟨kw174, kw7, by decide +kernel, by decide +kernel, by decide⟩
theorem kw309 : Cond.fieldLink "RopeRound" 43 "RopeRound" "best" "LRopeRound$Best;" ∈ tg := kt 309 (by decide +kernel) (by decide +kernel)
theorem gf90f : gFF "RopeRound" 43 5 (fun k => k = 10) := by
  refine ⟨_, _, _, kw309, fun ci h => ?_⟩
  rcases h with rfl
  · exact ⟨_, _, _, okC10, by decide, rfl, rfl, rfl, rfl, rfl⟩
theorem kw213 : Cond.classLink "RopeRound" 47 "RopeRound$RingList" ∈ tg := kt 213 (by decide +kernel) (by decide +kernel)
theorem kn215 : Cond.methodLinkNest "RopeRound" 49 ⟨"RopeRound$RingList", "<init>", "()V"⟩ "RopeRound" ∈ tb := kn 215 (by decide +kernel)
theorem kw216 : Cond.instanceMethod ⟨"RopeRound$RingList", "<init>", "()V"⟩ ∈ tg := kt 216 (by decide +kernel) (by decide +kernel)
set_option maxRecDepth 100000 in
theorem kw217 : Cond.code ⟨"RopeRound$RingList", "<init>", "()V"⟩ prog_7_method_1_code 1 none ∈ tg := kt 217 rfl rfl
theorem mo53 : MOk (mT 53) 0 := ⟨kw217, kw8, by decide +kernel, by decide +kernel, by decide⟩
theorem kw310 : Cond.fieldLink "RopeRound" 50 "RopeRound" "firsts" "LRopeRound$RingList;" ∈ tg := kt 310 (by decide +kernel) (by decide +kernel)
theorem gf91f : gFF "RopeRound" 50 6 (fun k => k = 10) := by
  refine ⟨_, _, _, kw310, fun ci h => ?_⟩
  rcases h with rfl
  · exact ⟨_, _, _, okC10, by decide, rfl, rfl, rfl, rfl, rfl⟩
theorem kw311 : Cond.fieldLink "RopeRound" 54 "RopeRound" "seconds" "LRopeRound$RingList;" ∈ tg := kt 311 (by decide +kernel) (by decide +kernel)
theorem gf92f : gFF "RopeRound" 54 7 (fun k => k = 10) := by
  refine ⟨_, _, _, kw311, fun ci h => ?_⟩
  rcases h with rfl
  · exact ⟨_, _, _, okC10, by decide, rfl, rfl, rfl, rfl, rfl⟩
theorem kw235 : Cond.classLink "RopeRound" 57 "RopeRound$Finder" ∈ tg := kt 235 (by decide +kernel) (by decide +kernel)
theorem kn237 : Cond.methodLinkNest "RopeRound" 59 ⟨"RopeRound$Finder", "<init>", "()V"⟩ "RopeRound" ∈ tb := kn 237 (by decide +kernel)
theorem kw238 : Cond.instanceMethod ⟨"RopeRound$Finder", "<init>", "()V"⟩ ∈ tg := kt 238 (by decide +kernel) (by decide +kernel)
set_option maxRecDepth 100000 in
theorem kw239 : Cond.code ⟨"RopeRound$Finder", "<init>", "()V"⟩ prog_4_method_1_code 1 none ∈ tg := kt 239 rfl rfl
theorem mo18 : MOk (mT 18) 0 := ⟨kw239, kw9, by decide +kernel, by decide +kernel, by decide⟩
theorem kw312 : Cond.fieldLink "RopeRound" 60 "RopeRound" "finder" "LRopeRound$Finder;" ∈ tg := kt 312 (by decide +kernel) (by decide +kernel)
theorem gf93f : gFF "RopeRound" 60 8 (fun k => k = 10) := by
  refine ⟨_, _, _, kw312, fun ci h => ?_⟩
  rcases h with rfl
  · exact ⟨_, _, _, okC10, by decide, rfl, rfl, rfl, rfl, rfl⟩
theorem kw257 : Cond.classLink "RopeRound" 64 "RopeRound$Asker" ∈ tg := kt 257 (by decide +kernel) (by decide +kernel)
theorem kn259 : Cond.methodLinkNest "RopeRound" 66 ⟨"RopeRound$Asker", "<init>", "()V"⟩ "RopeRound" ∈ tb := kn 259 (by decide +kernel)
theorem kw260 : Cond.instanceMethod ⟨"RopeRound$Asker", "<init>", "()V"⟩ ∈ tg := kt 260 (by decide +kernel) (by decide +kernel)
set_option maxRecDepth 100000 in
theorem kw261 : Cond.code ⟨"RopeRound$Asker", "<init>", "()V"⟩ prog_2_method_1_code 1 none ∈ tg := kt 261 rfl rfl
theorem mo0 : MOk (mT 0) 0 := ⟨kw261, kw10, by decide +kernel, by decide +kernel, by decide⟩
theorem kw313 : Cond.fieldLink "RopeRound" 67 "RopeRound" "asker" "LRopeRound$Asker;" ∈ tg := kt 313 (by decide +kernel) (by decide +kernel)
theorem gf94f : gFF "RopeRound" 67 9 (fun k => k = 10) := by
  refine ⟨_, _, _, kw313, fun ci h => ?_⟩
  rcases h with rfl
  · exact ⟨_, _, _, okC10, by decide, rfl, rfl, rfl, rfl, rfl⟩
theorem gf95 : gF "RopeRound" 11 0 (fun k => k = 10) (fun n => n = 2) := by
  refine ⟨_, _, _, kw304, fun ci h => ?_⟩
  rcases h with rfl
  · exact ⟨_, _, _, okC10, by decide, rfl, rfl, Or.inl rfl, rfl⟩
theorem kn285 : Cond.methodLinkNest "RopeRound" 71 ⟨"RopeRound$Row", "<init>", "()V"⟩ "RopeRound" ∈ tb := kn 285 (by decide +kernel)
theorem kw286 : Cond.instanceMethod ⟨"RopeRound$Row", "<init>", "()V"⟩ ∈ tg := kt 286 (by decide +kernel) (by decide +kernel)
set_option maxRecDepth 100000 in
theorem kw287 : Cond.code ⟨"RopeRound$Row", "<init>", "()V"⟩ prog_8_method_1_code 1 none ∈ tg := kt 287 rfl rfl
theorem kw11 : Cond.initialized "RopeRound$Row" ∈ tg := kt 11 (by decide +kernel) (by decide +kernel)
theorem mo57 : MOk (mT 57) 0 := ⟨kw287, kw11, by decide +kernel, by decide +kernel, by decide⟩
theorem gf96 : gF "RopeRound" 29 3 (fun k => k = 10) (fun n => n = 2) := by
  refine ⟨_, _, _, kw307, fun ci h => ?_⟩
  rcases h with rfl
  · exact ⟨_, _, _, okC10, by decide, rfl, rfl, Or.inl rfl, rfl⟩
theorem kw345 : Cond.methodLink "RopeRound" 72 ⟨"RopeRound", "isRow", "(I)Z"⟩ ∈ tg := kt 345 (by decide +kernel) (by decide +kernel)
theorem kw346 : Cond.static ⟨"RopeRound", "isRow", "(I)Z"⟩ ∈ tg := kt 346 (by decide +kernel) (by decide +kernel)
set_option maxRecDepth 100000 in
theorem kw347 : Cond.code ⟨"RopeRound", "isRow", "(I)Z"⟩ prog_1_method_29_code 1 (some FieldType.boolean) ∈ tg := kt 347 rfl rfl
theorem mo109 : MOk (mT 109) 1 := ⟨kw347, kw1, by decide +kernel, by decide +kernel, by decide⟩
theorem kw348 : Cond.constant "RopeRound" 76 (-1000001) ∈ tg := kt 348 (by decide +kernel) (by decide +kernel)
set_option maxRecDepth 100000 in
theorem kw352 : Cond.code ⟨"RopeRound", "findingOf", "(I)I"⟩ prog_1_method_31_code 2 (some FieldType.int) ∈ tg := kt 352 rfl rfl
theorem mo111 : MOk (mT 111) 1 := ⟨kw352, kw1, by decide +kernel, by decide +kernel, by decide⟩
theorem kw351 : Cond.instanceMethod ⟨"RopeRound", "findingOf", "(I)I"⟩ ∈ tg := kt 351 (by decide +kernel) (by decide +kernel)
theorem kw349 : Cond.methodLink "RopeRound" 77 ⟨"RopeRound", "findingOf", "(I)I"⟩ ∈ tg := kt 349 (by decide +kernel) (by decide +kernel)
theorem vk54 : ∀ ci y, (fun k => if k = 10 then some 111 else none) ci = some y → (∃ C T N, ClsOk ci C T N ∧ VOk mT "RopeRound" 77 C y 1) ∨ (ci = 201 ∧ VOk mT "RopeRound" 77 "java/lang/String" y 1) := by
  intro ci y h
  dsimp only at h
  by_cases h10 : ci = 10
  · subst h10
    have h := (Option.some.inj (by simpa using h)).symm
    subst h
    exact Or.inl ⟨_, _, _, okC10, ⟨mo111, kw351, Or.inl ⟨rfl, kw349, (ks (q := (⟨"RopeRound", "findingOf", "(I)I"⟩, 12)) (by decide +kernel))⟩⟩⟩
  rw [if_neg h10] at h
  cases h
set_option maxRecDepth 100000 in
theorem kw357 : Cond.code ⟨"RopeRound$Row", "begin", "(II)V"⟩ prog_8_method_3_code 4 none ∈ tg := kt 357 rfl rfl
theorem mo59 : MOk (mT 59) 2 := ⟨kw357, kw11, by decide +kernel, by decide +kernel, by decide⟩
theorem kw355 : Cond.instanceMethod ⟨"RopeRound$Row", "begin", "(II)V"⟩ ∈ tg := kt 355 (by decide +kernel) (by decide +kernel)
theorem kw354 : Cond.methodLink "RopeRound" 81 ⟨"RopeRound$Row", "begin", "(II)V"⟩ ∈ tg := kt 354 (by decide +kernel) (by decide +kernel)
theorem kw356 : Cond.selects "RopeRound$Row" ⟨"RopeRound$Row", "begin", "(II)V"⟩ ⟨"RopeRound$Row", "begin", "(II)V"⟩ ∈ tg := kt 356 (by decide +kernel) (by decide +kernel)
theorem vk55 : ∀ ci y, (fun k => if k = 6 then some 59 else none) ci = some y → (∃ C T N, ClsOk ci C T N ∧ VOk mT "RopeRound" 81 C y 2) ∨ (ci = 201 ∧ VOk mT "RopeRound" 81 "java/lang/String" y 2) := by
  intro ci y h
  dsimp only at h
  by_cases h6 : ci = 6
  · subst h6
    have h := (Option.some.inj (by simpa using h)).symm
    subst h
    exact Or.inl ⟨_, _, _, okC6, ⟨mo59, kw355, Or.inl ⟨rfl, kw354, kw356⟩⟩⟩
  rw [if_neg h6] at h
  cases h
set_option maxRecDepth 100000 in
theorem kw361 : Cond.code ⟨"RopeRound", "unfound", "(I)I"⟩ prog_1_method_32_code 2 (some FieldType.int) ∈ tg := kt 361 rfl rfl
theorem mo112 : MOk (mT 112) 1 := ⟨kw361, kw1, by decide +kernel, by decide +kernel, by decide⟩
theorem kw360 : Cond.instanceMethod ⟨"RopeRound", "unfound", "(I)I"⟩ ∈ tg := kt 360 (by decide +kernel) (by decide +kernel)
theorem kw358 : Cond.methodLink "RopeRound" 85 ⟨"RopeRound", "unfound", "(I)I"⟩ ∈ tg := kt 358 (by decide +kernel) (by decide +kernel)
theorem vk56 : ∀ ci y, (fun k => if k = 10 then some 112 else none) ci = some y → (∃ C T N, ClsOk ci C T N ∧ VOk mT "RopeRound" 85 C y 1) ∨ (ci = 201 ∧ VOk mT "RopeRound" 85 "java/lang/String" y 1) := by
  intro ci y h
  dsimp only at h
  by_cases h10 : ci = 10
  · subst h10
    have h := (Option.some.inj (by simpa using h)).symm
    subst h
    exact Or.inl ⟨_, _, _, okC10, ⟨mo112, kw360, Or.inl ⟨rfl, kw358, (ks (q := (⟨"RopeRound", "unfound", "(I)I"⟩, 12)) (by decide +kernel))⟩⟩⟩
  rw [if_neg h10] at h
  cases h
set_option maxRecDepth 100000 in
theorem kw369 : Cond.code ⟨"RopeRound$Row", "isMissing", "()Z"⟩ prog_8_method_2_code 1 (some FieldType.boolean) ∈ tg := kt 369 rfl rfl
theorem mo58 : MOk (mT 58) 0 := ⟨kw369, kw11, by decide +kernel, by decide +kernel, by decide⟩
theorem kw367 : Cond.instanceMethod ⟨"RopeRound$Row", "isMissing", "()Z"⟩ ∈ tg := kt 367 (by decide +kernel) (by decide +kernel)
theorem kw366 : Cond.methodLink "RopeRound" 88 ⟨"RopeRound$Row", "isMissing", "()Z"⟩ ∈ tg := kt 366 (by decide +kernel) (by decide +kernel)
theorem kw368 : Cond.selects "RopeRound$Row" ⟨"RopeRound$Row", "isMissing", "()Z"⟩ ⟨"RopeRound$Row", "isMissing", "()Z"⟩ ∈ tg := kt 368 (by decide +kernel) (by decide +kernel)
theorem vk57 : ∀ ci y, (fun k => if k = 6 then some 58 else none) ci = some y → (∃ C T N, ClsOk ci C T N ∧ VOk mT "RopeRound" 88 C y 0) ∨ (ci = 201 ∧ VOk mT "RopeRound" 88 "java/lang/String" y 0) := by
  intro ci y h
  dsimp only at h
  by_cases h6 : ci = 6
  · subst h6
    have h := (Option.some.inj (by simpa using h)).symm
    subst h
    exact Or.inl ⟨_, _, _, okC6, ⟨mo58, kw367, Or.inl ⟨rfl, kw366, kw368⟩⟩⟩
  rw [if_neg h6] at h
  cases h
set_option maxRecDepth 100000 in
theorem kw373 : Cond.code ⟨"RopeRound$Row", "holds", "(II)Z"⟩ prog_8_method_5_code 3 (some FieldType.boolean) ∈ tg := kt 373 rfl rfl
theorem mo61 : MOk (mT 61) 2 := ⟨kw373, kw11, by decide +kernel, by decide +kernel, by decide⟩
theorem kw371 : Cond.instanceMethod ⟨"RopeRound$Row", "holds", "(II)Z"⟩ ∈ tg := kt 371 (by decide +kernel) (by decide +kernel)
theorem kw370 : Cond.methodLink "RopeRound" 92 ⟨"RopeRound$Row", "holds", "(II)Z"⟩ ∈ tg := kt 370 (by decide +kernel) (by decide +kernel)
theorem kw372 : Cond.selects "RopeRound$Row" ⟨"RopeRound$Row", "holds", "(II)Z"⟩ ⟨"RopeRound$Row", "holds", "(II)Z"⟩ ∈ tg := kt 372 (by decide +kernel) (by decide +kernel)
theorem vk58 : ∀ ci y, (fun k => if k = 6 then some 61 else none) ci = some y → (∃ C T N, ClsOk ci C T N ∧ VOk mT "RopeRound" 92 C y 2) ∨ (ci = 201 ∧ VOk mT "RopeRound" 92 "java/lang/String" y 2) := by
  intro ci y h
  dsimp only at h
  by_cases h6 : ci = 6
  · subst h6
    have h := (Option.some.inj (by simpa using h)).symm
    subst h
    exact Or.inl ⟨_, _, _, okC6, ⟨mo61, kw371, Or.inl ⟨rfl, kw370, kw372⟩⟩⟩
  rw [if_neg h6] at h
  cases h
set_option maxRecDepth 100000 in
theorem kw377 : Cond.code ⟨"RopeRound$Row", "put", "(II)I"⟩ prog_8_method_6_code 4 (some FieldType.int) ∈ tg := kt 377 rfl rfl
theorem mo62 : MOk (mT 62) 2 := ⟨kw377, kw11, by decide +kernel, by decide +kernel, by decide⟩
theorem kw375 : Cond.instanceMethod ⟨"RopeRound$Row", "put", "(II)I"⟩ ∈ tg := kt 375 (by decide +kernel) (by decide +kernel)
theorem kw374 : Cond.methodLink "RopeRound" 96 ⟨"RopeRound$Row", "put", "(II)I"⟩ ∈ tg := kt 374 (by decide +kernel) (by decide +kernel)
theorem kw376 : Cond.selects "RopeRound$Row" ⟨"RopeRound$Row", "put", "(II)I"⟩ ⟨"RopeRound$Row", "put", "(II)I"⟩ ∈ tg := kt 376 (by decide +kernel) (by decide +kernel)
theorem vk59 : ∀ ci y, (fun k => if k = 6 then some 62 else none) ci = some y → (∃ C T N, ClsOk ci C T N ∧ VOk mT "RopeRound" 96 C y 2) ∨ (ci = 201 ∧ VOk mT "RopeRound" 96 "java/lang/String" y 2) := by
  intro ci y h
  dsimp only at h
  by_cases h6 : ci = 6
  · subst h6
    have h := (Option.some.inj (by simpa using h)).symm
    subst h
    exact Or.inl ⟨_, _, _, okC6, ⟨mo62, kw375, Or.inl ⟨rfl, kw374, kw376⟩⟩⟩
  rw [if_neg h6] at h
  cases h
theorem kw294 : Cond.fieldLink "RopeRound" 100 "RopeRound$Row" "lane" "I" ∈ tg := kt 294 (by decide +kernel) (by decide +kernel)
theorem gf97 : gF "RopeRound" 100 1 (fun k => k = 6) (fun n => n = 0 ∨ n = 4) := by
  refine ⟨_, _, _, kw294, fun ci h => ?_⟩
  rcases h with rfl
  · exact ⟨_, _, _, okC6, by decide, rfl, rfl, Or.inl rfl, Or.inl rfl⟩
theorem gf97w : gF "RopeRound" 100 1 (fun k => k = 6) (fun n => n = 0) := by
  refine ⟨_, _, _, kw294, fun ci h => ?_⟩
  rcases h with rfl
  · exact ⟨_, _, _, okC6, by decide, rfl, rfl, Or.inl rfl, rfl⟩
theorem kw292 : Cond.fieldLink "RopeRound" 104 "RopeRound$Row" "items" "[I" ∈ tg := kt 292 (by decide +kernel) (by decide +kernel)
theorem gf98 : gF "RopeRound" 104 0 (fun k => k = 6) (fun n => n = 2) := by
  refine ⟨_, _, _, kw292, fun ci h => ?_⟩
  rcases h with rfl
  · exact ⟨_, _, _, okC6, by decide, rfl, rfl, Or.inl rfl, rfl⟩
theorem kw382 : Cond.methodLink "RopeRound" 108 ⟨"java/lang/System", "arraycopy", "(Ljava/lang/Object;ILjava/lang/Object;II)V"⟩ ∈ tg := kt 382 (by decide +kernel) (by decide +kernel)
theorem kw296 : Cond.fieldLink "RopeRound" 114 "RopeRound$Row" "size" "I" ∈ tg := kt 296 (by decide +kernel) (by decide +kernel)
theorem gf99 : gF "RopeRound" 114 2 (fun k => k = 6) (fun n => n = 0 ∨ n = 4) := by
  refine ⟨_, _, _, kw296, fun ci h => ?_⟩
  rcases h with rfl
  · exact ⟨_, _, _, okC6, by decide, rfl, rfl, Or.inl rfl, Or.inl rfl⟩
theorem gf99w : gF "RopeRound" 114 2 (fun k => k = 6) (fun n => n = 0) := by
  refine ⟨_, _, _, kw296, fun ci h => ?_⟩
  rcases h with rfl
  · exact ⟨_, _, _, okC6, by decide, rfl, rfl, Or.inl rfl, rfl⟩
set_option maxRecDepth 100000 in
theorem kw392 : Cond.code ⟨"RopeRound$Row", "vanish", "()V"⟩ prog_8_method_4_code 1 none ∈ tg := kt 392 rfl rfl
theorem mo60 : MOk (mT 60) 0 := ⟨kw392, kw11, by decide +kernel, by decide +kernel, by decide⟩
theorem kw390 : Cond.instanceMethod ⟨"RopeRound$Row", "vanish", "()V"⟩ ∈ tg := kt 390 (by decide +kernel) (by decide +kernel)
theorem kw389 : Cond.methodLink "RopeRound" 117 ⟨"RopeRound$Row", "vanish", "()V"⟩ ∈ tg := kt 389 (by decide +kernel) (by decide +kernel)
theorem kw391 : Cond.selects "RopeRound$Row" ⟨"RopeRound$Row", "vanish", "()V"⟩ ⟨"RopeRound$Row", "vanish", "()V"⟩ ∈ tg := kt 391 (by decide +kernel) (by decide +kernel)
theorem vk60 : ∀ ci y, (fun k => if k = 6 then some 60 else none) ci = some y → (∃ C T N, ClsOk ci C T N ∧ VOk mT "RopeRound" 117 C y 0) ∨ (ci = 201 ∧ VOk mT "RopeRound" 117 "java/lang/String" y 0) := by
  intro ci y h
  dsimp only at h
  by_cases h6 : ci = 6
  · subst h6
    have h := (Option.some.inj (by simpa using h)).symm
    subst h
    exact Or.inl ⟨_, _, _, okC6, ⟨mo60, kw390, Or.inl ⟨rfl, kw389, kw391⟩⟩⟩
  rw [if_neg h6] at h
  cases h
theorem gf100 : gF "RopeRound" 18 1 (fun k => k = 10) (fun n => n = 2) := by
  refine ⟨_, _, _, kw305, fun ci h => ?_⟩
  rcases h with rfl
  · exact ⟨_, _, _, okC10, by decide, rfl, rfl, Or.inl rfl, rfl⟩
theorem kw132 : Cond.fieldLink "RopeRound" 120 "RopeRound$Reader" "tape" "LRopeRound$Tape;" ∈ tg := kt 132 (by decide +kernel) (by decide +kernel)
theorem gf101 : gF "RopeRound" 120 0 (fun k => k = 4) (fun n => n = 2) := by
  refine ⟨_, _, _, kw132, fun ci h => ?_⟩
  rcases h with rfl
  · exact ⟨_, _, _, okC4, by decide, rfl, rfl, Or.inl rfl, rfl⟩
theorem kw45 : Cond.fieldLink "RopeRound" 124 "RopeRound$Tape" "length" "I" ∈ tg := kt 45 (by decide +kernel) (by decide +kernel)
theorem gf102 : gF "RopeRound" 124 1 (fun k => k = 7) (fun n => n = 0 ∨ n = 4) := by
  refine ⟨_, _, _, kw45, fun ci h => ?_⟩
  rcases h with rfl
  · exact ⟨_, _, _, okC7, by decide, rfl, rfl, Or.inl rfl, Or.inl rfl⟩
theorem gf102w : gF "RopeRound" 124 1 (fun k => k = 7) (fun n => n = 0) := by
  refine ⟨_, _, _, kw45, fun ci h => ?_⟩
  rcases h with rfl
  · exact ⟨_, _, _, okC7, by decide, rfl, rfl, Or.inl rfl, rfl⟩
theorem kw397 : Cond.constant "RopeRound" 129 (-1000003) ∈ tg := kt 397 (by decide +kernel) (by decide +kernel)
set_option maxRecDepth 100000 in
theorem kw401 : Cond.code ⟨"RopeRound$Tape", "append", "(JI)V"⟩ prog_9_method_2_code 5 none ∈ tg := kt 401 rfl rfl
theorem mo64 : MOk (mT 64) 2 := ⟨kw401, kw3, by decide +kernel, by decide +kernel, by decide⟩
theorem kw399 : Cond.instanceMethod ⟨"RopeRound$Tape", "append", "(JI)V"⟩ ∈ tg := kt 399 (by decide +kernel) (by decide +kernel)
theorem kw398 : Cond.methodLink "RopeRound" 130 ⟨"RopeRound$Tape", "append", "(JI)V"⟩ ∈ tg := kt 398 (by decide +kernel) (by decide +kernel)
theorem kw400 : Cond.selects "RopeRound$Tape" ⟨"RopeRound$Tape", "append", "(JI)V"⟩ ⟨"RopeRound$Tape", "append", "(JI)V"⟩ ∈ tg := kt 400 (by decide +kernel) (by decide +kernel)
theorem vk61 : ∀ ci y, (fun k => if k = 7 then some 64 else none) ci = some y → (∃ C T N, ClsOk ci C T N ∧ VOk mT "RopeRound" 130 C y 2) ∨ (ci = 201 ∧ VOk mT "RopeRound" 130 "java/lang/String" y 2) := by
  intro ci y h
  dsimp only at h
  by_cases h7 : ci = 7
  · subst h7
    have h := (Option.some.inj (by simpa using h)).symm
    subst h
    exact Or.inl ⟨_, _, _, okC7, ⟨mo64, kw399, Or.inl ⟨rfl, kw398, kw400⟩⟩⟩
  rw [if_neg h7] at h
  cases h
set_option maxRecDepth 100000 in
theorem kw409 : Cond.code ⟨"RopeRound$Reader", "readAll", "()Z"⟩ prog_6_method_2_code 1 (some FieldType.boolean) ∈ tg := kt 409 rfl rfl
theorem mo41 : MOk (mT 41) 0 := ⟨kw409, kw2, by decide +kernel, by decide +kernel, by decide⟩
theorem kw407 : Cond.instanceMethod ⟨"RopeRound$Reader", "readAll", "()Z"⟩ ∈ tg := kt 407 (by decide +kernel) (by decide +kernel)
theorem kw406 : Cond.methodLink "RopeRound" 134 ⟨"RopeRound$Reader", "readAll", "()Z"⟩ ∈ tg := kt 406 (by decide +kernel) (by decide +kernel)
theorem kw408 : Cond.selects "RopeRound$Reader" ⟨"RopeRound$Reader", "readAll", "()Z"⟩ ⟨"RopeRound$Reader", "readAll", "()Z"⟩ ∈ tg := kt 408 (by decide +kernel) (by decide +kernel)
theorem vk62 : ∀ ci y, (fun k => if k = 4 then some 41 else none) ci = some y → (∃ C T N, ClsOk ci C T N ∧ VOk mT "RopeRound" 134 C y 0) ∨ (ci = 201 ∧ VOk mT "RopeRound" 134 "java/lang/String" y 0) := by
  intro ci y h
  dsimp only at h
  by_cases h4 : ci = 4
  · subst h4
    have h := (Option.some.inj (by simpa using h)).symm
    subst h
    exact Or.inl ⟨_, _, _, okC4, ⟨mo41, kw407, Or.inl ⟨rfl, kw406, kw408⟩⟩⟩
  rw [if_neg h4] at h
  cases h
theorem kw136 : Cond.fieldLink "RopeRound" 137 "RopeRound$Reader" "fault" "I" ∈ tg := kt 136 (by decide +kernel) (by decide +kernel)
theorem gf103 : gF "RopeRound" 137 2 (fun k => k = 4) (fun n => n = 0 ∨ n = 4) := by
  refine ⟨_, _, _, kw136, fun ci h => ?_⟩
  rcases h with rfl
  · exact ⟨_, _, _, okC4, by decide, rfl, rfl, Or.inl rfl, Or.inl rfl⟩
theorem gf103w : gF "RopeRound" 137 2 (fun k => k = 4) (fun n => n = 0) := by
  refine ⟨_, _, _, kw136, fun ci h => ?_⟩
  rcases h with rfl
  · exact ⟨_, _, _, okC4, by decide, rfl, rfl, Or.inl rfl, rfl⟩
theorem kw315 : Cond.fieldLink "RopeRound" 140 "RopeRound" "textFault" "I" ∈ tg := kt 315 (by decide +kernel) (by decide +kernel)
theorem gf104 : gF "RopeRound" 140 11 (fun k => k = 10) (fun n => n = 0 ∨ n = 4) := by
  refine ⟨_, _, _, kw315, fun ci h => ?_⟩
  rcases h with rfl
  · exact ⟨_, _, _, okC10, by decide, rfl, rfl, Or.inl rfl, Or.inl rfl⟩
theorem gf104w : gF "RopeRound" 140 11 (fun k => k = 10) (fun n => n = 0) := by
  refine ⟨_, _, _, kw315, fun ci h => ?_⟩
  rcases h with rfl
  · exact ⟨_, _, _, okC10, by decide, rfl, rfl, Or.inl rfl, rfl⟩
theorem kw561 : Cond.constant "RopeRound" 143 (-1000100) ∈ tg := kt 561 (by decide +kernel) (by decide +kernel)
theorem kw138 : Cond.fieldLink "RopeRound" 144 "RopeRound$Reader" "faultPlace" "I" ∈ tg := kt 138 (by decide +kernel) (by decide +kernel)
theorem gf105 : gF "RopeRound" 144 3 (fun k => k = 4) (fun n => n = 0 ∨ n = 4) := by
  refine ⟨_, _, _, kw138, fun ci h => ?_⟩
  rcases h with rfl
  · exact ⟨_, _, _, okC4, by decide, rfl, rfl, Or.inl rfl, Or.inl rfl⟩
theorem gf105w : gF "RopeRound" 144 3 (fun k => k = 4) (fun n => n = 0) := by
  refine ⟨_, _, _, kw138, fun ci h => ?_⟩
  rcases h with rfl
  · exact ⟨_, _, _, okC4, by decide, rfl, rfl, Or.inl rfl, rfl⟩
theorem gf106 : gF "RopeRound" 25 2 (fun k => k = 10) (fun n => n = 2) := by
  refine ⟨_, _, _, kw306, fun ci h => ?_⟩
  rcases h with rfl
  · exact ⟨_, _, _, okC10, by decide, rfl, rfl, Or.inl rfl, rfl⟩
theorem kw134 : Cond.fieldLink "RopeRound" 147 "RopeRound$Reader" "draft" "LRopeRound$Ground;" ∈ tg := kt 134 (by decide +kernel) (by decide +kernel)
theorem gf107 : gF "RopeRound" 147 1 (fun k => k = 4) (fun n => n = 2) := by
  refine ⟨_, _, _, kw134, fun ci h => ?_⟩
  rcases h with rfl
  · exact ⟨_, _, _, okC4, by decide, rfl, rfl, Or.inl rfl, rfl⟩
set_option maxRecDepth 100000 in
theorem kw565 : Cond.code ⟨"RopeRound$Ground", "become", "(LRopeRound$Ground;)V"⟩ prog_5_method_3_code 2 none ∈ tg := kt 565 rfl rfl
theorem mo24 : MOk (mT 24) 1 := ⟨kw565, kw4, by decide +kernel, by decide +kernel, by decide⟩
theorem kw563 : Cond.instanceMethod ⟨"RopeRound$Ground", "become", "(LRopeRound$Ground;)V"⟩ ∈ tg := kt 563 (by decide +kernel) (by decide +kernel)
theorem kw562 : Cond.methodLink "RopeRound" 150 ⟨"RopeRound$Ground", "become", "(LRopeRound$Ground;)V"⟩ ∈ tg := kt 562 (by decide +kernel) (by decide +kernel)
theorem kw564 : Cond.selects "RopeRound$Ground" ⟨"RopeRound$Ground", "become", "(LRopeRound$Ground;)V"⟩ ⟨"RopeRound$Ground", "become", "(LRopeRound$Ground;)V"⟩ ∈ tg := kt 564 (by decide +kernel) (by decide +kernel)
theorem vk63 : ∀ ci y, (fun k => if k = 3 then some 24 else none) ci = some y → (∃ C T N, ClsOk ci C T N ∧ VOk mT "RopeRound" 150 C y 1) ∨ (ci = 201 ∧ VOk mT "RopeRound" 150 "java/lang/String" y 1) := by
  intro ci y h
  dsimp only at h
  by_cases h3 : ci = 3
  · subst h3
    have h := (Option.some.inj (by simpa using h)).symm
    subst h
    exact Or.inl ⟨_, _, _, okC3, ⟨mo24, kw563, Or.inl ⟨rfl, kw562, kw564⟩⟩⟩
  rw [if_neg h3] at h
  cases h
theorem gf108 : gF "RopeRound" 43 5 (fun k => k = 10) (fun n => n = 2) := by
  refine ⟨_, _, _, kw309, fun ci h => ?_⟩
  rcases h with rfl
  · exact ⟨_, _, _, okC10, by decide, rfl, rfl, Or.inl rfl, rfl⟩
set_option maxRecDepth 100000 in
theorem kw570 : Cond.code ⟨"RopeRound$Best", "forget", "()V"⟩ prog_3_method_2_code 1 none ∈ tg := kt 570 rfl rfl
theorem mo13 : MOk (mT 13) 0 := ⟨kw570, kw7, by decide +kernel, by decide +kernel, by decide⟩
theorem kw568 : Cond.instanceMethod ⟨"RopeRound$Best", "forget", "()V"⟩ ∈ tg := kt 568 (by decide +kernel) (by decide +kernel)
theorem kw567 : Cond.methodLink "RopeRound" 154 ⟨"RopeRound$Best", "forget", "()V"⟩ ∈ tg := kt 567 (by decide +kernel) (by decide +kernel)
theorem kw569 : Cond.selects "RopeRound$Best" ⟨"RopeRound$Best", "forget", "()V"⟩ ⟨"RopeRound$Best", "forget", "()V"⟩ ∈ tg := kt 569 (by decide +kernel) (by decide +kernel)
theorem vk64 : ∀ ci y, (fun k => if k = 1 then some 13 else none) ci = some y → (∃ C T N, ClsOk ci C T N ∧ VOk mT "RopeRound" 154 C y 0) ∨ (ci = 201 ∧ VOk mT "RopeRound" 154 "java/lang/String" y 0) := by
  intro ci y h
  dsimp only at h
  by_cases h1 : ci = 1
  · subst h1
    have h := (Option.some.inj (by simpa using h)).symm
    subst h
    exact Or.inl ⟨_, _, _, okC1, ⟨mo13, kw568, Or.inl ⟨rfl, kw567, kw569⟩⟩⟩
  rw [if_neg h1] at h
  cases h
theorem kw77 : Cond.fieldLink "RopeRound" 157 "RopeRound$Ground" "men" "I" ∈ tg := kt 77 (by decide +kernel) (by decide +kernel)
theorem gf109 : gF "RopeRound" 157 2 (fun k => k = 3) (fun n => n = 0 ∨ n = 4) := by
  refine ⟨_, _, _, kw77, fun ci h => ?_⟩
  rcases h with rfl
  · exact ⟨_, _, _, okC3, by decide, rfl, rfl, Or.inl rfl, Or.inl rfl⟩
theorem gf109w : gF "RopeRound" 157 2 (fun k => k = 3) (fun n => n = 0) := by
  refine ⟨_, _, _, kw77, fun ci h => ?_⟩
  rcases h with rfl
  · exact ⟨_, _, _, okC3, by decide, rfl, rfl, Or.inl rfl, rfl⟩
theorem kw579 : Cond.methodLink "RopeRound" 160 ⟨"RopeRound$Ground", "hasCorner", "(I)Z"⟩ ∈ tg := kt 579 (by decide +kernel) (by decide +kernel)
theorem vk65 : ∀ ci y, (fun k => if k = 3 then some 28 else none) ci = some y → (∃ C T N, ClsOk ci C T N ∧ VOk mT "RopeRound" 160 C y 1) ∨ (ci = 201 ∧ VOk mT "RopeRound" 160 "java/lang/String" y 1) := by
  intro ci y h
  dsimp only at h
  by_cases h3 : ci = 3
  · subst h3
    have h := (Option.some.inj (by simpa using h)).symm
    subst h
    exact Or.inl ⟨_, _, _, okC3, ⟨mo28, kw541, Or.inl ⟨rfl, kw579, kw542⟩⟩⟩
  rw [if_neg h3] at h
  cases h
theorem kw580 : Cond.methodLink "RopeRound" 163 ⟨"RopeRound$Ground", "leads", "(II)Z"⟩ ∈ tg := kt 580 (by decide +kernel) (by decide +kernel)
theorem vk66 : ∀ ci y, (fun k => if k = 3 then some 33 else none) ci = some y → (∃ C T N, ClsOk ci C T N ∧ VOk mT "RopeRound" 163 C y 2) ∨ (ci = 201 ∧ VOk mT "RopeRound" 163 "java/lang/String" y 2) := by
  intro ci y h
  dsimp only at h
  by_cases h3 : ci = 3
  · subst h3
    have h := (Option.some.inj (by simpa using h)).symm
    subst h
    exact Or.inl ⟨_, _, _, okC3, ⟨mo33, kw581, Or.inl ⟨rfl, kw580, kw582⟩⟩⟩
  rw [if_neg h3] at h
  cases h
theorem kw584 : Cond.methodLink "RopeRound" 166 ⟨"RopeRound$Ground", "ropeTaken", "(II)I"⟩ ∈ tg := kt 584 (by decide +kernel) (by decide +kernel)
theorem vk67 : ∀ ci y, (fun k => if k = 3 then some 34 else none) ci = some y → (∃ C T N, ClsOk ci C T N ∧ VOk mT "RopeRound" 166 C y 2) ∨ (ci = 201 ∧ VOk mT "RopeRound" 166 "java/lang/String" y 2) := by
  intro ci y h
  dsimp only at h
  by_cases h3 : ci = 3
  · subst h3
    have h := (Option.some.inj (by simpa using h)).symm
    subst h
    exact Or.inl ⟨_, _, _, okC3, ⟨mo34, kw585, Or.inl ⟨rfl, kw584, kw586⟩⟩⟩
  rw [if_neg h3] at h
  cases h
theorem kw590 : Cond.constant "RopeRound" 169 (-1000000) ∈ tg := kt 590 (by decide +kernel) (by decide +kernel)
set_option maxRecDepth 100000 in
theorem kw598 : Cond.code ⟨"RopeRound", "canBeLaying", "(III)Z"⟩ prog_1_method_33_code 4 (some FieldType.boolean) ∈ tg := kt 598 rfl rfl
theorem mo113 : MOk (mT 113) 3 := ⟨kw598, kw1, by decide +kernel, by decide +kernel, by decide⟩
theorem kw597 : Cond.instanceMethod ⟨"RopeRound", "canBeLaying", "(III)Z"⟩ ∈ tg := kt 597 (by decide +kernel) (by decide +kernel)
theorem kw595 : Cond.methodLink "RopeRound" 170 ⟨"RopeRound", "canBeLaying", "(III)Z"⟩ ∈ tg := kt 595 (by decide +kernel) (by decide +kernel)
theorem vk68 : ∀ ci y, (fun k => if k = 10 then some 113 else none) ci = some y → (∃ C T N, ClsOk ci C T N ∧ VOk mT "RopeRound" 170 C y 3) ∨ (ci = 201 ∧ VOk mT "RopeRound" 170 "java/lang/String" y 3) := by
  intro ci y h
  dsimp only at h
  by_cases h10 : ci = 10
  · subst h10
    have h := (Option.some.inj (by simpa using h)).symm
    subst h
    exact Or.inl ⟨_, _, _, okC10, ⟨mo113, kw597, Or.inl ⟨rfl, kw595, (ks (q := (⟨"RopeRound", "canBeLaying", "(III)Z"⟩, 12)) (by decide +kernel))⟩⟩⟩
  rw [if_neg h10] at h
  cases h
set_option maxRecDepth 100000 in
theorem kw606 : Cond.code ⟨"RopeRound", "judged", "(ILRopeRound$Row;II)I"⟩ prog_1_method_34_code 7 (some FieldType.int) ∈ tg := kt 606 rfl rfl
theorem mo114 : MOk (mT 114) 4 := ⟨kw606, kw1, by decide +kernel, by decide +kernel, by decide⟩
theorem kw605 : Cond.instanceMethod ⟨"RopeRound", "judged", "(ILRopeRound$Row;II)I"⟩ ∈ tg := kt 605 (by decide +kernel) (by decide +kernel)
theorem kw603 : Cond.methodLink "RopeRound" 174 ⟨"RopeRound", "judged", "(ILRopeRound$Row;II)I"⟩ ∈ tg := kt 603 (by decide +kernel) (by decide +kernel)
theorem vk69 : ∀ ci y, (fun k => if k = 10 then some 114 else none) ci = some y → (∃ C T N, ClsOk ci C T N ∧ VOk mT "RopeRound" 174 C y 4) ∨ (ci = 201 ∧ VOk mT "RopeRound" 174 "java/lang/String" y 4) := by
  intro ci y h
  dsimp only at h
  by_cases h10 : ci = 10
  · subst h10
    have h := (Option.some.inj (by simpa using h)).symm
    subst h
    exact Or.inl ⟨_, _, _, okC10, ⟨mo114, kw605, Or.inl ⟨rfl, kw603, (ks (q := (⟨"RopeRound", "judged", "(ILRopeRound$Row;II)I"⟩, 12)) (by decide +kernel))⟩⟩⟩
  rw [if_neg h10] at h
  cases h
theorem kw642 : Cond.methodLink "RopeRound" 178 ⟨"RopeRound$Ground", "hasRing", "(I)Z"⟩ ∈ tg := kt 642 (by decide +kernel) (by decide +kernel)
theorem vk70 : ∀ ci y, (fun k => if k = 3 then some 27 else none) ci = some y → (∃ C T N, ClsOk ci C T N ∧ VOk mT "RopeRound" 178 C y 1) ∨ (ci = 201 ∧ VOk mT "RopeRound" 178 "java/lang/String" y 1) := by
  intro ci y h
  dsimp only at h
  by_cases h3 : ci = 3
  · subst h3
    have h := (Option.some.inj (by simpa using h)).symm
    subst h
    exact Or.inl ⟨_, _, _, okC3, ⟨mo27, kw643, Or.inl ⟨rfl, kw642, kw644⟩⟩⟩
  rw [if_neg h3] at h
  cases h
theorem kw646 : Cond.constant "RopeRound" 181 (-1000002) ∈ tg := kt 646 (by decide +kernel) (by decide +kernel)
theorem gf110 : gF "RopeRound" 36 4 (fun k => k = 10) (fun n => n = 2) := by
  refine ⟨_, _, _, kw308, fun ci h => ?_⟩
  rcases h with rfl
  · exact ⟨_, _, _, okC10, by decide, rfl, rfl, Or.inl rfl, rfl⟩
theorem kw158 : Cond.fieldLink "RopeRound" 182 "RopeRound$Trial" "cells" "J" ∈ tg := kt 158 (by decide +kernel) (by decide +kernel)
theorem gf111 : gF "RopeRound" 182 0 (fun k => k = 8) (fun n => n = 1) := by
  refine ⟨_, _, _, kw158, fun ci h => ?_⟩
  rcases h with rfl
  · exact ⟨_, _, _, okC8, by decide, rfl, rfl, Or.inl rfl, rfl⟩
set_option maxRecDepth 100000 in
theorem kw650 : Cond.code ⟨"RopeRound", "putRing", "(IJ)V"⟩ prog_1_method_35_code 4 none ∈ tg := kt 650 rfl rfl
theorem mo115 : MOk (mT 115) 2 := ⟨kw650, kw1, by decide +kernel, by decide +kernel, by decide⟩
theorem kw649 : Cond.instanceMethod ⟨"RopeRound", "putRing", "(IJ)V"⟩ ∈ tg := kt 649 (by decide +kernel) (by decide +kernel)
theorem kw647 : Cond.methodLink "RopeRound" 186 ⟨"RopeRound", "putRing", "(IJ)V"⟩ ∈ tg := kt 647 (by decide +kernel) (by decide +kernel)
theorem vk71 : ∀ ci y, (fun k => if k = 10 then some 115 else none) ci = some y → (∃ C T N, ClsOk ci C T N ∧ VOk mT "RopeRound" 186 C y 2) ∨ (ci = 201 ∧ VOk mT "RopeRound" 186 "java/lang/String" y 2) := by
  intro ci y h
  dsimp only at h
  by_cases h10 : ci = 10
  · subst h10
    have h := (Option.some.inj (by simpa using h)).symm
    subst h
    exact Or.inl ⟨_, _, _, okC10, ⟨mo115, kw649, Or.inl ⟨rfl, kw647, (ks (q := (⟨"RopeRound", "putRing", "(IJ)V"⟩, 12)) (by decide +kernel))⟩⟩⟩
  rw [if_neg h10] at h
  cases h
set_option maxRecDepth 100000 in
theorem kw602 : Cond.code ⟨"RopeRound$Ground", "hasMan", "(I)Z"⟩ prog_5_method_5_code 2 (some FieldType.boolean) ∈ tg := kt 602 rfl rfl
theorem mo26 : MOk (mT 26) 1 := ⟨kw602, kw4, by decide +kernel, by decide +kernel, by decide⟩
theorem kw600 : Cond.instanceMethod ⟨"RopeRound$Ground", "hasMan", "(I)Z"⟩ ∈ tg := kt 600 (by decide +kernel) (by decide +kernel)
theorem kw599 : Cond.methodLink "RopeRound" 190 ⟨"RopeRound$Ground", "hasMan", "(I)Z"⟩ ∈ tg := kt 599 (by decide +kernel) (by decide +kernel)
theorem kw601 : Cond.selects "RopeRound$Ground" ⟨"RopeRound$Ground", "hasMan", "(I)Z"⟩ ⟨"RopeRound$Ground", "hasMan", "(I)Z"⟩ ∈ tg := kt 601 (by decide +kernel) (by decide +kernel)
theorem vk72 : ∀ ci y, (fun k => if k = 3 then some 26 else none) ci = some y → (∃ C T N, ClsOk ci C T N ∧ VOk mT "RopeRound" 190 C y 1) ∨ (ci = 201 ∧ VOk mT "RopeRound" 190 "java/lang/String" y 1) := by
  intro ci y h
  dsimp only at h
  by_cases h3 : ci = 3
  · subst h3
    have h := (Option.some.inj (by simpa using h)).symm
    subst h
    exact Or.inl ⟨_, _, _, okC3, ⟨mo26, kw600, Or.inl ⟨rfl, kw599, kw601⟩⟩⟩
  rw [if_neg h3] at h
  cases h
theorem kw95 : Cond.fieldLink "RopeRound" 193 "RopeRound$Ground" "rings" "[J" ∈ tg := kt 95 (by decide +kernel) (by decide +kernel)
theorem gf112 : gF "RopeRound" 193 8 (fun k => k = 3) (fun n => n = 2) := by
  refine ⟨_, _, _, kw95, fun ci h => ?_⟩
  rcases h with rfl
  · exact ⟨_, _, _, okC3, by decide, rfl, rfl, Or.inl rfl, rfl⟩
theorem kw628 : Cond.methodLink "RopeRound" 197 ⟨"RopeRound$Ground", "worthOf", "(J)I"⟩ ∈ tg := kt 628 (by decide +kernel) (by decide +kernel)
theorem vk73 : ∀ ci y, (fun k => if k = 3 then some 36 else none) ci = some y → (∃ C T N, ClsOk ci C T N ∧ VOk mT "RopeRound" 197 C y 1) ∨ (ci = 201 ∧ VOk mT "RopeRound" 197 "java/lang/String" y 1) := by
  intro ci y h
  dsimp only at h
  by_cases h3 : ci = 3
  · subst h3
    have h := (Option.some.inj (by simpa using h)).symm
    subst h
    exact Or.inl ⟨_, _, _, okC3, ⟨mo36, kw629, Or.inl ⟨rfl, kw628, kw630⟩⟩⟩
  rw [if_neg h3] at h
  cases h
theorem kw88 : Cond.fieldLink "RopeRound" 201 "RopeRound$Ground" "pegs" "[I" ∈ tg := kt 88 (by decide +kernel) (by decide +kernel)
theorem gf113 : gF "RopeRound" 201 6 (fun k => k = 3) (fun n => n = 2) := by
  refine ⟨_, _, _, kw88, fun ci h => ?_⟩
  rcases h with rfl
  · exact ⟨_, _, _, okC3, by decide, rfl, rfl, Or.inl rfl, rfl⟩
theorem kw93 : Cond.fieldLink "RopeRound" 204 "RopeRound$Ground" "ropes" "[I" ∈ tg := kt 93 (by decide +kernel) (by decide +kernel)
theorem gf114 : gF "RopeRound" 204 7 (fun k => k = 3) (fun n => n = 2) := by
  refine ⟨_, _, _, kw93, fun ci h => ?_⟩
  rcases h with rfl
  · exact ⟨_, _, _, okC3, by decide, rfl, rfl, Or.inl rfl, rfl⟩
theorem kw660 : Cond.methodLink "RopeRound" 207 ⟨"java/lang/Long", "bitCount", "(J)I"⟩ ∈ tg := kt 660 (by decide +kernel) (by decide +kernel)
theorem kw665 : Cond.methodLink "RopeRound" 212 ⟨"RopeRound$Ground", "hasCell", "(I)Z"⟩ ∈ tg := kt 665 (by decide +kernel) (by decide +kernel)
theorem vk74 : ∀ ci y, (fun k => if k = 3 then some 29 else none) ci = some y → (∃ C T N, ClsOk ci C T N ∧ VOk mT "RopeRound" 212 C y 1) ∨ (ci = 201 ∧ VOk mT "RopeRound" 212 "java/lang/String" y 1) := by
  intro ci y h
  dsimp only at h
  by_cases h3 : ci = 3
  · subst h3
    have h := (Option.some.inj (by simpa using h)).symm
    subst h
    exact Or.inl ⟨_, _, _, okC3, ⟨mo29, kw666, Or.inl ⟨rfl, kw665, kw667⟩⟩⟩
  rw [if_neg h3] at h
  cases h
theorem kw669 : Cond.methodLink "RopeRound" 215 ⟨"RopeRound", "bitOfCell", "(I)I"⟩ ∈ tg := kt 669 (by decide +kernel) (by decide +kernel)
theorem kw672 : Cond.methodLink "RopeRound" 218 ⟨"RopeRound$Ground", "ringMan", "(I)I"⟩ ∈ tg := kt 672 (by decide +kernel) (by decide +kernel)
theorem vk75 : ∀ ci y, (fun k => if k = 3 then some 37 else none) ci = some y → (∃ C T N, ClsOk ci C T N ∧ VOk mT "RopeRound" 218 C y 1) ∨ (ci = 201 ∧ VOk mT "RopeRound" 218 "java/lang/String" y 1) := by
  intro ci y h
  dsimp only at h
  by_cases h3 : ci = 3
  · subst h3
    have h := (Option.some.inj (by simpa using h)).symm
    subst h
    exact Or.inl ⟨_, _, _, okC3, ⟨mo37, kw673, Or.inl ⟨rfl, kw672, kw674⟩⟩⟩
  rw [if_neg h3] at h
  cases h
theorem kw82 : Cond.fieldLink "RopeRound" 221 "RopeRound$Ground" "stones" "J" ∈ tg := kt 82 (by decide +kernel) (by decide +kernel)
theorem gf115 : gF "RopeRound" 221 4 (fun k => k = 3) (fun n => n = 1) := by
  refine ⟨_, _, _, kw82, fun ci h => ?_⟩
  rcases h with rfl
  · exact ⟨_, _, _, okC3, by decide, rfl, rfl, Or.inl rfl, rfl⟩
theorem kw681 : Cond.methodLink "RopeRound" 224 ⟨"RopeRound", "has", "(JI)Z"⟩ ∈ tg := kt 681 (by decide +kernel) (by decide +kernel)
set_option maxRecDepth 100000 in
theorem kw685 : Cond.code ⟨"RopeRound$Best", "learn", "(LRopeRound$Ground;I)V"⟩ prog_3_method_3_code 4 none ∈ tg := kt 685 rfl rfl
theorem mo14 : MOk (mT 14) 2 := ⟨kw685, kw7, by decide +kernel, by decide +kernel, by decide⟩
theorem kw683 : Cond.instanceMethod ⟨"RopeRound$Best", "learn", "(LRopeRound$Ground;I)V"⟩ ∈ tg := kt 683 (by decide +kernel) (by decide +kernel)
theorem kw682 : Cond.methodLink "RopeRound" 228 ⟨"RopeRound$Best", "learn", "(LRopeRound$Ground;I)V"⟩ ∈ tg := kt 682 (by decide +kernel) (by decide +kernel)
theorem kw684 : Cond.selects "RopeRound$Best" ⟨"RopeRound$Best", "learn", "(LRopeRound$Ground;I)V"⟩ ⟨"RopeRound$Best", "learn", "(LRopeRound$Ground;I)V"⟩ ∈ tg := kt 684 (by decide +kernel) (by decide +kernel)
theorem vk76 : ∀ ci y, (fun k => if k = 1 then some 14 else none) ci = some y → (∃ C T N, ClsOk ci C T N ∧ VOk mT "RopeRound" 228 C y 2) ∨ (ci = 201 ∧ VOk mT "RopeRound" 228 "java/lang/String" y 2) := by
  intro ci y h
  dsimp only at h
  by_cases h1 : ci = 1
  · subst h1
    have h := (Option.some.inj (by simpa using h)).symm
    subst h
    exact Or.inl ⟨_, _, _, okC1, ⟨mo14, kw683, Or.inl ⟨rfl, kw682, kw684⟩⟩⟩
  rw [if_neg h1] at h
  cases h
theorem kw734 : Cond.methodLink "RopeRound" 232 ⟨"RopeRound$Best", "placeOf", "(II)I"⟩ ∈ tg := kt 734 (by decide +kernel) (by decide +kernel)
theorem vk77 : ∀ ci y, (fun k => if k = 1 then some 15 else none) ci = some y → (∃ C T N, ClsOk ci C T N ∧ VOk mT "RopeRound" 232 C y 2) ∨ (ci = 201 ∧ VOk mT "RopeRound" 232 "java/lang/String" y 2) := by
  intro ci y h
  dsimp only at h
  by_cases h1 : ci = 1
  · subst h1
    have h := (Option.some.inj (by simpa using h)).symm
    subst h
    exact Or.inl ⟨_, _, _, okC1, ⟨mo15, kw735, Or.inl ⟨rfl, kw734, kw736⟩⟩⟩
  rw [if_neg h1] at h
  cases h
theorem kw182 : Cond.fieldLink "RopeRound" 235 "RopeRound$Best" "steps" "[I" ∈ tg := kt 182 (by decide +kernel) (by decide +kernel)
theorem gf116 : gF "RopeRound" 235 4 (fun k => k = 1) (fun n => n = 2) := by
  refine ⟨_, _, _, kw182, fun ci h => ?_⟩
  rcases h with rfl
  · exact ⟨_, _, _, okC1, by decide, rfl, rfl, Or.inl rfl, rfl⟩
theorem kw180 : Cond.fieldLink "RopeRound" 238 "RopeRound$Best" "worths" "[I" ∈ tg := kt 180 (by decide +kernel) (by decide +kernel)
theorem gf117 : gF "RopeRound" 238 3 (fun k => k = 1) (fun n => n = 2) := by
  refine ⟨_, _, _, kw180, fun ci h => ?_⟩
  rcases h with rfl
  · exact ⟨_, _, _, okC1, by decide, rfl, rfl, Or.inl rfl, rfl⟩
theorem kw184 : Cond.fieldLink "RopeRound" 241 "RopeRound$Best" "ways" "[J" ∈ tg := kt 184 (by decide +kernel) (by decide +kernel)
theorem gf118 : gF "RopeRound" 241 5 (fun k => k = 1) (fun n => n = 2) := by
  refine ⟨_, _, _, kw184, fun ci h => ?_⟩
  rcases h with rfl
  · exact ⟨_, _, _, okC1, by decide, rfl, rfl, Or.inl rfl, rfl⟩
theorem kw738 : Cond.methodLink "RopeRound" 244 ⟨"RopeRound", "wayAt", "(JI)I"⟩ ∈ tg := kt 738 (by decide +kernel) (by decide +kernel)
set_option maxRecDepth 100000 in
theorem kw746 : Cond.code ⟨"RopeRound", "leaderOf", "(I)I"⟩ prog_1_method_36_code 4 (some FieldType.int) ∈ tg := kt 746 rfl rfl
theorem mo116 : MOk (mT 116) 1 := ⟨kw746, kw1, by decide +kernel, by decide +kernel, by decide⟩
theorem kw745 : Cond.instanceMethod ⟨"RopeRound", "leaderOf", "(I)I"⟩ ∈ tg := kt 745 (by decide +kernel) (by decide +kernel)
theorem kw743 : Cond.methodLink "RopeRound" 248 ⟨"RopeRound", "leaderOf", "(I)I"⟩ ∈ tg := kt 743 (by decide +kernel) (by decide +kernel)
theorem vk78 : ∀ ci y, (fun k => if k = 10 then some 116 else none) ci = some y → (∃ C T N, ClsOk ci C T N ∧ VOk mT "RopeRound" 248 C y 1) ∨ (ci = 201 ∧ VOk mT "RopeRound" 248 "java/lang/String" y 1) := by
  intro ci y h
  dsimp only at h
  by_cases h10 : ci = 10
  · subst h10
    have h := (Option.some.inj (by simpa using h)).symm
    subst h
    exact Or.inl ⟨_, _, _, okC10, ⟨mo116, kw745, Or.inl ⟨rfl, kw743, (ks (q := (⟨"RopeRound", "leaderOf", "(I)I"⟩, 12)) (by decide +kernel))⟩⟩⟩
  rw [if_neg h10] at h
  cases h
set_option maxRecDepth 100000 in
theorem kw750 : Cond.code ⟨"RopeRound", "tiedWorth", "(I)I"⟩ prog_1_method_38_code 2 (some FieldType.int) ∈ tg := kt 750 rfl rfl
theorem mo118 : MOk (mT 118) 1 := ⟨kw750, kw1, by decide +kernel, by decide +kernel, by decide⟩
theorem kw749 : Cond.instanceMethod ⟨"RopeRound", "tiedWorth", "(I)I"⟩ ∈ tg := kt 749 (by decide +kernel) (by decide +kernel)
theorem kw747 : Cond.methodLink "RopeRound" 251 ⟨"RopeRound", "tiedWorth", "(I)I"⟩ ∈ tg := kt 747 (by decide +kernel) (by decide +kernel)
theorem vk79 : ∀ ci y, (fun k => if k = 10 then some 118 else none) ci = some y → (∃ C T N, ClsOk ci C T N ∧ VOk mT "RopeRound" 251 C y 1) ∨ (ci = 201 ∧ VOk mT "RopeRound" 251 "java/lang/String" y 1) := by
  intro ci y h
  dsimp only at h
  by_cases h10 : ci = 10
  · subst h10
    have h := (Option.some.inj (by simpa using h)).symm
    subst h
    exact Or.inl ⟨_, _, _, okC10, ⟨mo118, kw749, Or.inl ⟨rfl, kw747, (ks (q := (⟨"RopeRound", "tiedWorth", "(I)I"⟩, 12)) (by decide +kernel))⟩⟩⟩
  rw [if_neg h10] at h
  cases h
set_option maxRecDepth 100000 in
theorem kw770 : Cond.code ⟨"RopeRound", "shareOf", "(I)I"⟩ prog_1_method_39_code 8 (some FieldType.int) ∈ tg := kt 770 rfl rfl
theorem mo119 : MOk (mT 119) 1 := ⟨kw770, kw1, by decide +kernel, by decide +kernel, by decide⟩
theorem kw769 : Cond.instanceMethod ⟨"RopeRound", "shareOf", "(I)I"⟩ ∈ tg := kt 769 (by decide +kernel) (by decide +kernel)
theorem kw767 : Cond.methodLink "RopeRound" 254 ⟨"RopeRound", "shareOf", "(I)I"⟩ ∈ tg := kt 767 (by decide +kernel) (by decide +kernel)
theorem vk80 : ∀ ci y, (fun k => if k = 10 then some 119 else none) ci = some y → (∃ C T N, ClsOk ci C T N ∧ VOk mT "RopeRound" 254 C y 1) ∨ (ci = 201 ∧ VOk mT "RopeRound" 254 "java/lang/String" y 1) := by
  intro ci y h
  dsimp only at h
  by_cases h10 : ci = 10
  · subst h10
    have h := (Option.some.inj (by simpa using h)).symm
    subst h
    exact Or.inl ⟨_, _, _, okC10, ⟨mo119, kw769, Or.inl ⟨rfl, kw767, (ks (q := (⟨"RopeRound", "shareOf", "(I)I"⟩, 12)) (by decide +kernel))⟩⟩⟩
  rw [if_neg h10] at h
  cases h
theorem gf119 : gF "RopeRound" 50 6 (fun k => k = 10) (fun n => n = 2) := by
  refine ⟨_, _, _, kw310, fun ci h => ?_⟩
  rcases h with rfl
  · exact ⟨_, _, _, okC10, by decide, rfl, rfl, Or.inl rfl, rfl⟩
set_option maxRecDepth 100000 in
theorem kw789 : Cond.code ⟨"RopeRound$RingList", "fill", "(LRopeRound$Ground;I)V"⟩ prog_7_method_2_code 3 none ∈ tg := kt 789 rfl rfl
theorem mo54 : MOk (mT 54) 2 := ⟨kw789, kw8, by decide +kernel, by decide +kernel, by decide⟩
theorem kw787 : Cond.instanceMethod ⟨"RopeRound$RingList", "fill", "(LRopeRound$Ground;I)V"⟩ ∈ tg := kt 787 (by decide +kernel) (by decide +kernel)
theorem kw786 : Cond.methodLink "RopeRound" 257 ⟨"RopeRound$RingList", "fill", "(LRopeRound$Ground;I)V"⟩ ∈ tg := kt 786 (by decide +kernel) (by decide +kernel)
theorem kw788 : Cond.selects "RopeRound$RingList" ⟨"RopeRound$RingList", "fill", "(LRopeRound$Ground;I)V"⟩ ⟨"RopeRound$RingList", "fill", "(LRopeRound$Ground;I)V"⟩ ∈ tg := kt 788 (by decide +kernel) (by decide +kernel)
theorem vk81 : ∀ ci y, (fun k => if k = 5 then some 54 else none) ci = some y → (∃ C T N, ClsOk ci C T N ∧ VOk mT "RopeRound" 257 C y 2) ∨ (ci = 201 ∧ VOk mT "RopeRound" 257 "java/lang/String" y 2) := by
  intro ci y h
  dsimp only at h
  by_cases h5 : ci = 5
  · subst h5
    have h := (Option.some.inj (by simpa using h)).symm
    subst h
    exact Or.inl ⟨_, _, _, okC5, ⟨mo54, kw787, Or.inl ⟨rfl, kw786, kw788⟩⟩⟩
  rw [if_neg h5] at h
  cases h
theorem gf120 : gF "RopeRound" 54 7 (fun k => k = 10) (fun n => n = 2) := by
  refine ⟨_, _, _, kw311, fun ci h => ?_⟩
  rcases h with rfl
  · exact ⟨_, _, _, okC10, by decide, rfl, rfl, Or.inl rfl, rfl⟩
theorem kw224 : Cond.fieldLink "RopeRound" 260 "RopeRound$RingList" "size" "I" ∈ tg := kt 224 (by decide +kernel) (by decide +kernel)
theorem gf121 : gF "RopeRound" 260 5 (fun k => k = 5) (fun n => n = 0 ∨ n = 4) := by
  refine ⟨_, _, _, kw224, fun ci h => ?_⟩
  rcases h with rfl
  · exact ⟨_, _, _, okC5, by decide, rfl, rfl, Or.inl rfl, Or.inl rfl⟩
theorem gf121w : gF "RopeRound" 260 5 (fun k => k = 5) (fun n => n = 0) := by
  refine ⟨_, _, _, kw224, fun ci h => ?_⟩
  rcases h with rfl
  · exact ⟨_, _, _, okC5, by decide, rfl, rfl, Or.inl rfl, rfl⟩
theorem kw220 : Cond.fieldLink "RopeRound" 261 "RopeRound$RingList" "rings" "[J" ∈ tg := kt 220 (by decide +kernel) (by decide +kernel)
theorem gf122 : gF "RopeRound" 261 3 (fun k => k = 5) (fun n => n = 2) := by
  refine ⟨_, _, _, kw220, fun ci h => ?_⟩
  rcases h with rfl
  · exact ⟨_, _, _, okC5, by decide, rfl, rfl, Or.inl rfl, rfl⟩
theorem kw793 : Cond.methodLink "RopeRound" 262 ⟨"RopeRound$Ground", "ropeAround", "(JJ)I"⟩ ∈ tg := kt 793 (by decide +kernel) (by decide +kernel)
theorem vk82 : ∀ ci y, (fun k => if k = 3 then some 35 else none) ci = some y → (∃ C T N, ClsOk ci C T N ∧ VOk mT "RopeRound" 262 C y 2) ∨ (ci = 201 ∧ VOk mT "RopeRound" 262 "java/lang/String" y 2) := by
  intro ci y h
  dsimp only at h
  by_cases h3 : ci = 3
  · subst h3
    have h := (Option.some.inj (by simpa using h)).symm
    subst h
    exact Or.inl ⟨_, _, _, okC3, ⟨mo35, kw709, Or.inl ⟨rfl, kw793, kw710⟩⟩⟩
  rw [if_neg h3] at h
  cases h
set_option maxRecDepth 100000 in
theorem kw797 : Cond.code ⟨"RopeRound$RingList", "mostBeside", "(LRopeRound$Ground;JI)I"⟩ prog_7_method_4_code 8 (some FieldType.int) ∈ tg := kt 797 rfl rfl
theorem mo56 : MOk (mT 56) 3 := ⟨kw797, kw8, by decide +kernel, by decide +kernel, by decide⟩
theorem kw795 : Cond.instanceMethod ⟨"RopeRound$RingList", "mostBeside", "(LRopeRound$Ground;JI)I"⟩ ∈ tg := kt 795 (by decide +kernel) (by decide +kernel)
theorem kw794 : Cond.methodLink "RopeRound" 266 ⟨"RopeRound$RingList", "mostBeside", "(LRopeRound$Ground;JI)I"⟩ ∈ tg := kt 794 (by decide +kernel) (by decide +kernel)
theorem kw796 : Cond.selects "RopeRound$RingList" ⟨"RopeRound$RingList", "mostBeside", "(LRopeRound$Ground;JI)I"⟩ ⟨"RopeRound$RingList", "mostBeside", "(LRopeRound$Ground;JI)I"⟩ ∈ tg := kt 796 (by decide +kernel) (by decide +kernel)
theorem vk83 : ∀ ci y, (fun k => if k = 5 then some 56 else none) ci = some y → (∃ C T N, ClsOk ci C T N ∧ VOk mT "RopeRound" 266 C y 3) ∨ (ci = 201 ∧ VOk mT "RopeRound" 266 "java/lang/String" y 3) := by
  intro ci y h
  dsimp only at h
  by_cases h5 : ci = 5
  · subst h5
    have h := (Option.some.inj (by simpa using h)).symm
    subst h
    exact Or.inl ⟨_, _, _, okC5, ⟨mo56, kw795, Or.inl ⟨rfl, kw794, kw796⟩⟩⟩
  rw [if_neg h5] at h
  cases h
theorem kw222 : Cond.fieldLink "RopeRound" 270 "RopeRound$RingList" "worths" "[I" ∈ tg := kt 222 (by decide +kernel) (by decide +kernel)
theorem gf123 : gF "RopeRound" 270 4 (fun k => k = 5) (fun n => n = 2) := by
  refine ⟨_, _, _, kw222, fun ci h => ?_⟩
  rcases h with rfl
  · exact ⟨_, _, _, okC5, by decide, rfl, rfl, Or.inl rfl, rfl⟩
set_option maxRecDepth 100000 in
theorem kw761 : Cond.code ⟨"RopeRound$Best", "worthOrNothing", "(II)I"⟩ prog_3_method_5_code 4 (some FieldType.int) ∈ tg := kt 761 rfl rfl
theorem mo16 : MOk (mT 16) 2 := ⟨kw761, kw7, by decide +kernel, by decide +kernel, by decide⟩
theorem kw759 : Cond.instanceMethod ⟨"RopeRound$Best", "worthOrNothing", "(II)I"⟩ ∈ tg := kt 759 (by decide +kernel) (by decide +kernel)
theorem kw758 : Cond.methodLink "RopeRound" 271 ⟨"RopeRound$Best", "worthOrNothing", "(II)I"⟩ ∈ tg := kt 758 (by decide +kernel) (by decide +kernel)
theorem kw760 : Cond.selects "RopeRound$Best" ⟨"RopeRound$Best", "worthOrNothing", "(II)I"⟩ ⟨"RopeRound$Best", "worthOrNothing", "(II)I"⟩ ∈ tg := kt 760 (by decide +kernel) (by decide +kernel)
theorem vk84 : ∀ ci y, (fun k => if k = 1 then some 16 else none) ci = some y → (∃ C T N, ClsOk ci C T N ∧ VOk mT "RopeRound" 271 C y 2) ∨ (ci = 201 ∧ VOk mT "RopeRound" 271 "java/lang/String" y 2) := by
  intro ci y h
  dsimp only at h
  by_cases h1 : ci = 1
  · subst h1
    have h := (Option.some.inj (by simpa using h)).symm
    subst h
    exact Or.inl ⟨_, _, _, okC1, ⟨mo16, kw759, Or.inl ⟨rfl, kw758, kw760⟩⟩⟩
  rw [if_neg h1] at h
  cases h
theorem gf124 : gF "RopeRound" 60 8 (fun k => k = 10) (fun n => n = 2) := by
  refine ⟨_, _, _, kw312, fun ci h => ?_⟩
  rcases h with rfl
  · exact ⟨_, _, _, okC10, by decide, rfl, rfl, Or.inl rfl, rfl⟩
set_option maxRecDepth 100000 in
theorem kw810 : Cond.code ⟨"RopeRound$Finder", "takeTold", "(LRopeRound$Ground;LRopeRound$Row;II)Z"⟩ prog_4_method_2_code 7 (some FieldType.boolean) ∈ tg := kt 810 rfl rfl
theorem mo19 : MOk (mT 19) 4 := ⟨kw810, kw9, by decide +kernel, by decide +kernel, by decide⟩
theorem kw808 : Cond.instanceMethod ⟨"RopeRound$Finder", "takeTold", "(LRopeRound$Ground;LRopeRound$Row;II)Z"⟩ ∈ tg := kt 808 (by decide +kernel) (by decide +kernel)
theorem kw807 : Cond.methodLink "RopeRound" 274 ⟨"RopeRound$Finder", "takeTold", "(LRopeRound$Ground;LRopeRound$Row;II)Z"⟩ ∈ tg := kt 807 (by decide +kernel) (by decide +kernel)
theorem kw809 : Cond.selects "RopeRound$Finder" ⟨"RopeRound$Finder", "takeTold", "(LRopeRound$Ground;LRopeRound$Row;II)Z"⟩ ⟨"RopeRound$Finder", "takeTold", "(LRopeRound$Ground;LRopeRound$Row;II)Z"⟩ ∈ tg := kt 809 (by decide +kernel) (by decide +kernel)
theorem vk85 : ∀ ci y, (fun k => if k = 2 then some 19 else none) ci = some y → (∃ C T N, ClsOk ci C T N ∧ VOk mT "RopeRound" 274 C y 4) ∨ (ci = 201 ∧ VOk mT "RopeRound" 274 "java/lang/String" y 4) := by
  intro ci y h
  dsimp only at h
  by_cases h2 : ci = 2
  · subst h2
    have h := (Option.some.inj (by simpa using h)).symm
    subst h
    exact Or.inl ⟨_, _, _, okC2, ⟨mo19, kw808, Or.inl ⟨rfl, kw807, kw809⟩⟩⟩
  rw [if_neg h2] at h
  cases h
set_option maxRecDepth 100000 in
theorem kw817 : Cond.code ⟨"RopeRound$Finder", "countFor", "(LRopeRound$Ground;I)I"⟩ prog_4_method_3_code 3 (some FieldType.int) ∈ tg := kt 817 rfl rfl
theorem mo20 : MOk (mT 20) 2 := ⟨kw817, kw9, by decide +kernel, by decide +kernel, by decide⟩
theorem kw815 : Cond.instanceMethod ⟨"RopeRound$Finder", "countFor", "(LRopeRound$Ground;I)I"⟩ ∈ tg := kt 815 (by decide +kernel) (by decide +kernel)
theorem kw814 : Cond.methodLink "RopeRound" 278 ⟨"RopeRound$Finder", "countFor", "(LRopeRound$Ground;I)I"⟩ ∈ tg := kt 814 (by decide +kernel) (by decide +kernel)
theorem kw816 : Cond.selects "RopeRound$Finder" ⟨"RopeRound$Finder", "countFor", "(LRopeRound$Ground;I)I"⟩ ⟨"RopeRound$Finder", "countFor", "(LRopeRound$Ground;I)I"⟩ ∈ tg := kt 816 (by decide +kernel) (by decide +kernel)
theorem vk86 : ∀ ci y, (fun k => if k = 2 then some 20 else none) ci = some y → (∃ C T N, ClsOk ci C T N ∧ VOk mT "RopeRound" 278 C y 2) ∨ (ci = 201 ∧ VOk mT "RopeRound" 278 "java/lang/String" y 2) := by
  intro ci y h
  dsimp only at h
  by_cases h2 : ci = 2
  · subst h2
    have h := (Option.some.inj (by simpa using h)).symm
    subst h
    exact Or.inl ⟨_, _, _, okC2, ⟨mo20, kw815, Or.inl ⟨rfl, kw814, kw816⟩⟩⟩
  rw [if_neg h2] at h
  cases h
theorem kw825 : Cond.methodLink "RopeRound" 282 ⟨"RopeRound$Ground", "isThere", "()Z"⟩ ∈ tg := kt 825 (by decide +kernel) (by decide +kernel)
theorem vk87 : ∀ ci y, (fun k => if k = 3 then some 25 else none) ci = some y → (∃ C T N, ClsOk ci C T N ∧ VOk mT "RopeRound" 282 C y 0) ∨ (ci = 201 ∧ VOk mT "RopeRound" 282 "java/lang/String" y 0) := by
  intro ci y h
  dsimp only at h
  by_cases h3 : ci = 3
  · subst h3
    have h := (Option.some.inj (by simpa using h)).symm
    subst h
    exact Or.inl ⟨_, _, _, okC3, ⟨mo25, kw545, Or.inl ⟨rfl, kw825, kw546⟩⟩⟩
  rw [if_neg h3] at h
  cases h
theorem kw834 : Cond.methodLink "RopeRound" 285 ⟨"RopeRound$Ground", "kindOf", "(I)I"⟩ ∈ tg := kt 834 (by decide +kernel) (by decide +kernel)
theorem vk88 : ∀ ci y, (fun k => if k = 3 then some 39 else none) ci = some y → (∃ C T N, ClsOk ci C T N ∧ VOk mT "RopeRound" 285 C y 1) ∨ (ci = 201 ∧ VOk mT "RopeRound" 285 "java/lang/String" y 1) := by
  intro ci y h
  dsimp only at h
  by_cases h3 : ci = 3
  · subst h3
    have h := (Option.some.inj (by simpa using h)).symm
    subst h
    exact Or.inl ⟨_, _, _, okC3, ⟨mo39, kw835, Or.inl ⟨rfl, kw834, kw836⟩⟩⟩
  rw [if_neg h3] at h
  cases h
theorem kw843 : Cond.methodLink "RopeRound" 288 ⟨"RopeRound", "isAlso", "(II)Z"⟩ ∈ tg := kt 843 (by decide +kernel) (by decide +kernel)
theorem kw844 : Cond.static ⟨"RopeRound", "isAlso", "(II)Z"⟩ ∈ tg := kt 844 (by decide +kernel) (by decide +kernel)
set_option maxRecDepth 100000 in
theorem kw845 : Cond.code ⟨"RopeRound", "isAlso", "(II)Z"⟩ prog_1_method_48_code 4 (some FieldType.boolean) ∈ tg := kt 845 rfl rfl
theorem mo128 : MOk (mT 128) 2 := ⟨kw845, kw1, by decide +kernel, by decide +kernel, by decide⟩
theorem gf125 : gF "RopeRound" 67 9 (fun k => k = 10) (fun n => n = 2) := by
  refine ⟨_, _, _, kw313, fun ci h => ?_⟩
  rcases h with rfl
  · exact ⟨_, _, _, okC10, by decide, rfl, rfl, Or.inl rfl, rfl⟩
set_option maxRecDepth 100000 in
theorem kw856 : Cond.code ⟨"RopeRound$Asker", "begin", "(LRopeRound$Ground;I)V"⟩ prog_2_method_2_code 4 none ∈ tg := kt 856 rfl rfl
theorem mo1 : MOk (mT 1) 2 := ⟨kw856, kw10, by decide +kernel, by decide +kernel, by decide⟩
theorem kw854 : Cond.instanceMethod ⟨"RopeRound$Asker", "begin", "(LRopeRound$Ground;I)V"⟩ ∈ tg := kt 854 (by decide +kernel) (by decide +kernel)
theorem kw853 : Cond.methodLink "RopeRound" 291 ⟨"RopeRound$Asker", "begin", "(LRopeRound$Ground;I)V"⟩ ∈ tg := kt 853 (by decide +kernel) (by decide +kernel)
theorem kw855 : Cond.selects "RopeRound$Asker" ⟨"RopeRound$Asker", "begin", "(LRopeRound$Ground;I)V"⟩ ⟨"RopeRound$Asker", "begin", "(LRopeRound$Ground;I)V"⟩ ∈ tg := kt 855 (by decide +kernel) (by decide +kernel)
theorem vk89 : ∀ ci y, (fun k => if k = 0 then some 1 else none) ci = some y → (∃ C T N, ClsOk ci C T N ∧ VOk mT "RopeRound" 291 C y 2) ∨ (ci = 201 ∧ VOk mT "RopeRound" 291 "java/lang/String" y 2) := by
  intro ci y h
  dsimp only at h
  by_cases h0 : ci = 0
  · subst h0
    have h := (Option.some.inj (by simpa using h)).symm
    subst h
    exact Or.inl ⟨_, _, _, okC0, ⟨mo1, kw854, Or.inl ⟨rfl, kw853, kw855⟩⟩⟩
  rw [if_neg h0] at h
  cases h
set_option maxRecDepth 100000 in
theorem kw864 : Cond.code ⟨"RopeRound$Asker", "sizeAsked", "()I"⟩ prog_2_method_4_code 1 (some FieldType.int) ∈ tg := kt 864 rfl rfl
theorem mo3 : MOk (mT 3) 0 := ⟨kw864, kw10, by decide +kernel, by decide +kernel, by decide⟩
theorem kw862 : Cond.instanceMethod ⟨"RopeRound$Asker", "sizeAsked", "()I"⟩ ∈ tg := kt 862 (by decide +kernel) (by decide +kernel)
theorem kw861 : Cond.methodLink "RopeRound" 293 ⟨"RopeRound$Asker", "sizeAsked", "()I"⟩ ∈ tg := kt 861 (by decide +kernel) (by decide +kernel)
theorem kw863 : Cond.selects "RopeRound$Asker" ⟨"RopeRound$Asker", "sizeAsked", "()I"⟩ ⟨"RopeRound$Asker", "sizeAsked", "()I"⟩ ∈ tg := kt 863 (by decide +kernel) (by decide +kernel)
theorem vk90 : ∀ ci y, (fun k => if k = 0 then some 3 else none) ci = some y → (∃ C T N, ClsOk ci C T N ∧ VOk mT "RopeRound" 293 C y 0) ∨ (ci = 201 ∧ VOk mT "RopeRound" 293 "java/lang/String" y 0) := by
  intro ci y h
  dsimp only at h
  by_cases h0 : ci = 0
  · subst h0
    have h := (Option.some.inj (by simpa using h)).symm
    subst h
    exact Or.inl ⟨_, _, _, okC0, ⟨mo3, kw862, Or.inl ⟨rfl, kw861, kw863⟩⟩⟩
  rw [if_neg h0] at h
  cases h
theorem kw889 : Cond.methodLink "RopeRound" 297 ⟨"RopeRound$Asker", "markAsked", "()I"⟩ ∈ tg := kt 889 (by decide +kernel) (by decide +kernel)
theorem vk91 : ∀ ci y, (fun k => if k = 0 then some 9 else none) ci = some y → (∃ C T N, ClsOk ci C T N ∧ VOk mT "RopeRound" 297 C y 0) ∨ (ci = 201 ∧ VOk mT "RopeRound" 297 "java/lang/String" y 0) := by
  intro ci y h
  dsimp only at h
  by_cases h0 : ci = 0
  · subst h0
    have h := (Option.some.inj (by simpa using h)).symm
    subst h
    exact Or.inl ⟨_, _, _, okC0, ⟨mo9, kw882, Or.inl ⟨rfl, kw889, kw883⟩⟩⟩
  rw [if_neg h0] at h
  cases h
theorem kw266 : Cond.fieldLink "RopeRound" 300 "RopeRound$Asker" "noted" "I" ∈ tg := kt 266 (by decide +kernel) (by decide +kernel)
theorem gf126 : gF "RopeRound" 300 1 (fun k => k = 0) (fun n => n = 0 ∨ n = 4) := by
  refine ⟨_, _, _, kw266, fun ci h => ?_⟩
  rcases h with rfl
  · exact ⟨_, _, _, okC0, by decide, rfl, rfl, Or.inl rfl, Or.inl rfl⟩
theorem gf126w : gF "RopeRound" 300 1 (fun k => k = 0) (fun n => n = 0) := by
  refine ⟨_, _, _, kw266, fun ci h => ?_⟩
  rcases h with rfl
  · exact ⟨_, _, _, okC0, by decide, rfl, rfl, Or.inl rfl, rfl⟩
theorem kw264 : Cond.fieldLink "RopeRound" 303 "RopeRound$Asker" "notes" "[I" ∈ tg := kt 264 (by decide +kernel) (by decide +kernel)
theorem gf127 : gF "RopeRound" 303 0 (fun k => k = 0) (fun n => n = 2) := by
  refine ⟨_, _, _, kw264, fun ci h => ?_⟩
  rcases h with rfl
  · exact ⟨_, _, _, okC0, by decide, rfl, rfl, Or.inl rfl, rfl⟩
set_option maxRecDepth 100000 in
theorem kw901 : Cond.code ⟨"RopeRound", "rowsThere", "()I"⟩ prog_1_method_30_code 3 (some FieldType.int) ∈ tg := kt 901 rfl rfl
theorem mo110 : MOk (mT 110) 0 := ⟨kw901, kw1, by decide +kernel, by decide +kernel, by decide⟩
theorem kw900 : Cond.instanceMethod ⟨"RopeRound", "rowsThere", "()I"⟩ ∈ tg := kt 900 (by decide +kernel) (by decide +kernel)
theorem kw898 : Cond.methodLink "RopeRound" 306 ⟨"RopeRound", "rowsThere", "()I"⟩ ∈ tg := kt 898 (by decide +kernel) (by decide +kernel)
theorem vk92 : ∀ ci y, (fun k => if k = 10 then some 110 else none) ci = some y → (∃ C T N, ClsOk ci C T N ∧ VOk mT "RopeRound" 306 C y 0) ∨ (ci = 201 ∧ VOk mT "RopeRound" 306 "java/lang/String" y 0) := by
  intro ci y h
  dsimp only at h
  by_cases h10 : ci = 10
  · subst h10
    have h := (Option.some.inj (by simpa using h)).symm
    subst h
    exact Or.inl ⟨_, _, _, okC10, ⟨mo110, kw900, Or.inl ⟨rfl, kw898, (ks (q := (⟨"RopeRound", "rowsThere", "()I"⟩, 12)) (by decide +kernel))⟩⟩⟩
  rw [if_neg h10] at h
  cases h
theorem kw72 : Cond.fieldLink "RopeRound" 309 "RopeRound$Ground" "wide" "I" ∈ tg := kt 72 (by decide +kernel) (by decide +kernel)
theorem gf128 : gF "RopeRound" 309 0 (fun k => k = 3) (fun n => n = 0 ∨ n = 4) := by
  refine ⟨_, _, _, kw72, fun ci h => ?_⟩
  rcases h with rfl
  · exact ⟨_, _, _, okC3, by decide, rfl, rfl, Or.inl rfl, Or.inl rfl⟩
theorem gf128w : gF "RopeRound" 309 0 (fun k => k = 3) (fun n => n = 0) := by
  refine ⟨_, _, _, kw72, fun ci h => ?_⟩
  rcases h with rfl
  · exact ⟨_, _, _, okC3, by decide, rfl, rfl, Or.inl rfl, rfl⟩
theorem kw75 : Cond.fieldLink "RopeRound" 312 "RopeRound$Ground" "high" "I" ∈ tg := kt 75 (by decide +kernel) (by decide +kernel)
theorem gf129 : gF "RopeRound" 312 1 (fun k => k = 3) (fun n => n = 0 ∨ n = 4) := by
  refine ⟨_, _, _, kw75, fun ci h => ?_⟩
  rcases h with rfl
  · exact ⟨_, _, _, okC3, by decide, rfl, rfl, Or.inl rfl, Or.inl rfl⟩
theorem gf129w : gF "RopeRound" 312 1 (fun k => k = 3) (fun n => n = 0) := by
  refine ⟨_, _, _, kw75, fun ci h => ?_⟩
  rcases h with rfl
  · exact ⟨_, _, _, okC3, by decide, rfl, rfl, Or.inl rfl, rfl⟩
set_option maxRecDepth 100000 in
theorem kw905 : Cond.code ⟨"RopeRound$Ground", "ringsThere", "()I"⟩ prog_5_method_17_code 3 (some FieldType.int) ∈ tg := kt 905 rfl rfl
theorem mo38 : MOk (mT 38) 0 := ⟨kw905, kw4, by decide +kernel, by decide +kernel, by decide⟩
theorem kw903 : Cond.instanceMethod ⟨"RopeRound$Ground", "ringsThere", "()I"⟩ ∈ tg := kt 903 (by decide +kernel) (by decide +kernel)
theorem kw902 : Cond.methodLink "RopeRound" 315 ⟨"RopeRound$Ground", "ringsThere", "()I"⟩ ∈ tg := kt 902 (by decide +kernel) (by decide +kernel)
theorem kw904 : Cond.selects "RopeRound$Ground" ⟨"RopeRound$Ground", "ringsThere", "()I"⟩ ⟨"RopeRound$Ground", "ringsThere", "()I"⟩ ∈ tg := kt 904 (by decide +kernel) (by decide +kernel)
theorem vk93 : ∀ ci y, (fun k => if k = 3 then some 38 else none) ci = some y → (∃ C T N, ClsOk ci C T N ∧ VOk mT "RopeRound" 315 C y 0) ∨ (ci = 201 ∧ VOk mT "RopeRound" 315 "java/lang/String" y 0) := by
  intro ci y h
  dsimp only at h
  by_cases h3 : ci = 3
  · subst h3
    have h := (Option.some.inj (by simpa using h)).symm
    subst h
    exact Or.inl ⟨_, _, _, okC3, ⟨mo38, kw903, Or.inl ⟨rfl, kw902, kw904⟩⟩⟩
  rw [if_neg h3] at h
  cases h
theorem kw314 : Cond.fieldLink "RopeRound" 318 "RopeRound" "finding" "I" ∈ tg := kt 314 (by decide +kernel) (by decide +kernel)
theorem gf130 : gF "RopeRound" 318 10 (fun k => k = 10) (fun n => n = 0 ∨ n = 4) := by
  refine ⟨_, _, _, kw314, fun ci h => ?_⟩
  rcases h with rfl
  · exact ⟨_, _, _, okC10, by decide, rfl, rfl, Or.inl rfl, Or.inl rfl⟩
theorem gf130w : gF "RopeRound" 318 10 (fun k => k = 10) (fun n => n = 0) := by
  refine ⟨_, _, _, kw314, fun ci h => ?_⟩
  rcases h with rfl
  · exact ⟨_, _, _, okC10, by decide, rfl, rfl, Or.inl rfl, rfl⟩
theorem kw353 : Cond.constant "RopeRound" 321 (-1000010) ∈ tg := kt 353 (by decide +kernel) (by decide +kernel)
set_option maxRecDepth 100000 in
theorem kw610 : Cond.code ⟨"RopeRound$Trial", "follow", "(LRopeRound$Ground;ILRopeRound$Row;II)V"⟩ prog_10_method_2_code 15 none ∈ tg := kt 610 rfl rfl
theorem mo74 : MOk (mT 74) 5 := ⟨kw610, kw5, by decide +kernel, by decide +kernel, by decide⟩
theorem kw608 : Cond.instanceMethod ⟨"RopeRound$Trial", "follow", "(LRopeRound$Ground;ILRopeRound$Row;II)V"⟩ ∈ tg := kt 608 (by decide +kernel) (by decide +kernel)
theorem kw607 : Cond.methodLink "RopeRound" 322 ⟨"RopeRound$Trial", "follow", "(LRopeRound$Ground;ILRopeRound$Row;II)V"⟩ ∈ tg := kt 607 (by decide +kernel) (by decide +kernel)
theorem kw609 : Cond.selects "RopeRound$Trial" ⟨"RopeRound$Trial", "follow", "(LRopeRound$Ground;ILRopeRound$Row;II)V"⟩ ⟨"RopeRound$Trial", "follow", "(LRopeRound$Ground;ILRopeRound$Row;II)V"⟩ ∈ tg := kt 609 (by decide +kernel) (by decide +kernel)
theorem vk94 : ∀ ci y, (fun k => if k = 8 then some 74 else none) ci = some y → (∃ C T N, ClsOk ci C T N ∧ VOk mT "RopeRound" 322 C y 5) ∨ (ci = 201 ∧ VOk mT "RopeRound" 322 "java/lang/String" y 5) := by
  intro ci y h
  dsimp only at h
  by_cases h8 : ci = 8
  · subst h8
    have h := (Option.some.inj (by simpa using h)).symm
    subst h
    exact Or.inl ⟨_, _, _, okC8, ⟨mo74, kw608, Or.inl ⟨rfl, kw607, kw609⟩⟩⟩
  rw [if_neg h8] at h
  cases h
theorem kw160 : Cond.fieldLink "RopeRound" 326 "RopeRound$Trial" "fault" "I" ∈ tg := kt 160 (by decide +kernel) (by decide +kernel)
theorem gf131 : gF "RopeRound" 326 1 (fun k => k = 8) (fun n => n = 0 ∨ n = 4) := by
  refine ⟨_, _, _, kw160, fun ci h => ?_⟩
  rcases h with rfl
  · exact ⟨_, _, _, okC8, by decide, rfl, rfl, Or.inl rfl, Or.inl rfl⟩
theorem gf131w : gF "RopeRound" 326 1 (fun k => k = 8) (fun n => n = 0) := by
  refine ⟨_, _, _, kw160, fun ci h => ?_⟩
  rcases h with rfl
  · exact ⟨_, _, _, okC8, by decide, rfl, rfl, Or.inl rfl, rfl⟩
theorem kw627 : Cond.constant "RopeRound" 327 (-1000200) ∈ tg := kt 627 (by decide +kernel) (by decide +kernel)
theorem kw162 : Cond.fieldLink "RopeRound" 328 "RopeRound$Trial" "step" "I" ∈ tg := kt 162 (by decide +kernel) (by decide +kernel)
theorem gf132 : gF "RopeRound" 328 2 (fun k => k = 8) (fun n => n = 0 ∨ n = 4) := by
  refine ⟨_, _, _, kw162, fun ci h => ?_⟩
  rcases h with rfl
  · exact ⟨_, _, _, okC8, by decide, rfl, rfl, Or.inl rfl, Or.inl rfl⟩
theorem gf132w : gF "RopeRound" 328 2 (fun k => k = 8) (fun n => n = 0) := by
  refine ⟨_, _, _, kw162, fun ci h => ?_⟩
  rcases h with rfl
  · exact ⟨_, _, _, okC8, by decide, rfl, rfl, Or.inl rfl, rfl⟩
theorem kw651 : Cond.methodLink "RopeRound" 331 ⟨"RopeRound$Ground", "reckonRings", "()V"⟩ ∈ tg := kt 651 (by decide +kernel) (by decide +kernel)
theorem vk95 : ∀ ci y, (fun k => if k = 3 then some 32 else none) ci = some y → (∃ C T N, ClsOk ci C T N ∧ VOk mT "RopeRound" 331 C y 0) ∨ (ci = 201 ∧ VOk mT "RopeRound" 331 "java/lang/String" y 0) := by
  intro ci y h
  dsimp only at h
  by_cases h3 : ci = 3
  · subst h3
    have h := (Option.some.inj (by simpa using h)).symm
    subst h
    exact Or.inl ⟨_, _, _, okC3, ⟨mo32, kw552, Or.inl ⟨rfl, kw651, kw553⟩⟩⟩
  rw [if_neg h3] at h
  cases h
theorem kw755 : Cond.methodLink "RopeRound" 334 ⟨"java/lang/Math", "min", "(II)I"⟩ ∈ tg := kt 755 (by decide +kernel) (by decide +kernel)
theorem kw756 : Cond.static ⟨"java/lang/Math", "min", "(II)I"⟩ ∈ tg := kt 756 (by decide +kernel) (by decide +kernel)
set_option maxRecDepth 100000 in
theorem kw757 : Cond.code ⟨"java/lang/Math", "min", "(II)I"⟩ prog_15_method_69_code 2 (some FieldType.int) ∈ tg := kt 757 rfl rfl
set_option maxRecDepth 100000 in
theorem kw754 : Cond.code ⟨"RopeRound", "ropeOf", "(I)I"⟩ prog_1_method_37_code 4 (some FieldType.int) ∈ tg := kt 754 rfl rfl
theorem mo117 : MOk (mT 117) 1 := ⟨kw754, kw1, by decide +kernel, by decide +kernel, by decide⟩
theorem kw753 : Cond.instanceMethod ⟨"RopeRound", "ropeOf", "(I)I"⟩ ∈ tg := kt 753 (by decide +kernel) (by decide +kernel)
theorem kw751 : Cond.methodLink "RopeRound" 339 ⟨"RopeRound", "ropeOf", "(I)I"⟩ ∈ tg := kt 751 (by decide +kernel) (by decide +kernel)
theorem vk96 : ∀ ci y, (fun k => if k = 10 then some 117 else none) ci = some y → (∃ C T N, ClsOk ci C T N ∧ VOk mT "RopeRound" 339 C y 1) ∨ (ci = 201 ∧ VOk mT "RopeRound" 339 "java/lang/String" y 1) := by
  intro ci y h
  dsimp only at h
  by_cases h10 : ci = 10
  · subst h10
    have h := (Option.some.inj (by simpa using h)).symm
    subst h
    exact Or.inl ⟨_, _, _, okC10, ⟨mo117, kw753, Or.inl ⟨rfl, kw751, (ks (q := (⟨"RopeRound", "ropeOf", "(I)I"⟩, 12)) (by decide +kernel))⟩⟩⟩
  rw [if_neg h10] at h
  cases h
set_option maxRecDepth 100000 in
theorem kw774 : Cond.code ⟨"RopeRound", "floorOf", "(I)I"⟩ prog_1_method_40_code 2 (some FieldType.int) ∈ tg := kt 774 rfl rfl
theorem mo120 : MOk (mT 120) 1 := ⟨kw774, kw1, by decide +kernel, by decide +kernel, by decide⟩
theorem kw773 : Cond.instanceMethod ⟨"RopeRound", "floorOf", "(I)I"⟩ ∈ tg := kt 773 (by decide +kernel) (by decide +kernel)
theorem kw771 : Cond.methodLink "RopeRound" 342 ⟨"RopeRound", "floorOf", "(I)I"⟩ ∈ tg := kt 771 (by decide +kernel) (by decide +kernel)
theorem vk97 : ∀ ci y, (fun k => if k = 10 then some 120 else none) ci = some y → (∃ C T N, ClsOk ci C T N ∧ VOk mT "RopeRound" 342 C y 1) ∨ (ci = 201 ∧ VOk mT "RopeRound" 342 "java/lang/String" y 1) := by
  intro ci y h
  dsimp only at h
  by_cases h10 : ci = 10
  · subst h10
    have h := (Option.some.inj (by simpa using h)).symm
    subst h
    exact Or.inl ⟨_, _, _, okC10, ⟨mo120, kw773, Or.inl ⟨rfl, kw771, (ks (q := (⟨"RopeRound", "floorOf", "(I)I"⟩, 12)) (by decide +kernel))⟩⟩⟩
  rw [if_neg h10] at h
  cases h
set_option maxRecDepth 100000 in
theorem kw778 : Cond.code ⟨"RopeRound", "ceilingOf", "(II)I"⟩ prog_1_method_41_code 4 (some FieldType.int) ∈ tg := kt 778 rfl rfl
theorem mo121 : MOk (mT 121) 2 := ⟨kw778, kw1, by decide +kernel, by decide +kernel, by decide⟩
theorem kw777 : Cond.instanceMethod ⟨"RopeRound", "ceilingOf", "(II)I"⟩ ∈ tg := kt 777 (by decide +kernel) (by decide +kernel)
theorem kw775 : Cond.methodLink "RopeRound" 345 ⟨"RopeRound", "ceilingOf", "(II)I"⟩ ∈ tg := kt 775 (by decide +kernel) (by decide +kernel)
theorem vk98 : ∀ ci y, (fun k => if k = 10 then some 121 else none) ci = some y → (∃ C T N, ClsOk ci C T N ∧ VOk mT "RopeRound" 345 C y 2) ∨ (ci = 201 ∧ VOk mT "RopeRound" 345 "java/lang/String" y 2) := by
  intro ci y h
  dsimp only at h
  by_cases h10 : ci = 10
  · subst h10
    have h := (Option.some.inj (by simpa using h)).symm
    subst h
    exact Or.inl ⟨_, _, _, okC10, ⟨mo121, kw777, Or.inl ⟨rfl, kw775, (ks (q := (⟨"RopeRound", "ceilingOf", "(II)I"⟩, 12)) (by decide +kernel))⟩⟩⟩
  rw [if_neg h10] at h
  cases h
theorem kw779 : Cond.methodLink "RopeRound" 348 ⟨"java/lang/Math", "max", "(II)I"⟩ ∈ tg := kt 779 (by decide +kernel) (by decide +kernel)
theorem kw780 : Cond.static ⟨"java/lang/Math", "max", "(II)I"⟩ ∈ tg := kt 780 (by decide +kernel) (by decide +kernel)
set_option maxRecDepth 100000 in
theorem kw781 : Cond.code ⟨"java/lang/Math", "max", "(II)I"⟩ prog_15_method_65_code 2 (some FieldType.int) ∈ tg := kt 781 rfl rfl
theorem kw724 : Cond.constantLong "RopeRound" 351 3 ∈ tg := kt 724 (by decide +kernel) (by decide +kernel)
theorem kw622 : Cond.constantLong "RopeRound" 353 72340172838076673 ∈ tg := kt 622 (by decide +kernel) (by decide +kernel)
theorem kw846 : Cond.methodLink "RopeRound" 355 ⟨"RopeRound", "nextKind", "(I)I"⟩ ∈ tg := kt 846 (by decide +kernel) (by decide +kernel)
theorem kw847 : Cond.static ⟨"RopeRound", "nextKind", "(I)I"⟩ ∈ tg := kt 847 (by decide +kernel) (by decide +kernel)
set_option maxRecDepth 100000 in
theorem kw848 : Cond.code ⟨"RopeRound", "nextKind", "(I)I"⟩ prog_1_method_49_code 1 (some FieldType.int) ∈ tg := kt 848 rfl rfl
theorem mo129 : MOk (mT 129) 1 := ⟨kw848, kw1, by decide +kernel, by decide +kernel, by decide⟩
theorem kw916 : Cond.methodLink "RopeRoundModel" 1 ⟨"java/lang/Object", "<init>", "()V"⟩ ∈ tg := kt 916 (by decide +kernel) (by decide +kernel)
theorem kw919 : Cond.fieldLink "RopeRoundModel" 7 "RopeRoundModel" "lane" "[I" ∈ tg := kt 919 (by decide +kernel) (by decide +kernel)
theorem gf133f : gFF "RopeRoundModel" 7 2 (fun k => k = 11) := by
  refine ⟨_, _, _, kw919, fun ci h => ?_⟩
  rcases h with rfl
  · exact ⟨_, _, _, okC11, by decide, rfl, rfl, rfl, rfl, rfl⟩
theorem kw920 : Cond.fieldLink "RopeRoundModel" 13 "RopeRoundModel" "many" "[I" ∈ tg := kt 920 (by decide +kernel) (by decide +kernel)
theorem gf134f : gFF "RopeRoundModel" 13 3 (fun k => k = 11) := by
  refine ⟨_, _, _, kw920, fun ci h => ?_⟩
  rcases h with rfl
  · exact ⟨_, _, _, okC11, by decide, rfl, rfl, rfl, rfl, rfl⟩
theorem kw921 : Cond.fieldLink "RopeRoundModel" 16 "RopeRoundModel" "item" "[I" ∈ tg := kt 921 (by decide +kernel) (by decide +kernel)
theorem gf135f : gFF "RopeRoundModel" 16 4 (fun k => k = 11) := by
  refine ⟨_, _, _, kw921, fun ci h => ?_⟩
  rcases h with rfl
  · exact ⟨_, _, _, okC11, by decide, rfl, rfl, rfl, rfl, rfl⟩
theorem kw922 : Cond.fieldLink "RopeRoundModel" 19 "RopeRoundModel" "ground" "[I" ∈ tg := kt 922 (by decide +kernel) (by decide +kernel)
theorem gf136f : gFF "RopeRoundModel" 19 5 (fun k => k = 11) := by
  refine ⟨_, _, _, kw922, fun ci h => ?_⟩
  rcases h with rfl
  · exact ⟨_, _, _, okC11, by decide, rfl, rfl, rfl, rfl, rfl⟩
theorem kw923 : Cond.fieldLink "RopeRoundModel" 22 "RopeRoundModel" "fresh" "[I" ∈ tg := kt 923 (by decide +kernel) (by decide +kernel)
theorem gf137f : gFF "RopeRoundModel" 22 6 (fun k => k = 11) := by
  refine ⟨_, _, _, kw923, fun ci h => ?_⟩
  rcases h with rfl
  · exact ⟨_, _, _, okC11, by decide, rfl, rfl, rfl, rfl, rfl⟩
theorem kw925 : Cond.fieldLink "RopeRoundModel" 25 "RopeRoundModel" "tape" "[I" ∈ tg := kt 925 (by decide +kernel) (by decide +kernel)
theorem gf138f : gFF "RopeRoundModel" 25 8 (fun k => k = 11) := by
  refine ⟨_, _, _, kw925, fun ci h => ?_⟩
  rcases h with rfl
  · exact ⟨_, _, _, okC11, by decide, rfl, rfl, rfl, rfl, rfl⟩
theorem kw1029 : Cond.arrayClass FieldType.boolean ∈ tg := kt 1029 (by decide +kernel) (by decide +kernel)
theorem kw935 : Cond.fieldLink "RopeRoundModel" 28 "RopeRoundModel" "runs" "[Z" ∈ tg := kt 935 (by decide +kernel) (by decide +kernel)
theorem gf139f : gFF "RopeRoundModel" 28 18 (fun k => k = 11) := by
  refine ⟨_, _, _, kw935, fun ci h => ?_⟩
  rcases h with rfl
  · exact ⟨_, _, _, okC11, by decide, rfl, rfl, rfl, rfl, rfl⟩
theorem kw936 : Cond.fieldLink "RopeRoundModel" 32 "RopeRoundModel" "owner" "[I" ∈ tg := kt 936 (by decide +kernel) (by decide +kernel)
theorem gf140f : gFF "RopeRoundModel" 32 19 (fun k => k = 11) := by
  refine ⟨_, _, _, kw936, fun ci h => ?_⟩
  rcases h with rfl
  · exact ⟨_, _, _, okC11, by decide, rfl, rfl, rfl, rfl, rfl⟩
theorem kw938 : Cond.fieldLink "RopeRoundModel" 35 "RopeRoundModel" "came" "[I" ∈ tg := kt 938 (by decide +kernel) (by decide +kernel)
theorem gf141f : gFF "RopeRoundModel" 35 21 (fun k => k = 11) := by
  refine ⟨_, _, _, kw938, fun ci h => ?_⟩
  rcases h with rfl
  · exact ⟨_, _, _, okC11, by decide, rfl, rfl, rfl, rfl, rfl⟩
theorem kw939 : Cond.fieldLink "RopeRoundModel" 38 "RopeRoundModel" "ways" "[I" ∈ tg := kt 939 (by decide +kernel) (by decide +kernel)
theorem gf142f : gFF "RopeRoundModel" 38 22 (fun k => k = 11) := by
  refine ⟨_, _, _, kw939, fun ci h => ?_⟩
  rcases h with rfl
  · exact ⟨_, _, _, okC11, by decide, rfl, rfl, rfl, rfl, rfl⟩
theorem kw940 : Cond.fieldLink "RopeRoundModel" 41 "RopeRoundModel" "at" "[I" ∈ tg := kt 940 (by decide +kernel) (by decide +kernel)
theorem gf143f : gFF "RopeRoundModel" 41 23 (fun k => k = 11) := by
  refine ⟨_, _, _, kw940, fun ci h => ?_⟩
  rcases h with rfl
  · exact ⟨_, _, _, okC11, by decide, rfl, rfl, rfl, rfl, rfl⟩
theorem kw941 : Cond.fieldLink "RopeRoundModel" 44 "RopeRoundModel" "taken" "[I" ∈ tg := kt 941 (by decide +kernel) (by decide +kernel)
theorem gf144f : gFF "RopeRoundModel" 44 24 (fun k => k = 11) := by
  refine ⟨_, _, _, kw941, fun ci h => ?_⟩
  rcases h with rfl
  · exact ⟨_, _, _, okC11, by decide, rfl, rfl, rfl, rfl, rfl⟩
theorem kw942 : Cond.fieldLink "RopeRoundModel" 47 "RopeRoundModel" "depth" "[I" ∈ tg := kt 942 (by decide +kernel) (by decide +kernel)
theorem gf145f : gFF "RopeRoundModel" 47 25 (fun k => k = 11) := by
  refine ⟨_, _, _, kw942, fun ci h => ?_⟩
  rcases h with rfl
  · exact ⟨_, _, _, okC11, by decide, rfl, rfl, rfl, rfl, rfl⟩
theorem kw943 : Cond.fieldLink "RopeRoundModel" 50 "RopeRoundModel" "mostSteps" "[I" ∈ tg := kt 943 (by decide +kernel) (by decide +kernel)
theorem gf146f : gFF "RopeRoundModel" 50 26 (fun k => k = 11) := by
  refine ⟨_, _, _, kw943, fun ci h => ?_⟩
  rcases h with rfl
  · exact ⟨_, _, _, okC11, by decide, rfl, rfl, rfl, rfl, rfl⟩
theorem kw944 : Cond.fieldLink "RopeRoundModel" 53 "RopeRoundModel" "ropes" "[I" ∈ tg := kt 944 (by decide +kernel) (by decide +kernel)
theorem gf147f : gFF "RopeRoundModel" 53 27 (fun k => k = 11) := by
  refine ⟨_, _, _, kw944, fun ci h => ?_⟩
  rcases h with rfl
  · exact ⟨_, _, _, okC11, by decide, rfl, rfl, rfl, rfl, rfl⟩
theorem kw945 : Cond.fieldLink "RopeRoundModel" 56 "RopeRoundModel" "steps" "[I" ∈ tg := kt 945 (by decide +kernel) (by decide +kernel)
theorem gf148f : gFF "RopeRoundModel" 56 28 (fun k => k = 11) := by
  refine ⟨_, _, _, kw945, fun ci h => ?_⟩
  rcases h with rfl
  · exact ⟨_, _, _, okC11, by decide, rfl, rfl, rfl, rfl, rfl⟩
theorem kw947 : Cond.fieldLink "RopeRoundModel" 59 "RopeRoundModel" "bestWays" "[I" ∈ tg := kt 947 (by decide +kernel) (by decide +kernel)
theorem gf149f : gFF "RopeRoundModel" 59 30 (fun k => k = 11) := by
  refine ⟨_, _, _, kw947, fun ci h => ?_⟩
  rcases h with rfl
  · exact ⟨_, _, _, okC11, by decide, rfl, rfl, rfl, rfl, rfl⟩
theorem kw949 : Cond.fieldLink "RopeRoundModel" 62 "RopeRoundModel" "due" "[I" ∈ tg := kt 949 (by decide +kernel) (by decide +kernel)
theorem gf150f : gFF "RopeRoundModel" 62 32 (fun k => k = 11) := by
  refine ⟨_, _, _, kw949, fun ci h => ?_⟩
  rcases h with rfl
  · exact ⟨_, _, _, okC11, by decide, rfl, rfl, rfl, rfl, rfl⟩
theorem kw950 : Cond.fieldLink "RopeRoundModel" 65 "RopeRoundModel" "isKept" "[Z" ∈ tg := kt 950 (by decide +kernel) (by decide +kernel)
theorem gf151f : gFF "RopeRoundModel" 65 33 (fun k => k = 11) := by
  refine ⟨_, _, _, kw950, fun ci h => ?_⟩
  rcases h with rfl
  · exact ⟨_, _, _, okC11, by decide, rfl, rfl, rfl, rfl, rfl⟩
theorem kw951 : Cond.fieldLink "RopeRoundModel" 68 "RopeRoundModel" "kept" "[I" ∈ tg := kt 951 (by decide +kernel) (by decide +kernel)
theorem gf152f : gFF "RopeRoundModel" 68 34 (fun k => k = 11) := by
  refine ⟨_, _, _, kw951, fun ci h => ?_⟩
  rcases h with rfl
  · exact ⟨_, _, _, okC11, by decide, rfl, rfl, rfl, rfl, rfl⟩
theorem kw952 : Cond.fieldLink "RopeRoundModel" 71 "RopeRoundModel" "trace" "[I" ∈ tg := kt 952 (by decide +kernel) (by decide +kernel)
theorem gf153f : gFF "RopeRoundModel" 71 35 (fun k => k = 11) := by
  refine ⟨_, _, _, kw952, fun ci h => ?_⟩
  rcases h with rfl
  · exact ⟨_, _, _, okC11, by decide, rfl, rfl, rfl, rfl, rfl⟩
theorem kw918 : Cond.fieldLink "RopeRoundModel" 78 "RopeRoundModel" "status" "I" ∈ tg := kt 918 (by decide +kernel) (by decide +kernel)
theorem gf154 : gF "RopeRoundModel" 78 1 (fun k => k = 11) (fun n => n = 0 ∨ n = 4) := by
  refine ⟨_, _, _, kw918, fun ci h => ?_⟩
  rcases h with rfl
  · exact ⟨_, _, _, okC11, by decide, rfl, rfl, Or.inl rfl, Or.inl rfl⟩
theorem gf154w : gF "RopeRoundModel" 78 1 (fun k => k = 11) (fun n => n = 0) := by
  refine ⟨_, _, _, kw918, fun ci h => ?_⟩
  rcases h with rfl
  · exact ⟨_, _, _, okC11, by decide, rfl, rfl, Or.inl rfl, rfl⟩
theorem kw1047 : Cond.constant "RopeRoundModel" 81 (-1000010) ∈ tg := kt 1047 (by decide +kernel) (by decide +kernel)
theorem kw1037 : Cond.constantLong "RopeRoundModel" 82 7 ∈ tg := kt 1037 (by decide +kernel) (by decide +kernel)
theorem kw1038 : Cond.methodLink "RopeRoundModel" 84 ⟨"RopeRoundModel", "in", "(JJJ)Z"⟩ ∈ tg := kt 1038 (by decide +kernel) (by decide +kernel)
theorem kw1039 : Cond.static ⟨"RopeRoundModel", "in", "(JJJ)Z"⟩ ∈ tg := kt 1039 (by decide +kernel) (by decide +kernel)
set_option maxRecDepth 100000 in
theorem kw1040 : Cond.code ⟨"RopeRoundModel", "in", "(JJJ)Z"⟩ prog_13_method_3_code 6 (some FieldType.boolean) ∈ tg := kt 1040 rfl rfl
theorem kw12 : Cond.initialized "RopeRoundModel" ∈ tg := kt 12 (by decide +kernel) (by decide +kernel)
theorem mo131 : MOk (mT 131) 3 := ⟨kw1040, kw12, by decide +kernel, by decide +kernel, by decide⟩
theorem kw917 : Cond.fieldLink "RopeRoundModel" 74 "RopeRoundModel" "thrown" "I" ∈ tg := kt 917 (by decide +kernel) (by decide +kernel)
theorem gf155 : gF "RopeRoundModel" 74 0 (fun k => k = 11) (fun n => n = 0 ∨ n = 4) := by
  refine ⟨_, _, _, kw917, fun ci h => ?_⟩
  rcases h with rfl
  · exact ⟨_, _, _, okC11, by decide, rfl, rfl, Or.inl rfl, Or.inl rfl⟩
theorem gf155w : gF "RopeRoundModel" 74 0 (fun k => k = 11) (fun n => n = 0) := by
  refine ⟨_, _, _, kw917, fun ci h => ?_⟩
  rcases h with rfl
  · exact ⟨_, _, _, okC11, by decide, rfl, rfl, Or.inl rfl, rfl⟩
theorem kw1034 : Cond.methodLink "RopeRoundModel" 88 ⟨"RopeRoundModel", "isRow", "(I)Z"⟩ ∈ tg := kt 1034 (by decide +kernel) (by decide +kernel)
theorem kw1035 : Cond.static ⟨"RopeRoundModel", "isRow", "(I)Z"⟩ ∈ tg := kt 1035 (by decide +kernel) (by decide +kernel)
set_option maxRecDepth 100000 in
theorem kw1036 : Cond.code ⟨"RopeRoundModel", "isRow", "(I)Z"⟩ prog_13_method_5_code 1 (some FieldType.boolean) ∈ tg := kt 1036 rfl rfl
theorem mo133 : MOk (mT 133) 1 := ⟨kw1036, kw12, by decide +kernel, by decide +kernel, by decide⟩
theorem kw1041 : Cond.constantLong "RopeRoundModel" 92 2 ∈ tg := kt 1041 (by decide +kernel) (by decide +kernel)
theorem kw1042 : Cond.constant "RopeRoundModel" 94 (-1000001) ∈ tg := kt 1042 (by decide +kernel) (by decide +kernel)
set_option maxRecDepth 100000 in
theorem kw1046 : Cond.code ⟨"RopeRoundModel", "finding", "(I)I"⟩ prog_13_method_4_code 2 (some FieldType.int) ∈ tg := kt 1046 rfl rfl
theorem mo132 : MOk (mT 132) 1 := ⟨kw1046, kw12, by decide +kernel, by decide +kernel, by decide⟩
theorem kw1045 : Cond.instanceMethod ⟨"RopeRoundModel", "finding", "(I)I"⟩ ∈ tg := kt 1045 (by decide +kernel) (by decide +kernel)
theorem kw1043 : Cond.methodLink "RopeRoundModel" 95 ⟨"RopeRoundModel", "finding", "(I)I"⟩ ∈ tg := kt 1043 (by decide +kernel) (by decide +kernel)
theorem vk99 : ∀ ci y, (fun k => if k = 11 then some 132 else none) ci = some y → (∃ C T N, ClsOk ci C T N ∧ VOk mT "RopeRoundModel" 95 C y 1) ∨ (ci = 201 ∧ VOk mT "RopeRoundModel" 95 "java/lang/String" y 1) := by
  intro ci y h
  dsimp only at h
  by_cases h11 : ci = 11
  · subst h11
    have h := (Option.some.inj (by simpa using h)).symm
    subst h
    exact Or.inl ⟨_, _, _, okC11, ⟨mo132, kw1045, Or.inl ⟨rfl, kw1043, (ks (q := (⟨"RopeRoundModel", "finding", "(I)I"⟩, 37)) (by decide +kernel))⟩⟩⟩
  rw [if_neg h11] at h
  cases h
theorem gf156 : gF "RopeRoundModel" 7 2 (fun k => k = 11) (fun n => n = 2) := by
  refine ⟨_, _, _, kw919, fun ci h => ?_⟩
  rcases h with rfl
  · exact ⟨_, _, _, okC11, by decide, rfl, rfl, Or.inl rfl, rfl⟩
theorem gf157 : gF "RopeRoundModel" 13 3 (fun k => k = 11) (fun n => n = 2) := by
  refine ⟨_, _, _, kw920, fun ci h => ?_⟩
  rcases h with rfl
  · exact ⟨_, _, _, okC11, by decide, rfl, rfl, Or.inl rfl, rfl⟩
theorem gf158 : gF "RopeRoundModel" 16 4 (fun k => k = 11) (fun n => n = 2) := by
  refine ⟨_, _, _, kw921, fun ci h => ?_⟩
  rcases h with rfl
  · exact ⟨_, _, _, okC11, by decide, rfl, rfl, Or.inl rfl, rfl⟩
theorem kw1064 : Cond.constantLong "RopeRoundModel" 99 8 ∈ tg := kt 1064 (by decide +kernel) (by decide +kernel)
theorem kw926 : Cond.fieldLink "RopeRoundModel" 101 "RopeRoundModel" "taped" "I" ∈ tg := kt 926 (by decide +kernel) (by decide +kernel)
theorem gf159 : gF "RopeRoundModel" 101 9 (fun k => k = 11) (fun n => n = 0 ∨ n = 4) := by
  refine ⟨_, _, _, kw926, fun ci h => ?_⟩
  rcases h with rfl
  · exact ⟨_, _, _, okC11, by decide, rfl, rfl, Or.inl rfl, Or.inl rfl⟩
theorem gf159w : gF "RopeRoundModel" 101 9 (fun k => k = 11) (fun n => n = 0) := by
  refine ⟨_, _, _, kw926, fun ci h => ?_⟩
  rcases h with rfl
  · exact ⟨_, _, _, okC11, by decide, rfl, rfl, Or.inl rfl, rfl⟩
theorem kw1065 : Cond.constant "RopeRoundModel" 104 (-1000003) ∈ tg := kt 1065 (by decide +kernel) (by decide +kernel)
theorem gf160 : gF "RopeRoundModel" 25 8 (fun k => k = 11) (fun n => n = 2) := by
  refine ⟨_, _, _, kw925, fun ci h => ?_⟩
  rcases h with rfl
  · exact ⟨_, _, _, okC11, by decide, rfl, rfl, Or.inl rfl, rfl⟩
theorem kw1066 : Cond.constantLong "RopeRoundModel" 105 255 ∈ tg := kt 1066 (by decide +kernel) (by decide +kernel)
theorem kw928 : Cond.fieldLink "RopeRoundModel" 107 "RopeRoundModel" "length" "I" ∈ tg := kt 928 (by decide +kernel) (by decide +kernel)
theorem gf161 : gF "RopeRoundModel" 107 11 (fun k => k = 11) (fun n => n = 0 ∨ n = 4) := by
  refine ⟨_, _, _, kw928, fun ci h => ?_⟩
  rcases h with rfl
  · exact ⟨_, _, _, okC11, by decide, rfl, rfl, Or.inl rfl, Or.inl rfl⟩
theorem gf161w : gF "RopeRoundModel" 107 11 (fun k => k = 11) (fun n => n = 0) := by
  refine ⟨_, _, _, kw928, fun ci h => ?_⟩
  rcases h with rfl
  · exact ⟨_, _, _, okC11, by decide, rfl, rfl, Or.inl rfl, rfl⟩
theorem kw1083 : Cond.constant "RopeRoundModel" 110 (-1000000) ∈ tg := kt 1083 (by decide +kernel) (by decide +kernel)
theorem kw929 : Cond.fieldLink "RopeRoundModel" 111 "RopeRoundModel" "cursor" "I" ∈ tg := kt 929 (by decide +kernel) (by decide +kernel)
theorem gf162 : gF "RopeRoundModel" 111 12 (fun k => k = 11) (fun n => n = 0 ∨ n = 4) := by
  refine ⟨_, _, _, kw929, fun ci h => ?_⟩
  rcases h with rfl
  · exact ⟨_, _, _, okC11, by decide, rfl, rfl, Or.inl rfl, Or.inl rfl⟩
theorem gf162w : gF "RopeRoundModel" 111 12 (fun k => k = 11) (fun n => n = 0) := by
  refine ⟨_, _, _, kw929, fun ci h => ?_⟩
  rcases h with rfl
  · exact ⟨_, _, _, okC11, by decide, rfl, rfl, Or.inl rfl, rfl⟩
set_option maxRecDepth 100000 in
theorem kw1082 : Cond.code ⟨"RopeRoundModel", "byteAt", "(I)I"⟩ prog_13_method_11_code 2 (some FieldType.int) ∈ tg := kt 1082 rfl rfl
theorem mo139 : MOk (mT 139) 1 := ⟨kw1082, kw12, by decide +kernel, by decide +kernel, by decide⟩
theorem kw1081 : Cond.instanceMethod ⟨"RopeRoundModel", "byteAt", "(I)I"⟩ ∈ tg := kt 1081 (by decide +kernel) (by decide +kernel)
theorem kw1079 : Cond.methodLink "RopeRoundModel" 114 ⟨"RopeRoundModel", "byteAt", "(I)I"⟩ ∈ tg := kt 1079 (by decide +kernel) (by decide +kernel)
theorem vk100 : ∀ ci y, (fun k => if k = 11 then some 139 else none) ci = some y → (∃ C T N, ClsOk ci C T N ∧ VOk mT "RopeRoundModel" 114 C y 1) ∨ (ci = 201 ∧ VOk mT "RopeRoundModel" 114 "java/lang/String" y 1) := by
  intro ci y h
  dsimp only at h
  by_cases h11 : ci = 11
  · subst h11
    have h := (Option.some.inj (by simpa using h)).symm
    subst h
    exact Or.inl ⟨_, _, _, okC11, ⟨mo139, kw1081, Or.inl ⟨rfl, kw1079, (ks (q := (⟨"RopeRoundModel", "byteAt", "(I)I"⟩, 37)) (by decide +kernel))⟩⟩⟩
  rw [if_neg h11] at h
  cases h
theorem kw931 : Cond.fieldLink "RopeRoundModel" 117 "RopeRoundModel" "start" "I" ∈ tg := kt 931 (by decide +kernel) (by decide +kernel)
theorem gf163 : gF "RopeRoundModel" 117 14 (fun k => k = 11) (fun n => n = 0 ∨ n = 4) := by
  refine ⟨_, _, _, kw931, fun ci h => ?_⟩
  rcases h with rfl
  · exact ⟨_, _, _, okC11, by decide, rfl, rfl, Or.inl rfl, Or.inl rfl⟩
theorem gf163w : gF "RopeRoundModel" 117 14 (fun k => k = 11) (fun n => n = 0) := by
  refine ⟨_, _, _, kw931, fun ci h => ?_⟩
  rcases h with rfl
  · exact ⟨_, _, _, okC11, by decide, rfl, rfl, Or.inl rfl, rfl⟩
theorem kw930 : Cond.fieldLink "RopeRoundModel" 120 "RopeRoundModel" "token" "I" ∈ tg := kt 930 (by decide +kernel) (by decide +kernel)
theorem gf164 : gF "RopeRoundModel" 120 13 (fun k => k = 11) (fun n => n = 0 ∨ n = 4) := by
  refine ⟨_, _, _, kw930, fun ci h => ?_⟩
  rcases h with rfl
  · exact ⟨_, _, _, okC11, by decide, rfl, rfl, Or.inl rfl, Or.inl rfl⟩
theorem gf164w : gF "RopeRoundModel" 120 13 (fun k => k = 11) (fun n => n = 0) := by
  refine ⟨_, _, _, kw930, fun ci h => ?_⟩
  rcases h with rfl
  · exact ⟨_, _, _, okC11, by decide, rfl, rfl, Or.inl rfl, rfl⟩
theorem kw1084 : Cond.methodLink "RopeRoundModel" 123 ⟨"RopeRoundModel", "isLetter", "(I)Z"⟩ ∈ tg := kt 1084 (by decide +kernel) (by decide +kernel)
theorem kw1085 : Cond.static ⟨"RopeRoundModel", "isLetter", "(I)Z"⟩ ∈ tg := kt 1085 (by decide +kernel) (by decide +kernel)
set_option maxRecDepth 100000 in
theorem kw1086 : Cond.code ⟨"RopeRoundModel", "isLetter", "(I)Z"⟩ prog_13_method_12_code 1 (some FieldType.boolean) ∈ tg := kt 1086 rfl rfl
theorem mo140 : MOk (mT 140) 1 := ⟨kw1086, kw12, by decide +kernel, by decide +kernel, by decide⟩
theorem kw1087 : Cond.methodLink "RopeRoundModel" 126 ⟨"RopeRoundModel", "isFigure", "(I)Z"⟩ ∈ tg := kt 1087 (by decide +kernel) (by decide +kernel)
theorem kw1088 : Cond.static ⟨"RopeRoundModel", "isFigure", "(I)Z"⟩ ∈ tg := kt 1088 (by decide +kernel) (by decide +kernel)
set_option maxRecDepth 100000 in
theorem kw1089 : Cond.code ⟨"RopeRoundModel", "isFigure", "(I)Z"⟩ prog_13_method_13_code 1 (some FieldType.boolean) ∈ tg := kt 1089 rfl rfl
theorem mo141 : MOk (mT 141) 1 := ⟨kw1089, kw12, by decide +kernel, by decide +kernel, by decide⟩
theorem kw932 : Cond.fieldLink "RopeRoundModel" 129 "RopeRoundModel" "till" "I" ∈ tg := kt 932 (by decide +kernel) (by decide +kernel)
theorem gf165 : gF "RopeRoundModel" 129 15 (fun k => k = 11) (fun n => n = 0 ∨ n = 4) := by
  refine ⟨_, _, _, kw932, fun ci h => ?_⟩
  rcases h with rfl
  · exact ⟨_, _, _, okC11, by decide, rfl, rfl, Or.inl rfl, Or.inl rfl⟩
theorem gf165w : gF "RopeRoundModel" 129 15 (fun k => k = 11) (fun n => n = 0) := by
  refine ⟨_, _, _, kw932, fun ci h => ?_⟩
  rcases h with rfl
  · exact ⟨_, _, _, okC11, by decide, rfl, rfl, Or.inl rfl, rfl⟩
theorem kw933 : Cond.fieldLink "RopeRoundModel" 132 "RopeRoundModel" "fault" "I" ∈ tg := kt 933 (by decide +kernel) (by decide +kernel)
theorem gf166 : gF "RopeRoundModel" 132 16 (fun k => k = 11) (fun n => n = 0 ∨ n = 4) := by
  refine ⟨_, _, _, kw933, fun ci h => ?_⟩
  rcases h with rfl
  · exact ⟨_, _, _, okC11, by decide, rfl, rfl, Or.inl rfl, Or.inl rfl⟩
theorem gf166w : gF "RopeRoundModel" 132 16 (fun k => k = 11) (fun n => n = 0) := by
  refine ⟨_, _, _, kw933, fun ci h => ?_⟩
  rcases h with rfl
  · exact ⟨_, _, _, okC11, by decide, rfl, rfl, Or.inl rfl, rfl⟩
set_option maxRecDepth 100000 in
theorem kw1078 : Cond.code ⟨"RopeRoundModel", "next", "()V"⟩ prog_13_method_14_code 2 none ∈ tg := kt 1078 rfl rfl
theorem mo142 : MOk (mT 142) 0 := ⟨kw1078, kw12, by decide +kernel, by decide +kernel, by decide⟩
theorem kw1077 : Cond.instanceMethod ⟨"RopeRoundModel", "next", "()V"⟩ ∈ tg := kt 1077 (by decide +kernel) (by decide +kernel)
theorem kw1075 : Cond.methodLink "RopeRoundModel" 135 ⟨"RopeRoundModel", "next", "()V"⟩ ∈ tg := kt 1075 (by decide +kernel) (by decide +kernel)
theorem vk101 : ∀ ci y, (fun k => if k = 11 then some 142 else none) ci = some y → (∃ C T N, ClsOk ci C T N ∧ VOk mT "RopeRoundModel" 135 C y 0) ∨ (ci = 201 ∧ VOk mT "RopeRoundModel" 135 "java/lang/String" y 0) := by
  intro ci y h
  dsimp only at h
  by_cases h11 : ci = 11
  · subst h11
    have h := (Option.some.inj (by simpa using h)).symm
    subst h
    exact Or.inl ⟨_, _, _, okC11, ⟨mo142, kw1077, Or.inl ⟨rfl, kw1075, (ks (q := (⟨"RopeRoundModel", "next", "()V"⟩, 37)) (by decide +kernel))⟩⟩⟩
  rw [if_neg h11] at h
  cases h
theorem kw934 : Cond.fieldLink "RopeRoundModel" 138 "RopeRoundModel" "faultAt" "I" ∈ tg := kt 934 (by decide +kernel) (by decide +kernel)
theorem gf167 : gF "RopeRoundModel" 138 17 (fun k => k = 11) (fun n => n = 0 ∨ n = 4) := by
  refine ⟨_, _, _, kw934, fun ci h => ?_⟩
  rcases h with rfl
  · exact ⟨_, _, _, okC11, by decide, rfl, rfl, Or.inl rfl, Or.inl rfl⟩
theorem gf167w : gF "RopeRoundModel" 138 17 (fun k => k = 11) (fun n => n = 0) := by
  refine ⟨_, _, _, kw934, fun ci h => ?_⟩
  rcases h with rfl
  · exact ⟨_, _, _, okC11, by decide, rfl, rfl, Or.inl rfl, rfl⟩
set_option maxRecDepth 100000 in
theorem kw1102 : Cond.code ⟨"RopeRoundModel", "bad", "(I)V"⟩ prog_13_method_16_code 2 none ∈ tg := kt 1102 rfl rfl
theorem mo144 : MOk (mT 144) 1 := ⟨kw1102, kw12, by decide +kernel, by decide +kernel, by decide⟩
theorem kw1101 : Cond.instanceMethod ⟨"RopeRoundModel", "bad", "(I)V"⟩ ∈ tg := kt 1101 (by decide +kernel) (by decide +kernel)
theorem kw1099 : Cond.methodLink "RopeRoundModel" 141 ⟨"RopeRoundModel", "bad", "(I)V"⟩ ∈ tg := kt 1099 (by decide +kernel) (by decide +kernel)
theorem vk102 : ∀ ci y, (fun k => if k = 11 then some 144 else none) ci = some y → (∃ C T N, ClsOk ci C T N ∧ VOk mT "RopeRoundModel" 141 C y 1) ∨ (ci = 201 ∧ VOk mT "RopeRoundModel" 141 "java/lang/String" y 1) := by
  intro ci y h
  dsimp only at h
  by_cases h11 : ci = 11
  · subst h11
    have h := (Option.some.inj (by simpa using h)).symm
    subst h
    exact Or.inl ⟨_, _, _, okC11, ⟨mo144, kw1101, Or.inl ⟨rfl, kw1099, (ks (q := (⟨"RopeRoundModel", "bad", "(I)V"⟩, 37)) (by decide +kernel))⟩⟩⟩
  rw [if_neg h11] at h
  cases h
set_option maxRecDepth 100000 in
theorem kw1137 : Cond.code ⟨"RopeRoundModel", "figures", "()I"⟩ prog_13_method_19_code 3 (some FieldType.int) ∈ tg := kt 1137 rfl rfl
theorem mo147 : MOk (mT 147) 0 := ⟨kw1137, kw12, by decide +kernel, by decide +kernel, by decide⟩
theorem kw1136 : Cond.instanceMethod ⟨"RopeRoundModel", "figures", "()I"⟩ ∈ tg := kt 1136 (by decide +kernel) (by decide +kernel)
theorem kw1134 : Cond.methodLink "RopeRoundModel" 145 ⟨"RopeRoundModel", "figures", "()I"⟩ ∈ tg := kt 1134 (by decide +kernel) (by decide +kernel)
theorem vk103 : ∀ ci y, (fun k => if k = 11 then some 147 else none) ci = some y → (∃ C T N, ClsOk ci C T N ∧ VOk mT "RopeRoundModel" 145 C y 0) ∨ (ci = 201 ∧ VOk mT "RopeRoundModel" 145 "java/lang/String" y 0) := by
  intro ci y h
  dsimp only at h
  by_cases h11 : ci = 11
  · subst h11
    have h := (Option.some.inj (by simpa using h)).symm
    subst h
    exact Or.inl ⟨_, _, _, okC11, ⟨mo147, kw1136, Or.inl ⟨rfl, kw1134, (ks (q := (⟨"RopeRoundModel", "figures", "()I"⟩, 37)) (by decide +kernel))⟩⟩⟩
  rw [if_neg h11] at h
  cases h
set_option maxRecDepth 100000 in
theorem kw1114 : Cond.code ⟨"RopeRoundModel", "must", "(Z)V"⟩ prog_13_method_17_code 2 none ∈ tg := kt 1114 rfl rfl
theorem mo145 : MOk (mT 145) 1 := ⟨kw1114, kw12, by decide +kernel, by decide +kernel, by decide⟩
theorem kw1113 : Cond.instanceMethod ⟨"RopeRoundModel", "must", "(Z)V"⟩ ∈ tg := kt 1113 (by decide +kernel) (by decide +kernel)
theorem kw1111 : Cond.methodLink "RopeRoundModel" 149 ⟨"RopeRoundModel", "must", "(Z)V"⟩ ∈ tg := kt 1111 (by decide +kernel) (by decide +kernel)
theorem vk104 : ∀ ci y, (fun k => if k = 11 then some 145 else none) ci = some y → (∃ C T N, ClsOk ci C T N ∧ VOk mT "RopeRoundModel" 149 C y 1) ∨ (ci = 201 ∧ VOk mT "RopeRoundModel" 149 "java/lang/String" y 1) := by
  intro ci y h
  dsimp only at h
  by_cases h11 : ci = 11
  · subst h11
    have h := (Option.some.inj (by simpa using h)).symm
    subst h
    exact Or.inl ⟨_, _, _, okC11, ⟨mo145, kw1113, Or.inl ⟨rfl, kw1111, (ks (q := (⟨"RopeRoundModel", "must", "(Z)V"⟩, 37)) (by decide +kernel))⟩⟩⟩
  rw [if_neg h11] at h
  cases h
theorem gf168 : gF "RopeRoundModel" 22 6 (fun k => k = 11) (fun n => n = 2) := by
  refine ⟨_, _, _, kw923, fun ci h => ?_⟩
  rcases h with rfl
  · exact ⟨_, _, _, okC11, by decide, rfl, rfl, Or.inl rfl, rfl⟩
theorem kw1119 : Cond.constantLong "RopeRoundModel" 153 97 ∈ tg := kt 1119 (by decide +kernel) (by decide +kernel)
theorem kw1120 : Cond.constantLong "RopeRoundModel" 155 106 ∈ tg := kt 1120 (by decide +kernel) (by decide +kernel)
set_option maxRecDepth 100000 in
theorem kw1110 : Cond.code ⟨"RopeRoundModel", "begins", "(II)V"⟩ prog_13_method_22_code 3 none ∈ tg := kt 1110 rfl rfl
theorem mo150 : MOk (mT 150) 2 := ⟨kw1110, kw12, by decide +kernel, by decide +kernel, by decide⟩
theorem kw1109 : Cond.instanceMethod ⟨"RopeRoundModel", "begins", "(II)V"⟩ ∈ tg := kt 1109 (by decide +kernel) (by decide +kernel)
theorem kw1107 : Cond.methodLink "RopeRoundModel" 157 ⟨"RopeRoundModel", "begins", "(II)V"⟩ ∈ tg := kt 1107 (by decide +kernel) (by decide +kernel)
theorem vk105 : ∀ ci y, (fun k => if k = 11 then some 150 else none) ci = some y → (∃ C T N, ClsOk ci C T N ∧ VOk mT "RopeRoundModel" 157 C y 2) ∨ (ci = 201 ∧ VOk mT "RopeRoundModel" 157 "java/lang/String" y 2) := by
  intro ci y h
  dsimp only at h
  by_cases h11 : ci = 11
  · subst h11
    have h := (Option.some.inj (by simpa using h)).symm
    subst h
    exact Or.inl ⟨_, _, _, okC11, ⟨mo150, kw1109, Or.inl ⟨rfl, kw1107, (ks (q := (⟨"RopeRoundModel", "begins", "(II)V"⟩, 37)) (by decide +kernel))⟩⟩⟩
  rw [if_neg h11] at h
  cases h
set_option maxRecDepth 100000 in
theorem kw1118 : Cond.code ⟨"RopeRoundModel", "isCells", "()Z"⟩ prog_13_method_23_code 4 (some FieldType.boolean) ∈ tg := kt 1118 rfl rfl
theorem mo151 : MOk (mT 151) 0 := ⟨kw1118, kw12, by decide +kernel, by decide +kernel, by decide⟩
theorem kw1117 : Cond.instanceMethod ⟨"RopeRoundModel", "isCells", "()Z"⟩ ∈ tg := kt 1117 (by decide +kernel) (by decide +kernel)
theorem kw1115 : Cond.methodLink "RopeRoundModel" 161 ⟨"RopeRoundModel", "isCells", "()Z"⟩ ∈ tg := kt 1115 (by decide +kernel) (by decide +kernel)
theorem vk106 : ∀ ci y, (fun k => if k = 11 then some 151 else none) ci = some y → (∃ C T N, ClsOk ci C T N ∧ VOk mT "RopeRoundModel" 161 C y 0) ∨ (ci = 201 ∧ VOk mT "RopeRoundModel" 161 "java/lang/String" y 0) := by
  intro ci y h
  dsimp only at h
  by_cases h11 : ci = 11
  · subst h11
    have h := (Option.some.inj (by simpa using h)).symm
    subst h
    exact Or.inl ⟨_, _, _, okC11, ⟨mo151, kw1117, Or.inl ⟨rfl, kw1115, (ks (q := (⟨"RopeRoundModel", "isCells", "()Z"⟩, 37)) (by decide +kernel))⟩⟩⟩
  rw [if_neg h11] at h
  cases h
set_option maxRecDepth 100000 in
theorem kw1124 : Cond.code ⟨"RopeRoundModel", "mustEnd", "()V"⟩ prog_13_method_21_code 1 none ∈ tg := kt 1124 rfl rfl
theorem mo149 : MOk (mT 149) 0 := ⟨kw1124, kw12, by decide +kernel, by decide +kernel, by decide⟩
theorem kw1123 : Cond.instanceMethod ⟨"RopeRoundModel", "mustEnd", "()V"⟩ ∈ tg := kt 1123 (by decide +kernel) (by decide +kernel)
theorem kw1121 : Cond.methodLink "RopeRoundModel" 165 ⟨"RopeRoundModel", "mustEnd", "()V"⟩ ∈ tg := kt 1121 (by decide +kernel) (by decide +kernel)
theorem vk107 : ∀ ci y, (fun k => if k = 11 then some 149 else none) ci = some y → (∃ C T N, ClsOk ci C T N ∧ VOk mT "RopeRoundModel" 165 C y 0) ∨ (ci = 201 ∧ VOk mT "RopeRoundModel" 165 "java/lang/String" y 0) := by
  intro ci y h
  dsimp only at h
  by_cases h11 : ci = 11
  · subst h11
    have h := (Option.some.inj (by simpa using h)).symm
    subst h
    exact Or.inl ⟨_, _, _, okC11, ⟨mo149, kw1123, Or.inl ⟨rfl, kw1121, (ks (q := (⟨"RopeRoundModel", "mustEnd", "()V"⟩, 37)) (by decide +kernel))⟩⟩⟩
  rw [if_neg h11] at h
  cases h
set_option maxRecDepth 100000 in
theorem kw1133 : Cond.code ⟨"RopeRoundModel", "number", "(II)I"⟩ prog_13_method_20_code 4 (some FieldType.int) ∈ tg := kt 1133 rfl rfl
theorem mo148 : MOk (mT 148) 2 := ⟨kw1133, kw12, by decide +kernel, by decide +kernel, by decide⟩
theorem kw1132 : Cond.instanceMethod ⟨"RopeRoundModel", "number", "(II)I"⟩ ∈ tg := kt 1132 (by decide +kernel) (by decide +kernel)
theorem kw1130 : Cond.methodLink "RopeRoundModel" 168 ⟨"RopeRoundModel", "number", "(II)I"⟩ ∈ tg := kt 1130 (by decide +kernel) (by decide +kernel)
theorem vk108 : ∀ ci y, (fun k => if k = 11 then some 148 else none) ci = some y → (∃ C T N, ClsOk ci C T N ∧ VOk mT "RopeRoundModel" 168 C y 2) ∨ (ci = 201 ∧ VOk mT "RopeRoundModel" 168 "java/lang/String" y 2) := by
  intro ci y h
  dsimp only at h
  by_cases h11 : ci = 11
  · subst h11
    have h := (Option.some.inj (by simpa using h)).symm
    subst h
    exact Or.inl ⟨_, _, _, okC11, ⟨mo148, kw1132, Or.inl ⟨rfl, kw1130, (ks (q := (⟨"RopeRoundModel", "number", "(II)I"⟩, 37)) (by decide +kernel))⟩⟩⟩
  rw [if_neg h11] at h
  cases h
set_option maxRecDepth 100000 in
theorem kw1098 : Cond.code ⟨"RopeRoundModel", "name", "()J"⟩ prog_13_method_18_code 4 (some FieldType.long) ∈ tg := kt 1098 rfl rfl
theorem mo146 : MOk (mT 146) 0 := ⟨kw1098, kw12, by decide +kernel, by decide +kernel, by decide⟩
theorem kw1097 : Cond.instanceMethod ⟨"RopeRoundModel", "name", "()J"⟩ ∈ tg := kt 1097 (by decide +kernel) (by decide +kernel)
theorem kw1095 : Cond.methodLink "RopeRoundModel" 172 ⟨"RopeRoundModel", "name", "()J"⟩ ∈ tg := kt 1095 (by decide +kernel) (by decide +kernel)
theorem vk109 : ∀ ci y, (fun k => if k = 11 then some 146 else none) ci = some y → (∃ C T N, ClsOk ci C T N ∧ VOk mT "RopeRoundModel" 172 C y 0) ∨ (ci = 201 ∧ VOk mT "RopeRoundModel" 172 "java/lang/String" y 0) := by
  intro ci y h
  dsimp only at h
  by_cases h11 : ci = 11
  · subst h11
    have h := (Option.some.inj (by simpa using h)).symm
    subst h
    exact Or.inl ⟨_, _, _, okC11, ⟨mo146, kw1097, Or.inl ⟨rfl, kw1095, (ks (q := (⟨"RopeRoundModel", "name", "()J"⟩, 37)) (by decide +kernel))⟩⟩⟩
  rw [if_neg h11] at h
  cases h
set_option maxRecDepth 100000 in
theorem kw1074 : Cond.code ⟨"RopeRoundModel", "begin", "()V"⟩ prog_13_method_15_code 1 none ∈ tg := kt 1074 rfl rfl
theorem mo143 : MOk (mT 143) 0 := ⟨kw1074, kw12, by decide +kernel, by decide +kernel, by decide⟩
theorem kw1073 : Cond.instanceMethod ⟨"RopeRoundModel", "begin", "()V"⟩ ∈ tg := kt 1073 (by decide +kernel) (by decide +kernel)
theorem kw1071 : Cond.methodLink "RopeRoundModel" 176 ⟨"RopeRoundModel", "begin", "()V"⟩ ∈ tg := kt 1071 (by decide +kernel) (by decide +kernel)
theorem vk110 : ∀ ci y, (fun k => if k = 11 then some 143 else none) ci = some y → (∃ C T N, ClsOk ci C T N ∧ VOk mT "RopeRoundModel" 176 C y 0) ∨ (ci = 201 ∧ VOk mT "RopeRoundModel" 176 "java/lang/String" y 0) := by
  intro ci y h
  dsimp only at h
  by_cases h11 : ci = 11
  · subst h11
    have h := (Option.some.inj (by simpa using h)).symm
    subst h
    exact Or.inl ⟨_, _, _, okC11, ⟨mo143, kw1073, Or.inl ⟨rfl, kw1071, (ks (q := (⟨"RopeRoundModel", "begin", "()V"⟩, 37)) (by decide +kernel))⟩⟩⟩
  rw [if_neg h11] at h
  cases h
theorem kw1090 : Cond.constantLong "RopeRoundModel" 179 7499639 ∈ tg := kt 1090 (by decide +kernel) (by decide +kernel)
set_option maxRecDepth 100000 in
theorem kw1094 : Cond.code ⟨"RopeRoundModel", "mustBegin", "(J)V"⟩ prog_13_method_27_code 3 none ∈ tg := kt 1094 rfl rfl
theorem mo155 : MOk (mT 155) 1 := ⟨kw1094, kw12, by decide +kernel, by decide +kernel, by decide⟩
theorem kw1093 : Cond.instanceMethod ⟨"RopeRoundModel", "mustBegin", "(J)V"⟩ ∈ tg := kt 1093 (by decide +kernel) (by decide +kernel)
theorem kw1091 : Cond.methodLink "RopeRoundModel" 181 ⟨"RopeRoundModel", "mustBegin", "(J)V"⟩ ∈ tg := kt 1091 (by decide +kernel) (by decide +kernel)
theorem vk111 : ∀ ci y, (fun k => if k = 11 then some 155 else none) ci = some y → (∃ C T N, ClsOk ci C T N ∧ VOk mT "RopeRoundModel" 181 C y 1) ∨ (ci = 201 ∧ VOk mT "RopeRoundModel" 181 "java/lang/String" y 1) := by
  intro ci y h
  dsimp only at h
  by_cases h11 : ci = 11
  · subst h11
    have h := (Option.some.inj (by simpa using h)).symm
    subst h
    exact Or.inl ⟨_, _, _, okC11, ⟨mo155, kw1093, Or.inl ⟨rfl, kw1091, (ks (q := (⟨"RopeRoundModel", "mustBegin", "(J)V"⟩, 37)) (by decide +kernel))⟩⟩⟩
  rw [if_neg h11] at h
  cases h
set_option maxRecDepth 100000 in
theorem kw1106 : Cond.code ⟨"RopeRoundModel", "readRow", "()V"⟩ prog_13_method_24_code 4 none ∈ tg := kt 1106 rfl rfl
theorem mo152 : MOk (mT 152) 0 := ⟨kw1106, kw12, by decide +kernel, by decide +kernel, by decide⟩
theorem kw1105 : Cond.instanceMethod ⟨"RopeRoundModel", "readRow", "()V"⟩ ∈ tg := kt 1105 (by decide +kernel) (by decide +kernel)
theorem kw1103 : Cond.methodLink "RopeRoundModel" 185 ⟨"RopeRoundModel", "readRow", "()V"⟩ ∈ tg := kt 1103 (by decide +kernel) (by decide +kernel)
theorem vk112 : ∀ ci y, (fun k => if k = 11 then some 152 else none) ci = some y → (∃ C T N, ClsOk ci C T N ∧ VOk mT "RopeRoundModel" 185 C y 0) ∨ (ci = 201 ∧ VOk mT "RopeRoundModel" 185 "java/lang/String" y 0) := by
  intro ci y h
  dsimp only at h
  by_cases h11 : ci = 11
  · subst h11
    have h := (Option.some.inj (by simpa using h)).symm
    subst h
    exact Or.inl ⟨_, _, _, okC11, ⟨mo152, kw1105, Or.inl ⟨rfl, kw1103, (ks (q := (⟨"RopeRoundModel", "readRow", "()V"⟩, 37)) (by decide +kernel))⟩⟩⟩
  rw [if_neg h11] at h
  cases h
theorem kw1125 : Cond.constantLong "RopeRoundModel" 188 495874698853 ∈ tg := kt 1125 (by decide +kernel) (by decide +kernel)
set_option maxRecDepth 100000 in
theorem kw1129 : Cond.code ⟨"RopeRoundModel", "readStone", "()V"⟩ prog_13_method_25_code 3 none ∈ tg := kt 1129 rfl rfl
theorem mo153 : MOk (mT 153) 0 := ⟨kw1129, kw12, by decide +kernel, by decide +kernel, by decide⟩
theorem kw1128 : Cond.instanceMethod ⟨"RopeRoundModel", "readStone", "()V"⟩ ∈ tg := kt 1128 (by decide +kernel) (by decide +kernel)
theorem kw1126 : Cond.methodLink "RopeRoundModel" 190 ⟨"RopeRoundModel", "readStone", "()V"⟩ ∈ tg := kt 1126 (by decide +kernel) (by decide +kernel)
theorem vk113 : ∀ ci y, (fun k => if k = 11 then some 153 else none) ci = some y → (∃ C T N, ClsOk ci C T N ∧ VOk mT "RopeRoundModel" 190 C y 0) ∨ (ci = 201 ∧ VOk mT "RopeRoundModel" 190 "java/lang/String" y 0) := by
  intro ci y h
  dsimp only at h
  by_cases h11 : ci = 11
  · subst h11
    have h := (Option.some.inj (by simpa using h)).symm
    subst h
    exact Or.inl ⟨_, _, _, okC11, ⟨mo153, kw1128, Or.inl ⟨rfl, kw1126, (ks (q := (⟨"RopeRoundModel", "readStone", "()V"⟩, 37)) (by decide +kernel))⟩⟩⟩
  rw [if_neg h11] at h
  cases h
theorem kw1138 : Cond.constantLong "RopeRoundModel" 193 7168366 ∈ tg := kt 1138 (by decide +kernel) (by decide +kernel)
set_option maxRecDepth 100000 in
theorem kw1142 : Cond.code ⟨"RopeRoundModel", "readMan", "()V"⟩ prog_13_method_26_code 4 none ∈ tg := kt 1142 rfl rfl
theorem mo154 : MOk (mT 154) 0 := ⟨kw1142, kw12, by decide +kernel, by decide +kernel, by decide⟩
theorem kw1141 : Cond.instanceMethod ⟨"RopeRoundModel", "readMan", "()V"⟩ ∈ tg := kt 1141 (by decide +kernel) (by decide +kernel)
theorem kw1139 : Cond.methodLink "RopeRoundModel" 195 ⟨"RopeRoundModel", "readMan", "()V"⟩ ∈ tg := kt 1139 (by decide +kernel) (by decide +kernel)
theorem vk114 : ∀ ci y, (fun k => if k = 11 then some 154 else none) ci = some y → (∃ C T N, ClsOk ci C T N ∧ VOk mT "RopeRoundModel" 195 C y 0) ∨ (ci = 201 ∧ VOk mT "RopeRoundModel" 195 "java/lang/String" y 0) := by
  intro ci y h
  dsimp only at h
  by_cases h11 : ci = 11
  · subst h11
    have h := (Option.some.inj (by simpa using h)).symm
    subst h
    exact Or.inl ⟨_, _, _, okC11, ⟨mo154, kw1141, Or.inl ⟨rfl, kw1139, (ks (q := (⟨"RopeRoundModel", "readMan", "()V"⟩, 37)) (by decide +kernel))⟩⟩⟩
  rw [if_neg h11] at h
  cases h
theorem kw927 : Cond.fieldLink "RopeRoundModel" 198 "RopeRoundModel" "latest" "I" ∈ tg := kt 927 (by decide +kernel) (by decide +kernel)
theorem gf169 : gF "RopeRoundModel" 198 10 (fun k => k = 11) (fun n => n = 0 ∨ n = 4) := by
  refine ⟨_, _, _, kw927, fun ci h => ?_⟩
  rcases h with rfl
  · exact ⟨_, _, _, okC11, by decide, rfl, rfl, Or.inl rfl, Or.inl rfl⟩
theorem gf169w : gF "RopeRoundModel" 198 10 (fun k => k = 11) (fun n => n = 0) := by
  refine ⟨_, _, _, kw927, fun ci h => ?_⟩
  rcases h with rfl
  · exact ⟨_, _, _, okC11, by decide, rfl, rfl, Or.inl rfl, rfl⟩
theorem kw1143 : Cond.constant "RopeRoundModel" 201 (-1000100) ∈ tg := kt 1143 (by decide +kernel) (by decide +kernel)
theorem kw924 : Cond.fieldLink "RopeRoundModel" 202 "RopeRoundModel" "isThere" "Z" ∈ tg := kt 924 (by decide +kernel) (by decide +kernel)
theorem gf170 : gF "RopeRoundModel" 202 7 (fun k => k = 11) (fun n => n = 0 ∨ n = 4) := by
  refine ⟨_, _, _, kw924, fun ci h => ?_⟩
  rcases h with rfl
  · exact ⟨_, _, _, okC11, by decide, rfl, rfl, Or.inl rfl, Or.inr rfl⟩
theorem gf170w : gF "RopeRoundModel" 202 7 (fun k => k = 11) (fun n => n = 4) := by
  refine ⟨_, _, _, kw924, fun ci h => ?_⟩
  rcases h with rfl
  · exact ⟨_, _, _, okC11, by decide, rfl, rfl, Or.inl rfl, rfl⟩
theorem gf171 : gF "RopeRoundModel" 19 5 (fun k => k = 11) (fun n => n = 2) := by
  refine ⟨_, _, _, kw922, fun ci h => ?_⟩
  rcases h with rfl
  · exact ⟨_, _, _, okC11, by decide, rfl, rfl, Or.inl rfl, rfl⟩
set_option maxRecDepth 100000 in
theorem kw1147 : Cond.code ⟨"RopeRoundModel", "layRings", "()V"⟩ prog_13_method_36_code 8 none ∈ tg := kt 1147 rfl rfl
theorem mo164 : MOk (mT 164) 0 := ⟨kw1147, kw12, by decide +kernel, by decide +kernel, by decide⟩
theorem kw1146 : Cond.instanceMethod ⟨"RopeRoundModel", "layRings", "()V"⟩ ∈ tg := kt 1146 (by decide +kernel) (by decide +kernel)
theorem kw1144 : Cond.methodLink "RopeRoundModel" 206 ⟨"RopeRoundModel", "layRings", "()V"⟩ ∈ tg := kt 1144 (by decide +kernel) (by decide +kernel)
theorem vk115 : ∀ ci y, (fun k => if k = 11 then some 164 else none) ci = some y → (∃ C T N, ClsOk ci C T N ∧ VOk mT "RopeRoundModel" 206 C y 0) ∨ (ci = 201 ∧ VOk mT "RopeRoundModel" 206 "java/lang/String" y 0) := by
  intro ci y h
  dsimp only at h
  by_cases h11 : ci = 11
  · subst h11
    have h := (Option.some.inj (by simpa using h)).symm
    subst h
    exact Or.inl ⟨_, _, _, okC11, ⟨mo164, kw1146, Or.inl ⟨rfl, kw1144, (ks (q := (⟨"RopeRoundModel", "layRings", "()V"⟩, 37)) (by decide +kernel))⟩⟩⟩
  rw [if_neg h11] at h
  cases h
set_option maxRecDepth 100000 in
theorem kw1155 : Cond.code ⟨"RopeRoundModel", "next", "(II)I"⟩ prog_13_method_33_code 5 (some FieldType.int) ∈ tg := kt 1155 rfl rfl
theorem mo161 : MOk (mT 161) 2 := ⟨kw1155, kw12, by decide +kernel, by decide +kernel, by decide⟩
theorem kw1154 : Cond.instanceMethod ⟨"RopeRoundModel", "next", "(II)I"⟩ ∈ tg := kt 1154 (by decide +kernel) (by decide +kernel)
theorem kw1152 : Cond.methodLink "RopeRoundModel" 209 ⟨"RopeRoundModel", "next", "(II)I"⟩ ∈ tg := kt 1152 (by decide +kernel) (by decide +kernel)
theorem vk116 : ∀ ci y, (fun k => if k = 11 then some 161 else none) ci = some y → (∃ C T N, ClsOk ci C T N ∧ VOk mT "RopeRoundModel" 209 C y 2) ∨ (ci = 201 ∧ VOk mT "RopeRoundModel" 209 "java/lang/String" y 2) := by
  intro ci y h
  dsimp only at h
  by_cases h11 : ci = 11
  · subst h11
    have h := (Option.some.inj (by simpa using h)).symm
    subst h
    exact Or.inl ⟨_, _, _, okC11, ⟨mo161, kw1154, Or.inl ⟨rfl, kw1152, (ks (q := (⟨"RopeRoundModel", "next", "(II)I"⟩, 37)) (by decide +kernel))⟩⟩⟩
  rw [if_neg h11] at h
  cases h
theorem kw937 : Cond.fieldLink "RopeRoundModel" 211 "RopeRoundModel" "ringed" "J" ∈ tg := kt 937 (by decide +kernel) (by decide +kernel)
theorem gf172 : gF "RopeRoundModel" 211 20 (fun k => k = 11) (fun n => n = 1) := by
  refine ⟨_, _, _, kw937, fun ci h => ?_⟩
  rcases h with rfl
  · exact ⟨_, _, _, okC11, by decide, rfl, rfl, Or.inl rfl, rfl⟩
theorem gf173 : gF "RopeRoundModel" 28 18 (fun k => k = 11) (fun n => n = 2) := by
  refine ⟨_, _, _, kw935, fun ci h => ?_⟩
  rcases h with rfl
  · exact ⟨_, _, _, okC11, by decide, rfl, rfl, Or.inl rfl, rfl⟩
theorem gf174 : gF "RopeRoundModel" 32 19 (fun k => k = 11) (fun n => n = 2) := by
  refine ⟨_, _, _, kw936, fun ci h => ?_⟩
  rcases h with rfl
  · exact ⟨_, _, _, okC11, by decide, rfl, rfl, Or.inl rfl, rfl⟩
set_option maxRecDepth 100000 in
theorem kw1151 : Cond.code ⟨"RopeRoundModel", "within", "(I[III)J"⟩ prog_13_method_35_code 14 (some FieldType.long) ∈ tg := kt 1151 rfl rfl
theorem mo163 : MOk (mT 163) 4 := ⟨kw1151, kw12, by decide +kernel, by decide +kernel, by decide⟩
theorem kw1150 : Cond.instanceMethod ⟨"RopeRoundModel", "within", "(I[III)J"⟩ ∈ tg := kt 1150 (by decide +kernel) (by decide +kernel)
theorem kw1148 : Cond.methodLink "RopeRoundModel" 215 ⟨"RopeRoundModel", "within", "(I[III)J"⟩ ∈ tg := kt 1148 (by decide +kernel) (by decide +kernel)
theorem vk117 : ∀ ci y, (fun k => if k = 11 then some 163 else none) ci = some y → (∃ C T N, ClsOk ci C T N ∧ VOk mT "RopeRoundModel" 215 C y 4) ∨ (ci = 201 ∧ VOk mT "RopeRoundModel" 215 "java/lang/String" y 4) := by
  intro ci y h
  dsimp only at h
  by_cases h11 : ci = 11
  · subst h11
    have h := (Option.some.inj (by simpa using h)).symm
    subst h
    exact Or.inl ⟨_, _, _, okC11, ⟨mo163, kw1150, Or.inl ⟨rfl, kw1148, (ks (q := (⟨"RopeRoundModel", "within", "(I[III)J"⟩, 37)) (by decide +kernel))⟩⟩⟩
  rw [if_neg h11] at h
  cases h
set_option maxRecDepth 100000 in
theorem kw1176 : Cond.code ⟨"RopeRoundModel", "waterAt", "(II)I"⟩ prog_13_method_34_code 3 (some FieldType.int) ∈ tg := kt 1176 rfl rfl
theorem mo162 : MOk (mT 162) 2 := ⟨kw1176, kw12, by decide +kernel, by decide +kernel, by decide⟩
theorem kw1175 : Cond.instanceMethod ⟨"RopeRoundModel", "waterAt", "(II)I"⟩ ∈ tg := kt 1175 (by decide +kernel) (by decide +kernel)
theorem kw1173 : Cond.methodLink "RopeRoundModel" 219 ⟨"RopeRoundModel", "waterAt", "(II)I"⟩ ∈ tg := kt 1173 (by decide +kernel) (by decide +kernel)
theorem vk118 : ∀ ci y, (fun k => if k = 11 then some 162 else none) ci = some y → (∃ C T N, ClsOk ci C T N ∧ VOk mT "RopeRoundModel" 219 C y 2) ∨ (ci = 201 ∧ VOk mT "RopeRoundModel" 219 "java/lang/String" y 2) := by
  intro ci y h
  dsimp only at h
  by_cases h11 : ci = 11
  · subst h11
    have h := (Option.some.inj (by simpa using h)).symm
    subst h
    exact Or.inl ⟨_, _, _, okC11, ⟨mo162, kw1175, Or.inl ⟨rfl, kw1173, (ks (q := (⟨"RopeRoundModel", "waterAt", "(II)I"⟩, 37)) (by decide +kernel))⟩⟩⟩
  rw [if_neg h11] at h
  cases h
set_option maxRecDepth 100000 in
theorem kw1167 : Cond.code ⟨"RopeRoundModel", "isCorner", "(I)Z"⟩ prog_13_method_30_code 2 (some FieldType.boolean) ∈ tg := kt 1167 rfl rfl
theorem mo158 : MOk (mT 158) 1 := ⟨kw1167, kw12, by decide +kernel, by decide +kernel, by decide⟩
theorem kw1166 : Cond.instanceMethod ⟨"RopeRoundModel", "isCorner", "(I)Z"⟩ ∈ tg := kt 1166 (by decide +kernel) (by decide +kernel)
theorem kw1164 : Cond.methodLink "RopeRoundModel" 222 ⟨"RopeRoundModel", "isCorner", "(I)Z"⟩ ∈ tg := kt 1164 (by decide +kernel) (by decide +kernel)
theorem vk119 : ∀ ci y, (fun k => if k = 11 then some 158 else none) ci = some y → (∃ C T N, ClsOk ci C T N ∧ VOk mT "RopeRoundModel" 222 C y 1) ∨ (ci = 201 ∧ VOk mT "RopeRoundModel" 222 "java/lang/String" y 1) := by
  intro ci y h
  dsimp only at h
  by_cases h11 : ci = 11
  · subst h11
    have h := (Option.some.inj (by simpa using h)).symm
    subst h
    exact Or.inl ⟨_, _, _, okC11, ⟨mo158, kw1166, Or.inl ⟨rfl, kw1164, (ks (q := (⟨"RopeRoundModel", "isCorner", "(I)Z"⟩, 37)) (by decide +kernel))⟩⟩⟩
  rw [if_neg h11] at h
  cases h
theorem kw1168 : Cond.constantLong "RopeRoundModel" 225 3 ∈ tg := kt 1168 (by decide +kernel) (by decide +kernel)
set_option maxRecDepth 100000 in
theorem kw1172 : Cond.code ⟨"RopeRoundModel", "takesFrom", "(II)I"⟩ prog_13_method_39_code 8 (some FieldType.int) ∈ tg := kt 1172 rfl rfl
theorem mo167 : MOk (mT 167) 2 := ⟨kw1172, kw12, by decide +kernel, by decide +kernel, by decide⟩
theorem kw1171 : Cond.instanceMethod ⟨"RopeRoundModel", "takesFrom", "(II)I"⟩ ∈ tg := kt 1171 (by decide +kernel) (by decide +kernel)
theorem kw1169 : Cond.methodLink "RopeRoundModel" 227 ⟨"RopeRoundModel", "takesFrom", "(II)I"⟩ ∈ tg := kt 1169 (by decide +kernel) (by decide +kernel)
theorem vk120 : ∀ ci y, (fun k => if k = 11 then some 167 else none) ci = some y → (∃ C T N, ClsOk ci C T N ∧ VOk mT "RopeRoundModel" 227 C y 2) ∨ (ci = 201 ∧ VOk mT "RopeRoundModel" 227 "java/lang/String" y 2) := by
  intro ci y h
  dsimp only at h
  by_cases h11 : ci = 11
  · subst h11
    have h := (Option.some.inj (by simpa using h)).symm
    subst h
    exact Or.inl ⟨_, _, _, okC11, ⟨mo167, kw1171, Or.inl ⟨rfl, kw1169, (ks (q := (⟨"RopeRoundModel", "takesFrom", "(II)I"⟩, 37)) (by decide +kernel))⟩⟩⟩
  rw [if_neg h11] at h
  cases h
theorem kw1204 : Cond.constant "RopeRoundModel" 230 (-1000200) ∈ tg := kt 1204 (by decide +kernel) (by decide +kernel)
theorem gf175 : gF "RopeRoundModel" 35 21 (fun k => k = 11) (fun n => n = 2) := by
  refine ⟨_, _, _, kw938, fun ci h => ?_⟩
  rcases h with rfl
  · exact ⟨_, _, _, okC11, by decide, rfl, rfl, Or.inl rfl, rfl⟩
theorem kw1201 : Cond.methodLink "RopeRoundModel" 231 ⟨"RopeRoundModel", "faulty", "(II)I"⟩ ∈ tg := kt 1201 (by decide +kernel) (by decide +kernel)
theorem kw1202 : Cond.static ⟨"RopeRoundModel", "faulty", "(II)I"⟩ ∈ tg := kt 1202 (by decide +kernel) (by decide +kernel)
set_option maxRecDepth 100000 in
theorem kw1203 : Cond.code ⟨"RopeRoundModel", "faulty", "(II)I"⟩ prog_13_method_41_code 2 (some FieldType.int) ∈ tg := kt 1203 rfl rfl
theorem mo169 : MOk (mT 169) 2 := ⟨kw1203, kw12, by decide +kernel, by decide +kernel, by decide⟩
set_option maxRecDepth 100000 in
theorem kw1208 : Cond.code ⟨"RopeRoundModel", "worthOf", "(J)I"⟩ prog_13_method_37_code 5 (some FieldType.int) ∈ tg := kt 1208 rfl rfl
theorem mo165 : MOk (mT 165) 1 := ⟨kw1208, kw12, by decide +kernel, by decide +kernel, by decide⟩
theorem kw1207 : Cond.instanceMethod ⟨"RopeRoundModel", "worthOf", "(J)I"⟩ ∈ tg := kt 1207 (by decide +kernel) (by decide +kernel)
theorem kw1205 : Cond.methodLink "RopeRoundModel" 234 ⟨"RopeRoundModel", "worthOf", "(J)I"⟩ ∈ tg := kt 1205 (by decide +kernel) (by decide +kernel)
theorem vk121 : ∀ ci y, (fun k => if k = 11 then some 165 else none) ci = some y → (∃ C T N, ClsOk ci C T N ∧ VOk mT "RopeRoundModel" 234 C y 1) ∨ (ci = 201 ∧ VOk mT "RopeRoundModel" 234 "java/lang/String" y 1) := by
  intro ci y h
  dsimp only at h
  by_cases h11 : ci = 11
  · subst h11
    have h := (Option.some.inj (by simpa using h)).symm
    subst h
    exact Or.inl ⟨_, _, _, okC11, ⟨mo165, kw1207, Or.inl ⟨rfl, kw1205, (ks (q := (⟨"RopeRoundModel", "worthOf", "(J)I"⟩, 37)) (by decide +kernel))⟩⟩⟩
  rw [if_neg h11] at h
  cases h
set_option maxRecDepth 100000 in
theorem kw1196 : Cond.code ⟨"RopeRoundModel", "lack", "(III)I"⟩ prog_13_method_43_code 4 (some FieldType.int) ∈ tg := kt 1196 rfl rfl
theorem mo171 : MOk (mT 171) 3 := ⟨kw1196, kw12, by decide +kernel, by decide +kernel, by decide⟩
theorem kw1195 : Cond.instanceMethod ⟨"RopeRoundModel", "lack", "(III)I"⟩ ∈ tg := kt 1195 (by decide +kernel) (by decide +kernel)
theorem kw1193 : Cond.methodLink "RopeRoundModel" 238 ⟨"RopeRoundModel", "lack", "(III)I"⟩ ∈ tg := kt 1193 (by decide +kernel) (by decide +kernel)
theorem vk122 : ∀ ci y, (fun k => if k = 11 then some 171 else none) ci = some y → (∃ C T N, ClsOk ci C T N ∧ VOk mT "RopeRoundModel" 238 C y 3) ∨ (ci = 201 ∧ VOk mT "RopeRoundModel" 238 "java/lang/String" y 3) := by
  intro ci y h
  dsimp only at h
  by_cases h11 : ci = 11
  · subst h11
    have h := (Option.some.inj (by simpa using h)).symm
    subst h
    exact Or.inl ⟨_, _, _, okC11, ⟨mo171, kw1195, Or.inl ⟨rfl, kw1193, (ks (q := (⟨"RopeRoundModel", "lack", "(III)I"⟩, 37)) (by decide +kernel))⟩⟩⟩
  rw [if_neg h11] at h
  cases h
theorem kw1188 : Cond.constantLong "RopeRoundModel" 242 20 ∈ tg := kt 1188 (by decide +kernel) (by decide +kernel)
set_option maxRecDepth 100000 in
theorem kw1184 : Cond.code ⟨"RopeRoundModel", "isMan", "(I)Z"⟩ prog_13_method_32_code 2 (some FieldType.boolean) ∈ tg := kt 1184 rfl rfl
theorem mo160 : MOk (mT 160) 1 := ⟨kw1184, kw12, by decide +kernel, by decide +kernel, by decide⟩
theorem kw1183 : Cond.instanceMethod ⟨"RopeRoundModel", "isMan", "(I)Z"⟩ ∈ tg := kt 1183 (by decide +kernel) (by decide +kernel)
theorem kw1181 : Cond.methodLink "RopeRoundModel" 244 ⟨"RopeRoundModel", "isMan", "(I)Z"⟩ ∈ tg := kt 1181 (by decide +kernel) (by decide +kernel)
theorem vk123 : ∀ ci y, (fun k => if k = 11 then some 160 else none) ci = some y → (∃ C T N, ClsOk ci C T N ∧ VOk mT "RopeRoundModel" 244 C y 1) ∨ (ci = 201 ∧ VOk mT "RopeRoundModel" 244 "java/lang/String" y 1) := by
  intro ci y h
  dsimp only at h
  by_cases h11 : ci = 11
  · subst h11
    have h := (Option.some.inj (by simpa using h)).symm
    subst h
    exact Or.inl ⟨_, _, _, okC11, ⟨mo160, kw1183, Or.inl ⟨rfl, kw1181, (ks (q := (⟨"RopeRoundModel", "isMan", "(I)Z"⟩, 37)) (by decide +kernel))⟩⟩⟩
  rw [if_neg h11] at h
  cases h
theorem kw1185 : Cond.methodLink "RopeRoundModel" 247 ⟨"RopeRoundModel", "isLong", "(I)Z"⟩ ∈ tg := kt 1185 (by decide +kernel) (by decide +kernel)
theorem kw1186 : Cond.static ⟨"RopeRoundModel", "isLong", "(I)Z"⟩ ∈ tg := kt 1186 (by decide +kernel) (by decide +kernel)
set_option maxRecDepth 100000 in
theorem kw1187 : Cond.code ⟨"RopeRoundModel", "isLong", "(I)Z"⟩ prog_13_method_45_code 1 (some FieldType.boolean) ∈ tg := kt 1187 rfl rfl
theorem mo173 : MOk (mT 173) 1 := ⟨kw1187, kw12, by decide +kernel, by decide +kernel, by decide⟩
set_option maxRecDepth 100000 in
theorem kw1192 : Cond.code ⟨"RopeRoundModel", "barOf", "(III)I"⟩ prog_13_method_44_code 6 (some FieldType.int) ∈ tg := kt 1192 rfl rfl
theorem mo172 : MOk (mT 172) 3 := ⟨kw1192, kw12, by decide +kernel, by decide +kernel, by decide⟩
theorem kw1191 : Cond.instanceMethod ⟨"RopeRoundModel", "barOf", "(III)I"⟩ ∈ tg := kt 1191 (by decide +kernel) (by decide +kernel)
theorem kw1189 : Cond.methodLink "RopeRoundModel" 250 ⟨"RopeRoundModel", "barOf", "(III)I"⟩ ∈ tg := kt 1189 (by decide +kernel) (by decide +kernel)
theorem vk124 : ∀ ci y, (fun k => if k = 11 then some 172 else none) ci = some y → (∃ C T N, ClsOk ci C T N ∧ VOk mT "RopeRoundModel" 250 C y 3) ∨ (ci = 201 ∧ VOk mT "RopeRoundModel" 250 "java/lang/String" y 3) := by
  intro ci y h
  dsimp only at h
  by_cases h11 : ci = 11
  · subst h11
    have h := (Option.some.inj (by simpa using h)).symm
    subst h
    exact Or.inl ⟨_, _, _, okC11, ⟨mo172, kw1191, Or.inl ⟨rfl, kw1189, (ks (q := (⟨"RopeRoundModel", "barOf", "(III)I"⟩, 37)) (by decide +kernel))⟩⟩⟩
  rw [if_neg h11] at h
  cases h
set_option maxRecDepth 100000 in
theorem kw1200 : Cond.code ⟨"RopeRoundModel", "judged", "(III)I"⟩ prog_13_method_42_code 9 (some FieldType.int) ∈ tg := kt 1200 rfl rfl
theorem mo170 : MOk (mT 170) 3 := ⟨kw1200, kw12, by decide +kernel, by decide +kernel, by decide⟩
theorem kw1199 : Cond.instanceMethod ⟨"RopeRoundModel", "judged", "(III)I"⟩ ∈ tg := kt 1199 (by decide +kernel) (by decide +kernel)
theorem kw1197 : Cond.methodLink "RopeRoundModel" 253 ⟨"RopeRoundModel", "judged", "(III)I"⟩ ∈ tg := kt 1197 (by decide +kernel) (by decide +kernel)
theorem vk125 : ∀ ci y, (fun k => if k = 11 then some 170 else none) ci = some y → (∃ C T N, ClsOk ci C T N ∧ VOk mT "RopeRoundModel" 253 C y 3) ∨ (ci = 201 ∧ VOk mT "RopeRoundModel" 253 "java/lang/String" y 3) := by
  intro ci y h
  dsimp only at h
  by_cases h11 : ci = 11
  · subst h11
    have h := (Option.some.inj (by simpa using h)).symm
    subst h
    exact Or.inl ⟨_, _, _, okC11, ⟨mo170, kw1199, Or.inl ⟨rfl, kw1197, (ks (q := (⟨"RopeRoundModel", "judged", "(III)I"⟩, 37)) (by decide +kernel))⟩⟩⟩
  rw [if_neg h11] at h
  cases h
set_option maxRecDepth 100000 in
theorem kw1216 : Cond.code ⟨"RopeRoundModel", "hasRing", "(I)Z"⟩ prog_13_method_47_code 2 (some FieldType.boolean) ∈ tg := kt 1216 rfl rfl
theorem mo175 : MOk (mT 175) 1 := ⟨kw1216, kw12, by decide +kernel, by decide +kernel, by decide⟩
theorem kw1215 : Cond.instanceMethod ⟨"RopeRoundModel", "hasRing", "(I)Z"⟩ ∈ tg := kt 1215 (by decide +kernel) (by decide +kernel)
theorem kw1213 : Cond.methodLink "RopeRoundModel" 256 ⟨"RopeRoundModel", "hasRing", "(I)Z"⟩ ∈ tg := kt 1213 (by decide +kernel) (by decide +kernel)
theorem vk126 : ∀ ci y, (fun k => if k = 11 then some 175 else none) ci = some y → (∃ C T N, ClsOk ci C T N ∧ VOk mT "RopeRoundModel" 256 C y 1) ∨ (ci = 201 ∧ VOk mT "RopeRoundModel" 256 "java/lang/String" y 1) := by
  intro ci y h
  dsimp only at h
  by_cases h11 : ci = 11
  · subst h11
    have h := (Option.some.inj (by simpa using h)).symm
    subst h
    exact Or.inl ⟨_, _, _, okC11, ⟨mo175, kw1215, Or.inl ⟨rfl, kw1213, (ks (q := (⟨"RopeRoundModel", "hasRing", "(I)Z"⟩, 37)) (by decide +kernel))⟩⟩⟩
  rw [if_neg h11] at h
  cases h
theorem kw1217 : Cond.constant "RopeRoundModel" 259 (-1000002) ∈ tg := kt 1217 (by decide +kernel) (by decide +kernel)
set_option maxRecDepth 100000 in
theorem kw1225 : Cond.code ⟨"RopeRoundModel", "ringOf", "(I)J"⟩ prog_13_method_49_code 3 (some FieldType.long) ∈ tg := kt 1225 rfl rfl
theorem mo177 : MOk (mT 177) 1 := ⟨kw1225, kw12, by decide +kernel, by decide +kernel, by decide⟩
theorem kw1224 : Cond.instanceMethod ⟨"RopeRoundModel", "ringOf", "(I)J"⟩ ∈ tg := kt 1224 (by decide +kernel) (by decide +kernel)
theorem kw1222 : Cond.methodLink "RopeRoundModel" 260 ⟨"RopeRoundModel", "ringOf", "(I)J"⟩ ∈ tg := kt 1222 (by decide +kernel) (by decide +kernel)
theorem vk127 : ∀ ci y, (fun k => if k = 11 then some 177 else none) ci = some y → (∃ C T N, ClsOk ci C T N ∧ VOk mT "RopeRoundModel" 260 C y 1) ∨ (ci = 201 ∧ VOk mT "RopeRoundModel" 260 "java/lang/String" y 1) := by
  intro ci y h
  dsimp only at h
  by_cases h11 : ci = 11
  · subst h11
    have h := (Option.some.inj (by simpa using h)).symm
    subst h
    exact Or.inl ⟨_, _, _, okC11, ⟨mo177, kw1224, Or.inl ⟨rfl, kw1222, (ks (q := (⟨"RopeRoundModel", "ringOf", "(I)J"⟩, 37)) (by decide +kernel))⟩⟩⟩
  rw [if_neg h11] at h
  cases h
theorem kw1230 : Cond.methodLink "RopeRoundModel" 264 ⟨"RopeRoundModel", "onesOf", "(J)I"⟩ ∈ tg := kt 1230 (by decide +kernel) (by decide +kernel)
theorem kw1231 : Cond.static ⟨"RopeRoundModel", "onesOf", "(J)I"⟩ ∈ tg := kt 1231 (by decide +kernel) (by decide +kernel)
set_option maxRecDepth 100000 in
theorem kw1232 : Cond.code ⟨"RopeRoundModel", "onesOf", "(J)I"⟩ prog_13_method_38_code 4 (some FieldType.int) ∈ tg := kt 1232 rfl rfl
theorem mo166 : MOk (mT 166) 1 := ⟨kw1232, kw12, by decide +kernel, by decide +kernel, by decide⟩
set_option maxRecDepth 100000 in
theorem kw1240 : Cond.code ⟨"RopeRoundModel", "isCell", "(I)Z"⟩ prog_13_method_31_code 2 (some FieldType.boolean) ∈ tg := kt 1240 rfl rfl
theorem mo159 : MOk (mT 159) 1 := ⟨kw1240, kw12, by decide +kernel, by decide +kernel, by decide⟩
theorem kw1239 : Cond.instanceMethod ⟨"RopeRoundModel", "isCell", "(I)Z"⟩ ∈ tg := kt 1239 (by decide +kernel) (by decide +kernel)
theorem kw1237 : Cond.methodLink "RopeRoundModel" 267 ⟨"RopeRoundModel", "isCell", "(I)Z"⟩ ∈ tg := kt 1237 (by decide +kernel) (by decide +kernel)
theorem vk128 : ∀ ci y, (fun k => if k = 11 then some 159 else none) ci = some y → (∃ C T N, ClsOk ci C T N ∧ VOk mT "RopeRoundModel" 267 C y 1) ∨ (ci = 201 ∧ VOk mT "RopeRoundModel" 267 "java/lang/String" y 1) := by
  intro ci y h
  dsimp only at h
  by_cases h11 : ci = 11
  · subst h11
    have h := (Option.some.inj (by simpa using h)).symm
    subst h
    exact Or.inl ⟨_, _, _, okC11, ⟨mo159, kw1239, Or.inl ⟨rfl, kw1237, (ks (q := (⟨"RopeRoundModel", "isCell", "(I)Z"⟩, 37)) (by decide +kernel))⟩⟩⟩
  rw [if_neg h11] at h
  cases h
theorem gf176 : gF "RopeRoundModel" 41 23 (fun k => k = 11) (fun n => n = 2) := by
  refine ⟨_, _, _, kw940, fun ci h => ?_⟩
  rcases h with rfl
  · exact ⟨_, _, _, okC11, by decide, rfl, rfl, Or.inl rfl, rfl⟩
theorem gf177 : gF "RopeRoundModel" 44 24 (fun k => k = 11) (fun n => n = 2) := by
  refine ⟨_, _, _, kw941, fun ci h => ?_⟩
  rcases h with rfl
  · exact ⟨_, _, _, okC11, by decide, rfl, rfl, Or.inl rfl, rfl⟩
theorem gf178 : gF "RopeRoundModel" 38 22 (fun k => k = 11) (fun n => n = 2) := by
  refine ⟨_, _, _, kw939, fun ci h => ?_⟩
  rcases h with rfl
  · exact ⟨_, _, _, okC11, by decide, rfl, rfl, Or.inl rfl, rfl⟩
theorem gf179 : gF "RopeRoundModel" 47 25 (fun k => k = 11) (fun n => n = 2) := by
  refine ⟨_, _, _, kw942, fun ci h => ?_⟩
  rcases h with rfl
  · exact ⟨_, _, _, okC11, by decide, rfl, rfl, Or.inl rfl, rfl⟩
theorem gf180 : gF "RopeRoundModel" 50 26 (fun k => k = 11) (fun n => n = 2) := by
  refine ⟨_, _, _, kw943, fun ci h => ?_⟩
  rcases h with rfl
  · exact ⟨_, _, _, okC11, by decide, rfl, rfl, Or.inl rfl, rfl⟩
theorem gf181 : gF "RopeRoundModel" 53 27 (fun k => k = 11) (fun n => n = 2) := by
  refine ⟨_, _, _, kw944, fun ci h => ?_⟩
  rcases h with rfl
  · exact ⟨_, _, _, okC11, by decide, rfl, rfl, Or.inl rfl, rfl⟩
theorem kw946 : Cond.fieldLink "RopeRoundModel" 270 "RopeRoundModel" "inside" "J" ∈ tg := kt 946 (by decide +kernel) (by decide +kernel)
theorem gf182 : gF "RopeRoundModel" 270 29 (fun k => k = 11) (fun n => n = 1) := by
  refine ⟨_, _, _, kw946, fun ci h => ?_⟩
  rcases h with rfl
  · exact ⟨_, _, _, okC11, by decide, rfl, rfl, Or.inl rfl, rfl⟩
theorem gf183 : gF "RopeRoundModel" 56 28 (fun k => k = 11) (fun n => n = 2) := by
  refine ⟨_, _, _, kw945, fun ci h => ?_⟩
  rcases h with rfl
  · exact ⟨_, _, _, okC11, by decide, rfl, rfl, Or.inl rfl, rfl⟩
set_option maxRecDepth 100000 in
theorem kw1261 : Cond.code ⟨"RopeRoundModel", "shuts", "(I)Z"⟩ prog_13_method_56_code 3 (some FieldType.boolean) ∈ tg := kt 1261 rfl rfl
theorem mo184 : MOk (mT 184) 1 := ⟨kw1261, kw12, by decide +kernel, by decide +kernel, by decide⟩
theorem kw1260 : Cond.instanceMethod ⟨"RopeRoundModel", "shuts", "(I)Z"⟩ ∈ tg := kt 1260 (by decide +kernel) (by decide +kernel)
theorem kw1258 : Cond.methodLink "RopeRoundModel" 273 ⟨"RopeRoundModel", "shuts", "(I)Z"⟩ ∈ tg := kt 1258 (by decide +kernel) (by decide +kernel)
theorem vk129 : ∀ ci y, (fun k => if k = 11 then some 184 else none) ci = some y → (∃ C T N, ClsOk ci C T N ∧ VOk mT "RopeRoundModel" 273 C y 1) ∨ (ci = 201 ∧ VOk mT "RopeRoundModel" 273 "java/lang/String" y 1) := by
  intro ci y h
  dsimp only at h
  by_cases h11 : ci = 11
  · subst h11
    have h := (Option.some.inj (by simpa using h)).symm
    subst h
    exact Or.inl ⟨_, _, _, okC11, ⟨mo184, kw1260, Or.inl ⟨rfl, kw1258, (ks (q := (⟨"RopeRoundModel", "shuts", "(I)Z"⟩, 37)) (by decide +kernel))⟩⟩⟩
  rw [if_neg h11] at h
  cases h
set_option maxRecDepth 100000 in
theorem kw1265 : Cond.code ⟨"RopeRoundModel", "wasAt", "(II)Z"⟩ prog_13_method_55_code 5 (some FieldType.boolean) ∈ tg := kt 1265 rfl rfl
theorem mo183 : MOk (mT 183) 2 := ⟨kw1265, kw12, by decide +kernel, by decide +kernel, by decide⟩
theorem kw1264 : Cond.instanceMethod ⟨"RopeRoundModel", "wasAt", "(II)Z"⟩ ∈ tg := kt 1264 (by decide +kernel) (by decide +kernel)
theorem kw1262 : Cond.methodLink "RopeRoundModel" 276 ⟨"RopeRoundModel", "wasAt", "(II)Z"⟩ ∈ tg := kt 1262 (by decide +kernel) (by decide +kernel)
theorem vk130 : ∀ ci y, (fun k => if k = 11 then some 183 else none) ci = some y → (∃ C T N, ClsOk ci C T N ∧ VOk mT "RopeRoundModel" 276 C y 2) ∨ (ci = 201 ∧ VOk mT "RopeRoundModel" 276 "java/lang/String" y 2) := by
  intro ci y h
  dsimp only at h
  by_cases h11 : ci = 11
  · subst h11
    have h := (Option.some.inj (by simpa using h)).symm
    subst h
    exact Or.inl ⟨_, _, _, okC11, ⟨mo183, kw1264, Or.inl ⟨rfl, kw1262, (ks (q := (⟨"RopeRoundModel", "wasAt", "(II)Z"⟩, 37)) (by decide +kernel))⟩⟩⟩
  rw [if_neg h11] at h
  cases h
theorem kw1266 : Cond.methodLink "RopeRoundModel" 280 ⟨"RopeRoundModel", "apart", "(II)I"⟩ ∈ tg := kt 1266 (by decide +kernel) (by decide +kernel)
theorem kw1267 : Cond.static ⟨"RopeRoundModel", "apart", "(II)I"⟩ ∈ tg := kt 1267 (by decide +kernel) (by decide +kernel)
set_option maxRecDepth 100000 in
theorem kw1268 : Cond.code ⟨"RopeRoundModel", "apart", "(II)I"⟩ prog_13_method_54_code 4 (some FieldType.int) ∈ tg := kt 1268 rfl rfl
theorem mo182 : MOk (mT 182) 2 := ⟨kw1268, kw12, by decide +kernel, by decide +kernel, by decide⟩
set_option maxRecDepth 100000 in
theorem kw1253 : Cond.code ⟨"RopeRoundModel", "startAt", "(IIII)V"⟩ prog_13_method_53_code 5 none ∈ tg := kt 1253 rfl rfl
theorem mo181 : MOk (mT 181) 4 := ⟨kw1253, kw12, by decide +kernel, by decide +kernel, by decide⟩
theorem kw1252 : Cond.instanceMethod ⟨"RopeRoundModel", "startAt", "(IIII)V"⟩ ∈ tg := kt 1252 (by decide +kernel) (by decide +kernel)
theorem kw1250 : Cond.methodLink "RopeRoundModel" 283 ⟨"RopeRoundModel", "startAt", "(IIII)V"⟩ ∈ tg := kt 1250 (by decide +kernel) (by decide +kernel)
theorem vk131 : ∀ ci y, (fun k => if k = 11 then some 181 else none) ci = some y → (∃ C T N, ClsOk ci C T N ∧ VOk mT "RopeRoundModel" 283 C y 4) ∨ (ci = 201 ∧ VOk mT "RopeRoundModel" 283 "java/lang/String" y 4) := by
  intro ci y h
  dsimp only at h
  by_cases h11 : ci = 11
  · subst h11
    have h := (Option.some.inj (by simpa using h)).symm
    subst h
    exact Or.inl ⟨_, _, _, okC11, ⟨mo181, kw1252, Or.inl ⟨rfl, kw1250, (ks (q := (⟨"RopeRoundModel", "startAt", "(IIII)V"⟩, 37)) (by decide +kernel))⟩⟩⟩
  rw [if_neg h11] at h
  cases h
set_option maxRecDepth 100000 in
theorem kw1257 : Cond.code ⟨"RopeRoundModel", "goesOn", "(I)Z"⟩ prog_13_method_57_code 6 (some FieldType.boolean) ∈ tg := kt 1257 rfl rfl
theorem mo185 : MOk (mT 185) 1 := ⟨kw1257, kw12, by decide +kernel, by decide +kernel, by decide⟩
theorem kw1256 : Cond.instanceMethod ⟨"RopeRoundModel", "goesOn", "(I)Z"⟩ ∈ tg := kt 1256 (by decide +kernel) (by decide +kernel)
theorem kw1254 : Cond.methodLink "RopeRoundModel" 287 ⟨"RopeRoundModel", "goesOn", "(I)Z"⟩ ∈ tg := kt 1254 (by decide +kernel) (by decide +kernel)
theorem vk132 : ∀ ci y, (fun k => if k = 11 then some 185 else none) ci = some y → (∃ C T N, ClsOk ci C T N ∧ VOk mT "RopeRoundModel" 287 C y 1) ∨ (ci = 201 ∧ VOk mT "RopeRoundModel" 287 "java/lang/String" y 1) := by
  intro ci y h
  dsimp only at h
  by_cases h11 : ci = 11
  · subst h11
    have h := (Option.some.inj (by simpa using h)).symm
    subst h
    exact Or.inl ⟨_, _, _, okC11, ⟨mo185, kw1256, Or.inl ⟨rfl, kw1254, (ks (q := (⟨"RopeRoundModel", "goesOn", "(I)Z"⟩, 37)) (by decide +kernel))⟩⟩⟩
  rw [if_neg h11] at h
  cases h
theorem kw948 : Cond.fieldLink "RopeRoundModel" 290 "RopeRoundModel" "bestSteps" "I" ∈ tg := kt 948 (by decide +kernel) (by decide +kernel)
theorem gf184 : gF "RopeRoundModel" 290 31 (fun k => k = 11) (fun n => n = 0 ∨ n = 4) := by
  refine ⟨_, _, _, kw948, fun ci h => ?_⟩
  rcases h with rfl
  · exact ⟨_, _, _, okC11, by decide, rfl, rfl, Or.inl rfl, Or.inl rfl⟩
theorem gf184w : gF "RopeRoundModel" 290 31 (fun k => k = 11) (fun n => n = 0) := by
  refine ⟨_, _, _, kw948, fun ci h => ?_⟩
  rcases h with rfl
  · exact ⟨_, _, _, okC11, by decide, rfl, rfl, Or.inl rfl, rfl⟩
theorem gf185 : gF "RopeRoundModel" 59 30 (fun k => k = 11) (fun n => n = 2) := by
  refine ⟨_, _, _, kw947, fun ci h => ?_⟩
  rcases h with rfl
  · exact ⟨_, _, _, okC11, by decide, rfl, rfl, Or.inl rfl, rfl⟩
theorem kw1245 : Cond.constantLong "RopeRoundModel" 293 12 ∈ tg := kt 1245 (by decide +kernel) (by decide +kernel)
set_option maxRecDepth 100000 in
theorem kw1249 : Cond.code ⟨"RopeRoundModel", "mostFrom", "(IIII)I"⟩ prog_13_method_58_code 8 (some FieldType.int) ∈ tg := kt 1249 rfl rfl
theorem mo186 : MOk (mT 186) 4 := ⟨kw1249, kw12, by decide +kernel, by decide +kernel, by decide⟩
theorem kw1248 : Cond.instanceMethod ⟨"RopeRoundModel", "mostFrom", "(IIII)I"⟩ ∈ tg := kt 1248 (by decide +kernel) (by decide +kernel)
theorem kw1246 : Cond.methodLink "RopeRoundModel" 295 ⟨"RopeRoundModel", "mostFrom", "(IIII)I"⟩ ∈ tg := kt 1246 (by decide +kernel) (by decide +kernel)
theorem vk133 : ∀ ci y, (fun k => if k = 11 then some 186 else none) ci = some y → (∃ C T N, ClsOk ci C T N ∧ VOk mT "RopeRoundModel" 295 C y 4) ∨ (ci = 201 ∧ VOk mT "RopeRoundModel" 295 "java/lang/String" y 4) := by
  intro ci y h
  dsimp only at h
  by_cases h11 : ci = 11
  · subst h11
    have h := (Option.some.inj (by simpa using h)).symm
    subst h
    exact Or.inl ⟨_, _, _, okC11, ⟨mo186, kw1248, Or.inl ⟨rfl, kw1246, (ks (q := (⟨"RopeRoundModel", "mostFrom", "(IIII)I"⟩, 37)) (by decide +kernel))⟩⟩⟩
  rw [if_neg h11] at h
  cases h
theorem kw1277 : Cond.methodLink "RopeRoundModel" 299 ⟨"RopeRoundModel", "orNothing", "(I)I"⟩ ∈ tg := kt 1277 (by decide +kernel) (by decide +kernel)
theorem kw1278 : Cond.static ⟨"RopeRoundModel", "orNothing", "(I)I"⟩ ∈ tg := kt 1278 (by decide +kernel) (by decide +kernel)
set_option maxRecDepth 100000 in
theorem kw1279 : Cond.code ⟨"RopeRoundModel", "orNothing", "(I)I"⟩ prog_13_method_60_code 1 (some FieldType.int) ∈ tg := kt 1279 rfl rfl
theorem mo188 : MOk (mT 188) 1 := ⟨kw1279, kw12, by decide +kernel, by decide +kernel, by decide⟩
set_option maxRecDepth 100000 in
theorem kw1276 : Cond.code ⟨"RopeRoundModel", "tiedOf", "(I)I"⟩ prog_13_method_61_code 5 (some FieldType.int) ∈ tg := kt 1276 rfl rfl
theorem mo189 : MOk (mT 189) 1 := ⟨kw1276, kw12, by decide +kernel, by decide +kernel, by decide⟩
theorem kw1275 : Cond.instanceMethod ⟨"RopeRoundModel", "tiedOf", "(I)I"⟩ ∈ tg := kt 1275 (by decide +kernel) (by decide +kernel)
theorem kw1273 : Cond.methodLink "RopeRoundModel" 302 ⟨"RopeRoundModel", "tiedOf", "(I)I"⟩ ∈ tg := kt 1273 (by decide +kernel) (by decide +kernel)
theorem vk134 : ∀ ci y, (fun k => if k = 11 then some 189 else none) ci = some y → (∃ C T N, ClsOk ci C T N ∧ VOk mT "RopeRoundModel" 302 C y 1) ∨ (ci = 201 ∧ VOk mT "RopeRoundModel" 302 "java/lang/String" y 1) := by
  intro ci y h
  dsimp only at h
  by_cases h11 : ci = 11
  · subst h11
    have h := (Option.some.inj (by simpa using h)).symm
    subst h
    exact Or.inl ⟨_, _, _, okC11, ⟨mo189, kw1275, Or.inl ⟨rfl, kw1273, (ks (q := (⟨"RopeRoundModel", "tiedOf", "(I)I"⟩, 37)) (by decide +kernel))⟩⟩⟩
  rw [if_neg h11] at h
  cases h
theorem gf186 : gF "RopeRoundModel" 62 32 (fun k => k = 11) (fun n => n = 2) := by
  refine ⟨_, _, _, kw949, fun ci h => ?_⟩
  rcases h with rfl
  · exact ⟨_, _, _, okC11, by decide, rfl, rfl, Or.inl rfl, rfl⟩
theorem kw1292 : Cond.constantLong "RopeRoundModel" 305 100 ∈ tg := kt 1292 (by decide +kernel) (by decide +kernel)
theorem kw1297 : Cond.constantLong "RopeRoundModel" 307 6 ∈ tg := kt 1297 (by decide +kernel) (by decide +kernel)
set_option maxRecDepth 100000 in
theorem kw1301 : Cond.code ⟨"RopeRoundModel", "isSo", "(III)Z"⟩ prog_13_method_66_code 6 (some FieldType.boolean) ∈ tg := kt 1301 rfl rfl
theorem mo194 : MOk (mT 194) 3 := ⟨kw1301, kw12, by decide +kernel, by decide +kernel, by decide⟩
theorem kw1300 : Cond.instanceMethod ⟨"RopeRoundModel", "isSo", "(III)Z"⟩ ∈ tg := kt 1300 (by decide +kernel) (by decide +kernel)
theorem kw1298 : Cond.methodLink "RopeRoundModel" 309 ⟨"RopeRoundModel", "isSo", "(III)Z"⟩ ∈ tg := kt 1298 (by decide +kernel) (by decide +kernel)
theorem vk135 : ∀ ci y, (fun k => if k = 11 then some 194 else none) ci = some y → (∃ C T N, ClsOk ci C T N ∧ VOk mT "RopeRoundModel" 309 C y 3) ∨ (ci = 201 ∧ VOk mT "RopeRoundModel" 309 "java/lang/String" y 3) := by
  intro ci y h
  dsimp only at h
  by_cases h11 : ci = 11
  · subst h11
    have h := (Option.some.inj (by simpa using h)).symm
    subst h
    exact Or.inl ⟨_, _, _, okC11, ⟨mo194, kw1300, Or.inl ⟨rfl, kw1298, (ks (q := (⟨"RopeRoundModel", "isSo", "(III)Z"⟩, 37)) (by decide +kernel))⟩⟩⟩
  rw [if_neg h11] at h
  cases h
theorem gf187 : gF "RopeRoundModel" 68 34 (fun k => k = 11) (fun n => n = 2) := by
  refine ⟨_, _, _, kw951, fun ci h => ?_⟩
  rcases h with rfl
  · exact ⟨_, _, _, okC11, by decide, rfl, rfl, Or.inl rfl, rfl⟩
theorem gf188 : gF "RopeRoundModel" 65 33 (fun k => k = 11) (fun n => n = 2) := by
  refine ⟨_, _, _, kw950, fun ci h => ?_⟩
  rcases h with rfl
  · exact ⟨_, _, _, okC11, by decide, rfl, rfl, Or.inl rfl, rfl⟩
set_option maxRecDepth 100000 in
theorem kw1317 : Cond.code ⟨"RopeRoundModel", "kindOf", "(I)I"⟩ prog_13_method_70_code 3 (some FieldType.int) ∈ tg := kt 1317 rfl rfl
theorem mo198 : MOk (mT 198) 1 := ⟨kw1317, kw12, by decide +kernel, by decide +kernel, by decide⟩
theorem kw1316 : Cond.instanceMethod ⟨"RopeRoundModel", "kindOf", "(I)I"⟩ ∈ tg := kt 1316 (by decide +kernel) (by decide +kernel)
theorem kw1314 : Cond.methodLink "RopeRoundModel" 313 ⟨"RopeRoundModel", "kindOf", "(I)I"⟩ ∈ tg := kt 1314 (by decide +kernel) (by decide +kernel)
theorem vk136 : ∀ ci y, (fun k => if k = 11 then some 198 else none) ci = some y → (∃ C T N, ClsOk ci C T N ∧ VOk mT "RopeRoundModel" 313 C y 1) ∨ (ci = 201 ∧ VOk mT "RopeRoundModel" 313 "java/lang/String" y 1) := by
  intro ci y h
  dsimp only at h
  by_cases h11 : ci = 11
  · subst h11
    have h := (Option.some.inj (by simpa using h)).symm
    subst h
    exact Or.inl ⟨_, _, _, okC11, ⟨mo198, kw1316, Or.inl ⟨rfl, kw1314, (ks (q := (⟨"RopeRoundModel", "kindOf", "(I)I"⟩, 37)) (by decide +kernel))⟩⟩⟩
  rw [if_neg h11] at h
  cases h
theorem kw1322 : Cond.constantLong "RopeRoundModel" 316 5 ∈ tg := kt 1322 (by decide +kernel) (by decide +kernel)
theorem kw1323 : Cond.methodLink "RopeRoundModel" 318 ⟨"RopeRoundModel", "isOf", "(II)Z"⟩ ∈ tg := kt 1323 (by decide +kernel) (by decide +kernel)
theorem kw1324 : Cond.static ⟨"RopeRoundModel", "isOf", "(II)Z"⟩ ∈ tg := kt 1324 (by decide +kernel) (by decide +kernel)
set_option maxRecDepth 100000 in
theorem kw1325 : Cond.code ⟨"RopeRoundModel", "isOf", "(II)Z"⟩ prog_13_method_71_code 2 (some FieldType.boolean) ∈ tg := kt 1325 rfl rfl
theorem mo199 : MOk (mT 199) 2 := ⟨kw1325, kw12, by decide +kernel, by decide +kernel, by decide⟩
theorem kw953 : Cond.fieldLink "RopeRoundModel" 321 "RopeRoundModel" "traced" "I" ∈ tg := kt 953 (by decide +kernel) (by decide +kernel)
theorem gf189 : gF "RopeRoundModel" 321 36 (fun k => k = 11) (fun n => n = 0 ∨ n = 4) := by
  refine ⟨_, _, _, kw953, fun ci h => ?_⟩
  rcases h with rfl
  · exact ⟨_, _, _, okC11, by decide, rfl, rfl, Or.inl rfl, Or.inl rfl⟩
theorem gf189w : gF "RopeRoundModel" 321 36 (fun k => k = 11) (fun n => n = 0) := by
  refine ⟨_, _, _, kw953, fun ci h => ?_⟩
  rcases h with rfl
  · exact ⟨_, _, _, okC11, by decide, rfl, rfl, Or.inl rfl, rfl⟩
theorem gf190 : gF "RopeRoundModel" 71 35 (fun k => k = 11) (fun n => n = 2) := by
  refine ⟨_, _, _, kw952, fun ci h => ?_⟩
  rcases h with rfl
  · exact ⟨_, _, _, okC11, by decide, rfl, rfl, Or.inl rfl, rfl⟩
set_option maxRecDepth 100000 in
theorem kw1341 : Cond.code ⟨"RopeRoundModel", "began", "(I)V"⟩ prog_13_method_74_code 2 none ∈ tg := kt 1341 rfl rfl
theorem mo202 : MOk (mT 202) 1 := ⟨kw1341, kw12, by decide +kernel, by decide +kernel, by decide⟩
theorem kw1340 : Cond.instanceMethod ⟨"RopeRoundModel", "began", "(I)V"⟩ ∈ tg := kt 1340 (by decide +kernel) (by decide +kernel)
theorem kw1338 : Cond.methodLink "RopeRoundModel" 324 ⟨"RopeRoundModel", "began", "(I)V"⟩ ∈ tg := kt 1338 (by decide +kernel) (by decide +kernel)
theorem vk137 : ∀ ci y, (fun k => if k = 11 then some 202 else none) ci = some y → (∃ C T N, ClsOk ci C T N ∧ VOk mT "RopeRoundModel" 324 C y 1) ∨ (ci = 201 ∧ VOk mT "RopeRoundModel" 324 "java/lang/String" y 1) := by
  intro ci y h
  dsimp only at h
  by_cases h11 : ci = 11
  · subst h11
    have h := (Option.some.inj (by simpa using h)).symm
    subst h
    exact Or.inl ⟨_, _, _, okC11, ⟨mo202, kw1340, Or.inl ⟨rfl, kw1338, (ks (q := (⟨"RopeRoundModel", "began", "(I)V"⟩, 37)) (by decide +kernel))⟩⟩⟩
  rw [if_neg h11] at h
  cases h
set_option maxRecDepth 100000 in
theorem kw1337 : Cond.code ⟨"RopeRoundModel", "plainSize", "(I)I"⟩ prog_13_method_75_code 2 (some FieldType.int) ∈ tg := kt 1337 rfl rfl
theorem mo203 : MOk (mT 203) 1 := ⟨kw1337, kw12, by decide +kernel, by decide +kernel, by decide⟩
theorem kw1336 : Cond.instanceMethod ⟨"RopeRoundModel", "plainSize", "(I)I"⟩ ∈ tg := kt 1336 (by decide +kernel) (by decide +kernel)
theorem kw1334 : Cond.methodLink "RopeRoundModel" 327 ⟨"RopeRoundModel", "plainSize", "(I)I"⟩ ∈ tg := kt 1334 (by decide +kernel) (by decide +kernel)
theorem vk138 : ∀ ci y, (fun k => if k = 11 then some 203 else none) ci = some y → (∃ C T N, ClsOk ci C T N ∧ VOk mT "RopeRoundModel" 327 C y 1) ∨ (ci = 201 ∧ VOk mT "RopeRoundModel" 327 "java/lang/String" y 1) := by
  intro ci y h
  dsimp only at h
  by_cases h11 : ci = 11
  · subst h11
    have h := (Option.some.inj (by simpa using h)).symm
    subst h
    exact Or.inl ⟨_, _, _, okC11, ⟨mo203, kw1336, Or.inl ⟨rfl, kw1334, (ks (q := (⟨"RopeRoundModel", "plainSize", "(I)I"⟩, 37)) (by decide +kernel))⟩⟩⟩
  rw [if_neg h11] at h
  cases h
set_option maxRecDepth 100000 in
theorem kw1345 : Cond.code ⟨"RopeRoundModel", "markOf", "(II)I"⟩ prog_13_method_76_code 3 (some FieldType.int) ∈ tg := kt 1345 rfl rfl
theorem mo204 : MOk (mT 204) 2 := ⟨kw1345, kw12, by decide +kernel, by decide +kernel, by decide⟩
theorem kw1344 : Cond.instanceMethod ⟨"RopeRoundModel", "markOf", "(II)I"⟩ ∈ tg := kt 1344 (by decide +kernel) (by decide +kernel)
theorem kw1342 : Cond.methodLink "RopeRoundModel" 330 ⟨"RopeRoundModel", "markOf", "(II)I"⟩ ∈ tg := kt 1342 (by decide +kernel) (by decide +kernel)
theorem vk139 : ∀ ci y, (fun k => if k = 11 then some 204 else none) ci = some y → (∃ C T N, ClsOk ci C T N ∧ VOk mT "RopeRoundModel" 330 C y 2) ∨ (ci = 201 ∧ VOk mT "RopeRoundModel" 330 "java/lang/String" y 2) := by
  intro ci y h
  dsimp only at h
  by_cases h11 : ci = 11
  · subst h11
    have h := (Option.some.inj (by simpa using h)).symm
    subst h
    exact Or.inl ⟨_, _, _, okC11, ⟨mo204, kw1344, Or.inl ⟨rfl, kw1342, (ks (q := (⟨"RopeRoundModel", "markOf", "(II)I"⟩, 37)) (by decide +kernel))⟩⟩⟩
  rw [if_neg h11] at h
  cases h
set_option maxRecDepth 100000 in
theorem kw1333 : Cond.code ⟨"RopeRoundModel", "sizeOf", "(II)I"⟩ prog_13_method_77_code 4 (some FieldType.int) ∈ tg := kt 1333 rfl rfl
theorem mo205 : MOk (mT 205) 2 := ⟨kw1333, kw12, by decide +kernel, by decide +kernel, by decide⟩
theorem kw1332 : Cond.instanceMethod ⟨"RopeRoundModel", "sizeOf", "(II)I"⟩ ∈ tg := kt 1332 (by decide +kernel) (by decide +kernel)
theorem kw1330 : Cond.methodLink "RopeRoundModel" 333 ⟨"RopeRoundModel", "sizeOf", "(II)I"⟩ ∈ tg := kt 1330 (by decide +kernel) (by decide +kernel)
theorem vk140 : ∀ ci y, (fun k => if k = 11 then some 205 else none) ci = some y → (∃ C T N, ClsOk ci C T N ∧ VOk mT "RopeRoundModel" 333 C y 2) ∨ (ci = 201 ∧ VOk mT "RopeRoundModel" 333 "java/lang/String" y 2) := by
  intro ci y h
  dsimp only at h
  by_cases h11 : ci = 11
  · subst h11
    have h := (Option.some.inj (by simpa using h)).symm
    subst h
    exact Or.inl ⟨_, _, _, okC11, ⟨mo205, kw1332, Or.inl ⟨rfl, kw1330, (ks (q := (⟨"RopeRoundModel", "sizeOf", "(II)I"⟩, 37)) (by decide +kernel))⟩⟩⟩
  rw [if_neg h11] at h
  cases h
theorem kw635 : Cond.constantLong "java/lang/Long" 314 6148914691236517205 ∈ tg := kt 635 (by decide +kernel) (by decide +kernel)
theorem kw636 : Cond.constantLong "java/lang/Long" 316 3689348814741910323 ∈ tg := kt 636 (by decide +kernel) (by decide +kernel)
theorem kw637 : Cond.constantLong "java/lang/Long" 318 1085102592571150095 ∈ tg := kt 637 (by decide +kernel) (by decide +kernel)
theorem kw1361 : Cond.fieldLink "java/lang/String" 9 "java/lang/String" "value" "[B" ∈ tg := kt 1361 (by decide +kernel) (by decide +kernel)
set_option maxRecDepth 100000 in
theorem kw445 : Cond.code ⟨"java/lang/String", "coder", "()B"⟩ prog_16_method_152_code 1 (some FieldType.byte) ∈ tg := kt 445 rfl rfl
theorem mo213 : MOk (mT 213) 0 := ⟨kw445, kw14, by decide +kernel, by decide +kernel, by decide⟩
theorem kw443 : Cond.instanceMethod ⟨"java/lang/String", "coder", "()B"⟩ ∈ tg := kt 443 (by decide +kernel) (by decide +kernel)
theorem kw442 : Cond.methodLink "java/lang/String" 335 ⟨"java/lang/String", "coder", "()B"⟩ ∈ tg := kt 442 (by decide +kernel) (by decide +kernel)
theorem kw444 : Cond.selects "java/lang/String" ⟨"java/lang/String", "coder", "()B"⟩ ⟨"java/lang/String", "coder", "()B"⟩ ∈ tg := kt 444 (by decide +kernel) (by decide +kernel)
theorem vk141 : ∀ ci y, (fun k => if k = 201 then some 213 else none) ci = some y → (∃ C T N, ClsOk ci C T N ∧ VOk mT "java/lang/String" 335 C y 0) ∨ (ci = 201 ∧ VOk mT "java/lang/String" 335 "java/lang/String" y 0) := by
  intro ci y h
  dsimp only at h
  by_cases h201 : ci = 201
  · subst h201
    have h := (Option.some.inj (by simpa using h)).symm
    subst h
    exact Or.inr ⟨rfl, ⟨mo213, kw443, Or.inl ⟨rfl, kw442, kw444⟩⟩⟩
  rw [if_neg h201] at h
  cases h
set_option maxRecDepth 100000 in
theorem kw455 : Cond.code ⟨"java/lang/String", "isLatin1", "()Z"⟩ prog_16_method_154_code 1 (some FieldType.boolean) ∈ tg := kt 455 rfl rfl
theorem mo214 : MOk (mT 214) 0 := ⟨kw455, kw14, by decide +kernel, by decide +kernel, by decide⟩
theorem kw453 : Cond.instanceMethod ⟨"java/lang/String", "isLatin1", "()Z"⟩ ∈ tg := kt 453 (by decide +kernel) (by decide +kernel)
theorem kw452 : Cond.methodLink "java/lang/String" 492 ⟨"java/lang/String", "isLatin1", "()Z"⟩ ∈ tg := kt 452 (by decide +kernel) (by decide +kernel)
theorem kw454 : Cond.selects "java/lang/String" ⟨"java/lang/String", "isLatin1", "()Z"⟩ ⟨"java/lang/String", "isLatin1", "()Z"⟩ ∈ tg := kt 454 (by decide +kernel) (by decide +kernel)
theorem vk142 : ∀ ci y, (fun k => if k = 201 then some 214 else none) ci = some y → (∃ C T N, ClsOk ci C T N ∧ VOk mT "java/lang/String" 492 C y 0) ∨ (ci = 201 ∧ VOk mT "java/lang/String" 492 "java/lang/String" y 0) := by
  intro ci y h
  dsimp only at h
  by_cases h201 : ci = 201
  · subst h201
    have h := (Option.some.inj (by simpa using h)).symm
    subst h
    exact Or.inr ⟨rfl, ⟨mo214, kw453, Or.inl ⟨rfl, kw452, kw454⟩⟩⟩
  rw [if_neg h201] at h
  cases h
theorem kw456 : Cond.methodLink "java/lang/String" 495 ⟨"java/lang/StringLatin1", "charAt", "([BI)C"⟩ ∈ tg := kt 456 (by decide +kernel) (by decide +kernel)
theorem kw457 : Cond.static ⟨"java/lang/StringLatin1", "charAt", "([BI)C"⟩ ∈ tg := kt 457 (by decide +kernel) (by decide +kernel)
set_option maxRecDepth 100000 in
theorem kw458 : Cond.code ⟨"java/lang/StringLatin1", "charAt", "([BI)C"⟩ prog_17_method_2_code 2 (some FieldType.char) ∈ tg := kt 458 rfl rfl
theorem kw15 : Cond.initialized "java/lang/StringLatin1" ∈ tg := kt 15 (by decide +kernel) (by decide +kernel)
theorem mo216 : MOk (mT 216) 2 := ⟨kw458, kw15, by decide +kernel, by decide +kernel, by decide⟩
theorem kw467 : Cond.methodLink "java/lang/String" 498 ⟨"java/lang/StringUTF16", "charAt", "([BI)C"⟩ ∈ tg := kt 467 (by decide +kernel) (by decide +kernel)
theorem kw446 : Cond.fieldLink "java/lang/String" 38 "java/lang/String" "COMPACT_STRINGS" "Z" ∈ tg := kt 446 (by decide +kernel) (by decide +kernel)
theorem kw1362 : Cond.fieldLink "java/lang/String" 15 "java/lang/String" "coder" "B" ∈ tg := kt 1362 (by decide +kernel) (by decide +kernel)
theorem kw462 : Cond.fieldLink "java/lang/String" 1053 "jdk/internal/util/Preconditions" "SIOOBE_FORMATTER" "Ljava/util/function/BiFunction;" ∈ tg := kt 462 (by decide +kernel) (by decide +kernel)
theorem kw464 : Cond.methodLink "java/lang/String" 1059 ⟨"jdk/internal/util/Preconditions", "checkIndex", "(IILjava/util/function/BiFunction;)I"⟩ ∈ tg := kt 464 (by decide +kernel) (by decide +kernel)
theorem kw465 : Cond.static ⟨"jdk/internal/util/Preconditions", "checkIndex", "(IILjava/util/function/BiFunction;)I"⟩ ∈ tg := kt 465 (by decide +kernel) (by decide +kernel)
set_option maxRecDepth 100000 in
theorem kw466 : Cond.code ⟨"jdk/internal/util/Preconditions", "checkIndex", "(IILjava/util/function/BiFunction;)I"⟩ prog_20_method_11_code 3 (some FieldType.int) ∈ tg := kt 466 rfl rfl
theorem kw16 : Cond.initialized "jdk/internal/util/Preconditions" ∈ tg := kt 16 (by decide +kernel) (by decide +kernel)
theorem mo217 : MOk (mT 217) 3 := ⟨kw466, kw16, by decide +kernel, by decide +kernel, by decide⟩
theorem kw459 : Cond.methodLink "java/lang/StringLatin1" 9 ⟨"java/lang/String", "checkIndex", "(II)V"⟩ ∈ tg := kt 459 (by decide +kernel) (by decide +kernel)
theorem kw460 : Cond.static ⟨"java/lang/String", "checkIndex", "(II)V"⟩ ∈ tg := kt 460 (by decide +kernel) (by decide +kernel)
set_option maxRecDepth 100000 in
theorem kw461 : Cond.code ⟨"java/lang/String", "checkIndex", "(II)V"⟩ prog_16_method_155_code 2 none ∈ tg := kt 461 rfl rfl
theorem mo215 : MOk (mT 215) 2 := ⟨kw461, kw14, by decide +kernel, by decide +kernel, by decide⟩
theorem kw20 : Cond.classLink "RopeRoundLaw" 7 "RopeRound" ∈ tg := kt 20 (by decide +kernel) (by decide +kernel)
theorem kw22 : Cond.methodLink "RopeRoundLaw" 9 ⟨"RopeRound", "<init>", "()V"⟩ ∈ tg := kt 22 (by decide +kernel) (by decide +kernel)
theorem kw23 : Cond.instanceMethod ⟨"RopeRound", "<init>", "()V"⟩ ∈ tg := kt 23 (by decide +kernel) (by decide +kernel)
set_option maxRecDepth 100000 in
theorem kw24 : Cond.code ⟨"RopeRound", "<init>", "()V"⟩ prog_1_method_1_code 2 none ∈ tg := kt 24 rfl rfl
theorem mo81 : MOk (mT 81) 0 := ⟨kw24, kw1, by decide +kernel, by decide +kernel, by decide⟩
theorem kw911 : Cond.classLink "RopeRoundLaw" 10 "RopeRoundModel" ∈ tg := kt 911 (by decide +kernel) (by decide +kernel)
theorem kw913 : Cond.methodLink "RopeRoundLaw" 12 ⟨"RopeRoundModel", "<init>", "()V"⟩ ∈ tg := kt 913 (by decide +kernel) (by decide +kernel)
theorem kw914 : Cond.instanceMethod ⟨"RopeRoundModel", "<init>", "()V"⟩ ∈ tg := kt 914 (by decide +kernel) (by decide +kernel)
set_option maxRecDepth 100000 in
theorem kw915 : Cond.code ⟨"RopeRoundModel", "<init>", "()V"⟩ prog_13_method_1_code 1 none ∈ tg := kt 915 rfl rfl
theorem mo130 : MOk (mT 130) 0 := ⟨kw915, kw12, by decide +kernel, by decide +kernel, by decide⟩
set_option maxRecDepth 100000 in
theorem kw344 : Cond.code ⟨"RopeRound", "row", "(III)I"⟩ prog_1_method_2_code 4 (some FieldType.int) ∈ tg := kt 344 rfl rfl
theorem mo82 : MOk (mT 82) 3 := ⟨kw344, kw1, by decide +kernel, by decide +kernel, by decide⟩
theorem kw342 : Cond.instanceMethod ⟨"RopeRound", "row", "(III)I"⟩ ∈ tg := kt 342 (by decide +kernel) (by decide +kernel)
theorem kw341 : Cond.methodLink "RopeRoundLaw" 13 ⟨"RopeRound", "row", "(III)I"⟩ ∈ tg := kt 341 (by decide +kernel) (by decide +kernel)
theorem kw343 : Cond.selects "RopeRound" ⟨"RopeRound", "row", "(III)I"⟩ ⟨"RopeRound", "row", "(III)I"⟩ ∈ tg := kt 343 (by decide +kernel) (by decide +kernel)
theorem vk143 : ∀ ci y, (fun k => if k = 10 then some 82 else none) ci = some y → (∃ C T N, ClsOk ci C T N ∧ VOk mT "RopeRoundLaw" 13 C y 3) ∨ (ci = 201 ∧ VOk mT "RopeRoundLaw" 13 "java/lang/String" y 3) := by
  intro ci y h
  dsimp only at h
  by_cases h10 : ci = 10
  · subst h10
    have h := (Option.some.inj (by simpa using h)).symm
    subst h
    exact Or.inl ⟨_, _, _, okC10, ⟨mo82, kw342, Or.inl ⟨rfl, kw341, kw343⟩⟩⟩
  rw [if_neg h10] at h
  cases h
set_option maxRecDepth 100000 in
theorem kw1033 : Cond.code ⟨"RopeRoundModel", "row", "(III)I"⟩ prog_13_method_6_code 5 (some FieldType.int) ∈ tg := kt 1033 rfl rfl
theorem mo134 : MOk (mT 134) 3 := ⟨kw1033, kw12, by decide +kernel, by decide +kernel, by decide⟩
theorem kw1031 : Cond.instanceMethod ⟨"RopeRoundModel", "row", "(III)I"⟩ ∈ tg := kt 1031 (by decide +kernel) (by decide +kernel)
theorem kw1030 : Cond.methodLink "RopeRoundLaw" 17 ⟨"RopeRoundModel", "row", "(III)I"⟩ ∈ tg := kt 1030 (by decide +kernel) (by decide +kernel)
theorem kw1032 : Cond.selects "RopeRoundModel" ⟨"RopeRoundModel", "row", "(III)I"⟩ ⟨"RopeRoundModel", "row", "(III)I"⟩ ∈ tg := kt 1032 (by decide +kernel) (by decide +kernel)
theorem vk144 : ∀ ci y, (fun k => if k = 11 then some 134 else none) ci = some y → (∃ C T N, ClsOk ci C T N ∧ VOk mT "RopeRoundLaw" 17 C y 3) ∨ (ci = 201 ∧ VOk mT "RopeRoundLaw" 17 "java/lang/String" y 3) := by
  intro ci y h
  dsimp only at h
  by_cases h11 : ci = 11
  · subst h11
    have h := (Option.some.inj (by simpa using h)).symm
    subst h
    exact Or.inl ⟨_, _, _, okC11, ⟨mo134, kw1031, Or.inl ⟨rfl, kw1030, kw1032⟩⟩⟩
  rw [if_neg h11] at h
  cases h
set_option maxRecDepth 100000 in
theorem kw365 : Cond.code ⟨"RopeRound", "set", "(III)I"⟩ prog_1_method_3_code 5 (some FieldType.int) ∈ tg := kt 365 rfl rfl
theorem mo83 : MOk (mT 83) 3 := ⟨kw365, kw1, by decide +kernel, by decide +kernel, by decide⟩
theorem kw363 : Cond.instanceMethod ⟨"RopeRound", "set", "(III)I"⟩ ∈ tg := kt 363 (by decide +kernel) (by decide +kernel)
theorem kw362 : Cond.methodLink "RopeRoundLaw" 18 ⟨"RopeRound", "set", "(III)I"⟩ ∈ tg := kt 362 (by decide +kernel) (by decide +kernel)
theorem kw364 : Cond.selects "RopeRound" ⟨"RopeRound", "set", "(III)I"⟩ ⟨"RopeRound", "set", "(III)I"⟩ ∈ tg := kt 364 (by decide +kernel) (by decide +kernel)
theorem vk145 : ∀ ci y, (fun k => if k = 10 then some 83 else none) ci = some y → (∃ C T N, ClsOk ci C T N ∧ VOk mT "RopeRoundLaw" 18 C y 3) ∨ (ci = 201 ∧ VOk mT "RopeRoundLaw" 18 "java/lang/String" y 3) := by
  intro ci y h
  dsimp only at h
  by_cases h10 : ci = 10
  · subst h10
    have h := (Option.some.inj (by simpa using h)).symm
    subst h
    exact Or.inl ⟨_, _, _, okC10, ⟨mo83, kw363, Or.inl ⟨rfl, kw362, kw364⟩⟩⟩
  rw [if_neg h10] at h
  cases h
set_option maxRecDepth 100000 in
theorem kw1051 : Cond.code ⟨"RopeRoundModel", "set", "(III)I"⟩ prog_13_method_7_code 4 (some FieldType.int) ∈ tg := kt 1051 rfl rfl
theorem mo135 : MOk (mT 135) 3 := ⟨kw1051, kw12, by decide +kernel, by decide +kernel, by decide⟩
theorem kw1049 : Cond.instanceMethod ⟨"RopeRoundModel", "set", "(III)I"⟩ ∈ tg := kt 1049 (by decide +kernel) (by decide +kernel)
theorem kw1048 : Cond.methodLink "RopeRoundLaw" 21 ⟨"RopeRoundModel", "set", "(III)I"⟩ ∈ tg := kt 1048 (by decide +kernel) (by decide +kernel)
theorem kw1050 : Cond.selects "RopeRoundModel" ⟨"RopeRoundModel", "set", "(III)I"⟩ ⟨"RopeRoundModel", "set", "(III)I"⟩ ∈ tg := kt 1050 (by decide +kernel) (by decide +kernel)
theorem vk146 : ∀ ci y, (fun k => if k = 11 then some 135 else none) ci = some y → (∃ C T N, ClsOk ci C T N ∧ VOk mT "RopeRoundLaw" 21 C y 3) ∨ (ci = 201 ∧ VOk mT "RopeRoundLaw" 21 "java/lang/String" y 3) := by
  intro ci y h
  dsimp only at h
  by_cases h11 : ci = 11
  · subst h11
    have h := (Option.some.inj (by simpa using h)).symm
    subst h
    exact Or.inl ⟨_, _, _, okC11, ⟨mo135, kw1049, Or.inl ⟨rfl, kw1048, kw1050⟩⟩⟩
  rw [if_neg h11] at h
  cases h
set_option maxRecDepth 100000 in
theorem kw381 : Cond.code ⟨"RopeRound", "copy", "(IIIII)I"⟩ prog_1_method_4_code 8 (some FieldType.int) ∈ tg := kt 381 rfl rfl
theorem mo84 : MOk (mT 84) 5 := ⟨kw381, kw1, by decide +kernel, by decide +kernel, by decide⟩
theorem kw379 : Cond.instanceMethod ⟨"RopeRound", "copy", "(IIIII)I"⟩ ∈ tg := kt 379 (by decide +kernel) (by decide +kernel)
theorem kw378 : Cond.methodLink "RopeRoundLaw" 22 ⟨"RopeRound", "copy", "(IIIII)I"⟩ ∈ tg := kt 378 (by decide +kernel) (by decide +kernel)
theorem kw380 : Cond.selects "RopeRound" ⟨"RopeRound", "copy", "(IIIII)I"⟩ ⟨"RopeRound", "copy", "(IIIII)I"⟩ ∈ tg := kt 380 (by decide +kernel) (by decide +kernel)
theorem vk147 : ∀ ci y, (fun k => if k = 10 then some 84 else none) ci = some y → (∃ C T N, ClsOk ci C T N ∧ VOk mT "RopeRoundLaw" 22 C y 5) ∨ (ci = 201 ∧ VOk mT "RopeRoundLaw" 22 "java/lang/String" y 5) := by
  intro ci y h
  dsimp only at h
  by_cases h10 : ci = 10
  · subst h10
    have h := (Option.some.inj (by simpa using h)).symm
    subst h
    exact Or.inl ⟨_, _, _, okC10, ⟨mo84, kw379, Or.inl ⟨rfl, kw378, kw380⟩⟩⟩
  rw [if_neg h10] at h
  cases h
set_option maxRecDepth 100000 in
theorem kw1055 : Cond.code ⟨"RopeRoundModel", "copy", "(IIIII)I"⟩ prog_13_method_8_code 9 (some FieldType.int) ∈ tg := kt 1055 rfl rfl
theorem mo136 : MOk (mT 136) 5 := ⟨kw1055, kw12, by decide +kernel, by decide +kernel, by decide⟩
theorem kw1053 : Cond.instanceMethod ⟨"RopeRoundModel", "copy", "(IIIII)I"⟩ ∈ tg := kt 1053 (by decide +kernel) (by decide +kernel)
theorem kw1052 : Cond.methodLink "RopeRoundLaw" 26 ⟨"RopeRoundModel", "copy", "(IIIII)I"⟩ ∈ tg := kt 1052 (by decide +kernel) (by decide +kernel)
theorem kw1054 : Cond.selects "RopeRoundModel" ⟨"RopeRoundModel", "copy", "(IIIII)I"⟩ ⟨"RopeRoundModel", "copy", "(IIIII)I"⟩ ∈ tg := kt 1054 (by decide +kernel) (by decide +kernel)
theorem vk148 : ∀ ci y, (fun k => if k = 11 then some 136 else none) ci = some y → (∃ C T N, ClsOk ci C T N ∧ VOk mT "RopeRoundLaw" 26 C y 5) ∨ (ci = 201 ∧ VOk mT "RopeRoundLaw" 26 "java/lang/String" y 5) := by
  intro ci y h
  dsimp only at h
  by_cases h11 : ci = 11
  · subst h11
    have h := (Option.some.inj (by simpa using h)).symm
    subst h
    exact Or.inl ⟨_, _, _, okC11, ⟨mo136, kw1053, Or.inl ⟨rfl, kw1052, kw1054⟩⟩⟩
  rw [if_neg h11] at h
  cases h
set_option maxRecDepth 100000 in
theorem kw388 : Cond.code ⟨"RopeRound", "drop", "(I)I"⟩ prog_1_method_5_code 4 (some FieldType.int) ∈ tg := kt 388 rfl rfl
theorem mo85 : MOk (mT 85) 1 := ⟨kw388, kw1, by decide +kernel, by decide +kernel, by decide⟩
theorem kw386 : Cond.instanceMethod ⟨"RopeRound", "drop", "(I)I"⟩ ∈ tg := kt 386 (by decide +kernel) (by decide +kernel)
theorem kw385 : Cond.methodLink "RopeRoundLaw" 27 ⟨"RopeRound", "drop", "(I)I"⟩ ∈ tg := kt 385 (by decide +kernel) (by decide +kernel)
theorem kw387 : Cond.selects "RopeRound" ⟨"RopeRound", "drop", "(I)I"⟩ ⟨"RopeRound", "drop", "(I)I"⟩ ∈ tg := kt 387 (by decide +kernel) (by decide +kernel)
theorem vk149 : ∀ ci y, (fun k => if k = 10 then some 85 else none) ci = some y → (∃ C T N, ClsOk ci C T N ∧ VOk mT "RopeRoundLaw" 27 C y 1) ∨ (ci = 201 ∧ VOk mT "RopeRoundLaw" 27 "java/lang/String" y 1) := by
  intro ci y h
  dsimp only at h
  by_cases h10 : ci = 10
  · subst h10
    have h := (Option.some.inj (by simpa using h)).symm
    subst h
    exact Or.inl ⟨_, _, _, okC10, ⟨mo85, kw386, Or.inl ⟨rfl, kw385, kw387⟩⟩⟩
  rw [if_neg h10] at h
  cases h
set_option maxRecDepth 100000 in
theorem kw1059 : Cond.code ⟨"RopeRoundModel", "drop", "(I)I"⟩ prog_13_method_9_code 2 (some FieldType.int) ∈ tg := kt 1059 rfl rfl
theorem mo137 : MOk (mT 137) 1 := ⟨kw1059, kw12, by decide +kernel, by decide +kernel, by decide⟩
theorem kw1057 : Cond.instanceMethod ⟨"RopeRoundModel", "drop", "(I)I"⟩ ∈ tg := kt 1057 (by decide +kernel) (by decide +kernel)
theorem kw1056 : Cond.methodLink "RopeRoundLaw" 31 ⟨"RopeRoundModel", "drop", "(I)I"⟩ ∈ tg := kt 1056 (by decide +kernel) (by decide +kernel)
theorem kw1058 : Cond.selects "RopeRoundModel" ⟨"RopeRoundModel", "drop", "(I)I"⟩ ⟨"RopeRoundModel", "drop", "(I)I"⟩ ∈ tg := kt 1058 (by decide +kernel) (by decide +kernel)
theorem vk150 : ∀ ci y, (fun k => if k = 11 then some 137 else none) ci = some y → (∃ C T N, ClsOk ci C T N ∧ VOk mT "RopeRoundLaw" 31 C y 1) ∨ (ci = 201 ∧ VOk mT "RopeRoundLaw" 31 "java/lang/String" y 1) := by
  intro ci y h
  dsimp only at h
  by_cases h11 : ci = 11
  · subst h11
    have h := (Option.some.inj (by simpa using h)).symm
    subst h
    exact Or.inl ⟨_, _, _, okC11, ⟨mo137, kw1057, Or.inl ⟨rfl, kw1056, kw1058⟩⟩⟩
  rw [if_neg h11] at h
  cases h
theorem kw1358 : Cond.constantLong "RopeRoundLaw" 32 4294967295 ∈ tg := kt 1358 (by decide +kernel) (by decide +kernel)
set_option maxRecDepth 100000 in
theorem kw396 : Cond.code ⟨"RopeRound", "feed", "(JI)I"⟩ prog_1_method_6_code 4 (some FieldType.int) ∈ tg := kt 396 rfl rfl
theorem mo86 : MOk (mT 86) 2 := ⟨kw396, kw1, by decide +kernel, by decide +kernel, by decide⟩
theorem kw394 : Cond.instanceMethod ⟨"RopeRound", "feed", "(JI)I"⟩ ∈ tg := kt 394 (by decide +kernel) (by decide +kernel)
theorem kw393 : Cond.methodLink "RopeRoundLaw" 34 ⟨"RopeRound", "feed", "(JI)I"⟩ ∈ tg := kt 393 (by decide +kernel) (by decide +kernel)
theorem kw395 : Cond.selects "RopeRound" ⟨"RopeRound", "feed", "(JI)I"⟩ ⟨"RopeRound", "feed", "(JI)I"⟩ ∈ tg := kt 395 (by decide +kernel) (by decide +kernel)
theorem vk151 : ∀ ci y, (fun k => if k = 10 then some 86 else none) ci = some y → (∃ C T N, ClsOk ci C T N ∧ VOk mT "RopeRoundLaw" 34 C y 2) ∨ (ci = 201 ∧ VOk mT "RopeRoundLaw" 34 "java/lang/String" y 2) := by
  intro ci y h
  dsimp only at h
  by_cases h10 : ci = 10
  · subst h10
    have h := (Option.some.inj (by simpa using h)).symm
    subst h
    exact Or.inl ⟨_, _, _, okC10, ⟨mo86, kw394, Or.inl ⟨rfl, kw393, kw395⟩⟩⟩
  rw [if_neg h10] at h
  cases h
set_option maxRecDepth 100000 in
theorem kw1063 : Cond.code ⟨"RopeRoundModel", "feed", "(JI)I"⟩ prog_13_method_10_code 5 (some FieldType.int) ∈ tg := kt 1063 rfl rfl
theorem mo138 : MOk (mT 138) 2 := ⟨kw1063, kw12, by decide +kernel, by decide +kernel, by decide⟩
theorem kw1061 : Cond.instanceMethod ⟨"RopeRoundModel", "feed", "(JI)I"⟩ ∈ tg := kt 1061 (by decide +kernel) (by decide +kernel)
theorem kw1060 : Cond.methodLink "RopeRoundLaw" 38 ⟨"RopeRoundModel", "feed", "(JI)I"⟩ ∈ tg := kt 1060 (by decide +kernel) (by decide +kernel)
theorem kw1062 : Cond.selects "RopeRoundModel" ⟨"RopeRoundModel", "feed", "(JI)I"⟩ ⟨"RopeRoundModel", "feed", "(JI)I"⟩ ∈ tg := kt 1062 (by decide +kernel) (by decide +kernel)
theorem vk152 : ∀ ci y, (fun k => if k = 11 then some 138 else none) ci = some y → (∃ C T N, ClsOk ci C T N ∧ VOk mT "RopeRoundLaw" 38 C y 2) ∨ (ci = 201 ∧ VOk mT "RopeRoundLaw" 38 "java/lang/String" y 2) := by
  intro ci y h
  dsimp only at h
  by_cases h11 : ci = 11
  · subst h11
    have h := (Option.some.inj (by simpa using h)).symm
    subst h
    exact Or.inl ⟨_, _, _, okC11, ⟨mo138, kw1061, Or.inl ⟨rfl, kw1060, kw1062⟩⟩⟩
  rw [if_neg h11] at h
  cases h
set_option maxRecDepth 100000 in
theorem kw405 : Cond.code ⟨"RopeRound", "ground", "()I"⟩ prog_1_method_7_code 2 (some FieldType.int) ∈ tg := kt 405 rfl rfl
theorem mo87 : MOk (mT 87) 0 := ⟨kw405, kw1, by decide +kernel, by decide +kernel, by decide⟩
theorem kw403 : Cond.instanceMethod ⟨"RopeRound", "ground", "()I"⟩ ∈ tg := kt 403 (by decide +kernel) (by decide +kernel)
theorem kw402 : Cond.methodLink "RopeRoundLaw" 39 ⟨"RopeRound", "ground", "()I"⟩ ∈ tg := kt 402 (by decide +kernel) (by decide +kernel)
theorem kw404 : Cond.selects "RopeRound" ⟨"RopeRound", "ground", "()I"⟩ ⟨"RopeRound", "ground", "()I"⟩ ∈ tg := kt 404 (by decide +kernel) (by decide +kernel)
theorem vk153 : ∀ ci y, (fun k => if k = 10 then some 87 else none) ci = some y → (∃ C T N, ClsOk ci C T N ∧ VOk mT "RopeRoundLaw" 39 C y 0) ∨ (ci = 201 ∧ VOk mT "RopeRoundLaw" 39 "java/lang/String" y 0) := by
  intro ci y h
  dsimp only at h
  by_cases h10 : ci = 10
  · subst h10
    have h := (Option.some.inj (by simpa using h)).symm
    subst h
    exact Or.inl ⟨_, _, _, okC10, ⟨mo87, kw403, Or.inl ⟨rfl, kw402, kw404⟩⟩⟩
  rw [if_neg h10] at h
  cases h
set_option maxRecDepth 100000 in
theorem kw1070 : Cond.code ⟨"RopeRoundModel", "ground", "()I"⟩ prog_13_method_28_code 2 (some FieldType.int) ∈ tg := kt 1070 rfl rfl
theorem mo156 : MOk (mT 156) 0 := ⟨kw1070, kw12, by decide +kernel, by decide +kernel, by decide⟩
theorem kw1068 : Cond.instanceMethod ⟨"RopeRoundModel", "ground", "()I"⟩ ∈ tg := kt 1068 (by decide +kernel) (by decide +kernel)
theorem kw1067 : Cond.methodLink "RopeRoundLaw" 43 ⟨"RopeRoundModel", "ground", "()I"⟩ ∈ tg := kt 1067 (by decide +kernel) (by decide +kernel)
theorem kw1069 : Cond.selects "RopeRoundModel" ⟨"RopeRoundModel", "ground", "()I"⟩ ⟨"RopeRoundModel", "ground", "()I"⟩ ∈ tg := kt 1069 (by decide +kernel) (by decide +kernel)
theorem vk154 : ∀ ci y, (fun k => if k = 11 then some 156 else none) ci = some y → (∃ C T N, ClsOk ci C T N ∧ VOk mT "RopeRoundLaw" 43 C y 0) ∨ (ci = 201 ∧ VOk mT "RopeRoundLaw" 43 "java/lang/String" y 0) := by
  intro ci y h
  dsimp only at h
  by_cases h11 : ci = 11
  · subst h11
    have h := (Option.some.inj (by simpa using h)).symm
    subst h
    exact Or.inl ⟨_, _, _, okC11, ⟨mo156, kw1068, Or.inl ⟨rfl, kw1067, kw1069⟩⟩⟩
  rw [if_neg h11] at h
  cases h
set_option maxRecDepth 100000 in
theorem kw574 : Cond.code ⟨"RopeRound", "fault", "()I"⟩ prog_1_method_8_code 1 (some FieldType.int) ∈ tg := kt 574 rfl rfl
theorem mo88 : MOk (mT 88) 0 := ⟨kw574, kw1, by decide +kernel, by decide +kernel, by decide⟩
theorem kw572 : Cond.instanceMethod ⟨"RopeRound", "fault", "()I"⟩ ∈ tg := kt 572 (by decide +kernel) (by decide +kernel)
theorem kw571 : Cond.methodLink "RopeRoundLaw" 44 ⟨"RopeRound", "fault", "()I"⟩ ∈ tg := kt 571 (by decide +kernel) (by decide +kernel)
theorem kw573 : Cond.selects "RopeRound" ⟨"RopeRound", "fault", "()I"⟩ ⟨"RopeRound", "fault", "()I"⟩ ∈ tg := kt 573 (by decide +kernel) (by decide +kernel)
theorem vk155 : ∀ ci y, (fun k => if k = 10 then some 88 else none) ci = some y → (∃ C T N, ClsOk ci C T N ∧ VOk mT "RopeRoundLaw" 44 C y 0) ∨ (ci = 201 ∧ VOk mT "RopeRoundLaw" 44 "java/lang/String" y 0) := by
  intro ci y h
  dsimp only at h
  by_cases h10 : ci = 10
  · subst h10
    have h := (Option.some.inj (by simpa using h)).symm
    subst h
    exact Or.inl ⟨_, _, _, okC10, ⟨mo88, kw572, Or.inl ⟨rfl, kw571, kw573⟩⟩⟩
  rw [if_neg h10] at h
  cases h
set_option maxRecDepth 100000 in
theorem kw1159 : Cond.code ⟨"RopeRoundModel", "fault", "()I"⟩ prog_13_method_29_code 1 (some FieldType.int) ∈ tg := kt 1159 rfl rfl
theorem mo157 : MOk (mT 157) 0 := ⟨kw1159, kw12, by decide +kernel, by decide +kernel, by decide⟩
theorem kw1157 : Cond.instanceMethod ⟨"RopeRoundModel", "fault", "()I"⟩ ∈ tg := kt 1157 (by decide +kernel) (by decide +kernel)
theorem kw1156 : Cond.methodLink "RopeRoundLaw" 47 ⟨"RopeRoundModel", "fault", "()I"⟩ ∈ tg := kt 1156 (by decide +kernel) (by decide +kernel)
theorem kw1158 : Cond.selects "RopeRoundModel" ⟨"RopeRoundModel", "fault", "()I"⟩ ⟨"RopeRoundModel", "fault", "()I"⟩ ∈ tg := kt 1158 (by decide +kernel) (by decide +kernel)
theorem vk156 : ∀ ci y, (fun k => if k = 11 then some 157 else none) ci = some y → (∃ C T N, ClsOk ci C T N ∧ VOk mT "RopeRoundLaw" 47 C y 0) ∨ (ci = 201 ∧ VOk mT "RopeRoundLaw" 47 "java/lang/String" y 0) := by
  intro ci y h
  dsimp only at h
  by_cases h11 : ci = 11
  · subst h11
    have h := (Option.some.inj (by simpa using h)).symm
    subst h
    exact Or.inl ⟨_, _, _, okC11, ⟨mo157, kw1157, Or.inl ⟨rfl, kw1156, kw1158⟩⟩⟩
  rw [if_neg h11] at h
  cases h
set_option maxRecDepth 100000 in
theorem kw578 : Cond.code ⟨"RopeRound", "takes", "(II)I"⟩ prog_1_method_9_code 3 (some FieldType.int) ∈ tg := kt 578 rfl rfl
theorem mo89 : MOk (mT 89) 2 := ⟨kw578, kw1, by decide +kernel, by decide +kernel, by decide⟩
theorem kw576 : Cond.instanceMethod ⟨"RopeRound", "takes", "(II)I"⟩ ∈ tg := kt 576 (by decide +kernel) (by decide +kernel)
theorem kw575 : Cond.methodLink "RopeRoundLaw" 48 ⟨"RopeRound", "takes", "(II)I"⟩ ∈ tg := kt 575 (by decide +kernel) (by decide +kernel)
theorem kw577 : Cond.selects "RopeRound" ⟨"RopeRound", "takes", "(II)I"⟩ ⟨"RopeRound", "takes", "(II)I"⟩ ∈ tg := kt 577 (by decide +kernel) (by decide +kernel)
theorem vk157 : ∀ ci y, (fun k => if k = 10 then some 89 else none) ci = some y → (∃ C T N, ClsOk ci C T N ∧ VOk mT "RopeRoundLaw" 48 C y 2) ∨ (ci = 201 ∧ VOk mT "RopeRoundLaw" 48 "java/lang/String" y 2) := by
  intro ci y h
  dsimp only at h
  by_cases h10 : ci = 10
  · subst h10
    have h := (Option.some.inj (by simpa using h)).symm
    subst h
    exact Or.inl ⟨_, _, _, okC10, ⟨mo89, kw576, Or.inl ⟨rfl, kw575, kw577⟩⟩⟩
  rw [if_neg h10] at h
  cases h
set_option maxRecDepth 100000 in
theorem kw1163 : Cond.code ⟨"RopeRoundModel", "takes", "(II)I"⟩ prog_13_method_40_code 3 (some FieldType.int) ∈ tg := kt 1163 rfl rfl
theorem mo168 : MOk (mT 168) 2 := ⟨kw1163, kw12, by decide +kernel, by decide +kernel, by decide⟩
theorem kw1161 : Cond.instanceMethod ⟨"RopeRoundModel", "takes", "(II)I"⟩ ∈ tg := kt 1161 (by decide +kernel) (by decide +kernel)
theorem kw1160 : Cond.methodLink "RopeRoundLaw" 52 ⟨"RopeRoundModel", "takes", "(II)I"⟩ ∈ tg := kt 1160 (by decide +kernel) (by decide +kernel)
theorem kw1162 : Cond.selects "RopeRoundModel" ⟨"RopeRoundModel", "takes", "(II)I"⟩ ⟨"RopeRoundModel", "takes", "(II)I"⟩ ∈ tg := kt 1162 (by decide +kernel) (by decide +kernel)
theorem vk158 : ∀ ci y, (fun k => if k = 11 then some 168 else none) ci = some y → (∃ C T N, ClsOk ci C T N ∧ VOk mT "RopeRoundLaw" 52 C y 2) ∨ (ci = 201 ∧ VOk mT "RopeRoundLaw" 52 "java/lang/String" y 2) := by
  intro ci y h
  dsimp only at h
  by_cases h11 : ci = 11
  · subst h11
    have h := (Option.some.inj (by simpa using h)).symm
    subst h
    exact Or.inl ⟨_, _, _, okC11, ⟨mo168, kw1161, Or.inl ⟨rfl, kw1160, kw1162⟩⟩⟩
  rw [if_neg h11] at h
  cases h
set_option maxRecDepth 100000 in
theorem kw594 : Cond.code ⟨"RopeRound", "judge", "(IIII)I"⟩ prog_1_method_10_code 5 (some FieldType.int) ∈ tg := kt 594 rfl rfl
theorem mo90 : MOk (mT 90) 4 := ⟨kw594, kw1, by decide +kernel, by decide +kernel, by decide⟩
theorem kw592 : Cond.instanceMethod ⟨"RopeRound", "judge", "(IIII)I"⟩ ∈ tg := kt 592 (by decide +kernel) (by decide +kernel)
theorem kw591 : Cond.methodLink "RopeRoundLaw" 53 ⟨"RopeRound", "judge", "(IIII)I"⟩ ∈ tg := kt 591 (by decide +kernel) (by decide +kernel)
theorem kw593 : Cond.selects "RopeRound" ⟨"RopeRound", "judge", "(IIII)I"⟩ ⟨"RopeRound", "judge", "(IIII)I"⟩ ∈ tg := kt 593 (by decide +kernel) (by decide +kernel)
theorem vk159 : ∀ ci y, (fun k => if k = 10 then some 90 else none) ci = some y → (∃ C T N, ClsOk ci C T N ∧ VOk mT "RopeRoundLaw" 53 C y 4) ∨ (ci = 201 ∧ VOk mT "RopeRoundLaw" 53 "java/lang/String" y 4) := by
  intro ci y h
  dsimp only at h
  by_cases h10 : ci = 10
  · subst h10
    have h := (Option.some.inj (by simpa using h)).symm
    subst h
    exact Or.inl ⟨_, _, _, okC10, ⟨mo90, kw592, Or.inl ⟨rfl, kw591, kw593⟩⟩⟩
  rw [if_neg h10] at h
  cases h
set_option maxRecDepth 100000 in
theorem kw1180 : Cond.code ⟨"RopeRoundModel", "judge", "(IIII)I"⟩ prog_13_method_46_code 6 (some FieldType.int) ∈ tg := kt 1180 rfl rfl
theorem mo174 : MOk (mT 174) 4 := ⟨kw1180, kw12, by decide +kernel, by decide +kernel, by decide⟩
theorem kw1178 : Cond.instanceMethod ⟨"RopeRoundModel", "judge", "(IIII)I"⟩ ∈ tg := kt 1178 (by decide +kernel) (by decide +kernel)
theorem kw1177 : Cond.methodLink "RopeRoundLaw" 57 ⟨"RopeRoundModel", "judge", "(IIII)I"⟩ ∈ tg := kt 1177 (by decide +kernel) (by decide +kernel)
theorem kw1179 : Cond.selects "RopeRoundModel" ⟨"RopeRoundModel", "judge", "(IIII)I"⟩ ⟨"RopeRoundModel", "judge", "(IIII)I"⟩ ∈ tg := kt 1179 (by decide +kernel) (by decide +kernel)
theorem vk160 : ∀ ci y, (fun k => if k = 11 then some 174 else none) ci = some y → (∃ C T N, ClsOk ci C T N ∧ VOk mT "RopeRoundLaw" 57 C y 4) ∨ (ci = 201 ∧ VOk mT "RopeRoundLaw" 57 "java/lang/String" y 4) := by
  intro ci y h
  dsimp only at h
  by_cases h11 : ci = 11
  · subst h11
    have h := (Option.some.inj (by simpa using h)).symm
    subst h
    exact Or.inl ⟨_, _, _, okC11, ⟨mo174, kw1178, Or.inl ⟨rfl, kw1177, kw1179⟩⟩⟩
  rw [if_neg h11] at h
  cases h
set_option maxRecDepth 100000 in
theorem kw641 : Cond.code ⟨"RopeRound", "lay", "(IIII)I"⟩ prog_1_method_11_code 6 (some FieldType.int) ∈ tg := kt 641 rfl rfl
theorem mo91 : MOk (mT 91) 4 := ⟨kw641, kw1, by decide +kernel, by decide +kernel, by decide⟩
theorem kw639 : Cond.instanceMethod ⟨"RopeRound", "lay", "(IIII)I"⟩ ∈ tg := kt 639 (by decide +kernel) (by decide +kernel)
theorem kw638 : Cond.methodLink "RopeRoundLaw" 58 ⟨"RopeRound", "lay", "(IIII)I"⟩ ∈ tg := kt 638 (by decide +kernel) (by decide +kernel)
theorem kw640 : Cond.selects "RopeRound" ⟨"RopeRound", "lay", "(IIII)I"⟩ ⟨"RopeRound", "lay", "(IIII)I"⟩ ∈ tg := kt 640 (by decide +kernel) (by decide +kernel)
theorem vk161 : ∀ ci y, (fun k => if k = 10 then some 91 else none) ci = some y → (∃ C T N, ClsOk ci C T N ∧ VOk mT "RopeRoundLaw" 58 C y 4) ∨ (ci = 201 ∧ VOk mT "RopeRoundLaw" 58 "java/lang/String" y 4) := by
  intro ci y h
  dsimp only at h
  by_cases h10 : ci = 10
  · subst h10
    have h := (Option.some.inj (by simpa using h)).symm
    subst h
    exact Or.inl ⟨_, _, _, okC10, ⟨mo91, kw639, Or.inl ⟨rfl, kw638, kw640⟩⟩⟩
  rw [if_neg h10] at h
  cases h
set_option maxRecDepth 100000 in
theorem kw1212 : Cond.code ⟨"RopeRoundModel", "lay", "(IIII)I"⟩ prog_13_method_48_code 8 (some FieldType.int) ∈ tg := kt 1212 rfl rfl
theorem mo176 : MOk (mT 176) 4 := ⟨kw1212, kw12, by decide +kernel, by decide +kernel, by decide⟩
theorem kw1210 : Cond.instanceMethod ⟨"RopeRoundModel", "lay", "(IIII)I"⟩ ∈ tg := kt 1210 (by decide +kernel) (by decide +kernel)
theorem kw1209 : Cond.methodLink "RopeRoundLaw" 61 ⟨"RopeRoundModel", "lay", "(IIII)I"⟩ ∈ tg := kt 1209 (by decide +kernel) (by decide +kernel)
theorem kw1211 : Cond.selects "RopeRoundModel" ⟨"RopeRoundModel", "lay", "(IIII)I"⟩ ⟨"RopeRoundModel", "lay", "(IIII)I"⟩ ∈ tg := kt 1211 (by decide +kernel) (by decide +kernel)
theorem vk162 : ∀ ci y, (fun k => if k = 11 then some 176 else none) ci = some y → (∃ C T N, ClsOk ci C T N ∧ VOk mT "RopeRoundLaw" 61 C y 4) ∨ (ci = 201 ∧ VOk mT "RopeRoundLaw" 61 "java/lang/String" y 4) := by
  intro ci y h
  dsimp only at h
  by_cases h11 : ci = 11
  · subst h11
    have h := (Option.some.inj (by simpa using h)).symm
    subst h
    exact Or.inl ⟨_, _, _, okC11, ⟨mo176, kw1210, Or.inl ⟨rfl, kw1209, kw1211⟩⟩⟩
  rw [if_neg h11] at h
  cases h
set_option maxRecDepth 100000 in
theorem kw655 : Cond.code ⟨"RopeRound", "lift", "(I)I"⟩ prog_1_method_12_code 3 (some FieldType.int) ∈ tg := kt 655 rfl rfl
theorem mo92 : MOk (mT 92) 1 := ⟨kw655, kw1, by decide +kernel, by decide +kernel, by decide⟩
theorem kw653 : Cond.instanceMethod ⟨"RopeRound", "lift", "(I)I"⟩ ∈ tg := kt 653 (by decide +kernel) (by decide +kernel)
theorem kw652 : Cond.methodLink "RopeRoundLaw" 62 ⟨"RopeRound", "lift", "(I)I"⟩ ∈ tg := kt 652 (by decide +kernel) (by decide +kernel)
theorem kw654 : Cond.selects "RopeRound" ⟨"RopeRound", "lift", "(I)I"⟩ ⟨"RopeRound", "lift", "(I)I"⟩ ∈ tg := kt 654 (by decide +kernel) (by decide +kernel)
theorem vk163 : ∀ ci y, (fun k => if k = 10 then some 92 else none) ci = some y → (∃ C T N, ClsOk ci C T N ∧ VOk mT "RopeRoundLaw" 62 C y 1) ∨ (ci = 201 ∧ VOk mT "RopeRoundLaw" 62 "java/lang/String" y 1) := by
  intro ci y h
  dsimp only at h
  by_cases h10 : ci = 10
  · subst h10
    have h := (Option.some.inj (by simpa using h)).symm
    subst h
    exact Or.inl ⟨_, _, _, okC10, ⟨mo92, kw653, Or.inl ⟨rfl, kw652, kw654⟩⟩⟩
  rw [if_neg h10] at h
  cases h
set_option maxRecDepth 100000 in
theorem kw1221 : Cond.code ⟨"RopeRoundModel", "lift", "(I)I"⟩ prog_13_method_50_code 3 (some FieldType.int) ∈ tg := kt 1221 rfl rfl
theorem mo178 : MOk (mT 178) 1 := ⟨kw1221, kw12, by decide +kernel, by decide +kernel, by decide⟩
theorem kw1219 : Cond.instanceMethod ⟨"RopeRoundModel", "lift", "(I)I"⟩ ∈ tg := kt 1219 (by decide +kernel) (by decide +kernel)
theorem kw1218 : Cond.methodLink "RopeRoundLaw" 65 ⟨"RopeRoundModel", "lift", "(I)I"⟩ ∈ tg := kt 1218 (by decide +kernel) (by decide +kernel)
theorem kw1220 : Cond.selects "RopeRoundModel" ⟨"RopeRoundModel", "lift", "(I)I"⟩ ⟨"RopeRoundModel", "lift", "(I)I"⟩ ∈ tg := kt 1220 (by decide +kernel) (by decide +kernel)
theorem vk164 : ∀ ci y, (fun k => if k = 11 then some 178 else none) ci = some y → (∃ C T N, ClsOk ci C T N ∧ VOk mT "RopeRoundLaw" 65 C y 1) ∨ (ci = 201 ∧ VOk mT "RopeRoundLaw" 65 "java/lang/String" y 1) := by
  intro ci y h
  dsimp only at h
  by_cases h11 : ci = 11
  · subst h11
    have h := (Option.some.inj (by simpa using h)).symm
    subst h
    exact Or.inl ⟨_, _, _, okC11, ⟨mo178, kw1219, Or.inl ⟨rfl, kw1218, kw1220⟩⟩⟩
  rw [if_neg h11] at h
  cases h
set_option maxRecDepth 100000 in
theorem kw659 : Cond.code ⟨"RopeRound", "man", "(II)I"⟩ prog_1_method_13_code 3 (some FieldType.int) ∈ tg := kt 659 rfl rfl
theorem mo93 : MOk (mT 93) 2 := ⟨kw659, kw1, by decide +kernel, by decide +kernel, by decide⟩
theorem kw657 : Cond.instanceMethod ⟨"RopeRound", "man", "(II)I"⟩ ∈ tg := kt 657 (by decide +kernel) (by decide +kernel)
theorem kw656 : Cond.methodLink "RopeRoundLaw" 66 ⟨"RopeRound", "man", "(II)I"⟩ ∈ tg := kt 656 (by decide +kernel) (by decide +kernel)
theorem kw658 : Cond.selects "RopeRound" ⟨"RopeRound", "man", "(II)I"⟩ ⟨"RopeRound", "man", "(II)I"⟩ ∈ tg := kt 658 (by decide +kernel) (by decide +kernel)
theorem vk165 : ∀ ci y, (fun k => if k = 10 then some 93 else none) ci = some y → (∃ C T N, ClsOk ci C T N ∧ VOk mT "RopeRoundLaw" 66 C y 2) ∨ (ci = 201 ∧ VOk mT "RopeRoundLaw" 66 "java/lang/String" y 2) := by
  intro ci y h
  dsimp only at h
  by_cases h10 : ci = 10
  · subst h10
    have h := (Option.some.inj (by simpa using h)).symm
    subst h
    exact Or.inl ⟨_, _, _, okC10, ⟨mo93, kw657, Or.inl ⟨rfl, kw656, kw658⟩⟩⟩
  rw [if_neg h10] at h
  cases h
set_option maxRecDepth 100000 in
theorem kw1229 : Cond.code ⟨"RopeRoundModel", "man", "(II)I"⟩ prog_13_method_51_code 3 (some FieldType.int) ∈ tg := kt 1229 rfl rfl
theorem mo179 : MOk (mT 179) 2 := ⟨kw1229, kw12, by decide +kernel, by decide +kernel, by decide⟩
theorem kw1227 : Cond.instanceMethod ⟨"RopeRoundModel", "man", "(II)I"⟩ ∈ tg := kt 1227 (by decide +kernel) (by decide +kernel)
theorem kw1226 : Cond.methodLink "RopeRoundLaw" 69 ⟨"RopeRoundModel", "man", "(II)I"⟩ ∈ tg := kt 1226 (by decide +kernel) (by decide +kernel)
theorem kw1228 : Cond.selects "RopeRoundModel" ⟨"RopeRoundModel", "man", "(II)I"⟩ ⟨"RopeRoundModel", "man", "(II)I"⟩ ∈ tg := kt 1228 (by decide +kernel) (by decide +kernel)
theorem vk166 : ∀ ci y, (fun k => if k = 11 then some 179 else none) ci = some y → (∃ C T N, ClsOk ci C T N ∧ VOk mT "RopeRoundLaw" 69 C y 2) ∨ (ci = 201 ∧ VOk mT "RopeRoundLaw" 69 "java/lang/String" y 2) := by
  intro ci y h
  dsimp only at h
  by_cases h11 : ci = 11
  · subst h11
    have h := (Option.some.inj (by simpa using h)).symm
    subst h
    exact Or.inl ⟨_, _, _, okC11, ⟨mo179, kw1227, Or.inl ⟨rfl, kw1226, kw1228⟩⟩⟩
  rw [if_neg h11] at h
  cases h
set_option maxRecDepth 100000 in
theorem kw664 : Cond.code ⟨"RopeRound", "whose", "(I)I"⟩ prog_1_method_14_code 2 (some FieldType.int) ∈ tg := kt 664 rfl rfl
theorem mo94 : MOk (mT 94) 1 := ⟨kw664, kw1, by decide +kernel, by decide +kernel, by decide⟩
theorem kw662 : Cond.instanceMethod ⟨"RopeRound", "whose", "(I)I"⟩ ∈ tg := kt 662 (by decide +kernel) (by decide +kernel)
theorem kw661 : Cond.methodLink "RopeRoundLaw" 70 ⟨"RopeRound", "whose", "(I)I"⟩ ∈ tg := kt 661 (by decide +kernel) (by decide +kernel)
theorem kw663 : Cond.selects "RopeRound" ⟨"RopeRound", "whose", "(I)I"⟩ ⟨"RopeRound", "whose", "(I)I"⟩ ∈ tg := kt 663 (by decide +kernel) (by decide +kernel)
theorem vk167 : ∀ ci y, (fun k => if k = 10 then some 94 else none) ci = some y → (∃ C T N, ClsOk ci C T N ∧ VOk mT "RopeRoundLaw" 70 C y 1) ∨ (ci = 201 ∧ VOk mT "RopeRoundLaw" 70 "java/lang/String" y 1) := by
  intro ci y h
  dsimp only at h
  by_cases h10 : ci = 10
  · subst h10
    have h := (Option.some.inj (by simpa using h)).symm
    subst h
    exact Or.inl ⟨_, _, _, okC10, ⟨mo94, kw662, Or.inl ⟨rfl, kw661, kw663⟩⟩⟩
  rw [if_neg h10] at h
  cases h
set_option maxRecDepth 100000 in
theorem kw1236 : Cond.code ⟨"RopeRoundModel", "whose", "(I)I"⟩ prog_13_method_52_code 2 (some FieldType.int) ∈ tg := kt 1236 rfl rfl
theorem mo180 : MOk (mT 180) 1 := ⟨kw1236, kw12, by decide +kernel, by decide +kernel, by decide⟩
theorem kw1234 : Cond.instanceMethod ⟨"RopeRoundModel", "whose", "(I)I"⟩ ∈ tg := kt 1234 (by decide +kernel) (by decide +kernel)
theorem kw1233 : Cond.methodLink "RopeRoundLaw" 73 ⟨"RopeRoundModel", "whose", "(I)I"⟩ ∈ tg := kt 1233 (by decide +kernel) (by decide +kernel)
theorem kw1235 : Cond.selects "RopeRoundModel" ⟨"RopeRoundModel", "whose", "(I)I"⟩ ⟨"RopeRoundModel", "whose", "(I)I"⟩ ∈ tg := kt 1235 (by decide +kernel) (by decide +kernel)
theorem vk168 : ∀ ci y, (fun k => if k = 11 then some 180 else none) ci = some y → (∃ C T N, ClsOk ci C T N ∧ VOk mT "RopeRoundLaw" 73 C y 1) ∨ (ci = 201 ∧ VOk mT "RopeRoundLaw" 73 "java/lang/String" y 1) := by
  intro ci y h
  dsimp only at h
  by_cases h11 : ci = 11
  · subst h11
    have h := (Option.some.inj (by simpa using h)).symm
    subst h
    exact Or.inl ⟨_, _, _, okC11, ⟨mo180, kw1234, Or.inl ⟨rfl, kw1233, kw1235⟩⟩⟩
  rw [if_neg h11] at h
  cases h
set_option maxRecDepth 100000 in
theorem kw680 : Cond.code ⟨"RopeRound", "most", "(III)I"⟩ prog_1_method_15_code 6 (some FieldType.int) ∈ tg := kt 680 rfl rfl
theorem mo95 : MOk (mT 95) 3 := ⟨kw680, kw1, by decide +kernel, by decide +kernel, by decide⟩
theorem kw678 : Cond.instanceMethod ⟨"RopeRound", "most", "(III)I"⟩ ∈ tg := kt 678 (by decide +kernel) (by decide +kernel)
theorem kw677 : Cond.methodLink "RopeRoundLaw" 74 ⟨"RopeRound", "most", "(III)I"⟩ ∈ tg := kt 677 (by decide +kernel) (by decide +kernel)
theorem kw679 : Cond.selects "RopeRound" ⟨"RopeRound", "most", "(III)I"⟩ ⟨"RopeRound", "most", "(III)I"⟩ ∈ tg := kt 679 (by decide +kernel) (by decide +kernel)
theorem vk169 : ∀ ci y, (fun k => if k = 10 then some 95 else none) ci = some y → (∃ C T N, ClsOk ci C T N ∧ VOk mT "RopeRoundLaw" 74 C y 3) ∨ (ci = 201 ∧ VOk mT "RopeRoundLaw" 74 "java/lang/String" y 3) := by
  intro ci y h
  dsimp only at h
  by_cases h10 : ci = 10
  · subst h10
    have h := (Option.some.inj (by simpa using h)).symm
    subst h
    exact Or.inl ⟨_, _, _, okC10, ⟨mo95, kw678, Or.inl ⟨rfl, kw677, kw679⟩⟩⟩
  rw [if_neg h10] at h
  cases h
set_option maxRecDepth 100000 in
theorem kw1244 : Cond.code ⟨"RopeRoundModel", "most", "(III)I"⟩ prog_13_method_59_code 5 (some FieldType.int) ∈ tg := kt 1244 rfl rfl
theorem mo187 : MOk (mT 187) 3 := ⟨kw1244, kw12, by decide +kernel, by decide +kernel, by decide⟩
theorem kw1242 : Cond.instanceMethod ⟨"RopeRoundModel", "most", "(III)I"⟩ ∈ tg := kt 1242 (by decide +kernel) (by decide +kernel)
theorem kw1241 : Cond.methodLink "RopeRoundLaw" 77 ⟨"RopeRoundModel", "most", "(III)I"⟩ ∈ tg := kt 1241 (by decide +kernel) (by decide +kernel)
theorem kw1243 : Cond.selects "RopeRoundModel" ⟨"RopeRoundModel", "most", "(III)I"⟩ ⟨"RopeRoundModel", "most", "(III)I"⟩ ∈ tg := kt 1243 (by decide +kernel) (by decide +kernel)
theorem vk170 : ∀ ci y, (fun k => if k = 11 then some 187 else none) ci = some y → (∃ C T N, ClsOk ci C T N ∧ VOk mT "RopeRoundLaw" 77 C y 3) ∨ (ci = 201 ∧ VOk mT "RopeRoundLaw" 77 "java/lang/String" y 3) := by
  intro ci y h
  dsimp only at h
  by_cases h11 : ci = 11
  · subst h11
    have h := (Option.some.inj (by simpa using h)).symm
    subst h
    exact Or.inl ⟨_, _, _, okC11, ⟨mo187, kw1242, Or.inl ⟨rfl, kw1241, kw1243⟩⟩⟩
  rw [if_neg h11] at h
  cases h
set_option maxRecDepth 100000 in
theorem kw742 : Cond.code ⟨"RopeRound", "tied", "(I)I"⟩ prog_1_method_16_code 2 (some FieldType.int) ∈ tg := kt 742 rfl rfl
theorem mo96 : MOk (mT 96) 1 := ⟨kw742, kw1, by decide +kernel, by decide +kernel, by decide⟩
theorem kw740 : Cond.instanceMethod ⟨"RopeRound", "tied", "(I)I"⟩ ∈ tg := kt 740 (by decide +kernel) (by decide +kernel)
theorem kw739 : Cond.methodLink "RopeRoundLaw" 78 ⟨"RopeRound", "tied", "(I)I"⟩ ∈ tg := kt 739 (by decide +kernel) (by decide +kernel)
theorem kw741 : Cond.selects "RopeRound" ⟨"RopeRound", "tied", "(I)I"⟩ ⟨"RopeRound", "tied", "(I)I"⟩ ∈ tg := kt 741 (by decide +kernel) (by decide +kernel)
theorem vk171 : ∀ ci y, (fun k => if k = 10 then some 96 else none) ci = some y → (∃ C T N, ClsOk ci C T N ∧ VOk mT "RopeRoundLaw" 78 C y 1) ∨ (ci = 201 ∧ VOk mT "RopeRoundLaw" 78 "java/lang/String" y 1) := by
  intro ci y h
  dsimp only at h
  by_cases h10 : ci = 10
  · subst h10
    have h := (Option.some.inj (by simpa using h)).symm
    subst h
    exact Or.inl ⟨_, _, _, okC10, ⟨mo96, kw740, Or.inl ⟨rfl, kw739, kw741⟩⟩⟩
  rw [if_neg h10] at h
  cases h
set_option maxRecDepth 100000 in
theorem kw1272 : Cond.code ⟨"RopeRoundModel", "tied", "(I)I"⟩ prog_13_method_62_code 2 (some FieldType.int) ∈ tg := kt 1272 rfl rfl
theorem mo190 : MOk (mT 190) 1 := ⟨kw1272, kw12, by decide +kernel, by decide +kernel, by decide⟩
theorem kw1270 : Cond.instanceMethod ⟨"RopeRoundModel", "tied", "(I)I"⟩ ∈ tg := kt 1270 (by decide +kernel) (by decide +kernel)
theorem kw1269 : Cond.methodLink "RopeRoundLaw" 81 ⟨"RopeRoundModel", "tied", "(I)I"⟩ ∈ tg := kt 1269 (by decide +kernel) (by decide +kernel)
theorem kw1271 : Cond.selects "RopeRoundModel" ⟨"RopeRoundModel", "tied", "(I)I"⟩ ⟨"RopeRoundModel", "tied", "(I)I"⟩ ∈ tg := kt 1271 (by decide +kernel) (by decide +kernel)
theorem vk172 : ∀ ci y, (fun k => if k = 11 then some 190 else none) ci = some y → (∃ C T N, ClsOk ci C T N ∧ VOk mT "RopeRoundLaw" 81 C y 1) ∨ (ci = 201 ∧ VOk mT "RopeRoundLaw" 81 "java/lang/String" y 1) := by
  intro ci y h
  dsimp only at h
  by_cases h11 : ci = 11
  · subst h11
    have h := (Option.some.inj (by simpa using h)).symm
    subst h
    exact Or.inl ⟨_, _, _, okC11, ⟨mo190, kw1270, Or.inl ⟨rfl, kw1269, kw1271⟩⟩⟩
  rw [if_neg h11] at h
  cases h
set_option maxRecDepth 100000 in
theorem kw766 : Cond.code ⟨"RopeRound", "shares", "(I)I"⟩ prog_1_method_17_code 3 (some FieldType.int) ∈ tg := kt 766 rfl rfl
theorem mo97 : MOk (mT 97) 1 := ⟨kw766, kw1, by decide +kernel, by decide +kernel, by decide⟩
theorem kw764 : Cond.instanceMethod ⟨"RopeRound", "shares", "(I)I"⟩ ∈ tg := kt 764 (by decide +kernel) (by decide +kernel)
theorem kw763 : Cond.methodLink "RopeRoundLaw" 82 ⟨"RopeRound", "shares", "(I)I"⟩ ∈ tg := kt 763 (by decide +kernel) (by decide +kernel)
theorem kw765 : Cond.selects "RopeRound" ⟨"RopeRound", "shares", "(I)I"⟩ ⟨"RopeRound", "shares", "(I)I"⟩ ∈ tg := kt 765 (by decide +kernel) (by decide +kernel)
theorem vk173 : ∀ ci y, (fun k => if k = 10 then some 97 else none) ci = some y → (∃ C T N, ClsOk ci C T N ∧ VOk mT "RopeRoundLaw" 82 C y 1) ∨ (ci = 201 ∧ VOk mT "RopeRoundLaw" 82 "java/lang/String" y 1) := by
  intro ci y h
  dsimp only at h
  by_cases h10 : ci = 10
  · subst h10
    have h := (Option.some.inj (by simpa using h)).symm
    subst h
    exact Or.inl ⟨_, _, _, okC10, ⟨mo97, kw764, Or.inl ⟨rfl, kw763, kw765⟩⟩⟩
  rw [if_neg h10] at h
  cases h
set_option maxRecDepth 100000 in
theorem kw1283 : Cond.code ⟨"RopeRoundModel", "shares", "(I)I"⟩ prog_13_method_63_code 8 (some FieldType.int) ∈ tg := kt 1283 rfl rfl
theorem mo191 : MOk (mT 191) 1 := ⟨kw1283, kw12, by decide +kernel, by decide +kernel, by decide⟩
theorem kw1281 : Cond.instanceMethod ⟨"RopeRoundModel", "shares", "(I)I"⟩ ∈ tg := kt 1281 (by decide +kernel) (by decide +kernel)
theorem kw1280 : Cond.methodLink "RopeRoundLaw" 85 ⟨"RopeRoundModel", "shares", "(I)I"⟩ ∈ tg := kt 1280 (by decide +kernel) (by decide +kernel)
theorem kw1282 : Cond.selects "RopeRoundModel" ⟨"RopeRoundModel", "shares", "(I)I"⟩ ⟨"RopeRoundModel", "shares", "(I)I"⟩ ∈ tg := kt 1282 (by decide +kernel) (by decide +kernel)
theorem vk174 : ∀ ci y, (fun k => if k = 11 then some 191 else none) ci = some y → (∃ C T N, ClsOk ci C T N ∧ VOk mT "RopeRoundLaw" 85 C y 1) ∨ (ci = 201 ∧ VOk mT "RopeRoundLaw" 85 "java/lang/String" y 1) := by
  intro ci y h
  dsimp only at h
  by_cases h11 : ci = 11
  · subst h11
    have h := (Option.some.inj (by simpa using h)).symm
    subst h
    exact Or.inl ⟨_, _, _, okC11, ⟨mo191, kw1281, Or.inl ⟨rfl, kw1280, kw1282⟩⟩⟩
  rw [if_neg h11] at h
  cases h
set_option maxRecDepth 100000 in
theorem kw785 : Cond.code ⟨"RopeRound", "least", "(III)I"⟩ prog_1_method_18_code 11 (some FieldType.int) ∈ tg := kt 785 rfl rfl
theorem mo98 : MOk (mT 98) 3 := ⟨kw785, kw1, by decide +kernel, by decide +kernel, by decide⟩
theorem kw783 : Cond.instanceMethod ⟨"RopeRound", "least", "(III)I"⟩ ∈ tg := kt 783 (by decide +kernel) (by decide +kernel)
theorem kw782 : Cond.methodLink "RopeRoundLaw" 86 ⟨"RopeRound", "least", "(III)I"⟩ ∈ tg := kt 782 (by decide +kernel) (by decide +kernel)
theorem kw784 : Cond.selects "RopeRound" ⟨"RopeRound", "least", "(III)I"⟩ ⟨"RopeRound", "least", "(III)I"⟩ ∈ tg := kt 784 (by decide +kernel) (by decide +kernel)
theorem vk175 : ∀ ci y, (fun k => if k = 10 then some 98 else none) ci = some y → (∃ C T N, ClsOk ci C T N ∧ VOk mT "RopeRoundLaw" 86 C y 3) ∨ (ci = 201 ∧ VOk mT "RopeRoundLaw" 86 "java/lang/String" y 3) := by
  intro ci y h
  dsimp only at h
  by_cases h10 : ci = 10
  · subst h10
    have h := (Option.some.inj (by simpa using h)).symm
    subst h
    exact Or.inl ⟨_, _, _, okC10, ⟨mo98, kw783, Or.inl ⟨rfl, kw782, kw784⟩⟩⟩
  rw [if_neg h10] at h
  cases h
set_option maxRecDepth 100000 in
theorem kw1287 : Cond.code ⟨"RopeRoundModel", "least", "(III)I"⟩ prog_13_method_64_code 10 (some FieldType.int) ∈ tg := kt 1287 rfl rfl
theorem mo192 : MOk (mT 192) 3 := ⟨kw1287, kw12, by decide +kernel, by decide +kernel, by decide⟩
theorem kw1285 : Cond.instanceMethod ⟨"RopeRoundModel", "least", "(III)I"⟩ ∈ tg := kt 1285 (by decide +kernel) (by decide +kernel)
theorem kw1284 : Cond.methodLink "RopeRoundLaw" 89 ⟨"RopeRoundModel", "least", "(III)I"⟩ ∈ tg := kt 1284 (by decide +kernel) (by decide +kernel)
theorem kw1286 : Cond.selects "RopeRoundModel" ⟨"RopeRoundModel", "least", "(III)I"⟩ ⟨"RopeRoundModel", "least", "(III)I"⟩ ∈ tg := kt 1286 (by decide +kernel) (by decide +kernel)
theorem vk176 : ∀ ci y, (fun k => if k = 11 then some 192 else none) ci = some y → (∃ C T N, ClsOk ci C T N ∧ VOk mT "RopeRoundLaw" 89 C y 3) ∨ (ci = 201 ∧ VOk mT "RopeRoundLaw" 89 "java/lang/String" y 3) := by
  intro ci y h
  dsimp only at h
  by_cases h11 : ci = 11
  · subst h11
    have h := (Option.some.inj (by simpa using h)).symm
    subst h
    exact Or.inl ⟨_, _, _, okC11, ⟨mo192, kw1285, Or.inl ⟨rfl, kw1284, kw1286⟩⟩⟩
  rw [if_neg h11] at h
  cases h
set_option maxRecDepth 100000 in
theorem kw802 : Cond.code ⟨"RopeRound", "wet", "(II)I"⟩ prog_1_method_19_code 5 (some FieldType.int) ∈ tg := kt 802 rfl rfl
theorem mo99 : MOk (mT 99) 2 := ⟨kw802, kw1, by decide +kernel, by decide +kernel, by decide⟩
theorem kw800 : Cond.instanceMethod ⟨"RopeRound", "wet", "(II)I"⟩ ∈ tg := kt 800 (by decide +kernel) (by decide +kernel)
theorem kw799 : Cond.methodLink "RopeRoundLaw" 90 ⟨"RopeRound", "wet", "(II)I"⟩ ∈ tg := kt 799 (by decide +kernel) (by decide +kernel)
theorem kw801 : Cond.selects "RopeRound" ⟨"RopeRound", "wet", "(II)I"⟩ ⟨"RopeRound", "wet", "(II)I"⟩ ∈ tg := kt 801 (by decide +kernel) (by decide +kernel)
theorem vk177 : ∀ ci y, (fun k => if k = 10 then some 99 else none) ci = some y → (∃ C T N, ClsOk ci C T N ∧ VOk mT "RopeRoundLaw" 90 C y 2) ∨ (ci = 201 ∧ VOk mT "RopeRoundLaw" 90 "java/lang/String" y 2) := by
  intro ci y h
  dsimp only at h
  by_cases h10 : ci = 10
  · subst h10
    have h := (Option.some.inj (by simpa using h)).symm
    subst h
    exact Or.inl ⟨_, _, _, okC10, ⟨mo99, kw800, Or.inl ⟨rfl, kw799, kw801⟩⟩⟩
  rw [if_neg h10] at h
  cases h
set_option maxRecDepth 100000 in
theorem kw1291 : Cond.code ⟨"RopeRoundModel", "wet", "(II)I"⟩ prog_13_method_65_code 6 (some FieldType.int) ∈ tg := kt 1291 rfl rfl
theorem mo193 : MOk (mT 193) 2 := ⟨kw1291, kw12, by decide +kernel, by decide +kernel, by decide⟩
theorem kw1289 : Cond.instanceMethod ⟨"RopeRoundModel", "wet", "(II)I"⟩ ∈ tg := kt 1289 (by decide +kernel) (by decide +kernel)
theorem kw1288 : Cond.methodLink "RopeRoundLaw" 93 ⟨"RopeRoundModel", "wet", "(II)I"⟩ ∈ tg := kt 1288 (by decide +kernel) (by decide +kernel)
theorem kw1290 : Cond.selects "RopeRoundModel" ⟨"RopeRoundModel", "wet", "(II)I"⟩ ⟨"RopeRoundModel", "wet", "(II)I"⟩ ∈ tg := kt 1290 (by decide +kernel) (by decide +kernel)
theorem vk178 : ∀ ci y, (fun k => if k = 11 then some 193 else none) ci = some y → (∃ C T N, ClsOk ci C T N ∧ VOk mT "RopeRoundLaw" 93 C y 2) ∨ (ci = 201 ∧ VOk mT "RopeRoundLaw" 93 "java/lang/String" y 2) := by
  intro ci y h
  dsimp only at h
  by_cases h11 : ci = 11
  · subst h11
    have h := (Option.some.inj (by simpa using h)).symm
    subst h
    exact Or.inl ⟨_, _, _, okC11, ⟨mo193, kw1289, Or.inl ⟨rfl, kw1288, kw1290⟩⟩⟩
  rw [if_neg h11] at h
  cases h
set_option maxRecDepth 100000 in
theorem kw806 : Cond.code ⟨"RopeRound", "found", "(IIII)I"⟩ prog_1_method_20_code 6 (some FieldType.int) ∈ tg := kt 806 rfl rfl
theorem mo100 : MOk (mT 100) 4 := ⟨kw806, kw1, by decide +kernel, by decide +kernel, by decide⟩
theorem kw804 : Cond.instanceMethod ⟨"RopeRound", "found", "(IIII)I"⟩ ∈ tg := kt 804 (by decide +kernel) (by decide +kernel)
theorem kw803 : Cond.methodLink "RopeRoundLaw" 94 ⟨"RopeRound", "found", "(IIII)I"⟩ ∈ tg := kt 803 (by decide +kernel) (by decide +kernel)
theorem kw805 : Cond.selects "RopeRound" ⟨"RopeRound", "found", "(IIII)I"⟩ ⟨"RopeRound", "found", "(IIII)I"⟩ ∈ tg := kt 805 (by decide +kernel) (by decide +kernel)
theorem vk179 : ∀ ci y, (fun k => if k = 10 then some 100 else none) ci = some y → (∃ C T N, ClsOk ci C T N ∧ VOk mT "RopeRoundLaw" 94 C y 4) ∨ (ci = 201 ∧ VOk mT "RopeRoundLaw" 94 "java/lang/String" y 4) := by
  intro ci y h
  dsimp only at h
  by_cases h10 : ci = 10
  · subst h10
    have h := (Option.some.inj (by simpa using h)).symm
    subst h
    exact Or.inl ⟨_, _, _, okC10, ⟨mo100, kw804, Or.inl ⟨rfl, kw803, kw805⟩⟩⟩
  rw [if_neg h10] at h
  cases h
set_option maxRecDepth 100000 in
theorem kw1296 : Cond.code ⟨"RopeRoundModel", "found", "(IIII)I"⟩ prog_13_method_67_code 8 (some FieldType.int) ∈ tg := kt 1296 rfl rfl
theorem mo195 : MOk (mT 195) 4 := ⟨kw1296, kw12, by decide +kernel, by decide +kernel, by decide⟩
theorem kw1294 : Cond.instanceMethod ⟨"RopeRoundModel", "found", "(IIII)I"⟩ ∈ tg := kt 1294 (by decide +kernel) (by decide +kernel)
theorem kw1293 : Cond.methodLink "RopeRoundLaw" 97 ⟨"RopeRoundModel", "found", "(IIII)I"⟩ ∈ tg := kt 1293 (by decide +kernel) (by decide +kernel)
theorem kw1295 : Cond.selects "RopeRoundModel" ⟨"RopeRoundModel", "found", "(IIII)I"⟩ ⟨"RopeRoundModel", "found", "(IIII)I"⟩ ∈ tg := kt 1295 (by decide +kernel) (by decide +kernel)
theorem vk180 : ∀ ci y, (fun k => if k = 11 then some 195 else none) ci = some y → (∃ C T N, ClsOk ci C T N ∧ VOk mT "RopeRoundLaw" 97 C y 4) ∨ (ci = 201 ∧ VOk mT "RopeRoundLaw" 97 "java/lang/String" y 4) := by
  intro ci y h
  dsimp only at h
  by_cases h11 : ci = 11
  · subst h11
    have h := (Option.some.inj (by simpa using h)).symm
    subst h
    exact Or.inl ⟨_, _, _, okC11, ⟨mo195, kw1294, Or.inl ⟨rfl, kw1293, kw1295⟩⟩⟩
  rw [if_neg h11] at h
  cases h
set_option maxRecDepth 100000 in
theorem kw824 : Cond.code ⟨"RopeRound", "image", "(I)I"⟩ prog_1_method_21_code 2 (some FieldType.int) ∈ tg := kt 824 rfl rfl
theorem mo101 : MOk (mT 101) 1 := ⟨kw824, kw1, by decide +kernel, by decide +kernel, by decide⟩
theorem kw822 : Cond.instanceMethod ⟨"RopeRound", "image", "(I)I"⟩ ∈ tg := kt 822 (by decide +kernel) (by decide +kernel)
theorem kw821 : Cond.methodLink "RopeRoundLaw" 98 ⟨"RopeRound", "image", "(I)I"⟩ ∈ tg := kt 821 (by decide +kernel) (by decide +kernel)
theorem kw823 : Cond.selects "RopeRound" ⟨"RopeRound", "image", "(I)I"⟩ ⟨"RopeRound", "image", "(I)I"⟩ ∈ tg := kt 823 (by decide +kernel) (by decide +kernel)
theorem vk181 : ∀ ci y, (fun k => if k = 10 then some 101 else none) ci = some y → (∃ C T N, ClsOk ci C T N ∧ VOk mT "RopeRoundLaw" 98 C y 1) ∨ (ci = 201 ∧ VOk mT "RopeRoundLaw" 98 "java/lang/String" y 1) := by
  intro ci y h
  dsimp only at h
  by_cases h10 : ci = 10
  · subst h10
    have h := (Option.some.inj (by simpa using h)).symm
    subst h
    exact Or.inl ⟨_, _, _, okC10, ⟨mo101, kw822, Or.inl ⟨rfl, kw821, kw823⟩⟩⟩
  rw [if_neg h10] at h
  cases h
set_option maxRecDepth 100000 in
theorem kw1305 : Cond.code ⟨"RopeRoundModel", "image", "(I)I"⟩ prog_13_method_68_code 3 (some FieldType.int) ∈ tg := kt 1305 rfl rfl
theorem mo196 : MOk (mT 196) 1 := ⟨kw1305, kw12, by decide +kernel, by decide +kernel, by decide⟩
theorem kw1303 : Cond.instanceMethod ⟨"RopeRoundModel", "image", "(I)I"⟩ ∈ tg := kt 1303 (by decide +kernel) (by decide +kernel)
theorem kw1302 : Cond.methodLink "RopeRoundLaw" 101 ⟨"RopeRoundModel", "image", "(I)I"⟩ ∈ tg := kt 1302 (by decide +kernel) (by decide +kernel)
theorem kw1304 : Cond.selects "RopeRoundModel" ⟨"RopeRoundModel", "image", "(I)I"⟩ ⟨"RopeRoundModel", "image", "(I)I"⟩ ∈ tg := kt 1304 (by decide +kernel) (by decide +kernel)
theorem vk182 : ∀ ci y, (fun k => if k = 11 then some 196 else none) ci = some y → (∃ C T N, ClsOk ci C T N ∧ VOk mT "RopeRoundLaw" 101 C y 1) ∨ (ci = 201 ∧ VOk mT "RopeRoundLaw" 101 "java/lang/String" y 1) := by
  intro ci y h
  dsimp only at h
  by_cases h11 : ci = 11
  · subst h11
    have h := (Option.some.inj (by simpa using h)).symm
    subst h
    exact Or.inl ⟨_, _, _, okC11, ⟨mo196, kw1303, Or.inl ⟨rfl, kw1302, kw1304⟩⟩⟩
  rw [if_neg h11] at h
  cases h
set_option maxRecDepth 100000 in
theorem kw829 : Cond.code ⟨"RopeRound", "restore", "(I)I"⟩ prog_1_method_22_code 2 (some FieldType.int) ∈ tg := kt 829 rfl rfl
theorem mo102 : MOk (mT 102) 1 := ⟨kw829, kw1, by decide +kernel, by decide +kernel, by decide⟩
theorem kw827 : Cond.instanceMethod ⟨"RopeRound", "restore", "(I)I"⟩ ∈ tg := kt 827 (by decide +kernel) (by decide +kernel)
theorem kw826 : Cond.methodLink "RopeRoundLaw" 102 ⟨"RopeRound", "restore", "(I)I"⟩ ∈ tg := kt 826 (by decide +kernel) (by decide +kernel)
theorem kw828 : Cond.selects "RopeRound" ⟨"RopeRound", "restore", "(I)I"⟩ ⟨"RopeRound", "restore", "(I)I"⟩ ∈ tg := kt 828 (by decide +kernel) (by decide +kernel)
theorem vk183 : ∀ ci y, (fun k => if k = 10 then some 102 else none) ci = some y → (∃ C T N, ClsOk ci C T N ∧ VOk mT "RopeRoundLaw" 102 C y 1) ∨ (ci = 201 ∧ VOk mT "RopeRoundLaw" 102 "java/lang/String" y 1) := by
  intro ci y h
  dsimp only at h
  by_cases h10 : ci = 10
  · subst h10
    have h := (Option.some.inj (by simpa using h)).symm
    subst h
    exact Or.inl ⟨_, _, _, okC10, ⟨mo102, kw827, Or.inl ⟨rfl, kw826, kw828⟩⟩⟩
  rw [if_neg h10] at h
  cases h
set_option maxRecDepth 100000 in
theorem kw1309 : Cond.code ⟨"RopeRoundModel", "restore", "(I)I"⟩ prog_13_method_69_code 3 (some FieldType.int) ∈ tg := kt 1309 rfl rfl
theorem mo197 : MOk (mT 197) 1 := ⟨kw1309, kw12, by decide +kernel, by decide +kernel, by decide⟩
theorem kw1307 : Cond.instanceMethod ⟨"RopeRoundModel", "restore", "(I)I"⟩ ∈ tg := kt 1307 (by decide +kernel) (by decide +kernel)
theorem kw1306 : Cond.methodLink "RopeRoundLaw" 105 ⟨"RopeRoundModel", "restore", "(I)I"⟩ ∈ tg := kt 1306 (by decide +kernel) (by decide +kernel)
theorem kw1308 : Cond.selects "RopeRoundModel" ⟨"RopeRoundModel", "restore", "(I)I"⟩ ⟨"RopeRoundModel", "restore", "(I)I"⟩ ∈ tg := kt 1308 (by decide +kernel) (by decide +kernel)
theorem vk184 : ∀ ci y, (fun k => if k = 11 then some 197 else none) ci = some y → (∃ C T N, ClsOk ci C T N ∧ VOk mT "RopeRoundLaw" 105 C y 1) ∨ (ci = 201 ∧ VOk mT "RopeRoundLaw" 105 "java/lang/String" y 1) := by
  intro ci y h
  dsimp only at h
  by_cases h11 : ci = 11
  · subst h11
    have h := (Option.some.inj (by simpa using h)).symm
    subst h
    exact Or.inl ⟨_, _, _, okC11, ⟨mo197, kw1307, Or.inl ⟨rfl, kw1306, kw1308⟩⟩⟩
  rw [if_neg h11] at h
  cases h
set_option maxRecDepth 100000 in
theorem kw833 : Cond.code ⟨"RopeRound", "kind", "(I)I"⟩ prog_1_method_23_code 2 (some FieldType.int) ∈ tg := kt 833 rfl rfl
theorem mo103 : MOk (mT 103) 1 := ⟨kw833, kw1, by decide +kernel, by decide +kernel, by decide⟩
theorem kw831 : Cond.instanceMethod ⟨"RopeRound", "kind", "(I)I"⟩ ∈ tg := kt 831 (by decide +kernel) (by decide +kernel)
theorem kw830 : Cond.methodLink "RopeRoundLaw" 106 ⟨"RopeRound", "kind", "(I)I"⟩ ∈ tg := kt 830 (by decide +kernel) (by decide +kernel)
theorem kw832 : Cond.selects "RopeRound" ⟨"RopeRound", "kind", "(I)I"⟩ ⟨"RopeRound", "kind", "(I)I"⟩ ∈ tg := kt 832 (by decide +kernel) (by decide +kernel)
theorem vk185 : ∀ ci y, (fun k => if k = 10 then some 103 else none) ci = some y → (∃ C T N, ClsOk ci C T N ∧ VOk mT "RopeRoundLaw" 106 C y 1) ∨ (ci = 201 ∧ VOk mT "RopeRoundLaw" 106 "java/lang/String" y 1) := by
  intro ci y h
  dsimp only at h
  by_cases h10 : ci = 10
  · subst h10
    have h := (Option.some.inj (by simpa using h)).symm
    subst h
    exact Or.inl ⟨_, _, _, okC10, ⟨mo103, kw831, Or.inl ⟨rfl, kw830, kw832⟩⟩⟩
  rw [if_neg h10] at h
  cases h
set_option maxRecDepth 100000 in
theorem kw1313 : Cond.code ⟨"RopeRoundModel", "kind", "(I)I"⟩ prog_13_method_72_code 2 (some FieldType.int) ∈ tg := kt 1313 rfl rfl
theorem mo200 : MOk (mT 200) 1 := ⟨kw1313, kw12, by decide +kernel, by decide +kernel, by decide⟩
theorem kw1311 : Cond.instanceMethod ⟨"RopeRoundModel", "kind", "(I)I"⟩ ∈ tg := kt 1311 (by decide +kernel) (by decide +kernel)
theorem kw1310 : Cond.methodLink "RopeRoundLaw" 109 ⟨"RopeRoundModel", "kind", "(I)I"⟩ ∈ tg := kt 1310 (by decide +kernel) (by decide +kernel)
theorem kw1312 : Cond.selects "RopeRoundModel" ⟨"RopeRoundModel", "kind", "(I)I"⟩ ⟨"RopeRoundModel", "kind", "(I)I"⟩ ∈ tg := kt 1312 (by decide +kernel) (by decide +kernel)
theorem vk186 : ∀ ci y, (fun k => if k = 11 then some 200 else none) ci = some y → (∃ C T N, ClsOk ci C T N ∧ VOk mT "RopeRoundLaw" 109 C y 1) ∨ (ci = 201 ∧ VOk mT "RopeRoundLaw" 109 "java/lang/String" y 1) := by
  intro ci y h
  dsimp only at h
  by_cases h11 : ci = 11
  · subst h11
    have h := (Option.some.inj (by simpa using h)).symm
    subst h
    exact Or.inl ⟨_, _, _, okC11, ⟨mo200, kw1311, Or.inl ⟨rfl, kw1310, kw1312⟩⟩⟩
  rw [if_neg h11] at h
  cases h
set_option maxRecDepth 100000 in
theorem kw842 : Cond.code ⟨"RopeRound", "as", "(II)I"⟩ prog_1_method_24_code 3 (some FieldType.int) ∈ tg := kt 842 rfl rfl
theorem mo104 : MOk (mT 104) 2 := ⟨kw842, kw1, by decide +kernel, by decide +kernel, by decide⟩
theorem kw840 : Cond.instanceMethod ⟨"RopeRound", "as", "(II)I"⟩ ∈ tg := kt 840 (by decide +kernel) (by decide +kernel)
theorem kw839 : Cond.methodLink "RopeRoundLaw" 110 ⟨"RopeRound", "as", "(II)I"⟩ ∈ tg := kt 839 (by decide +kernel) (by decide +kernel)
theorem kw841 : Cond.selects "RopeRound" ⟨"RopeRound", "as", "(II)I"⟩ ⟨"RopeRound", "as", "(II)I"⟩ ∈ tg := kt 841 (by decide +kernel) (by decide +kernel)
theorem vk187 : ∀ ci y, (fun k => if k = 10 then some 104 else none) ci = some y → (∃ C T N, ClsOk ci C T N ∧ VOk mT "RopeRoundLaw" 110 C y 2) ∨ (ci = 201 ∧ VOk mT "RopeRoundLaw" 110 "java/lang/String" y 2) := by
  intro ci y h
  dsimp only at h
  by_cases h10 : ci = 10
  · subst h10
    have h := (Option.some.inj (by simpa using h)).symm
    subst h
    exact Or.inl ⟨_, _, _, okC10, ⟨mo104, kw840, Or.inl ⟨rfl, kw839, kw841⟩⟩⟩
  rw [if_neg h10] at h
  cases h
set_option maxRecDepth 100000 in
theorem kw1321 : Cond.code ⟨"RopeRoundModel", "as", "(II)I"⟩ prog_13_method_73_code 3 (some FieldType.int) ∈ tg := kt 1321 rfl rfl
theorem mo201 : MOk (mT 201) 2 := ⟨kw1321, kw12, by decide +kernel, by decide +kernel, by decide⟩
theorem kw1319 : Cond.instanceMethod ⟨"RopeRoundModel", "as", "(II)I"⟩ ∈ tg := kt 1319 (by decide +kernel) (by decide +kernel)
theorem kw1318 : Cond.methodLink "RopeRoundLaw" 113 ⟨"RopeRoundModel", "as", "(II)I"⟩ ∈ tg := kt 1318 (by decide +kernel) (by decide +kernel)
theorem kw1320 : Cond.selects "RopeRoundModel" ⟨"RopeRoundModel", "as", "(II)I"⟩ ⟨"RopeRoundModel", "as", "(II)I"⟩ ∈ tg := kt 1320 (by decide +kernel) (by decide +kernel)
theorem vk188 : ∀ ci y, (fun k => if k = 11 then some 201 else none) ci = some y → (∃ C T N, ClsOk ci C T N ∧ VOk mT "RopeRoundLaw" 113 C y 2) ∨ (ci = 201 ∧ VOk mT "RopeRoundLaw" 113 "java/lang/String" y 2) := by
  intro ci y h
  dsimp only at h
  by_cases h11 : ci = 11
  · subst h11
    have h := (Option.some.inj (by simpa using h)).symm
    subst h
    exact Or.inl ⟨_, _, _, okC11, ⟨mo201, kw1319, Or.inl ⟨rfl, kw1318, kw1320⟩⟩⟩
  rw [if_neg h11] at h
  cases h
set_option maxRecDepth 100000 in
theorem kw852 : Cond.code ⟨"RopeRound", "ask", "(II)I"⟩ prog_1_method_25_code 3 (some FieldType.int) ∈ tg := kt 852 rfl rfl
theorem mo105 : MOk (mT 105) 2 := ⟨kw852, kw1, by decide +kernel, by decide +kernel, by decide⟩
theorem kw850 : Cond.instanceMethod ⟨"RopeRound", "ask", "(II)I"⟩ ∈ tg := kt 850 (by decide +kernel) (by decide +kernel)
theorem kw849 : Cond.methodLink "RopeRoundLaw" 114 ⟨"RopeRound", "ask", "(II)I"⟩ ∈ tg := kt 849 (by decide +kernel) (by decide +kernel)
theorem kw851 : Cond.selects "RopeRound" ⟨"RopeRound", "ask", "(II)I"⟩ ⟨"RopeRound", "ask", "(II)I"⟩ ∈ tg := kt 851 (by decide +kernel) (by decide +kernel)
theorem vk189 : ∀ ci y, (fun k => if k = 10 then some 105 else none) ci = some y → (∃ C T N, ClsOk ci C T N ∧ VOk mT "RopeRoundLaw" 114 C y 2) ∨ (ci = 201 ∧ VOk mT "RopeRoundLaw" 114 "java/lang/String" y 2) := by
  intro ci y h
  dsimp only at h
  by_cases h10 : ci = 10
  · subst h10
    have h := (Option.some.inj (by simpa using h)).symm
    subst h
    exact Or.inl ⟨_, _, _, okC10, ⟨mo105, kw850, Or.inl ⟨rfl, kw849, kw851⟩⟩⟩
  rw [if_neg h10] at h
  cases h
set_option maxRecDepth 100000 in
theorem kw1329 : Cond.code ⟨"RopeRoundModel", "ask", "(II)I"⟩ prog_13_method_78_code 3 (some FieldType.int) ∈ tg := kt 1329 rfl rfl
theorem mo206 : MOk (mT 206) 2 := ⟨kw1329, kw12, by decide +kernel, by decide +kernel, by decide⟩
theorem kw1327 : Cond.instanceMethod ⟨"RopeRoundModel", "ask", "(II)I"⟩ ∈ tg := kt 1327 (by decide +kernel) (by decide +kernel)
theorem kw1326 : Cond.methodLink "RopeRoundLaw" 117 ⟨"RopeRoundModel", "ask", "(II)I"⟩ ∈ tg := kt 1326 (by decide +kernel) (by decide +kernel)
theorem kw1328 : Cond.selects "RopeRoundModel" ⟨"RopeRoundModel", "ask", "(II)I"⟩ ⟨"RopeRoundModel", "ask", "(II)I"⟩ ∈ tg := kt 1328 (by decide +kernel) (by decide +kernel)
theorem vk190 : ∀ ci y, (fun k => if k = 11 then some 206 else none) ci = some y → (∃ C T N, ClsOk ci C T N ∧ VOk mT "RopeRoundLaw" 117 C y 2) ∨ (ci = 201 ∧ VOk mT "RopeRoundLaw" 117 "java/lang/String" y 2) := by
  intro ci y h
  dsimp only at h
  by_cases h11 : ci = 11
  · subst h11
    have h := (Option.some.inj (by simpa using h)).symm
    subst h
    exact Or.inl ⟨_, _, _, okC11, ⟨mo206, kw1327, Or.inl ⟨rfl, kw1326, kw1328⟩⟩⟩
  rw [if_neg h11] at h
  cases h
set_option maxRecDepth 100000 in
theorem kw893 : Cond.code ⟨"RopeRound", "trace", "(I)I"⟩ prog_1_method_26_code 2 (some FieldType.int) ∈ tg := kt 893 rfl rfl
theorem mo106 : MOk (mT 106) 1 := ⟨kw893, kw1, by decide +kernel, by decide +kernel, by decide⟩
theorem kw891 : Cond.instanceMethod ⟨"RopeRound", "trace", "(I)I"⟩ ∈ tg := kt 891 (by decide +kernel) (by decide +kernel)
theorem kw890 : Cond.methodLink "RopeRoundLaw" 118 ⟨"RopeRound", "trace", "(I)I"⟩ ∈ tg := kt 890 (by decide +kernel) (by decide +kernel)
theorem kw892 : Cond.selects "RopeRound" ⟨"RopeRound", "trace", "(I)I"⟩ ⟨"RopeRound", "trace", "(I)I"⟩ ∈ tg := kt 892 (by decide +kernel) (by decide +kernel)
theorem vk191 : ∀ ci y, (fun k => if k = 10 then some 106 else none) ci = some y → (∃ C T N, ClsOk ci C T N ∧ VOk mT "RopeRoundLaw" 118 C y 1) ∨ (ci = 201 ∧ VOk mT "RopeRoundLaw" 118 "java/lang/String" y 1) := by
  intro ci y h
  dsimp only at h
  by_cases h10 : ci = 10
  · subst h10
    have h := (Option.some.inj (by simpa using h)).symm
    subst h
    exact Or.inl ⟨_, _, _, okC10, ⟨mo106, kw891, Or.inl ⟨rfl, kw890, kw892⟩⟩⟩
  rw [if_neg h10] at h
  cases h
set_option maxRecDepth 100000 in
theorem kw1349 : Cond.code ⟨"RopeRoundModel", "trace", "(I)I"⟩ prog_13_method_79_code 2 (some FieldType.int) ∈ tg := kt 1349 rfl rfl
theorem mo207 : MOk (mT 207) 1 := ⟨kw1349, kw12, by decide +kernel, by decide +kernel, by decide⟩
theorem kw1347 : Cond.instanceMethod ⟨"RopeRoundModel", "trace", "(I)I"⟩ ∈ tg := kt 1347 (by decide +kernel) (by decide +kernel)
theorem kw1346 : Cond.methodLink "RopeRoundLaw" 121 ⟨"RopeRoundModel", "trace", "(I)I"⟩ ∈ tg := kt 1346 (by decide +kernel) (by decide +kernel)
theorem kw1348 : Cond.selects "RopeRoundModel" ⟨"RopeRoundModel", "trace", "(I)I"⟩ ⟨"RopeRoundModel", "trace", "(I)I"⟩ ∈ tg := kt 1348 (by decide +kernel) (by decide +kernel)
theorem vk192 : ∀ ci y, (fun k => if k = 11 then some 207 else none) ci = some y → (∃ C T N, ClsOk ci C T N ∧ VOk mT "RopeRoundLaw" 121 C y 1) ∨ (ci = 201 ∧ VOk mT "RopeRoundLaw" 121 "java/lang/String" y 1) := by
  intro ci y h
  dsimp only at h
  by_cases h11 : ci = 11
  · subst h11
    have h := (Option.some.inj (by simpa using h)).symm
    subst h
    exact Or.inl ⟨_, _, _, okC11, ⟨mo207, kw1347, Or.inl ⟨rfl, kw1346, kw1348⟩⟩⟩
  rw [if_neg h11] at h
  cases h
set_option maxRecDepth 100000 in
theorem kw897 : Cond.code ⟨"RopeRound", "count", "(I)I"⟩ prog_1_method_27_code 2 (some FieldType.int) ∈ tg := kt 897 rfl rfl
theorem mo107 : MOk (mT 107) 1 := ⟨kw897, kw1, by decide +kernel, by decide +kernel, by decide⟩
theorem kw895 : Cond.instanceMethod ⟨"RopeRound", "count", "(I)I"⟩ ∈ tg := kt 895 (by decide +kernel) (by decide +kernel)
theorem kw894 : Cond.methodLink "RopeRoundLaw" 122 ⟨"RopeRound", "count", "(I)I"⟩ ∈ tg := kt 894 (by decide +kernel) (by decide +kernel)
theorem kw896 : Cond.selects "RopeRound" ⟨"RopeRound", "count", "(I)I"⟩ ⟨"RopeRound", "count", "(I)I"⟩ ∈ tg := kt 896 (by decide +kernel) (by decide +kernel)
theorem vk193 : ∀ ci y, (fun k => if k = 10 then some 107 else none) ci = some y → (∃ C T N, ClsOk ci C T N ∧ VOk mT "RopeRoundLaw" 122 C y 1) ∨ (ci = 201 ∧ VOk mT "RopeRoundLaw" 122 "java/lang/String" y 1) := by
  intro ci y h
  dsimp only at h
  by_cases h10 : ci = 10
  · subst h10
    have h := (Option.some.inj (by simpa using h)).symm
    subst h
    exact Or.inl ⟨_, _, _, okC10, ⟨mo107, kw895, Or.inl ⟨rfl, kw894, kw896⟩⟩⟩
  rw [if_neg h10] at h
  cases h
set_option maxRecDepth 100000 in
theorem kw1353 : Cond.code ⟨"RopeRoundModel", "count", "(I)I"⟩ prog_13_method_80_code 4 (some FieldType.int) ∈ tg := kt 1353 rfl rfl
theorem mo208 : MOk (mT 208) 1 := ⟨kw1353, kw12, by decide +kernel, by decide +kernel, by decide⟩
theorem kw1351 : Cond.instanceMethod ⟨"RopeRoundModel", "count", "(I)I"⟩ ∈ tg := kt 1351 (by decide +kernel) (by decide +kernel)
theorem kw1350 : Cond.methodLink "RopeRoundLaw" 125 ⟨"RopeRoundModel", "count", "(I)I"⟩ ∈ tg := kt 1350 (by decide +kernel) (by decide +kernel)
theorem kw1352 : Cond.selects "RopeRoundModel" ⟨"RopeRoundModel", "count", "(I)I"⟩ ⟨"RopeRoundModel", "count", "(I)I"⟩ ∈ tg := kt 1352 (by decide +kernel) (by decide +kernel)
theorem vk194 : ∀ ci y, (fun k => if k = 11 then some 208 else none) ci = some y → (∃ C T N, ClsOk ci C T N ∧ VOk mT "RopeRoundLaw" 125 C y 1) ∨ (ci = 201 ∧ VOk mT "RopeRoundLaw" 125 "java/lang/String" y 1) := by
  intro ci y h
  dsimp only at h
  by_cases h11 : ci = 11
  · subst h11
    have h := (Option.some.inj (by simpa using h)).symm
    subst h
    exact Or.inl ⟨_, _, _, okC11, ⟨mo208, kw1351, Or.inl ⟨rfl, kw1350, kw1352⟩⟩⟩
  rw [if_neg h11] at h
  cases h
set_option maxRecDepth 100000 in
theorem kw910 : Cond.code ⟨"RopeRound", "status", "()I"⟩ prog_1_method_28_code 1 (some FieldType.int) ∈ tg := kt 910 rfl rfl
theorem mo108 : MOk (mT 108) 0 := ⟨kw910, kw1, by decide +kernel, by decide +kernel, by decide⟩
theorem kw908 : Cond.instanceMethod ⟨"RopeRound", "status", "()I"⟩ ∈ tg := kt 908 (by decide +kernel) (by decide +kernel)
theorem kw907 : Cond.methodLink "RopeRoundLaw" 126 ⟨"RopeRound", "status", "()I"⟩ ∈ tg := kt 907 (by decide +kernel) (by decide +kernel)
theorem kw909 : Cond.selects "RopeRound" ⟨"RopeRound", "status", "()I"⟩ ⟨"RopeRound", "status", "()I"⟩ ∈ tg := kt 909 (by decide +kernel) (by decide +kernel)
theorem vk195 : ∀ ci y, (fun k => if k = 10 then some 108 else none) ci = some y → (∃ C T N, ClsOk ci C T N ∧ VOk mT "RopeRoundLaw" 126 C y 0) ∨ (ci = 201 ∧ VOk mT "RopeRoundLaw" 126 "java/lang/String" y 0) := by
  intro ci y h
  dsimp only at h
  by_cases h10 : ci = 10
  · subst h10
    have h := (Option.some.inj (by simpa using h)).symm
    subst h
    exact Or.inl ⟨_, _, _, okC10, ⟨mo108, kw908, Or.inl ⟨rfl, kw907, kw909⟩⟩⟩
  rw [if_neg h10] at h
  cases h
set_option maxRecDepth 100000 in
theorem kw1357 : Cond.code ⟨"RopeRoundModel", "status", "()I"⟩ prog_13_method_81_code 1 (some FieldType.int) ∈ tg := kt 1357 rfl rfl
theorem mo209 : MOk (mT 209) 0 := ⟨kw1357, kw12, by decide +kernel, by decide +kernel, by decide⟩
theorem kw1355 : Cond.instanceMethod ⟨"RopeRoundModel", "status", "()I"⟩ ∈ tg := kt 1355 (by decide +kernel) (by decide +kernel)
theorem kw1354 : Cond.methodLink "RopeRoundLaw" 129 ⟨"RopeRoundModel", "status", "()I"⟩ ∈ tg := kt 1354 (by decide +kernel) (by decide +kernel)
theorem kw1356 : Cond.selects "RopeRoundModel" ⟨"RopeRoundModel", "status", "()I"⟩ ⟨"RopeRoundModel", "status", "()I"⟩ ∈ tg := kt 1356 (by decide +kernel) (by decide +kernel)
theorem vk196 : ∀ ci y, (fun k => if k = 11 then some 209 else none) ci = some y → (∃ C T N, ClsOk ci C T N ∧ VOk mT "RopeRoundLaw" 129 C y 0) ∨ (ci = 201 ∧ VOk mT "RopeRoundLaw" 129 "java/lang/String" y 0) := by
  intro ci y h
  dsimp only at h
  by_cases h11 : ci = 11
  · subst h11
    have h := (Option.some.inj (by simpa using h)).symm
    subst h
    exact Or.inl ⟨_, _, _, okC11, ⟨mo209, kw1355, Or.inl ⟨rfl, kw1354, kw1356⟩⟩⟩
  rw [if_neg h11] at h
  cases h
