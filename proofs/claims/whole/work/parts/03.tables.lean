theorem kc_b_6 : (Int8.ofInt 6).toInt32 = (6 : Int32) := by decide +kernel
theorem kc_b_7 : (Int8.ofInt 7).toInt32 = (7 : Int32) := by decide +kernel
theorem kc_b_8 : (Int8.ofInt 8).toInt32 = (8 : Int32) := by decide +kernel
theorem kc_b_9 : (Int8.ofInt 9).toInt32 = (9 : Int32) := by decide +kernel
theorem kc_b_10 : (Int8.ofInt 10).toInt32 = (10 : Int32) := by decide +kernel
theorem kc_b_15 : (Int8.ofInt 15).toInt32 = (15 : Int32) := by decide +kernel
theorem kc_b_20 : (Int8.ofInt 20).toInt32 = (20 : Int32) := by decide +kernel
theorem kc_b_32 : (Int8.ofInt 32).toInt32 = (32 : Int32) := by decide +kernel
theorem kc_b_42 : (Int8.ofInt 42).toInt32 = (42 : Int32) := by decide +kernel
theorem kc_b_43 : (Int8.ofInt 43).toInt32 = (43 : Int32) := by decide +kernel
theorem kc_b_44 : (Int8.ofInt 44).toInt32 = (44 : Int32) := by decide +kernel
theorem kc_b_45 : (Int8.ofInt 45).toInt32 = (45 : Int32) := by decide +kernel
theorem kc_b_47 : (Int8.ofInt 47).toInt32 = (47 : Int32) := by decide +kernel
theorem kc_b_48 : (Int8.ofInt 48).toInt32 = (48 : Int32) := by decide +kernel
theorem kc_b_56 : (Int8.ofInt 56).toInt32 = (56 : Int32) := by decide +kernel
theorem kc_b_57 : (Int8.ofInt 57).toInt32 = (57 : Int32) := by decide +kernel
theorem kc_b_59 : (Int8.ofInt 59).toInt32 = (59 : Int32) := by decide +kernel
theorem kc_b_61 : (Int8.ofInt 61).toInt32 = (61 : Int32) := by decide +kernel
theorem kc_b_80 : (Int8.ofInt 80).toInt32 = (80 : Int32) := by decide +kernel
theorem kc_b_91 : (Int8.ofInt 91).toInt32 = (91 : Int32) := by decide +kernel
theorem kc_b_93 : (Int8.ofInt 93).toInt32 = (93 : Int32) := by decide +kernel
theorem kc_b_97 : (Int8.ofInt 97).toInt32 = (97 : Int32) := by decide +kernel
theorem kc_b_100 : (Int8.ofInt 100).toInt32 = (100 : Int32) := by decide +kernel
theorem kc_b_104 : (Int8.ofInt 104).toInt32 = (104 : Int32) := by decide +kernel
theorem kc_b_107 : (Int8.ofInt 107).toInt32 = (107 : Int32) := by decide +kernel
theorem kc_b_108 : (Int8.ofInt 108).toInt32 = (108 : Int32) := by decide +kernel
theorem kc_b_110 : (Int8.ofInt 110).toInt32 = (110 : Int32) := by decide +kernel
theorem kc_b_116 : (Int8.ofInt 116).toInt32 = (116 : Int32) := by decide +kernel
theorem kc_b_119 : (Int8.ofInt 119).toInt32 = (119 : Int32) := by decide +kernel
theorem kc_i_m1 : Int32.ofInt (-1) = (-1 : Int32) := by decide +kernel
theorem kc_i_0 : Int32.ofInt 0 = (0 : Int32) := by decide +kernel
theorem kc_i_1 : Int32.ofInt 1 = (1 : Int32) := by decide +kernel
theorem kc_i_2 : Int32.ofInt 2 = (2 : Int32) := by decide +kernel
theorem kc_i_3 : Int32.ofInt 3 = (3 : Int32) := by decide +kernel
theorem kc_i_4 : Int32.ofInt 4 = (4 : Int32) := by decide +kernel
theorem kc_i_5 : Int32.ofInt 5 = (5 : Int32) := by decide +kernel
theorem kc_i_6 : Int32.ofInt 6 = (6 : Int32) := by decide +kernel
theorem kc_s_m9999 : (Int16.ofInt (-9999)).toInt32 = (-9999 : Int32) := by decide +kernel
theorem kc_s_128 : (Int16.ofInt 128).toInt32 = (128 : Int32) := by decide +kernel
theorem kc_s_200 : (Int16.ofInt 200).toInt32 = (200 : Int32) := by decide +kernel
theorem kc_s_255 : (Int16.ofInt 255).toInt32 = (255 : Int32) := by decide +kernel
theorem kc_s_768 : (Int16.ofInt 768).toInt32 = (768 : Int32) := by decide +kernel
theorem kc_s_896 : (Int16.ofInt 896).toInt32 = (896 : Int32) := by decide +kernel
theorem kc_s_1000 : (Int16.ofInt 1000).toInt32 = (1000 : Int32) := by decide +kernel
theorem kc_s_9999 : (Int16.ofInt 9999).toInt32 = (9999 : Int32) := by decide +kernel
theorem fv0 : ((0 : Fin 4) : Nat) = 0 := rfl
theorem fv1 : ((1 : Fin 4) : Nat) = 1 := rfl
theorem fv2 : ((2 : Fin 4) : Nat) = 2 := rfl
theorem fv3 : ((3 : Fin 4) : Nat) = 3 := rfl
theorem cls_S : clsOK 0 "StandardRules" F_S 10 t_S := ⟨rfl, by decide +kernel, by decide +kernel, by decide +kernel⟩
theorem cls_R : clsOK 1 "StandardRules$Reader" F_R 6 t_R := ⟨rfl, by decide +kernel, by decide +kernel, by decide +kernel⟩
theorem cls_C : clsOK 2 "StandardRules$Changes" F_C 4 t_C := ⟨rfl, by decide +kernel, by decide +kernel, by decide +kernel⟩
theorem cls_K : clsOK 3 "StandardRules$Reckoner" F_K 4 t_K := ⟨rfl, by decide +kernel, by decide +kernel, by decide +kernel⟩
theorem cls_E : clsOK 4 "StandardRules$Edition" F_E 6 t_E := ⟨rfl, by decide +kernel, by decide +kernel, by decide +kernel⟩
theorem cls_P : clsOK 5 "StandardRules$Part" F_P 5 t_P := ⟨rfl, by decide +kernel, by decide +kernel, by decide +kernel⟩
theorem cls_M : clsOK 6 "StandardRulesModel" F_M 31 t_M := ⟨rfl, by decide +kernel, by decide +kernel, by decide +kernel⟩
theorem fk_R_9 : Cond.fieldLink "StandardRules$Reader" 9 "StandardRules$Reader" "tape" "[I" ∈ Tb := Tb_of 30 (by decide +kernel) rfl
theorem fk_R_15 : Cond.fieldLink "StandardRules$Reader" 15 "StandardRules$Reader" "length" "I" ∈ Tb := Tb_of 31 (by decide +kernel) rfl
theorem fk_R_19 : Cond.fieldLink "StandardRules$Reader" 19 "StandardRules$Reader" "at" "I" ∈ Tb := Tb_of 33 (by decide +kernel) rfl
theorem fk_R_22 : Cond.fieldLink "StandardRules$Reader" 22 "StandardRules$Reader" "number" "I" ∈ Tb := Tb_of 34 (by decide +kernel) rfl
theorem fk_R_25 : Cond.fieldLink "StandardRules$Reader" 25 "StandardRules$Reader" "first" "LStandardRules$Part;" ∈ Tb := Tb_of 35 (by decide +kernel) rfl
theorem fk_R_29 : Cond.fieldLink "StandardRules$Reader" 29 "StandardRules$Reader" "last" "LStandardRules$Part;" ∈ Tb := Tb_of 36 (by decide +kernel) rfl
theorem fk_R_63 : Cond.fieldLinkNest "StandardRules$Reader" 63 "StandardRules$Edition" "firstParts" "[LStandardRules$Part;" "StandardRules" ∈ Nb := Nb_of 122 (by decide +kernel) rfl
theorem fk_R_94 : Cond.fieldLinkNest "StandardRules$Reader" 94 "StandardRules$Part" "next" "LStandardRules$Part;" "StandardRules" ∈ Nb := Nb_of 372 (by decide +kernel) rfl
def fl_R : List (Nat × (Nat × Nat × FieldType × Bool)) := [(9, (1, 0, .array (.int), true)), (15, (1, 1, .int, false)), (19, (1, 2, .int, false)), (22, (1, 3, .int, false)), (25, (1, 4, .object "StandardRules$Part", false)), (29, (1, 5, .object "StandardRules$Part", false)), (63, (4, 5, .array (.object "StandardRules$Part"), true)), (94, (5, 4, .object "StandardRules$Part", false))]
theorem flx_R_9 : lk fl_R 9 = some (1, 0, .array (.int), true) := rfl
theorem flx_R_15 : lk fl_R 15 = some (1, 1, .int, false) := rfl
theorem flx_R_19 : lk fl_R 19 = some (1, 2, .int, false) := rfl
theorem flx_R_22 : lk fl_R 22 = some (1, 3, .int, false) := rfl
theorem flx_R_25 : lk fl_R 25 = some (1, 4, .object "StandardRules$Part", false) := rfl
theorem flx_R_29 : lk fl_R 29 = some (1, 5, .object "StandardRules$Part", false) := rfl
theorem flx_R_63 : lk fl_R 63 = some (4, 5, .array (.object "StandardRules$Part"), true) := rfl
theorem flx_R_94 : lk fl_R 94 = some (5, 4, .object "StandardRules$Part", false) := rfl
theorem fl_R_ok : AllL (fun q : Nat × (Nat × Nat × FieldType × Bool) => fOK "StandardRules$Reader" q.1 q.2.1 q.2.2.1 q.2.2.2.1 q.2.2.2.2) fl_R := ⟨⟨_, _, _, _, cls_R, by decide, rfl, rfl, Or.inl fk_R_9⟩, ⟨_, _, _, _, cls_R, by decide, rfl, rfl, Or.inl fk_R_15⟩, ⟨_, _, _, _, cls_R, by decide, rfl, rfl, Or.inl fk_R_19⟩, ⟨_, _, _, _, cls_R, by decide, rfl, rfl, Or.inl fk_R_22⟩, ⟨_, _, _, _, cls_R, by decide, rfl, rfl, Or.inl fk_R_25⟩, ⟨_, _, _, _, cls_R, by decide, rfl, rfl, Or.inl fk_R_29⟩, ⟨_, _, _, _, cls_E, by decide, rfl, rfl, Or.inr ⟨_, fk_R_63⟩⟩, ⟨_, _, _, _, cls_P, by decide, rfl, rfl, Or.inr ⟨_, fk_R_94⟩⟩, trivial⟩
theorem fl_R_F : AllL (fun q : Nat × (Nat × Nat × FieldType × Bool) => q.2.1 = 1 → q.2.2.2.2 = true → fOKF "StandardRules$Reader" q.1 q.2.1 q.2.2.1 q.2.2.2.1) fl_R := ⟨(fun _ _ => ⟨_, _, _, _, cls_R, by decide, rfl, rfl, rfl, fk_R_9⟩), (fun _ h => by cases h), (fun _ h => by cases h), (fun _ h => by cases h), (fun _ h => by cases h), (fun _ h => by cases h), (fun h _ => by cases h), (fun h _ => by cases h), trivial⟩
theorem fk_S_10 : Cond.fieldLink "StandardRules" 10 "StandardRules" "reader" "LStandardRules$Reader;" ∈ Tb := Tb_of 137 (by decide +kernel) rfl
theorem fk_S_18 : Cond.fieldLink "StandardRules" 18 "StandardRules" "editions" "[LStandardRules$Edition;" ∈ Tb := Tb_of 138 (by decide +kernel) rfl
theorem fk_S_25 : Cond.fieldLink "StandardRules" 25 "StandardRules" "changes" "LStandardRules$Changes;" ∈ Tb := Tb_of 139 (by decide +kernel) rfl
theorem fk_S_32 : Cond.fieldLink "StandardRules" 32 "StandardRules" "reckoner" "LStandardRules$Reckoner;" ∈ Tb := Tb_of 140 (by decide +kernel) rfl
theorem fk_S_36 : Cond.fieldLink "StandardRules" 36 "StandardRules" "editionCount" "I" ∈ Tb := Tb_of 141 (by decide +kernel) rfl
theorem fk_S_40 : Cond.fieldLink "StandardRules" 40 "StandardRules" "wrongPlace" "I" ∈ Tb := Tb_of 142 (by decide +kernel) rfl
theorem fk_S_43 : Cond.fieldLink "StandardRules" 43 "StandardRules" "orderCustomer" "I" ∈ Tb := Tb_of 143 (by decide +kernel) rfl
theorem fk_S_46 : Cond.fieldLink "StandardRules" 46 "StandardRules" "orderDay" "I" ∈ Tb := Tb_of 144 (by decide +kernel) rfl
theorem fk_S_49 : Cond.fieldLink "StandardRules" 49 "StandardRules" "latestOpenRule" "I" ∈ Tb := Tb_of 145 (by decide +kernel) rfl
theorem fk_S_52 : Cond.fieldLink "StandardRules" 52 "StandardRules" "latestOpenReason" "I" ∈ Tb := Tb_of 146 (by decide +kernel) rfl
theorem fk_S_64 : Cond.fieldLinkNest "StandardRules" 64 "StandardRules$Reader" "length" "I" "StandardRules" ∈ Nb := Nb_of 32 (by decide +kernel) rfl
theorem fk_S_81 : Cond.fieldLinkNest "StandardRules" 81 "StandardRules$Edition" "day" "I" "StandardRules" ∈ Nb := Nb_of 108 (by decide +kernel) rfl
theorem fk_S_94 : Cond.fieldLinkNest "StandardRules" 94 "StandardRules$Changes" "count" "I" "StandardRules" ∈ Nb := Nb_of 68 (by decide +kernel) rfl
theorem fk_S_116 : Cond.fieldLinkNest "StandardRules" 116 "StandardRules$Changes" "numbers" "[I" "StandardRules" ∈ Nb := Nb_of 65 (by decide +kernel) rfl
theorem fk_S_128 : Cond.fieldLinkNest "StandardRules" 128 "StandardRules$Reckoner" "openRules" "[I" "StandardRules" ∈ Nb := Nb_of 88 (by decide +kernel) rfl
theorem fk_S_131 : Cond.fieldLinkNest "StandardRules" 131 "StandardRules$Reckoner" "openReasons" "[I" "StandardRules" ∈ Nb := Nb_of 90 (by decide +kernel) rfl
theorem fk_S_134 : Cond.fieldLinkNest "StandardRules" 134 "StandardRules$Reckoner" "values" "[I" "StandardRules" ∈ Nb := Nb_of 86 (by decide +kernel) rfl
theorem fk_S_141 : Cond.fieldLinkNest "StandardRules" 141 "StandardRules$Edition" "ruleCount" "I" "StandardRules" ∈ Nb := Nb_of 114 (by decide +kernel) rfl
theorem fk_S_148 : Cond.fieldLinkNest "StandardRules" 148 "StandardRules$Edition" "numberCount" "I" "StandardRules" ∈ Nb := Nb_of 111 (by decide +kernel) rfl
theorem fk_S_151 : Cond.fieldLinkNest "StandardRules" 151 "StandardRules$Edition" "numbers" "[I" "StandardRules" ∈ Nb := Nb_of 117 (by decide +kernel) rfl
theorem fk_S_152 : Cond.fieldLinkNest "StandardRules" 152 "StandardRules$Edition" "firstParts" "[LStandardRules$Part;" "StandardRules" ∈ Nb := Nb_of 123 (by decide +kernel) rfl
def fl_S : List (Nat × (Nat × Nat × FieldType × Bool)) := [(10, (0, 0, .object "StandardRules$Reader", true)), (18, (0, 1, .array (.object "StandardRules$Edition"), true)), (25, (0, 2, .object "StandardRules$Changes", true)), (32, (0, 3, .object "StandardRules$Reckoner", true)), (36, (0, 4, .int, false)), (40, (0, 5, .int, false)), (43, (0, 6, .int, false)), (46, (0, 7, .int, false)), (49, (0, 8, .int, false)), (52, (0, 9, .int, false)), (64, (1, 1, .int, false)), (81, (4, 0, .int, false)), (94, (2, 3, .int, false)), (116, (2, 1, .array (.int), true)), (128, (3, 2, .array (.int), true)), (131, (3, 3, .array (.int), true)), (134, (3, 1, .array (.int), true)), (141, (4, 2, .int, false)), (148, (4, 1, .int, false)), (151, (4, 3, .array (.int), true)), (152, (4, 5, .array (.object "StandardRules$Part"), true))]
theorem flx_S_10 : lk fl_S 10 = some (0, 0, .object "StandardRules$Reader", true) := rfl
theorem flx_S_18 : lk fl_S 18 = some (0, 1, .array (.object "StandardRules$Edition"), true) := rfl
theorem flx_S_25 : lk fl_S 25 = some (0, 2, .object "StandardRules$Changes", true) := rfl
theorem flx_S_32 : lk fl_S 32 = some (0, 3, .object "StandardRules$Reckoner", true) := rfl
theorem flx_S_36 : lk fl_S 36 = some (0, 4, .int, false) := rfl
theorem flx_S_40 : lk fl_S 40 = some (0, 5, .int, false) := rfl
theorem flx_S_43 : lk fl_S 43 = some (0, 6, .int, false) := rfl
theorem flx_S_46 : lk fl_S 46 = some (0, 7, .int, false) := rfl
theorem flx_S_49 : lk fl_S 49 = some (0, 8, .int, false) := rfl
theorem flx_S_52 : lk fl_S 52 = some (0, 9, .int, false) := rfl
theorem flx_S_64 : lk fl_S 64 = some (1, 1, .int, false) := rfl
theorem flx_S_81 : lk fl_S 81 = some (4, 0, .int, false) := rfl
theorem flx_S_94 : lk fl_S 94 = some (2, 3, .int, false) := rfl
theorem flx_S_116 : lk fl_S 116 = some (2, 1, .array (.int), true) := rfl
theorem flx_S_128 : lk fl_S 128 = some (3, 2, .array (.int), true) := rfl
theorem flx_S_131 : lk fl_S 131 = some (3, 3, .array (.int), true) := rfl
theorem flx_S_134 : lk fl_S 134 = some (3, 1, .array (.int), true) := rfl
theorem flx_S_141 : lk fl_S 141 = some (4, 2, .int, false) := rfl
theorem flx_S_148 : lk fl_S 148 = some (4, 1, .int, false) := rfl
theorem flx_S_151 : lk fl_S 151 = some (4, 3, .array (.int), true) := rfl
theorem flx_S_152 : lk fl_S 152 = some (4, 5, .array (.object "StandardRules$Part"), true) := rfl
theorem fl_S_ok : AllL (fun q : Nat × (Nat × Nat × FieldType × Bool) => fOK "StandardRules" q.1 q.2.1 q.2.2.1 q.2.2.2.1 q.2.2.2.2) fl_S := ⟨⟨_, _, _, _, cls_S, by decide, rfl, rfl, Or.inl fk_S_10⟩, ⟨_, _, _, _, cls_S, by decide, rfl, rfl, Or.inl fk_S_18⟩, ⟨_, _, _, _, cls_S, by decide, rfl, rfl, Or.inl fk_S_25⟩, ⟨_, _, _, _, cls_S, by decide, rfl, rfl, Or.inl fk_S_32⟩, ⟨_, _, _, _, cls_S, by decide, rfl, rfl, Or.inl fk_S_36⟩, ⟨_, _, _, _, cls_S, by decide, rfl, rfl, Or.inl fk_S_40⟩, ⟨_, _, _, _, cls_S, by decide, rfl, rfl, Or.inl fk_S_43⟩, ⟨_, _, _, _, cls_S, by decide, rfl, rfl, Or.inl fk_S_46⟩, ⟨_, _, _, _, cls_S, by decide, rfl, rfl, Or.inl fk_S_49⟩, ⟨_, _, _, _, cls_S, by decide, rfl, rfl, Or.inl fk_S_52⟩, ⟨_, _, _, _, cls_R, by decide, rfl, rfl, Or.inr ⟨_, fk_S_64⟩⟩, ⟨_, _, _, _, cls_E, by decide, rfl, rfl, Or.inr ⟨_, fk_S_81⟩⟩, ⟨_, _, _, _, cls_C, by decide, rfl, rfl, Or.inr ⟨_, fk_S_94⟩⟩, ⟨_, _, _, _, cls_C, by decide, rfl, rfl, Or.inr ⟨_, fk_S_116⟩⟩, ⟨_, _, _, _, cls_K, by decide, rfl, rfl, Or.inr ⟨_, fk_S_128⟩⟩, ⟨_, _, _, _, cls_K, by decide, rfl, rfl, Or.inr ⟨_, fk_S_131⟩⟩, ⟨_, _, _, _, cls_K, by decide, rfl, rfl, Or.inr ⟨_, fk_S_134⟩⟩, ⟨_, _, _, _, cls_E, by decide, rfl, rfl, Or.inr ⟨_, fk_S_141⟩⟩, ⟨_, _, _, _, cls_E, by decide, rfl, rfl, Or.inr ⟨_, fk_S_148⟩⟩, ⟨_, _, _, _, cls_E, by decide, rfl, rfl, Or.inr ⟨_, fk_S_151⟩⟩, ⟨_, _, _, _, cls_E, by decide, rfl, rfl, Or.inr ⟨_, fk_S_152⟩⟩, trivial⟩
theorem fl_S_F : AllL (fun q : Nat × (Nat × Nat × FieldType × Bool) => q.2.1 = 0 → q.2.2.2.2 = true → fOKF "StandardRules" q.1 q.2.1 q.2.2.1 q.2.2.2.1) fl_S := ⟨(fun _ _ => ⟨_, _, _, _, cls_S, by decide, rfl, rfl, rfl, fk_S_10⟩), (fun _ _ => ⟨_, _, _, _, cls_S, by decide, rfl, rfl, rfl, fk_S_18⟩), (fun _ _ => ⟨_, _, _, _, cls_S, by decide, rfl, rfl, rfl, fk_S_25⟩), (fun _ _ => ⟨_, _, _, _, cls_S, by decide, rfl, rfl, rfl, fk_S_32⟩), (fun _ h => by cases h), (fun _ h => by cases h), (fun _ h => by cases h), (fun _ h => by cases h), (fun _ h => by cases h), (fun _ h => by cases h), (fun h _ => by cases h), (fun h _ => by cases h), (fun h _ => by cases h), (fun h _ => by cases h), (fun h _ => by cases h), (fun h _ => by cases h), (fun h _ => by cases h), (fun h _ => by cases h), (fun h _ => by cases h), (fun h _ => by cases h), (fun h _ => by cases h), trivial⟩
theorem fk_C_9 : Cond.fieldLink "StandardRules$Changes" 9 "StandardRules$Changes" "ranks" "[I" ∈ Tb := Tb_of 62 (by decide +kernel) rfl
theorem fk_C_15 : Cond.fieldLink "StandardRules$Changes" 15 "StandardRules$Changes" "numbers" "[I" ∈ Tb := Tb_of 63 (by decide +kernel) rfl
theorem fk_C_18 : Cond.fieldLink "StandardRules$Changes" 18 "StandardRules$Changes" "countingOnes" "[I" ∈ Tb := Tb_of 66 (by decide +kernel) rfl
theorem fk_C_21 : Cond.fieldLink "StandardRules$Changes" 21 "StandardRules$Changes" "count" "I" ∈ Tb := Tb_of 67 (by decide +kernel) rfl
def fl_C : List (Nat × (Nat × Nat × FieldType × Bool)) := [(9, (2, 0, .array (.int), true)), (15, (2, 1, .array (.int), true)), (18, (2, 2, .array (.int), true)), (21, (2, 3, .int, false))]
theorem flx_C_9 : lk fl_C 9 = some (2, 0, .array (.int), true) := rfl
theorem flx_C_15 : lk fl_C 15 = some (2, 1, .array (.int), true) := rfl
theorem flx_C_18 : lk fl_C 18 = some (2, 2, .array (.int), true) := rfl
theorem flx_C_21 : lk fl_C 21 = some (2, 3, .int, false) := rfl
theorem fl_C_ok : AllL (fun q : Nat × (Nat × Nat × FieldType × Bool) => fOK "StandardRules$Changes" q.1 q.2.1 q.2.2.1 q.2.2.2.1 q.2.2.2.2) fl_C := ⟨⟨_, _, _, _, cls_C, by decide, rfl, rfl, Or.inl fk_C_9⟩, ⟨_, _, _, _, cls_C, by decide, rfl, rfl, Or.inl fk_C_15⟩, ⟨_, _, _, _, cls_C, by decide, rfl, rfl, Or.inl fk_C_18⟩, ⟨_, _, _, _, cls_C, by decide, rfl, rfl, Or.inl fk_C_21⟩, trivial⟩
theorem fl_C_F : AllL (fun q : Nat × (Nat × Nat × FieldType × Bool) => q.2.1 = 2 → q.2.2.2.2 = true → fOKF "StandardRules$Changes" q.1 q.2.1 q.2.2.1 q.2.2.2.1) fl_C := ⟨(fun _ _ => ⟨_, _, _, _, cls_C, by decide, rfl, rfl, rfl, fk_C_9⟩), (fun _ _ => ⟨_, _, _, _, cls_C, by decide, rfl, rfl, rfl, fk_C_15⟩), (fun _ _ => ⟨_, _, _, _, cls_C, by decide, rfl, rfl, rfl, fk_C_18⟩), (fun _ h => by cases h), trivial⟩
theorem fk_K_9 : Cond.fieldLink "StandardRules$Reckoner" 9 "StandardRules$Reckoner" "sizes" "[I" ∈ Tb := Tb_of 84 (by decide +kernel) rfl
theorem fk_K_15 : Cond.fieldLink "StandardRules$Reckoner" 15 "StandardRules$Reckoner" "values" "[I" ∈ Tb := Tb_of 85 (by decide +kernel) rfl
theorem fk_K_18 : Cond.fieldLink "StandardRules$Reckoner" 18 "StandardRules$Reckoner" "openRules" "[I" ∈ Tb := Tb_of 87 (by decide +kernel) rfl
theorem fk_K_21 : Cond.fieldLink "StandardRules$Reckoner" 21 "StandardRules$Reckoner" "openReasons" "[I" ∈ Tb := Tb_of 89 (by decide +kernel) rfl
theorem fk_K_24 : Cond.fieldLinkNest "StandardRules$Reckoner" 24 "StandardRules$Edition" "ruleCount" "I" "StandardRules" ∈ Nb := Nb_of 113 (by decide +kernel) rfl
theorem fk_K_30 : Cond.fieldLinkNest "StandardRules$Reckoner" 30 "StandardRules$Edition" "letters" "[I" "StandardRules" ∈ Nb := Nb_of 119 (by decide +kernel) rfl
theorem fk_K_39 : Cond.fieldLinkNest "StandardRules$Reckoner" 39 "StandardRules$Changes" "numbers" "[I" "StandardRules" ∈ Nb := Nb_of 64 (by decide +kernel) rfl
theorem fk_K_46 : Cond.fieldLinkNest "StandardRules$Reckoner" 46 "StandardRules$Edition" "firstParts" "[LStandardRules$Part;" "StandardRules" ∈ Nb := Nb_of 121 (by decide +kernel) rfl
theorem fk_K_54 : Cond.fieldLinkNest "StandardRules$Reckoner" 54 "StandardRules$Part" "sign" "I" "StandardRules" ∈ Nb := Nb_of 363 (by decide +kernel) rfl
theorem fk_K_67 : Cond.fieldLinkNest "StandardRules$Reckoner" 67 "StandardRules$Part" "next" "LStandardRules$Part;" "StandardRules" ∈ Nb := Nb_of 371 (by decide +kernel) rfl
theorem fk_K_71 : Cond.fieldLinkNest "StandardRules$Reckoner" 71 "StandardRules$Part" "operand" "I" "StandardRules" ∈ Nb := Nb_of 369 (by decide +kernel) rfl
theorem fk_K_74 : Cond.fieldLinkNest "StandardRules$Reckoner" 74 "StandardRules$Part" "kind" "I" "StandardRules" ∈ Nb := Nb_of 367 (by decide +kernel) rfl
theorem fk_K_77 : Cond.fieldLinkNest "StandardRules$Reckoner" 77 "StandardRules$Part" "looksUp" "Z" "StandardRules" ∈ Nb := Nb_of 365 (by decide +kernel) rfl
theorem fk_K_81 : Cond.fieldLinkNest "StandardRules$Reckoner" 81 "StandardRules$Edition" "numberCount" "I" "StandardRules" ∈ Nb := Nb_of 110 (by decide +kernel) rfl
theorem fk_K_88 : Cond.fieldLinkNest "StandardRules$Reckoner" 88 "StandardRules$Edition" "numbers" "[I" "StandardRules" ∈ Nb := Nb_of 116 (by decide +kernel) rfl
def fl_K : List (Nat × (Nat × Nat × FieldType × Bool)) := [(9, (3, 0, .array (.int), true)), (15, (3, 1, .array (.int), true)), (18, (3, 2, .array (.int), true)), (21, (3, 3, .array (.int), true)), (24, (4, 2, .int, false)), (30, (4, 4, .array (.int), true)), (39, (2, 1, .array (.int), true)), (46, (4, 5, .array (.object "StandardRules$Part"), true)), (54, (5, 0, .int, true)), (67, (5, 4, .object "StandardRules$Part", false)), (71, (5, 3, .int, true)), (74, (5, 2, .int, true)), (77, (5, 1, .boolean, true)), (81, (4, 1, .int, false)), (88, (4, 3, .array (.int), true))]
theorem flx_K_9 : lk fl_K 9 = some (3, 0, .array (.int), true) := rfl
theorem flx_K_15 : lk fl_K 15 = some (3, 1, .array (.int), true) := rfl
theorem flx_K_18 : lk fl_K 18 = some (3, 2, .array (.int), true) := rfl
theorem flx_K_21 : lk fl_K 21 = some (3, 3, .array (.int), true) := rfl
theorem flx_K_24 : lk fl_K 24 = some (4, 2, .int, false) := rfl
theorem flx_K_30 : lk fl_K 30 = some (4, 4, .array (.int), true) := rfl
theorem flx_K_39 : lk fl_K 39 = some (2, 1, .array (.int), true) := rfl
theorem flx_K_46 : lk fl_K 46 = some (4, 5, .array (.object "StandardRules$Part"), true) := rfl
theorem flx_K_54 : lk fl_K 54 = some (5, 0, .int, true) := rfl
theorem flx_K_67 : lk fl_K 67 = some (5, 4, .object "StandardRules$Part", false) := rfl
theorem flx_K_71 : lk fl_K 71 = some (5, 3, .int, true) := rfl
theorem flx_K_74 : lk fl_K 74 = some (5, 2, .int, true) := rfl
theorem flx_K_77 : lk fl_K 77 = some (5, 1, .boolean, true) := rfl
theorem flx_K_81 : lk fl_K 81 = some (4, 1, .int, false) := rfl
theorem flx_K_88 : lk fl_K 88 = some (4, 3, .array (.int), true) := rfl
theorem fl_K_ok : AllL (fun q : Nat × (Nat × Nat × FieldType × Bool) => fOK "StandardRules$Reckoner" q.1 q.2.1 q.2.2.1 q.2.2.2.1 q.2.2.2.2) fl_K := ⟨⟨_, _, _, _, cls_K, by decide, rfl, rfl, Or.inl fk_K_9⟩, ⟨_, _, _, _, cls_K, by decide, rfl, rfl, Or.inl fk_K_15⟩, ⟨_, _, _, _, cls_K, by decide, rfl, rfl, Or.inl fk_K_18⟩, ⟨_, _, _, _, cls_K, by decide, rfl, rfl, Or.inl fk_K_21⟩, ⟨_, _, _, _, cls_E, by decide, rfl, rfl, Or.inr ⟨_, fk_K_24⟩⟩, ⟨_, _, _, _, cls_E, by decide, rfl, rfl, Or.inr ⟨_, fk_K_30⟩⟩, ⟨_, _, _, _, cls_C, by decide, rfl, rfl, Or.inr ⟨_, fk_K_39⟩⟩, ⟨_, _, _, _, cls_E, by decide, rfl, rfl, Or.inr ⟨_, fk_K_46⟩⟩, ⟨_, _, _, _, cls_P, by decide, rfl, rfl, Or.inr ⟨_, fk_K_54⟩⟩, ⟨_, _, _, _, cls_P, by decide, rfl, rfl, Or.inr ⟨_, fk_K_67⟩⟩, ⟨_, _, _, _, cls_P, by decide, rfl, rfl, Or.inr ⟨_, fk_K_71⟩⟩, ⟨_, _, _, _, cls_P, by decide, rfl, rfl, Or.inr ⟨_, fk_K_74⟩⟩, ⟨_, _, _, _, cls_P, by decide, rfl, rfl, Or.inr ⟨_, fk_K_77⟩⟩, ⟨_, _, _, _, cls_E, by decide, rfl, rfl, Or.inr ⟨_, fk_K_81⟩⟩, ⟨_, _, _, _, cls_E, by decide, rfl, rfl, Or.inr ⟨_, fk_K_88⟩⟩, trivial⟩
theorem fl_K_F : AllL (fun q : Nat × (Nat × Nat × FieldType × Bool) => q.2.1 = 3 → q.2.2.2.2 = true → fOKF "StandardRules$Reckoner" q.1 q.2.1 q.2.2.1 q.2.2.2.1) fl_K := ⟨(fun _ _ => ⟨_, _, _, _, cls_K, by decide, rfl, rfl, rfl, fk_K_9⟩), (fun _ _ => ⟨_, _, _, _, cls_K, by decide, rfl, rfl, rfl, fk_K_15⟩), (fun _ _ => ⟨_, _, _, _, cls_K, by decide, rfl, rfl, rfl, fk_K_18⟩), (fun _ _ => ⟨_, _, _, _, cls_K, by decide, rfl, rfl, rfl, fk_K_21⟩), (fun h _ => by cases h), (fun h _ => by cases h), (fun h _ => by cases h), (fun h _ => by cases h), (fun h _ => by cases h), (fun h _ => by cases h), (fun h _ => by cases h), (fun h _ => by cases h), (fun h _ => by cases h), (fun h _ => by cases h), (fun h _ => by cases h), trivial⟩
theorem fk_E_9 : Cond.fieldLink "StandardRules$Edition" 9 "StandardRules$Edition" "day" "I" ∈ Tb := Tb_of 107 (by decide +kernel) rfl
theorem fk_E_15 : Cond.fieldLink "StandardRules$Edition" 15 "StandardRules$Edition" "numberCount" "I" ∈ Tb := Tb_of 109 (by decide +kernel) rfl
theorem fk_E_18 : Cond.fieldLink "StandardRules$Edition" 18 "StandardRules$Edition" "ruleCount" "I" ∈ Tb := Tb_of 112 (by decide +kernel) rfl
theorem fk_E_21 : Cond.fieldLink "StandardRules$Edition" 21 "StandardRules$Edition" "numbers" "[I" ∈ Tb := Tb_of 115 (by decide +kernel) rfl
theorem fk_E_25 : Cond.fieldLink "StandardRules$Edition" 25 "StandardRules$Edition" "letters" "[I" ∈ Tb := Tb_of 118 (by decide +kernel) rfl
theorem fk_E_30 : Cond.fieldLink "StandardRules$Edition" 30 "StandardRules$Edition" "firstParts" "[LStandardRules$Part;" ∈ Tb := Tb_of 120 (by decide +kernel) rfl
def fl_E : List (Nat × (Nat × Nat × FieldType × Bool)) := [(9, (4, 0, .int, false)), (15, (4, 1, .int, false)), (18, (4, 2, .int, false)), (21, (4, 3, .array (.int), true)), (25, (4, 4, .array (.int), true)), (30, (4, 5, .array (.object "StandardRules$Part"), true))]
theorem flx_E_9 : lk fl_E 9 = some (4, 0, .int, false) := rfl
theorem flx_E_15 : lk fl_E 15 = some (4, 1, .int, false) := rfl
theorem flx_E_18 : lk fl_E 18 = some (4, 2, .int, false) := rfl
theorem flx_E_21 : lk fl_E 21 = some (4, 3, .array (.int), true) := rfl
theorem flx_E_25 : lk fl_E 25 = some (4, 4, .array (.int), true) := rfl
theorem flx_E_30 : lk fl_E 30 = some (4, 5, .array (.object "StandardRules$Part"), true) := rfl
theorem fl_E_ok : AllL (fun q : Nat × (Nat × Nat × FieldType × Bool) => fOK "StandardRules$Edition" q.1 q.2.1 q.2.2.1 q.2.2.2.1 q.2.2.2.2) fl_E := ⟨⟨_, _, _, _, cls_E, by decide, rfl, rfl, Or.inl fk_E_9⟩, ⟨_, _, _, _, cls_E, by decide, rfl, rfl, Or.inl fk_E_15⟩, ⟨_, _, _, _, cls_E, by decide, rfl, rfl, Or.inl fk_E_18⟩, ⟨_, _, _, _, cls_E, by decide, rfl, rfl, Or.inl fk_E_21⟩, ⟨_, _, _, _, cls_E, by decide, rfl, rfl, Or.inl fk_E_25⟩, ⟨_, _, _, _, cls_E, by decide, rfl, rfl, Or.inl fk_E_30⟩, trivial⟩
theorem fl_E_F : AllL (fun q : Nat × (Nat × Nat × FieldType × Bool) => q.2.1 = 4 → q.2.2.2.2 = true → fOKF "StandardRules$Edition" q.1 q.2.1 q.2.2.1 q.2.2.2.1) fl_E := ⟨(fun _ h => by cases h), (fun _ h => by cases h), (fun _ h => by cases h), (fun _ _ => ⟨_, _, _, _, cls_E, by decide, rfl, rfl, rfl, fk_E_21⟩), (fun _ _ => ⟨_, _, _, _, cls_E, by decide, rfl, rfl, rfl, fk_E_25⟩), (fun _ _ => ⟨_, _, _, _, cls_E, by decide, rfl, rfl, rfl, fk_E_30⟩), trivial⟩
theorem fk_P_7 : Cond.fieldLink "StandardRules$Part" 7 "StandardRules$Part" "next" "LStandardRules$Part;" ∈ Tb := Tb_of 370 (by decide +kernel) rfl
theorem fk_P_13 : Cond.fieldLink "StandardRules$Part" 13 "StandardRules$Part" "sign" "I" ∈ Tb := Tb_of 362 (by decide +kernel) rfl
theorem fk_P_17 : Cond.fieldLink "StandardRules$Part" 17 "StandardRules$Part" "looksUp" "Z" ∈ Tb := Tb_of 364 (by decide +kernel) rfl
theorem fk_P_21 : Cond.fieldLink "StandardRules$Part" 21 "StandardRules$Part" "kind" "I" ∈ Tb := Tb_of 366 (by decide +kernel) rfl
theorem fk_P_24 : Cond.fieldLink "StandardRules$Part" 24 "StandardRules$Part" "operand" "I" ∈ Tb := Tb_of 368 (by decide +kernel) rfl
def fl_P : List (Nat × (Nat × Nat × FieldType × Bool)) := [(7, (5, 4, .object "StandardRules$Part", false)), (13, (5, 0, .int, true)), (17, (5, 1, .boolean, true)), (21, (5, 2, .int, true)), (24, (5, 3, .int, true))]
theorem flx_P_7 : lk fl_P 7 = some (5, 4, .object "StandardRules$Part", false) := rfl
theorem flx_P_13 : lk fl_P 13 = some (5, 0, .int, true) := rfl
theorem flx_P_17 : lk fl_P 17 = some (5, 1, .boolean, true) := rfl
theorem flx_P_21 : lk fl_P 21 = some (5, 2, .int, true) := rfl
theorem flx_P_24 : lk fl_P 24 = some (5, 3, .int, true) := rfl
theorem fl_P_ok : AllL (fun q : Nat × (Nat × Nat × FieldType × Bool) => fOK "StandardRules$Part" q.1 q.2.1 q.2.2.1 q.2.2.2.1 q.2.2.2.2) fl_P := ⟨⟨_, _, _, _, cls_P, by decide, rfl, rfl, Or.inl fk_P_7⟩, ⟨_, _, _, _, cls_P, by decide, rfl, rfl, Or.inl fk_P_13⟩, ⟨_, _, _, _, cls_P, by decide, rfl, rfl, Or.inl fk_P_17⟩, ⟨_, _, _, _, cls_P, by decide, rfl, rfl, Or.inl fk_P_21⟩, ⟨_, _, _, _, cls_P, by decide, rfl, rfl, Or.inl fk_P_24⟩, trivial⟩
theorem fl_P_F : AllL (fun q : Nat × (Nat × Nat × FieldType × Bool) => q.2.1 = 5 → q.2.2.2.2 = true → fOKF "StandardRules$Part" q.1 q.2.1 q.2.2.1 q.2.2.2.1) fl_P := ⟨(fun _ h => by cases h), (fun _ _ => ⟨_, _, _, _, cls_P, by decide, rfl, rfl, rfl, fk_P_13⟩), (fun _ _ => ⟨_, _, _, _, cls_P, by decide, rfl, rfl, rfl, fk_P_17⟩), (fun _ _ => ⟨_, _, _, _, cls_P, by decide, rfl, rfl, rfl, fk_P_21⟩), (fun _ _ => ⟨_, _, _, _, cls_P, by decide, rfl, rfl, rfl, fk_P_24⟩), trivial⟩
theorem fk_M_7 : Cond.fieldLink "StandardRulesModel" 7 "StandardRulesModel" "tape" "[I" ∈ Tb := Tb_of 535 (by decide +kernel) rfl
theorem fk_M_13 : Cond.fieldLink "StandardRulesModel" 13 "StandardRulesModel" "place" "I" ∈ Tb := Tb_of 540 (by decide +kernel) rfl
theorem fk_M_17 : Cond.fieldLink "StandardRulesModel" 17 "StandardRulesModel" "day" "[I" ∈ Tb := Tb_of 542 (by decide +kernel) rfl
theorem fk_M_20 : Cond.fieldLink "StandardRulesModel" 20 "StandardRulesModel" "many" "[I" ∈ Tb := Tb_of 543 (by decide +kernel) rfl
theorem fk_M_23 : Cond.fieldLink "StandardRulesModel" 23 "StandardRulesModel" "table" "[I" ∈ Tb := Tb_of 544 (by decide +kernel) rfl
theorem fk_M_26 : Cond.fieldLink "StandardRulesModel" 26 "StandardRulesModel" "rules" "[I" ∈ Tb := Tb_of 545 (by decide +kernel) rfl
theorem fk_M_29 : Cond.fieldLink "StandardRulesModel" 29 "StandardRulesModel" "letter" "[I" ∈ Tb := Tb_of 546 (by decide +kernel) rfl
theorem fk_M_32 : Cond.fieldLink "StandardRulesModel" 32 "StandardRulesModel" "end" "[I" ∈ Tb := Tb_of 547 (by decide +kernel) rfl
theorem fk_M_35 : Cond.fieldLink "StandardRulesModel" 35 "StandardRulesModel" "steps" "[I" ∈ Tb := Tb_of 548 (by decide +kernel) rfl
theorem fk_M_38 : Cond.fieldLink "StandardRulesModel" 38 "StandardRulesModel" "join" "[I" ∈ Tb := Tb_of 549 (by decide +kernel) rfl
theorem fk_M_41 : Cond.fieldLink "StandardRulesModel" 41 "StandardRulesModel" "kind" "[I" ∈ Tb := Tb_of 550 (by decide +kernel) rfl
theorem fk_M_44 : Cond.fieldLink "StandardRulesModel" 44 "StandardRulesModel" "what" "[I" ∈ Tb := Tb_of 551 (by decide +kernel) rfl
theorem fk_M_47 : Cond.fieldLink "StandardRulesModel" 47 "StandardRulesModel" "changeCustomer" "[I" ∈ Tb := Tb_of 553 (by decide +kernel) rfl
theorem fk_M_50 : Cond.fieldLink "StandardRulesModel" 50 "StandardRulesModel" "changeRule" "[I" ∈ Tb := Tb_of 554 (by decide +kernel) rfl
theorem fk_M_53 : Cond.fieldLink "StandardRulesModel" 53 "StandardRulesModel" "changeRank" "[I" ∈ Tb := Tb_of 555 (by decide +kernel) rfl
theorem fk_M_56 : Cond.fieldLink "StandardRulesModel" 56 "StandardRulesModel" "changeValue" "[I" ∈ Tb := Tb_of 556 (by decide +kernel) rfl
theorem fk_M_59 : Cond.fieldLink "StandardRulesModel" 59 "StandardRulesModel" "value" "[I" ∈ Tb := Tb_of 559 (by decide +kernel) rfl
theorem fk_M_62 : Cond.fieldLink "StandardRulesModel" 62 "StandardRulesModel" "openIn" "[I" ∈ Tb := Tb_of 560 (by decide +kernel) rfl
theorem fk_M_65 : Cond.fieldLink "StandardRulesModel" 65 "StandardRulesModel" "why" "[I" ∈ Tb := Tb_of 561 (by decide +kernel) rfl
theorem fk_M_68 : Cond.fieldLink "StandardRulesModel" 68 "StandardRulesModel" "size" "[I" ∈ Tb := Tb_of 562 (by decide +kernel) rfl
theorem fk_M_71 : Cond.fieldLink "StandardRulesModel" 71 "StandardRulesModel" "lastOpen" "I" ∈ Tb := Tb_of 563 (by decide +kernel) rfl
theorem fk_M_74 : Cond.fieldLink "StandardRulesModel" 74 "StandardRulesModel" "thrown" "I" ∈ Tb := Tb_of 534 (by decide +kernel) rfl
theorem fk_M_81 : Cond.fieldLink "StandardRulesModel" 81 "StandardRulesModel" "taped" "I" ∈ Tb := Tb_of 536 (by decide +kernel) rfl
theorem fk_M_88 : Cond.fieldLink "StandardRulesModel" 88 "StandardRulesModel" "wrong" "Z" ∈ Tb := Tb_of 539 (by decide +kernel) rfl
theorem fk_M_92 : Cond.fieldLink "StandardRulesModel" 92 "StandardRulesModel" "at" "I" ∈ Tb := Tb_of 538 (by decide +kernel) rfl
theorem fk_M_95 : Cond.fieldLink "StandardRulesModel" 95 "StandardRulesModel" "length" "I" ∈ Tb := Tb_of 537 (by decide +kernel) rfl
theorem fk_M_136 : Cond.fieldLink "StandardRulesModel" 136 "StandardRulesModel" "editions" "I" ∈ Tb := Tb_of 541 (by decide +kernel) rfl
theorem fk_M_142 : Cond.fieldLink "StandardRulesModel" 142 "StandardRulesModel" "changes" "I" ∈ Tb := Tb_of 552 (by decide +kernel) rfl
theorem fk_M_145 : Cond.fieldLink "StandardRulesModel" 145 "StandardRulesModel" "customer" "I" ∈ Tb := Tb_of 557 (by decide +kernel) rfl
theorem fk_M_148 : Cond.fieldLink "StandardRulesModel" 148 "StandardRulesModel" "today" "I" ∈ Tb := Tb_of 558 (by decide +kernel) rfl
theorem fk_M_173 : Cond.fieldLink "StandardRulesModel" 173 "StandardRulesModel" "lastWhy" "I" ∈ Tb := Tb_of 564 (by decide +kernel) rfl
def fl_M : List (Nat × (Nat × Nat × FieldType × Bool)) := [(7, (6, 1, .array (.int), true)), (13, (6, 6, .int, false)), (17, (6, 8, .array (.int), true)), (20, (6, 9, .array (.int), true)), (23, (6, 10, .array (.int), true)), (26, (6, 11, .array (.int), true)), (29, (6, 12, .array (.int), true)), (32, (6, 13, .array (.int), true)), (35, (6, 14, .array (.int), true)), (38, (6, 15, .array (.int), true)), (41, (6, 16, .array (.int), true)), (44, (6, 17, .array (.int), true)), (47, (6, 19, .array (.int), true)), (50, (6, 20, .array (.int), true)), (53, (6, 21, .array (.int), true)), (56, (6, 22, .array (.int), true)), (59, (6, 25, .array (.int), true)), (62, (6, 26, .array (.int), true)), (65, (6, 27, .array (.int), true)), (68, (6, 28, .array (.int), true)), (71, (6, 29, .int, false)), (74, (6, 0, .int, false)), (81, (6, 2, .int, false)), (88, (6, 5, .boolean, false)), (92, (6, 4, .int, false)), (95, (6, 3, .int, false)), (136, (6, 7, .int, false)), (142, (6, 18, .int, false)), (145, (6, 23, .int, false)), (148, (6, 24, .int, false)), (173, (6, 30, .int, false))]
theorem flx_M_7 : lk fl_M 7 = some (6, 1, .array (.int), true) := rfl
theorem flx_M_13 : lk fl_M 13 = some (6, 6, .int, false) := rfl
theorem flx_M_17 : lk fl_M 17 = some (6, 8, .array (.int), true) := rfl
theorem flx_M_20 : lk fl_M 20 = some (6, 9, .array (.int), true) := rfl
theorem flx_M_23 : lk fl_M 23 = some (6, 10, .array (.int), true) := rfl
theorem flx_M_26 : lk fl_M 26 = some (6, 11, .array (.int), true) := rfl
theorem flx_M_29 : lk fl_M 29 = some (6, 12, .array (.int), true) := rfl
theorem flx_M_32 : lk fl_M 32 = some (6, 13, .array (.int), true) := rfl
theorem flx_M_35 : lk fl_M 35 = some (6, 14, .array (.int), true) := rfl
theorem flx_M_38 : lk fl_M 38 = some (6, 15, .array (.int), true) := rfl
theorem flx_M_41 : lk fl_M 41 = some (6, 16, .array (.int), true) := rfl
theorem flx_M_44 : lk fl_M 44 = some (6, 17, .array (.int), true) := rfl
theorem flx_M_47 : lk fl_M 47 = some (6, 19, .array (.int), true) := rfl
theorem flx_M_50 : lk fl_M 50 = some (6, 20, .array (.int), true) := rfl
theorem flx_M_53 : lk fl_M 53 = some (6, 21, .array (.int), true) := rfl
theorem flx_M_56 : lk fl_M 56 = some (6, 22, .array (.int), true) := rfl
theorem flx_M_59 : lk fl_M 59 = some (6, 25, .array (.int), true) := rfl
theorem flx_M_62 : lk fl_M 62 = some (6, 26, .array (.int), true) := rfl
theorem flx_M_65 : lk fl_M 65 = some (6, 27, .array (.int), true) := rfl
theorem flx_M_68 : lk fl_M 68 = some (6, 28, .array (.int), true) := rfl
theorem flx_M_71 : lk fl_M 71 = some (6, 29, .int, false) := rfl
theorem flx_M_74 : lk fl_M 74 = some (6, 0, .int, false) := rfl
theorem flx_M_81 : lk fl_M 81 = some (6, 2, .int, false) := rfl
theorem flx_M_88 : lk fl_M 88 = some (6, 5, .boolean, false) := rfl
theorem flx_M_92 : lk fl_M 92 = some (6, 4, .int, false) := rfl
theorem flx_M_95 : lk fl_M 95 = some (6, 3, .int, false) := rfl
theorem flx_M_136 : lk fl_M 136 = some (6, 7, .int, false) := rfl
theorem flx_M_142 : lk fl_M 142 = some (6, 18, .int, false) := rfl
theorem flx_M_145 : lk fl_M 145 = some (6, 23, .int, false) := rfl
theorem flx_M_148 : lk fl_M 148 = some (6, 24, .int, false) := rfl
theorem flx_M_173 : lk fl_M 173 = some (6, 30, .int, false) := rfl
theorem fl_M_ok : AllL (fun q : Nat × (Nat × Nat × FieldType × Bool) => fOK "StandardRulesModel" q.1 q.2.1 q.2.2.1 q.2.2.2.1 q.2.2.2.2) fl_M := ⟨⟨_, _, _, _, cls_M, by decide, rfl, rfl, Or.inl fk_M_7⟩, ⟨_, _, _, _, cls_M, by decide, rfl, rfl, Or.inl fk_M_13⟩, ⟨_, _, _, _, cls_M, by decide, rfl, rfl, Or.inl fk_M_17⟩, ⟨_, _, _, _, cls_M, by decide, rfl, rfl, Or.inl fk_M_20⟩, ⟨_, _, _, _, cls_M, by decide, rfl, rfl, Or.inl fk_M_23⟩, ⟨_, _, _, _, cls_M, by decide, rfl, rfl, Or.inl fk_M_26⟩, ⟨_, _, _, _, cls_M, by decide, rfl, rfl, Or.inl fk_M_29⟩, ⟨_, _, _, _, cls_M, by decide, rfl, rfl, Or.inl fk_M_32⟩, ⟨_, _, _, _, cls_M, by decide, rfl, rfl, Or.inl fk_M_35⟩, ⟨_, _, _, _, cls_M, by decide, rfl, rfl, Or.inl fk_M_38⟩, ⟨_, _, _, _, cls_M, by decide, rfl, rfl, Or.inl fk_M_41⟩, ⟨_, _, _, _, cls_M, by decide, rfl, rfl, Or.inl fk_M_44⟩, ⟨_, _, _, _, cls_M, by decide, rfl, rfl, Or.inl fk_M_47⟩, ⟨_, _, _, _, cls_M, by decide, rfl, rfl, Or.inl fk_M_50⟩, ⟨_, _, _, _, cls_M, by decide, rfl, rfl, Or.inl fk_M_53⟩, ⟨_, _, _, _, cls_M, by decide, rfl, rfl, Or.inl fk_M_56⟩, ⟨_, _, _, _, cls_M, by decide, rfl, rfl, Or.inl fk_M_59⟩, ⟨_, _, _, _, cls_M, by decide, rfl, rfl, Or.inl fk_M_62⟩, ⟨_, _, _, _, cls_M, by decide, rfl, rfl, Or.inl fk_M_65⟩, ⟨_, _, _, _, cls_M, by decide, rfl, rfl, Or.inl fk_M_68⟩, ⟨_, _, _, _, cls_M, by decide, rfl, rfl, Or.inl fk_M_71⟩, ⟨_, _, _, _, cls_M, by decide, rfl, rfl, Or.inl fk_M_74⟩, ⟨_, _, _, _, cls_M, by decide, rfl, rfl, Or.inl fk_M_81⟩, ⟨_, _, _, _, cls_M, by decide, rfl, rfl, Or.inl fk_M_88⟩, ⟨_, _, _, _, cls_M, by decide, rfl, rfl, Or.inl fk_M_92⟩, ⟨_, _, _, _, cls_M, by decide, rfl, rfl, Or.inl fk_M_95⟩, ⟨_, _, _, _, cls_M, by decide, rfl, rfl, Or.inl fk_M_136⟩, ⟨_, _, _, _, cls_M, by decide, rfl, rfl, Or.inl fk_M_142⟩, ⟨_, _, _, _, cls_M, by decide, rfl, rfl, Or.inl fk_M_145⟩, ⟨_, _, _, _, cls_M, by decide, rfl, rfl, Or.inl fk_M_148⟩, ⟨_, _, _, _, cls_M, by decide, rfl, rfl, Or.inl fk_M_173⟩, trivial⟩
theorem fl_M_F : AllL (fun q : Nat × (Nat × Nat × FieldType × Bool) => q.2.1 = 6 → q.2.2.2.2 = true → fOKF "StandardRulesModel" q.1 q.2.1 q.2.2.1 q.2.2.2.1) fl_M := ⟨(fun _ _ => ⟨_, _, _, _, cls_M, by decide, rfl, rfl, rfl, fk_M_7⟩), (fun _ h => by cases h), (fun _ _ => ⟨_, _, _, _, cls_M, by decide, rfl, rfl, rfl, fk_M_17⟩), (fun _ _ => ⟨_, _, _, _, cls_M, by decide, rfl, rfl, rfl, fk_M_20⟩), (fun _ _ => ⟨_, _, _, _, cls_M, by decide, rfl, rfl, rfl, fk_M_23⟩), (fun _ _ => ⟨_, _, _, _, cls_M, by decide, rfl, rfl, rfl, fk_M_26⟩), (fun _ _ => ⟨_, _, _, _, cls_M, by decide, rfl, rfl, rfl, fk_M_29⟩), (fun _ _ => ⟨_, _, _, _, cls_M, by decide, rfl, rfl, rfl, fk_M_32⟩), (fun _ _ => ⟨_, _, _, _, cls_M, by decide, rfl, rfl, rfl, fk_M_35⟩), (fun _ _ => ⟨_, _, _, _, cls_M, by decide, rfl, rfl, rfl, fk_M_38⟩), (fun _ _ => ⟨_, _, _, _, cls_M, by decide, rfl, rfl, rfl, fk_M_41⟩), (fun _ _ => ⟨_, _, _, _, cls_M, by decide, rfl, rfl, rfl, fk_M_44⟩), (fun _ _ => ⟨_, _, _, _, cls_M, by decide, rfl, rfl, rfl, fk_M_47⟩), (fun _ _ => ⟨_, _, _, _, cls_M, by decide, rfl, rfl, rfl, fk_M_50⟩), (fun _ _ => ⟨_, _, _, _, cls_M, by decide, rfl, rfl, rfl, fk_M_53⟩), (fun _ _ => ⟨_, _, _, _, cls_M, by decide, rfl, rfl, rfl, fk_M_56⟩), (fun _ _ => ⟨_, _, _, _, cls_M, by decide, rfl, rfl, rfl, fk_M_59⟩), (fun _ _ => ⟨_, _, _, _, cls_M, by decide, rfl, rfl, rfl, fk_M_62⟩), (fun _ _ => ⟨_, _, _, _, cls_M, by decide, rfl, rfl, rfl, fk_M_65⟩), (fun _ _ => ⟨_, _, _, _, cls_M, by decide, rfl, rfl, rfl, fk_M_68⟩), (fun _ h => by cases h), (fun _ h => by cases h), (fun _ h => by cases h), (fun _ h => by cases h), (fun _ h => by cases h), (fun _ h => by cases h), (fun _ h => by cases h), (fun _ h => by cases h), (fun _ h => by cases h), (fun _ h => by cases h), (fun _ h => by cases h), trivial⟩
def nw_S : List (Nat × (Nat × Nat × List Value)) := [(7, (1, 6, [.null, .int 0, .int 0, .int 0, .null, .null])), (16, (4, 6, [.int 0, .int 0, .int 0, .null, .null, .null])), (22, (2, 4, [.null, .null, .null, .int 0])), (29, (3, 4, [.null, .null, .null, .null]))]
theorem nwx_S_7 : lk nw_S 7 = some (1, 6, [.null, .int 0, .int 0, .int 0, .null, .null]) := rfl
theorem nwx_S_16 : lk nw_S 16 = some (4, 6, [.int 0, .int 0, .int 0, .null, .null, .null]) := rfl
theorem nwx_S_22 : lk nw_S 22 = some (2, 4, [.null, .null, .null, .int 0]) := rfl
theorem nwx_S_29 : lk nw_S 29 = some (3, 4, [.null, .null, .null, .null]) := rfl
theorem nw_S_ok : AllL (fun q : Nat × (Nat × Nat × List Value) => nOK "StandardRules" q.1 q.2.1 q.2.2.1 q.2.2.2) nw_S := ⟨⟨_, _, _, cls_R, cl_S_7, it_R, ini_R, by decide⟩, ⟨_, _, _, cls_E, cl_S_16, it_E, ini_E, by decide⟩, ⟨_, _, _, cls_C, cl_S_22, it_C, ini_C, by decide⟩, ⟨_, _, _, cls_K, cl_S_29, it_K, ini_K, by decide⟩, trivial⟩
def nq_S (E : wE) : List (Nat × ClassId) := [(16, E.2.2 2)]
theorem nqx_S_16 (E : wE) : lk (nq_S E) 16 = some (E.2.2 2) := rfl
theorem nq_S_ok (E : wE) : AllL (fun q : Nat × ClassId => aOK E "StandardRules" q.1 q.2) (nq_S E) := ⟨⟨2, _, rfl, cl_S_16, ao_E⟩, trivial⟩
def nw_C : List (Nat × (Nat × Nat × List Value)) := []
theorem nw_C_ok : AllL (fun q : Nat × (Nat × Nat × List Value) => nOK "StandardRules$Changes" q.1 q.2.1 q.2.2.1 q.2.2.2) nw_C := trivial
def nq_C (E : wE) : List (Nat × ClassId) := []
theorem nq_C_ok (E : wE) : AllL (fun q : Nat × ClassId => aOK E "StandardRules$Changes" q.1 q.2) (nq_C E) := trivial
def nw_E : List (Nat × (Nat × Nat × List Value)) := []
theorem nw_E_ok : AllL (fun q : Nat × (Nat × Nat × List Value) => nOK "StandardRules$Edition" q.1 q.2.1 q.2.2.1 q.2.2.2) nw_E := trivial
def nq_E (E : wE) : List (Nat × ClassId) := [(28, E.2.2 3)]
theorem nqx_E_28 (E : wE) : lk (nq_E E) 28 = some (E.2.2 3) := rfl
theorem nq_E_ok (E : wE) : AllL (fun q : Nat × ClassId => aOK E "StandardRules$Edition" q.1 q.2) (nq_E E) := ⟨⟨3, _, rfl, cl_E_28, ao_P⟩, trivial⟩
def nw_P : List (Nat × (Nat × Nat × List Value)) := []
theorem nw_P_ok : AllL (fun q : Nat × (Nat × Nat × List Value) => nOK "StandardRules$Part" q.1 q.2.1 q.2.2.1 q.2.2.2) nw_P := trivial
def nq_P (E : wE) : List (Nat × ClassId) := []
theorem nq_P_ok (E : wE) : AllL (fun q : Nat × ClassId => aOK E "StandardRules$Part" q.1 q.2) (nq_P E) := trivial
def nw_R : List (Nat × (Nat × Nat × List Value)) := [(81, (5, 5, [.int 0, .int 0, .int 0, .int 0, .null]))]
theorem nwx_R_81 : lk nw_R 81 = some (5, 5, [.int 0, .int 0, .int 0, .int 0, .null]) := rfl
theorem nw_R_ok : AllL (fun q : Nat × (Nat × Nat × List Value) => nOK "StandardRules$Reader" q.1 q.2.1 q.2.2.1 q.2.2.2) nw_R := ⟨⟨_, _, _, cls_P, cl_R_81, it_P, ini_P, by decide⟩, trivial⟩
def nq_R (E : wE) : List (Nat × ClassId) := []
theorem nq_R_ok (E : wE) : AllL (fun q : Nat × ClassId => aOK E "StandardRules$Reader" q.1 q.2) (nq_R E) := trivial
def nw_K : List (Nat × (Nat × Nat × List Value)) := []
theorem nw_K_ok : AllL (fun q : Nat × (Nat × Nat × List Value) => nOK "StandardRules$Reckoner" q.1 q.2.1 q.2.2.1 q.2.2.2) nw_K := trivial
def nq_K (E : wE) : List (Nat × ClassId) := []
theorem nq_K_ok (E : wE) : AllL (fun q : Nat × ClassId => aOK E "StandardRules$Reckoner" q.1 q.2) (nq_K E) := trivial
def nw_M : List (Nat × (Nat × Nat × List Value)) := []
theorem nw_M_ok : AllL (fun q : Nat × (Nat × Nat × List Value) => nOK "StandardRulesModel" q.1 q.2.1 q.2.2.1 q.2.2.2) nw_M := trivial
def nq_M (E : wE) : List (Nat × ClassId) := []
theorem nq_M_ok (E : wE) : AllL (fun q : Nat × ClassId => aOK E "StandardRulesModel" q.1 q.2) (nq_M E) := trivial
def nw_L : List (Nat × (Nat × Nat × List Value)) := [(8, (0, 10, [.null, .null, .null, .null, .int 0, .int 0, .int 0, .int 0, .int 0, .int 0])), (54, (6, 31, [.int 0, .null, .int 0, .int 0, .int 0, .int 0, .int 0, .int 0, .null, .null, .null, .null, .null, .null, .null, .null, .null, .null, .int 0, .null, .null, .null, .null, .int 0, .int 0, .null, .null, .null, .null, .int 0, .int 0]))]
theorem nwx_L_8 : lk nw_L 8 = some (0, 10, [.null, .null, .null, .null, .int 0, .int 0, .int 0, .int 0, .int 0, .int 0]) := rfl
theorem nwx_L_54 : lk nw_L 54 = some (6, 31, [.int 0, .null, .int 0, .int 0, .int 0, .int 0, .int 0, .int 0, .null, .null, .null, .null, .null, .null, .null, .null, .null, .null, .int 0, .null, .null, .null, .null, .int 0, .int 0, .null, .null, .null, .null, .int 0, .int 0]) := rfl
theorem nw_L_ok : AllL (fun q : Nat × (Nat × Nat × List Value) => nOK "StandardRulesLaw" q.1 q.2.1 q.2.2.1 q.2.2.2) nw_L := ⟨⟨_, _, _, cls_S, cl_L_8, it_S, ini_S, by decide⟩, ⟨_, _, _, cls_M, cl_L_54, it_M, ini_M, by decide⟩, trivial⟩
def nq_L (E : wE) : List (Nat × ClassId) := []
theorem nq_L_ok (E : wE) : AllL (fun q : Nat × ClassId => aOK E "StandardRulesLaw" q.1 q.2) (nq_L E) := trivial
def nw_A : List (Nat × (Nat × Nat × List Value)) := []
theorem nw_A_ok : AllL (fun q : Nat × (Nat × Nat × List Value) => nOK "java/util/Arrays" q.1 q.2.1 q.2.2.1 q.2.2.2) nw_A := trivial
def nq_A (E : wE) : List (Nat × ClassId) := []
theorem nq_A_ok (E : wE) : AllL (fun q : Nat × ClassId => aOK E "java/util/Arrays" q.1 q.2) (nq_A E) := trivial
theorem dn_S_init : descN y_S_init 0 := ⟨by decide, by decide, by decide +kernel⟩
theorem dn_R_init : descN y_R_init 0 := ⟨by decide, by decide, by decide +kernel⟩
theorem dn_C_init : descN y_C_init 0 := ⟨by decide, by decide, by decide +kernel⟩
theorem dn_A_fill : descN y_A_fill 2 := ⟨by decide, by decide, by decide +kernel⟩
theorem dn_K_init : descN y_K_init 0 := ⟨by decide, by decide, by decide +kernel⟩
theorem dn_E_init : descN y_E_init 0 := ⟨by decide, by decide, by decide +kernel⟩
theorem dn_S_place : descN y_S_place 0 := ⟨by decide, by decide, by decide +kernel⟩
theorem dn_L_sign : descN y_L_sign 4 := ⟨by decide, by decide, by decide +kernel⟩
theorem dn_S_sign : descN y_S_sign 2 := ⟨by decide, by decide, by decide +kernel⟩
theorem dn_S_within : descN y_S_within 3 := ⟨by decide, by decide, by decide +kernel⟩
theorem dn_S_needRange : descN y_S_needRange 1 := ⟨by decide, by decide, by decide +kernel⟩
theorem dn_S_needMeaning : descN y_S_needMeaning 1 := ⟨by decide, by decide, by decide +kernel⟩
theorem dn_R_append : descN y_R_append 2 := ⟨by decide, by decide, by decide +kernel⟩
theorem dn_L_edition : descN y_L_edition 3 := ⟨by decide, by decide, by decide +kernel⟩
theorem dn_S_edition : descN y_S_edition 1 := ⟨by decide, by decide, by decide +kernel⟩
theorem dn_S_needTurn : descN y_S_needTurn 1 := ⟨by decide, by decide, by decide +kernel⟩
theorem dn_R_read : descN y_R_read 1 := ⟨by decide, by decide, by decide +kernel⟩
theorem dn_E_clear : descN y_E_clear 0 := ⟨by decide, by decide, by decide +kernel⟩
theorem dn_R_readTable : descN y_R_readTable 1 := ⟨by decide, by decide, by decide +kernel⟩
theorem dn_R_take : descN y_R_take 1 := ⟨by decide, by decide, by decide +kernel⟩
theorem dn_R_next : descN y_R_next 0 := ⟨by decide, by decide, by decide +kernel⟩
theorem dn_R_readNumber : descN y_R_readNumber 0 := ⟨by decide, by decide, by decide +kernel⟩
theorem dn_R_isDigit : descN y_R_isDigit 1 := ⟨by decide, by decide, by decide +kernel⟩
theorem dn_R_here : descN y_R_here 0 := ⟨by decide, by decide, by decide +kernel⟩
theorem dn_E_addNumber : descN y_E_addNumber 1 := ⟨by decide, by decide, by decide +kernel⟩
theorem dn_R_readRule : descN y_R_readRule 1 := ⟨by decide, by decide, by decide +kernel⟩
theorem dn_S_isRule : descN y_S_isRule 1 := ⟨by decide, by decide, by decide +kernel⟩
theorem dn_R_readSum : descN y_R_readSum 1 := ⟨by decide, by decide, by decide +kernel⟩
theorem dn_R_readFactor : descN y_R_readFactor 2 := ⟨by decide, by decide, by decide +kernel⟩
theorem dn_P_init : descN y_P_init 4 := ⟨by decide, by decide, by decide +kernel⟩
theorem dn_R_addPart : descN y_R_addPart 1 := ⟨by decide, by decide, by decide +kernel⟩
theorem dn_R_sizeOf : descN y_R_sizeOf 1 := ⟨by decide, by decide, by decide +kernel⟩
theorem dn_E_addRule : descN y_E_addRule 2 := ⟨by decide, by decide, by decide +kernel⟩
theorem dn_L_change : descN y_L_change 6 := ⟨by decide, by decide, by decide +kernel⟩
theorem dn_S_change : descN y_S_change 4 := ⟨by decide, by decide, by decide +kernel⟩
theorem dn_S_isCustomer : descN y_S_isCustomer 1 := ⟨by decide, by decide, by decide +kernel⟩
theorem dn_S_needIndex : descN y_S_needIndex 1 := ⟨by decide, by decide, by decide +kernel⟩
theorem dn_C_add : descN y_C_add 4 := ⟨by decide, by decide, by decide +kernel⟩
theorem dn_C_counting : descN y_C_counting 2 := ⟨by decide, by decide, by decide +kernel⟩
theorem dn_L_order : descN y_L_order 3 := ⟨by decide, by decide, by decide +kernel⟩
theorem dn_S_order : descN y_S_order 2 := ⟨by decide, by decide, by decide +kernel⟩
theorem dn_L_value : descN y_L_value 7 := ⟨by decide, by decide, by decide +kernel⟩
theorem dn_S_value : descN y_S_value 5 := ⟨by decide, by decide, by decide +kernel⟩
theorem dn_S_countingEdition : descN y_S_countingEdition 0 := ⟨by decide, by decide, by decide +kernel⟩
theorem dn_S_hasRule : descN y_S_hasRule 2 := ⟨by decide, by decide, by decide +kernel⟩
theorem dn_S_isSize : descN y_S_isSize 1 := ⟨by decide, by decide, by decide +kernel⟩
theorem dn_K_setSizes : descN y_K_setSizes 4 := ⟨by decide, by decide, by decide +kernel⟩
theorem dn_K_findsOpen : descN y_K_findsOpen 4 := ⟨by decide, by decide, by decide +kernel⟩
theorem dn_K_sumOf : descN y_K_sumOf 2 := ⟨by decide, by decide, by decide +kernel⟩
theorem dn_K_factorOf : descN y_K_factorOf 3 := ⟨by decide, by decide, by decide +kernel⟩
theorem dn_K_markOpen : descN y_K_markOpen 3 := ⟨by decide, by decide, by decide +kernel⟩
theorem dn_K_joined : descN y_K_joined 3 := ⟨by decide, by decide, by decide +kernel⟩
theorem dn_L_open : descN y_L_open 3 := ⟨by decide, by decide, by decide +kernel⟩
theorem dn_S_open : descN y_S_open 1 := ⟨by decide, by decide, by decide +kernel⟩
theorem dn_L_example : descN y_L_example 4 := ⟨by decide, by decide, by decide +kernel⟩
theorem dn_S_example : descN y_S_example 2 := ⟨by decide, by decide, by decide +kernel⟩
theorem dn_S_firstOpenCase : descN y_S_firstOpenCase 3 := ⟨by decide, by decide, by decide +kernel⟩
theorem dn_L_told : descN y_L_told 3 := ⟨by decide, by decide, by decide +kernel⟩
theorem dn_S_told : descN y_S_told 1 := ⟨by decide, by decide, by decide +kernel⟩
theorem dn_C_changedRules : descN y_C_changedRules 1 := ⟨by decide, by decide, by decide +kernel⟩
theorem dn_L_agreed : descN y_L_agreed 3 := ⟨by decide, by decide, by decide +kernel⟩
theorem dn_S_agreed : descN y_S_agreed 1 := ⟨by decide, by decide, by decide +kernel⟩
theorem dn_L_table : descN y_L_table 4 := ⟨by decide, by decide, by decide +kernel⟩
theorem dn_S_table : descN y_S_table 2 := ⟨by decide, by decide, by decide +kernel⟩
theorem dn_M_init : descN y_M_init 0 := ⟨by decide, by decide, by decide +kernel⟩
theorem dn_M_thrown : descN y_M_thrown 0 := ⟨by decide, by decide, by decide +kernel⟩
theorem dn_M_sign : descN y_M_sign 2 := ⟨by decide, by decide, by decide +kernel⟩
theorem dn_M_in : descN y_M_in 3 := ⟨by decide, by decide, by decide +kernel⟩
theorem dn_M_throwing : descN y_M_throwing 4 := ⟨by decide, by decide, by decide +kernel⟩
theorem dn_M_edition : descN y_M_edition 1 := ⟨by decide, by decide, by decide +kernel⟩
theorem dn_M_readAll : descN y_M_readAll 0 := ⟨by decide, by decide, by decide +kernel⟩
theorem dn_M_readTable : descN y_M_readTable 0 := ⟨by decide, by decide, by decide +kernel⟩
theorem dn_M_expect : descN y_M_expect 1 := ⟨by decide, by decide, by decide +kernel⟩
theorem dn_M_see : descN y_M_see 0 := ⟨by decide, by decide, by decide +kernel⟩
theorem dn_M_fail : descN y_M_fail 1 := ⟨by decide, by decide, by decide +kernel⟩
theorem dn_M_number : descN y_M_number 0 := ⟨by decide, by decide, by decide +kernel⟩
theorem dn_M_isDigit : descN y_M_isDigit 0 := ⟨by decide, by decide, by decide +kernel⟩
theorem dn_M_readRule : descN y_M_readRule 0 := ⟨by decide, by decide, by decide +kernel⟩
theorem dn_M_isToldAhead : descN y_M_isToldAhead 1 := ⟨by decide, by decide, by decide +kernel⟩
theorem dn_M_readSum : descN y_M_readSum 0 := ⟨by decide, by decide, by decide +kernel⟩
theorem dn_M_readFactor : descN y_M_readFactor 1 := ⟨by decide, by decide, by decide +kernel⟩
theorem dn_M_sizeOf : descN y_M_sizeOf 1 := ⟨by decide, by decide, by decide +kernel⟩
theorem dn_M_place : descN y_M_place 0 := ⟨by decide, by decide, by decide +kernel⟩
theorem dn_M_change : descN y_M_change 4 := ⟨by decide, by decide, by decide +kernel⟩
theorem dn_M_order : descN y_M_order 2 := ⟨by decide, by decide, by decide +kernel⟩
theorem dn_M_value : descN y_M_value 5 := ⟨by decide, by decide, by decide +kernel⟩
theorem dn_M_editionNow : descN y_M_editionNow 0 := ⟨by decide, by decide, by decide +kernel⟩
theorem dn_M_ruleOf : descN y_M_ruleOf 2 := ⟨by decide, by decide, by decide +kernel⟩
theorem dn_M_changeOf : descN y_M_changeOf 1 := ⟨by decide, by decide, by decide +kernel⟩
theorem dn_M_workOut : descN y_M_workOut 2 := ⟨by decide, by decide, by decide +kernel⟩
theorem dn_M_factor : descN y_M_factor 3 := ⟨by decide, by decide, by decide +kernel⟩
theorem dn_M_leave : descN y_M_leave 3 := ⟨by decide, by decide, by decide +kernel⟩
theorem dn_M_open : descN y_M_open 1 := ⟨by decide, by decide, by decide +kernel⟩
theorem dn_M_example : descN y_M_example 2 := ⟨by decide, by decide, by decide +kernel⟩
theorem dn_M_told : descN y_M_told 1 := ⟨by decide, by decide, by decide +kernel⟩
theorem dn_M_agreed : descN y_M_agreed 1 := ⟨by decide, by decide, by decide +kernel⟩
theorem dn_M_table : descN y_M_table 2 := ⟨by decide, by decide, by decide +kernel⟩
