theorem t_1 : (Jvm.Cond.initialized "RoamingNet") ∈ lw_tbl := List.mem_append_right _ (List.mem_of_getElem? (i := 1) (by decide +kernel))
theorem t_2 : (Jvm.Cond.initialized "RoamingNet$Wire") ∈ lw_tbl := List.mem_append_right _ (List.mem_of_getElem? (i := 2) (by decide +kernel))
theorem t_3 : (Jvm.Cond.initialized "RoamingNet$Message") ∈ lw_tbl := List.mem_append_right _ (List.mem_of_getElem? (i := 3) (by decide +kernel))
theorem t_4 : (Jvm.Cond.initialized "RoamingNet$Mobile") ∈ lw_tbl := List.mem_append_right _ (List.mem_of_getElem? (i := 4) (by decide +kernel))
theorem t_5 : (Jvm.Cond.initialized "RoamingNet$HomeAgent") ∈ lw_tbl := List.mem_append_right _ (List.mem_of_getElem? (i := 5) (by decide +kernel))
theorem t_6 : (Jvm.Cond.initialized "RoamingNet$ForeignAgent") ∈ lw_tbl := List.mem_append_right _ (List.mem_of_getElem? (i := 6) (by decide +kernel))
theorem t_7 : (Jvm.Cond.initialized "RoamingNet$Correspondent") ∈ lw_tbl := List.mem_append_right _ (List.mem_of_getElem? (i := 7) (by decide +kernel))
theorem t_9 : (Jvm.Cond.initialized "java/lang/Math") ∈ lw_tbl := List.mem_append_right _ (List.mem_of_getElem? (i := 9) (by decide +kernel))
theorem t_18 : (Jvm.Cond.methodLink "RoamingNet" (11 : Nat) ({ cls := "RoamingNet", name := "isWithin", desc := "(III)Z" } : Jvm.MethodName)) ∈ lw_tbl := List.mem_append_right _ (List.mem_of_getElem? (i := 18) (by decide +kernel))
theorem t_19 : (Jvm.Cond.static ({ cls := "RoamingNet", name := "isWithin", desc := "(III)Z" } : Jvm.MethodName)) ∈ lw_tbl := List.mem_append_right _ (List.mem_of_getElem? (i := 19) (by decide +kernel))
theorem t_20 : (Jvm.Cond.code ({ cls := "RoamingNet", name := "isWithin", desc := "(III)Z" } : Jvm.MethodName) prog_1_method_21_code (3 : Nat) (Option.some Jvm.ClassFile.FieldType.boolean)) ∈ lw_tbl := List.mem_append_right _ (List.mem_of_getElem? (i := 20) (by decide +kernel))
theorem t_34 : (Jvm.Cond.fieldLink "RoamingNet$Message" (9 : Nat) "RoamingNet$Message" "kind" "I") ∈ lw_tbl := List.mem_append_right _ (List.mem_of_getElem? (i := 34) (by decide +kernel))
theorem t_35 : (Jvm.Cond.fieldLinkNest "RoamingNet$Mobile" (38 : Nat) "RoamingNet$Message" "kind" "I" "RoamingNet") ∈ lw_tbl := List.mem_append_right _ (List.mem_of_getElem? (i := 35) (by decide +kernel))
theorem t_36 : (Jvm.Cond.fieldLinkNest "RoamingNet$HomeAgent" (37 : Nat) "RoamingNet$Message" "kind" "I" "RoamingNet") ∈ lw_tbl := List.mem_append_right _ (List.mem_of_getElem? (i := 36) (by decide +kernel))
theorem t_37 : (Jvm.Cond.fieldLinkNest "RoamingNet$Correspondent" (43 : Nat) "RoamingNet$Message" "kind" "I" "RoamingNet") ∈ lw_tbl := List.mem_append_right _ (List.mem_of_getElem? (i := 37) (by decide +kernel))
theorem t_38 : (Jvm.Cond.fieldLinkNest "RoamingNet$ForeignAgent" (47 : Nat) "RoamingNet$Message" "kind" "I" "RoamingNet") ∈ lw_tbl := List.mem_append_right _ (List.mem_of_getElem? (i := 38) (by decide +kernel))
theorem t_39 : (Jvm.Cond.fieldLink "RoamingNet$Message" (15 : Nat) "RoamingNet$Message" "target" "I") ∈ lw_tbl := List.mem_append_right _ (List.mem_of_getElem? (i := 39) (by decide +kernel))
theorem t_40 : (Jvm.Cond.fieldLinkNest "RoamingNet$Wire" (45 : Nat) "RoamingNet$Message" "target" "I" "RoamingNet") ∈ lw_tbl := List.mem_append_right _ (List.mem_of_getElem? (i := 40) (by decide +kernel))
theorem t_41 : (Jvm.Cond.fieldLinkNest "RoamingNet" (180 : Nat) "RoamingNet$Message" "target" "I" "RoamingNet") ∈ lw_tbl := List.mem_append_right _ (List.mem_of_getElem? (i := 41) (by decide +kernel))
theorem t_42 : (Jvm.Cond.fieldLinkNest "RoamingNet$Mobile" (32 : Nat) "RoamingNet$Message" "network" "I" "RoamingNet") ∈ lw_tbl := List.mem_append_right _ (List.mem_of_getElem? (i := 42) (by decide +kernel))
theorem t_43 : (Jvm.Cond.fieldLink "RoamingNet$Message" (24 : Nat) "RoamingNet$Message" "network" "I") ∈ lw_tbl := List.mem_append_right _ (List.mem_of_getElem? (i := 43) (by decide +kernel))
theorem t_44 : (Jvm.Cond.fieldLinkNest "RoamingNet$Wire" (38 : Nat) "RoamingNet$Message" "network" "I" "RoamingNet") ∈ lw_tbl := List.mem_append_right _ (List.mem_of_getElem? (i := 44) (by decide +kernel))
theorem t_45 : (Jvm.Cond.fieldLink "RoamingNet$Message" (18 : Nat) "RoamingNet$Message" "mobile" "I") ∈ lw_tbl := List.mem_append_right _ (List.mem_of_getElem? (i := 45) (by decide +kernel))
theorem t_46 : (Jvm.Cond.fieldLinkNest "RoamingNet$Correspondent" (38 : Nat) "RoamingNet$Message" "mobile" "I" "RoamingNet") ∈ lw_tbl := List.mem_append_right _ (List.mem_of_getElem? (i := 46) (by decide +kernel))
theorem t_47 : (Jvm.Cond.fieldLinkNest "RoamingNet$HomeAgent" (46 : Nat) "RoamingNet$Message" "mobile" "I" "RoamingNet") ∈ lw_tbl := List.mem_append_right _ (List.mem_of_getElem? (i := 47) (by decide +kernel))
theorem t_48 : (Jvm.Cond.fieldLinkNest "RoamingNet$ForeignAgent" (59 : Nat) "RoamingNet$Message" "mobile" "I" "RoamingNet") ∈ lw_tbl := List.mem_append_right _ (List.mem_of_getElem? (i := 48) (by decide +kernel))
theorem t_49 : (Jvm.Cond.fieldLinkNest "RoamingNet" (183 : Nat) "RoamingNet$Message" "mobile" "I" "RoamingNet") ∈ lw_tbl := List.mem_append_right _ (List.mem_of_getElem? (i := 49) (by decide +kernel))
theorem t_50 : (Jvm.Cond.fieldLink "RoamingNet$Message" (21 : Nat) "RoamingNet$Message" "number" "I") ∈ lw_tbl := List.mem_append_right _ (List.mem_of_getElem? (i := 50) (by decide +kernel))
theorem t_51 : (Jvm.Cond.fieldLinkNest "RoamingNet$Mobile" (41 : Nat) "RoamingNet$Message" "number" "I" "RoamingNet") ∈ lw_tbl := List.mem_append_right _ (List.mem_of_getElem? (i := 51) (by decide +kernel))
theorem t_52 : (Jvm.Cond.fieldLinkNest "RoamingNet$Correspondent" (46 : Nat) "RoamingNet$Message" "number" "I" "RoamingNet") ∈ lw_tbl := List.mem_append_right _ (List.mem_of_getElem? (i := 52) (by decide +kernel))
theorem t_53 : (Jvm.Cond.fieldLinkNest "RoamingNet$HomeAgent" (49 : Nat) "RoamingNet$Message" "number" "I" "RoamingNet") ∈ lw_tbl := List.mem_append_right _ (List.mem_of_getElem? (i := 53) (by decide +kernel))
theorem t_54 : (Jvm.Cond.fieldLinkNest "RoamingNet$ForeignAgent" (62 : Nat) "RoamingNet$Message" "number" "I" "RoamingNet") ∈ lw_tbl := List.mem_append_right _ (List.mem_of_getElem? (i := 54) (by decide +kernel))
theorem t_55 : (Jvm.Cond.fieldLink "RoamingNet$Message" (27 : Nat) "RoamingNet$Message" "careOf" "I") ∈ lw_tbl := List.mem_append_right _ (List.mem_of_getElem? (i := 55) (by decide +kernel))
theorem t_56 : (Jvm.Cond.fieldLinkNest "RoamingNet$HomeAgent" (69 : Nat) "RoamingNet$Message" "careOf" "I" "RoamingNet") ∈ lw_tbl := List.mem_append_right _ (List.mem_of_getElem? (i := 56) (by decide +kernel))
theorem t_57 : (Jvm.Cond.fieldLinkNest "RoamingNet$Mobile" (83 : Nat) "RoamingNet$Message" "careOf" "I" "RoamingNet") ∈ lw_tbl := List.mem_append_right _ (List.mem_of_getElem? (i := 57) (by decide +kernel))
theorem t_58 : (Jvm.Cond.fieldLinkNest "RoamingNet$ForeignAgent" (69 : Nat) "RoamingNet$Message" "careOf" "I" "RoamingNet") ∈ lw_tbl := List.mem_append_right _ (List.mem_of_getElem? (i := 58) (by decide +kernel))
theorem t_59 : (Jvm.Cond.fieldLinkNest "RoamingNet" (120 : Nat) "RoamingNet$Message" "careOf" "I" "RoamingNet") ∈ lw_tbl := List.mem_append_right _ (List.mem_of_getElem? (i := 59) (by decide +kernel))
theorem t_60 : (Jvm.Cond.fieldLink "RoamingNet$Message" (30 : Nat) "RoamingNet$Message" "code" "I") ∈ lw_tbl := List.mem_append_right _ (List.mem_of_getElem? (i := 60) (by decide +kernel))
theorem t_61 : (Jvm.Cond.fieldLinkNest "RoamingNet$HomeAgent" (78 : Nat) "RoamingNet$Message" "code" "I" "RoamingNet") ∈ lw_tbl := List.mem_append_right _ (List.mem_of_getElem? (i := 61) (by decide +kernel))
theorem t_62 : (Jvm.Cond.fieldLinkNest "RoamingNet$Mobile" (102 : Nat) "RoamingNet$Message" "code" "I" "RoamingNet") ∈ lw_tbl := List.mem_append_right _ (List.mem_of_getElem? (i := 62) (by decide +kernel))
theorem t_63 : (Jvm.Cond.fieldLinkNest "RoamingNet$ForeignAgent" (80 : Nat) "RoamingNet$Message" "code" "I" "RoamingNet") ∈ lw_tbl := List.mem_append_right _ (List.mem_of_getElem? (i := 63) (by decide +kernel))
theorem t_64 : (Jvm.Cond.fieldLink "RoamingNet$Message" (33 : Nat) "RoamingNet$Message" "lifetime" "I") ∈ lw_tbl := List.mem_append_right _ (List.mem_of_getElem? (i := 64) (by decide +kernel))
theorem t_65 : (Jvm.Cond.fieldLinkNest "RoamingNet$HomeAgent" (60 : Nat) "RoamingNet$Message" "lifetime" "I" "RoamingNet") ∈ lw_tbl := List.mem_append_right _ (List.mem_of_getElem? (i := 65) (by decide +kernel))
theorem t_66 : (Jvm.Cond.fieldLinkNest "RoamingNet$Mobile" (86 : Nat) "RoamingNet$Message" "lifetime" "I" "RoamingNet") ∈ lw_tbl := List.mem_append_right _ (List.mem_of_getElem? (i := 66) (by decide +kernel))
theorem t_67 : (Jvm.Cond.fieldLinkNest "RoamingNet$ForeignAgent" (87 : Nat) "RoamingNet$Message" "lifetime" "I" "RoamingNet") ∈ lw_tbl := List.mem_append_right _ (List.mem_of_getElem? (i := 67) (by decide +kernel))
theorem t_68 : (Jvm.Cond.fieldLinkNest "RoamingNet" (123 : Nat) "RoamingNet$Message" "lifetime" "I" "RoamingNet") ∈ lw_tbl := List.mem_append_right _ (List.mem_of_getElem? (i := 68) (by decide +kernel))
theorem t_69 : (Jvm.Cond.fieldLink "RoamingNet$Message" (36 : Nat) "RoamingNet$Message" "seal" "I") ∈ lw_tbl := List.mem_append_right _ (List.mem_of_getElem? (i := 69) (by decide +kernel))
theorem t_70 : (Jvm.Cond.fieldLinkNest "RoamingNet$HomeAgent" (85 : Nat) "RoamingNet$Message" "seal" "I" "RoamingNet") ∈ lw_tbl := List.mem_append_right _ (List.mem_of_getElem? (i := 70) (by decide +kernel))
theorem t_71 : (Jvm.Cond.fieldLinkNest "RoamingNet$Mobile" (96 : Nat) "RoamingNet$Message" "seal" "I" "RoamingNet") ∈ lw_tbl := List.mem_append_right _ (List.mem_of_getElem? (i := 71) (by decide +kernel))
theorem t_72 : (Jvm.Cond.fieldLinkNest "RoamingNet" (126 : Nat) "RoamingNet$Message" "seal" "I" "RoamingNet") ∈ lw_tbl := List.mem_append_right _ (List.mem_of_getElem? (i := 72) (by decide +kernel))
theorem t_73 : (Jvm.Cond.lays "RoamingNet$Message" "RoamingNet$Message" "kind" "I") ∈ lw_tbl := List.mem_append_right _ (List.mem_of_getElem? (i := 73) (by decide +kernel))
theorem t_75 : (Jvm.Cond.lays "RoamingNet$Message" "RoamingNet$Message" "target" "I") ∈ lw_tbl := List.mem_append_right _ (List.mem_of_getElem? (i := 75) (by decide +kernel))
theorem t_77 : (Jvm.Cond.lays "RoamingNet$Message" "RoamingNet$Message" "network" "I") ∈ lw_tbl := List.mem_append_right _ (List.mem_of_getElem? (i := 77) (by decide +kernel))
theorem t_79 : (Jvm.Cond.lays "RoamingNet$Message" "RoamingNet$Message" "mobile" "I") ∈ lw_tbl := List.mem_append_right _ (List.mem_of_getElem? (i := 79) (by decide +kernel))
theorem t_81 : (Jvm.Cond.lays "RoamingNet$Message" "RoamingNet$Message" "number" "I") ∈ lw_tbl := List.mem_append_right _ (List.mem_of_getElem? (i := 81) (by decide +kernel))
theorem t_83 : (Jvm.Cond.lays "RoamingNet$Message" "RoamingNet$Message" "careOf" "I") ∈ lw_tbl := List.mem_append_right _ (List.mem_of_getElem? (i := 83) (by decide +kernel))
theorem t_85 : (Jvm.Cond.lays "RoamingNet$Message" "RoamingNet$Message" "code" "I") ∈ lw_tbl := List.mem_append_right _ (List.mem_of_getElem? (i := 85) (by decide +kernel))
theorem t_87 : (Jvm.Cond.lays "RoamingNet$Message" "RoamingNet$Message" "lifetime" "I") ∈ lw_tbl := List.mem_append_right _ (List.mem_of_getElem? (i := 87) (by decide +kernel))
theorem t_89 : (Jvm.Cond.lays "RoamingNet$Message" "RoamingNet$Message" "seal" "I") ∈ lw_tbl := List.mem_append_right _ (List.mem_of_getElem? (i := 89) (by decide +kernel))
theorem t_92 : (Jvm.Cond.fieldLink "RoamingNet$Wire" (11 : Nat) "RoamingNet$Wire" "rows" "[LRoamingNet$Message;") ∈ lw_tbl := List.mem_append_right _ (List.mem_of_getElem? (i := 92) (by decide +kernel))
theorem t_93 : (Jvm.Cond.fieldLinkNest "RoamingNet" (91 : Nat) "RoamingNet$Wire" "rows" "[LRoamingNet$Message;" "RoamingNet") ∈ lw_tbl := List.mem_append_right _ (List.mem_of_getElem? (i := 93) (by decide +kernel))
theorem t_94 : (Jvm.Cond.fieldLink "RoamingNet$Wire" (18 : Nat) "RoamingNet$Wire" "size" "I") ∈ lw_tbl := List.mem_append_right _ (List.mem_of_getElem? (i := 94) (by decide +kernel))
theorem t_95 : (Jvm.Cond.fieldLinkNest "RoamingNet" (129 : Nat) "RoamingNet$Wire" "size" "I" "RoamingNet") ∈ lw_tbl := List.mem_append_right _ (List.mem_of_getElem? (i := 95) (by decide +kernel))
theorem t_96 : (Jvm.Cond.fieldLinkNest "RoamingNet$HomeAgent" (32 : Nat) "RoamingNet$Wire" "clock" "I" "RoamingNet") ∈ lw_tbl := List.mem_append_right _ (List.mem_of_getElem? (i := 96) (by decide +kernel))
theorem t_97 : (Jvm.Cond.fieldLinkNest "RoamingNet$ForeignAgent" (32 : Nat) "RoamingNet$Wire" "clock" "I" "RoamingNet") ∈ lw_tbl := List.mem_append_right _ (List.mem_of_getElem? (i := 97) (by decide +kernel))
theorem t_98 : (Jvm.Cond.fieldLinkNest "RoamingNet$Correspondent" (34 : Nat) "RoamingNet$Wire" "clock" "I" "RoamingNet") ∈ lw_tbl := List.mem_append_right _ (List.mem_of_getElem? (i := 98) (by decide +kernel))
theorem t_99 : (Jvm.Cond.fieldLinkNest "RoamingNet$Mobile" (55 : Nat) "RoamingNet$Wire" "clock" "I" "RoamingNet") ∈ lw_tbl := List.mem_append_right _ (List.mem_of_getElem? (i := 99) (by decide +kernel))
theorem t_100 : (Jvm.Cond.fieldLinkNest "RoamingNet" (150 : Nat) "RoamingNet$Wire" "clock" "I" "RoamingNet") ∈ lw_tbl := List.mem_append_right _ (List.mem_of_getElem? (i := 100) (by decide +kernel))
theorem t_101 : (Jvm.Cond.laysFinal "RoamingNet$Wire" "RoamingNet$Wire" "rows" "[LRoamingNet$Message;") ∈ lw_tbl := List.mem_append_right _ (List.mem_of_getElem? (i := 101) (by decide +kernel))
theorem t_103 : (Jvm.Cond.lays "RoamingNet$Wire" "RoamingNet$Wire" "size" "I") ∈ lw_tbl := List.mem_append_right _ (List.mem_of_getElem? (i := 103) (by decide +kernel))
theorem t_105 : (Jvm.Cond.lays "RoamingNet$Wire" "RoamingNet$Wire" "clock" "I") ∈ lw_tbl := List.mem_append_right _ (List.mem_of_getElem? (i := 105) (by decide +kernel))
theorem t_117 : (Jvm.Cond.constant "RoamingNet$Mobile" (25 : Nat) (2147483647 : Int32)) ∈ lw_tbl := List.mem_append_right _ (List.mem_of_getElem? (i := 117) (by decide +kernel))
theorem t_118 : (Jvm.Cond.fieldLink "RoamingNet$Mobile" (9 : Nat) "RoamingNet$Mobile" "self" "I") ∈ lw_tbl := List.mem_append_right _ (List.mem_of_getElem? (i := 118) (by decide +kernel))
theorem t_119 : (Jvm.Cond.fieldLink "RoamingNet$Mobile" (15 : Nat) "RoamingNet$Mobile" "life" "I") ∈ lw_tbl := List.mem_append_right _ (List.mem_of_getElem? (i := 119) (by decide +kernel))
theorem t_120 : (Jvm.Cond.fieldLink "RoamingNet$Mobile" (18 : Nat) "RoamingNet$Mobile" "wire" "LRoamingNet$Wire;") ∈ lw_tbl := List.mem_append_right _ (List.mem_of_getElem? (i := 120) (by decide +kernel))
theorem t_121 : (Jvm.Cond.fieldLinkNest "RoamingNet" (67 : Nat) "RoamingNet$Mobile" "secret" "I" "RoamingNet") ∈ lw_tbl := List.mem_append_right _ (List.mem_of_getElem? (i := 121) (by decide +kernel))
theorem t_122 : (Jvm.Cond.fieldLink "RoamingNet$Mobile" (89 : Nat) "RoamingNet$Mobile" "secret" "I") ∈ lw_tbl := List.mem_append_right _ (List.mem_of_getElem? (i := 122) (by decide +kernel))
theorem t_123 : (Jvm.Cond.fieldLink "RoamingNet$Mobile" (37 : Nat) "RoamingNet$Mobile" "network" "I") ∈ lw_tbl := List.mem_append_right _ (List.mem_of_getElem? (i := 123) (by decide +kernel))
theorem t_124 : (Jvm.Cond.fieldLinkNest "RoamingNet" (75 : Nat) "RoamingNet$Mobile" "network" "I" "RoamingNet") ∈ lw_tbl := List.mem_append_right _ (List.mem_of_getElem? (i := 124) (by decide +kernel))
theorem t_125 : (Jvm.Cond.fieldLink "RoamingNet$Mobile" (76 : Nat) "RoamingNet$Mobile" "lastId" "I") ∈ lw_tbl := List.mem_append_right _ (List.mem_of_getElem? (i := 125) (by decide +kernel))
theorem t_126 : (Jvm.Cond.fieldLink "RoamingNet$Mobile" (22 : Nat) "RoamingNet$Mobile" "agent" "I") ∈ lw_tbl := List.mem_append_right _ (List.mem_of_getElem? (i := 126) (by decide +kernel))
theorem t_127 : (Jvm.Cond.fieldLinkNest "RoamingNet" (136 : Nat) "RoamingNet$Mobile" "agent" "I" "RoamingNet") ∈ lw_tbl := List.mem_append_right _ (List.mem_of_getElem? (i := 127) (by decide +kernel))
theorem t_128 : (Jvm.Cond.fieldLink "RoamingNet$Mobile" (26 : Nat) "RoamingNet$Mobile" "agentUntil" "I") ∈ lw_tbl := List.mem_append_right _ (List.mem_of_getElem? (i := 128) (by decide +kernel))
theorem t_129 : (Jvm.Cond.fieldLink "RoamingNet$Mobile" (29 : Nat) "RoamingNet$Mobile" "heard" "I") ∈ lw_tbl := List.mem_append_right _ (List.mem_of_getElem? (i := 129) (by decide +kernel))
theorem t_130 : (Jvm.Cond.fieldLink "RoamingNet$Mobile" (60 : Nat) "RoamingNet$Mobile" "heardUntil" "I") ∈ lw_tbl := List.mem_append_right _ (List.mem_of_getElem? (i := 130) (by decide +kernel))
theorem t_131 : (Jvm.Cond.fieldLink "RoamingNet$Mobile" (63 : Nat) "RoamingNet$Mobile" "openId" "I") ∈ lw_tbl := List.mem_append_right _ (List.mem_of_getElem? (i := 131) (by decide +kernel))
theorem t_132 : (Jvm.Cond.fieldLinkNest "RoamingNet" (139 : Nat) "RoamingNet$Mobile" "openId" "I" "RoamingNet") ∈ lw_tbl := List.mem_append_right _ (List.mem_of_getElem? (i := 132) (by decide +kernel))
theorem t_133 : (Jvm.Cond.fieldLink "RoamingNet$Mobile" (66 : Nat) "RoamingNet$Mobile" "openAgent" "I") ∈ lw_tbl := List.mem_append_right _ (List.mem_of_getElem? (i := 133) (by decide +kernel))
theorem t_134 : (Jvm.Cond.fieldLink "RoamingNet$Mobile" (99 : Nat) "RoamingNet$Mobile" "openSince" "I") ∈ lw_tbl := List.mem_append_right _ (List.mem_of_getElem? (i := 134) (by decide +kernel))
theorem t_135 : (Jvm.Cond.fieldLink "RoamingNet$Mobile" (108 : Nat) "RoamingNet$Mobile" "received" "I") ∈ lw_tbl := List.mem_append_right _ (List.mem_of_getElem? (i := 135) (by decide +kernel))
theorem t_136 : (Jvm.Cond.fieldLinkNest "RoamingNet" (159 : Nat) "RoamingNet$Mobile" "received" "I" "RoamingNet") ∈ lw_tbl := List.mem_append_right _ (List.mem_of_getElem? (i := 136) (by decide +kernel))
theorem t_137 : (Jvm.Cond.laysFinal "RoamingNet$Mobile" "RoamingNet$Mobile" "self" "I") ∈ lw_tbl := List.mem_append_right _ (List.mem_of_getElem? (i := 137) (by decide +kernel))
theorem t_139 : (Jvm.Cond.laysFinal "RoamingNet$Mobile" "RoamingNet$Mobile" "life" "I") ∈ lw_tbl := List.mem_append_right _ (List.mem_of_getElem? (i := 139) (by decide +kernel))
theorem t_141 : (Jvm.Cond.laysFinal "RoamingNet$Mobile" "RoamingNet$Mobile" "wire" "LRoamingNet$Wire;") ∈ lw_tbl := List.mem_append_right _ (List.mem_of_getElem? (i := 141) (by decide +kernel))
theorem t_143 : (Jvm.Cond.lays "RoamingNet$Mobile" "RoamingNet$Mobile" "secret" "I") ∈ lw_tbl := List.mem_append_right _ (List.mem_of_getElem? (i := 143) (by decide +kernel))
theorem t_145 : (Jvm.Cond.lays "RoamingNet$Mobile" "RoamingNet$Mobile" "network" "I") ∈ lw_tbl := List.mem_append_right _ (List.mem_of_getElem? (i := 145) (by decide +kernel))
theorem t_147 : (Jvm.Cond.lays "RoamingNet$Mobile" "RoamingNet$Mobile" "lastId" "I") ∈ lw_tbl := List.mem_append_right _ (List.mem_of_getElem? (i := 147) (by decide +kernel))
theorem t_149 : (Jvm.Cond.lays "RoamingNet$Mobile" "RoamingNet$Mobile" "agent" "I") ∈ lw_tbl := List.mem_append_right _ (List.mem_of_getElem? (i := 149) (by decide +kernel))
theorem t_151 : (Jvm.Cond.lays "RoamingNet$Mobile" "RoamingNet$Mobile" "agentUntil" "I") ∈ lw_tbl := List.mem_append_right _ (List.mem_of_getElem? (i := 151) (by decide +kernel))
theorem t_153 : (Jvm.Cond.lays "RoamingNet$Mobile" "RoamingNet$Mobile" "heard" "I") ∈ lw_tbl := List.mem_append_right _ (List.mem_of_getElem? (i := 153) (by decide +kernel))
theorem t_155 : (Jvm.Cond.lays "RoamingNet$Mobile" "RoamingNet$Mobile" "heardUntil" "I") ∈ lw_tbl := List.mem_append_right _ (List.mem_of_getElem? (i := 155) (by decide +kernel))
theorem t_157 : (Jvm.Cond.lays "RoamingNet$Mobile" "RoamingNet$Mobile" "openId" "I") ∈ lw_tbl := List.mem_append_right _ (List.mem_of_getElem? (i := 157) (by decide +kernel))
theorem t_159 : (Jvm.Cond.lays "RoamingNet$Mobile" "RoamingNet$Mobile" "openAgent" "I") ∈ lw_tbl := List.mem_append_right _ (List.mem_of_getElem? (i := 159) (by decide +kernel))
theorem t_161 : (Jvm.Cond.lays "RoamingNet$Mobile" "RoamingNet$Mobile" "openSince" "I") ∈ lw_tbl := List.mem_append_right _ (List.mem_of_getElem? (i := 161) (by decide +kernel))
theorem t_163 : (Jvm.Cond.lays "RoamingNet$Mobile" "RoamingNet$Mobile" "received" "I") ∈ lw_tbl := List.mem_append_right _ (List.mem_of_getElem? (i := 163) (by decide +kernel))
theorem t_172 : (Jvm.Cond.fieldLink "RoamingNet$HomeAgent" (9 : Nat) "RoamingNet$HomeAgent" "limit" "I") ∈ lw_tbl := List.mem_append_right _ (List.mem_of_getElem? (i := 172) (by decide +kernel))
theorem t_173 : (Jvm.Cond.fieldLink "RoamingNet$HomeAgent" (15 : Nat) "RoamingNet$HomeAgent" "wire" "LRoamingNet$Wire;") ∈ lw_tbl := List.mem_append_right _ (List.mem_of_getElem? (i := 173) (by decide +kernel))
theorem t_174 : (Jvm.Cond.fieldLink "RoamingNet$HomeAgent" (19 : Nat) "RoamingNet$HomeAgent" "secrets" "[I") ∈ lw_tbl := List.mem_append_right _ (List.mem_of_getElem? (i := 174) (by decide +kernel))
theorem t_175 : (Jvm.Cond.fieldLinkNest "RoamingNet" (71 : Nat) "RoamingNet$HomeAgent" "secrets" "[I" "RoamingNet") ∈ lw_tbl := List.mem_append_right _ (List.mem_of_getElem? (i := 175) (by decide +kernel))
theorem t_176 : (Jvm.Cond.fieldLink "RoamingNet$HomeAgent" (23 : Nat) "RoamingNet$HomeAgent" "lastAccepted" "[I") ∈ lw_tbl := List.mem_append_right _ (List.mem_of_getElem? (i := 176) (by decide +kernel))
theorem t_177 : (Jvm.Cond.fieldLink "RoamingNet$HomeAgent" (26 : Nat) "RoamingNet$HomeAgent" "careOf" "[I") ∈ lw_tbl := List.mem_append_right _ (List.mem_of_getElem? (i := 177) (by decide +kernel))
theorem t_178 : (Jvm.Cond.fieldLinkNest "RoamingNet" (145 : Nat) "RoamingNet$HomeAgent" "careOf" "[I" "RoamingNet") ∈ lw_tbl := List.mem_append_right _ (List.mem_of_getElem? (i := 178) (by decide +kernel))
theorem t_179 : (Jvm.Cond.fieldLink "RoamingNet$HomeAgent" (29 : Nat) "RoamingNet$HomeAgent" "boundUntil" "[I") ∈ lw_tbl := List.mem_append_right _ (List.mem_of_getElem? (i := 179) (by decide +kernel))
theorem t_180 : (Jvm.Cond.fieldLinkNest "RoamingNet" (147 : Nat) "RoamingNet$HomeAgent" "boundUntil" "[I" "RoamingNet") ∈ lw_tbl := List.mem_append_right _ (List.mem_of_getElem? (i := 180) (by decide +kernel))
theorem t_181 : (Jvm.Cond.laysFinal "RoamingNet$HomeAgent" "RoamingNet$HomeAgent" "limit" "I") ∈ lw_tbl := List.mem_append_right _ (List.mem_of_getElem? (i := 181) (by decide +kernel))
theorem t_183 : (Jvm.Cond.laysFinal "RoamingNet$HomeAgent" "RoamingNet$HomeAgent" "wire" "LRoamingNet$Wire;") ∈ lw_tbl := List.mem_append_right _ (List.mem_of_getElem? (i := 183) (by decide +kernel))
theorem t_185 : (Jvm.Cond.laysFinal "RoamingNet$HomeAgent" "RoamingNet$HomeAgent" "secrets" "[I") ∈ lw_tbl := List.mem_append_right _ (List.mem_of_getElem? (i := 185) (by decide +kernel))
theorem t_187 : (Jvm.Cond.laysFinal "RoamingNet$HomeAgent" "RoamingNet$HomeAgent" "lastAccepted" "[I") ∈ lw_tbl := List.mem_append_right _ (List.mem_of_getElem? (i := 187) (by decide +kernel))
theorem t_189 : (Jvm.Cond.laysFinal "RoamingNet$HomeAgent" "RoamingNet$HomeAgent" "careOf" "[I") ∈ lw_tbl := List.mem_append_right _ (List.mem_of_getElem? (i := 189) (by decide +kernel))
theorem t_191 : (Jvm.Cond.laysFinal "RoamingNet$HomeAgent" "RoamingNet$HomeAgent" "boundUntil" "[I") ∈ lw_tbl := List.mem_append_right _ (List.mem_of_getElem? (i := 191) (by decide +kernel))
theorem t_202 : (Jvm.Cond.fieldLink "RoamingNet$ForeignAgent" (9 : Nat) "RoamingNet$ForeignAgent" "self" "I") ∈ lw_tbl := List.mem_append_right _ (List.mem_of_getElem? (i := 202) (by decide +kernel))
theorem t_203 : (Jvm.Cond.fieldLink "RoamingNet$ForeignAgent" (15 : Nat) "RoamingNet$ForeignAgent" "places" "I") ∈ lw_tbl := List.mem_append_right _ (List.mem_of_getElem? (i := 203) (by decide +kernel))
theorem t_204 : (Jvm.Cond.fieldLink "RoamingNet$ForeignAgent" (18 : Nat) "RoamingNet$ForeignAgent" "wire" "LRoamingNet$Wire;") ∈ lw_tbl := List.mem_append_right _ (List.mem_of_getElem? (i := 204) (by decide +kernel))
theorem t_205 : (Jvm.Cond.fieldLink "RoamingNet$ForeignAgent" (22 : Nat) "RoamingNet$ForeignAgent" "visitUntil" "[I") ∈ lw_tbl := List.mem_append_right _ (List.mem_of_getElem? (i := 205) (by decide +kernel))
theorem t_206 : (Jvm.Cond.fieldLinkNest "RoamingNet" (156 : Nat) "RoamingNet$ForeignAgent" "visitUntil" "[I" "RoamingNet") ∈ lw_tbl := List.mem_append_right _ (List.mem_of_getElem? (i := 206) (by decide +kernel))
theorem t_207 : (Jvm.Cond.fieldLink "RoamingNet$ForeignAgent" (26 : Nat) "RoamingNet$ForeignAgent" "entryId" "[I") ∈ lw_tbl := List.mem_append_right _ (List.mem_of_getElem? (i := 207) (by decide +kernel))
theorem t_208 : (Jvm.Cond.fieldLink "RoamingNet$ForeignAgent" (29 : Nat) "RoamingNet$ForeignAgent" "entryUntil" "[I") ∈ lw_tbl := List.mem_append_right _ (List.mem_of_getElem? (i := 208) (by decide +kernel))
theorem t_209 : (Jvm.Cond.laysFinal "RoamingNet$ForeignAgent" "RoamingNet$ForeignAgent" "self" "I") ∈ lw_tbl := List.mem_append_right _ (List.mem_of_getElem? (i := 209) (by decide +kernel))
theorem t_211 : (Jvm.Cond.laysFinal "RoamingNet$ForeignAgent" "RoamingNet$ForeignAgent" "places" "I") ∈ lw_tbl := List.mem_append_right _ (List.mem_of_getElem? (i := 211) (by decide +kernel))
theorem t_213 : (Jvm.Cond.laysFinal "RoamingNet$ForeignAgent" "RoamingNet$ForeignAgent" "wire" "LRoamingNet$Wire;") ∈ lw_tbl := List.mem_append_right _ (List.mem_of_getElem? (i := 213) (by decide +kernel))
theorem t_215 : (Jvm.Cond.laysFinal "RoamingNet$ForeignAgent" "RoamingNet$ForeignAgent" "visitUntil" "[I") ∈ lw_tbl := List.mem_append_right _ (List.mem_of_getElem? (i := 215) (by decide +kernel))
theorem t_217 : (Jvm.Cond.laysFinal "RoamingNet$ForeignAgent" "RoamingNet$ForeignAgent" "entryId" "[I") ∈ lw_tbl := List.mem_append_right _ (List.mem_of_getElem? (i := 217) (by decide +kernel))
theorem t_219 : (Jvm.Cond.laysFinal "RoamingNet$ForeignAgent" "RoamingNet$ForeignAgent" "entryUntil" "[I") ∈ lw_tbl := List.mem_append_right _ (List.mem_of_getElem? (i := 219) (by decide +kernel))
theorem t_228 : (Jvm.Cond.fieldLink "RoamingNet$Correspondent" (9 : Nat) "RoamingNet$Correspondent" "wire" "LRoamingNet$Wire;") ∈ lw_tbl := List.mem_append_right _ (List.mem_of_getElem? (i := 228) (by decide +kernel))
theorem t_229 : (Jvm.Cond.fieldLink "RoamingNet$Correspondent" (15 : Nat) "RoamingNet$Correspondent" "said" "[I") ∈ lw_tbl := List.mem_append_right _ (List.mem_of_getElem? (i := 229) (by decide +kernel))
theorem t_230 : (Jvm.Cond.fieldLinkNest "RoamingNet" (81 : Nat) "RoamingNet$Correspondent" "said" "[I" "RoamingNet") ∈ lw_tbl := List.mem_append_right _ (List.mem_of_getElem? (i := 230) (by decide +kernel))
theorem t_231 : (Jvm.Cond.fieldLink "RoamingNet$Correspondent" (19 : Nat) "RoamingNet$Correspondent" "sent" "[I") ∈ lw_tbl := List.mem_append_right _ (List.mem_of_getElem? (i := 231) (by decide +kernel))
theorem t_232 : (Jvm.Cond.fieldLinkNest "RoamingNet" (162 : Nat) "RoamingNet$Correspondent" "sent" "[I" "RoamingNet") ∈ lw_tbl := List.mem_append_right _ (List.mem_of_getElem? (i := 232) (by decide +kernel))
theorem t_233 : (Jvm.Cond.fieldLink "RoamingNet$Correspondent" (22 : Nat) "RoamingNet$Correspondent" "acked" "[I") ∈ lw_tbl := List.mem_append_right _ (List.mem_of_getElem? (i := 233) (by decide +kernel))
theorem t_234 : (Jvm.Cond.fieldLinkNest "RoamingNet" (165 : Nat) "RoamingNet$Correspondent" "acked" "[I" "RoamingNet") ∈ lw_tbl := List.mem_append_right _ (List.mem_of_getElem? (i := 234) (by decide +kernel))
theorem t_235 : (Jvm.Cond.fieldLink "RoamingNet$Correspondent" (25 : Nat) "RoamingNet$Correspondent" "last" "[I") ∈ lw_tbl := List.mem_append_right _ (List.mem_of_getElem? (i := 235) (by decide +kernel))
theorem t_236 : (Jvm.Cond.laysFinal "RoamingNet$Correspondent" "RoamingNet$Correspondent" "wire" "LRoamingNet$Wire;") ∈ lw_tbl := List.mem_append_right _ (List.mem_of_getElem? (i := 236) (by decide +kernel))
theorem t_238 : (Jvm.Cond.laysFinal "RoamingNet$Correspondent" "RoamingNet$Correspondent" "said" "[I") ∈ lw_tbl := List.mem_append_right _ (List.mem_of_getElem? (i := 238) (by decide +kernel))
theorem t_240 : (Jvm.Cond.laysFinal "RoamingNet$Correspondent" "RoamingNet$Correspondent" "sent" "[I") ∈ lw_tbl := List.mem_append_right _ (List.mem_of_getElem? (i := 240) (by decide +kernel))
theorem t_242 : (Jvm.Cond.laysFinal "RoamingNet$Correspondent" "RoamingNet$Correspondent" "acked" "[I") ∈ lw_tbl := List.mem_append_right _ (List.mem_of_getElem? (i := 242) (by decide +kernel))
theorem t_244 : (Jvm.Cond.laysFinal "RoamingNet$Correspondent" "RoamingNet$Correspondent" "last" "[I") ∈ lw_tbl := List.mem_append_right _ (List.mem_of_getElem? (i := 244) (by decide +kernel))
theorem t_247 : (Jvm.Cond.fieldLink "RoamingNet" (18 : Nat) "RoamingNet" "wire" "LRoamingNet$Wire;") ∈ lw_tbl := List.mem_append_right _ (List.mem_of_getElem? (i := 247) (by decide +kernel))
theorem t_248 : (Jvm.Cond.fieldLink "RoamingNet" (25 : Nat) "RoamingNet" "arrived" "LRoamingNet$Message;") ∈ lw_tbl := List.mem_append_right _ (List.mem_of_getElem? (i := 248) (by decide +kernel))
theorem t_249 : (Jvm.Cond.fieldLink "RoamingNet" (31 : Nat) "RoamingNet" "mobiles" "[LRoamingNet$Mobile;") ∈ lw_tbl := List.mem_append_right _ (List.mem_of_getElem? (i := 249) (by decide +kernel))
theorem t_250 : (Jvm.Cond.fieldLink "RoamingNet" (43 : Nat) "RoamingNet" "home" "LRoamingNet$HomeAgent;") ∈ lw_tbl := List.mem_append_right _ (List.mem_of_getElem? (i := 250) (by decide +kernel))
theorem t_251 : (Jvm.Cond.fieldLink "RoamingNet" (49 : Nat) "RoamingNet" "foreign" "[LRoamingNet$ForeignAgent;") ∈ lw_tbl := List.mem_append_right _ (List.mem_of_getElem? (i := 251) (by decide +kernel))
theorem t_252 : (Jvm.Cond.fieldLink "RoamingNet" (59 : Nat) "RoamingNet" "correspondent" "LRoamingNet$Correspondent;") ∈ lw_tbl := List.mem_append_right _ (List.mem_of_getElem? (i := 252) (by decide +kernel))
theorem t_253 : (Jvm.Cond.laysFinal "RoamingNet" "RoamingNet" "wire" "LRoamingNet$Wire;") ∈ lw_tbl := List.mem_append_right _ (List.mem_of_getElem? (i := 253) (by decide +kernel))
theorem t_255 : (Jvm.Cond.laysFinal "RoamingNet" "RoamingNet" "arrived" "LRoamingNet$Message;") ∈ lw_tbl := List.mem_append_right _ (List.mem_of_getElem? (i := 255) (by decide +kernel))
theorem t_257 : (Jvm.Cond.laysFinal "RoamingNet" "RoamingNet" "mobiles" "[LRoamingNet$Mobile;") ∈ lw_tbl := List.mem_append_right _ (List.mem_of_getElem? (i := 257) (by decide +kernel))
theorem t_259 : (Jvm.Cond.laysFinal "RoamingNet" "RoamingNet" "home" "LRoamingNet$HomeAgent;") ∈ lw_tbl := List.mem_append_right _ (List.mem_of_getElem? (i := 259) (by decide +kernel))
theorem t_261 : (Jvm.Cond.laysFinal "RoamingNet" "RoamingNet" "foreign" "[LRoamingNet$ForeignAgent;") ∈ lw_tbl := List.mem_append_right _ (List.mem_of_getElem? (i := 261) (by decide +kernel))
theorem t_263 : (Jvm.Cond.laysFinal "RoamingNet" "RoamingNet" "correspondent" "LRoamingNet$Correspondent;") ∈ lw_tbl := List.mem_append_right _ (List.mem_of_getElem? (i := 263) (by decide +kernel))
theorem t_270 : (Jvm.Cond.methodLink "RoamingNet" (63 : Nat) ({ cls := "RoamingNet", name := "isMobile", desc := "(I)Z" } : Jvm.MethodName)) ∈ lw_tbl := List.mem_append_right _ (List.mem_of_getElem? (i := 270) (by decide +kernel))
theorem t_271 : (Jvm.Cond.static ({ cls := "RoamingNet", name := "isMobile", desc := "(I)Z" } : Jvm.MethodName)) ∈ lw_tbl := List.mem_append_right _ (List.mem_of_getElem? (i := 271) (by decide +kernel))
theorem t_272 : (Jvm.Cond.code ({ cls := "RoamingNet", name := "isMobile", desc := "(I)Z" } : Jvm.MethodName) prog_1_method_22_code (1 : Nat) (Option.some Jvm.ClassFile.FieldType.boolean)) ∈ lw_tbl := List.mem_append_right _ (List.mem_of_getElem? (i := 272) (by decide +kernel))
theorem t_281 : (Jvm.Cond.methodLink "RoamingNet" (78 : Nat) ({ cls := "RoamingNet", name := "passOneTick", desc := "()V" } : Jvm.MethodName)) ∈ lw_tbl := List.mem_append_right _ (List.mem_of_getElem? (i := 281) (by decide +kernel))
theorem t_283 : (Jvm.Cond.instanceMethod ({ cls := "RoamingNet", name := "passOneTick", desc := "()V" } : Jvm.MethodName)) ∈ lw_tbl := List.mem_append_right _ (List.mem_of_getElem? (i := 283) (by decide +kernel))
theorem t_284 : (Jvm.Cond.code ({ cls := "RoamingNet", name := "passOneTick", desc := "()V" } : Jvm.MethodName) prog_1_method_18_code (2 : Nat) (Option.none : Option Jvm.ClassFile.FieldType)) ∈ lw_tbl := List.mem_append_right _ (List.mem_of_getElem? (i := 284) (by decide +kernel))
theorem t_285 : (Jvm.Cond.methodLink "RoamingNet" (168 : Nat) ({ cls := "RoamingNet", name := "advertise", desc := "(I)V" } : Jvm.MethodName)) ∈ lw_tbl := List.mem_append_right _ (List.mem_of_getElem? (i := 285) (by decide +kernel))
theorem t_287 : (Jvm.Cond.instanceMethod ({ cls := "RoamingNet", name := "advertise", desc := "(I)V" } : Jvm.MethodName)) ∈ lw_tbl := List.mem_append_right _ (List.mem_of_getElem? (i := 287) (by decide +kernel))
theorem t_288 : (Jvm.Cond.code ({ cls := "RoamingNet", name := "advertise", desc := "(I)V" } : Jvm.MethodName) prog_1_method_19_code (3 : Nat) (Option.none : Option Jvm.ClassFile.FieldType)) ∈ lw_tbl := List.mem_append_right _ (List.mem_of_getElem? (i := 288) (by decide +kernel))
theorem t_289 : (Jvm.Cond.methodLinkNest "RoamingNet" (177 : Nat) ({ cls := "RoamingNet$Wire", name := "sendInNetwork", desc := "(IIII)LRoamingNet$Message;" } : Jvm.MethodName) "RoamingNet") ∈ lw_tbl := List.mem_append_right _ (List.mem_of_getElem? (i := 289) (by decide +kernel))
theorem t_291 : (Jvm.Cond.instanceMethod ({ cls := "RoamingNet$Wire", name := "sendInNetwork", desc := "(IIII)LRoamingNet$Message;" } : Jvm.MethodName)) ∈ lw_tbl := List.mem_append_right _ (List.mem_of_getElem? (i := 291) (by decide +kernel))
theorem t_292 : (Jvm.Cond.code ({ cls := "RoamingNet$Wire", name := "sendInNetwork", desc := "(IIII)LRoamingNet$Message;" } : Jvm.MethodName) prog_7_method_7_code (6 : Nat) (Option.some (Jvm.ClassFile.FieldType.object "RoamingNet$Message"))) ∈ lw_tbl := List.mem_append_right _ (List.mem_of_getElem? (i := 292) (by decide +kernel))
theorem t_293 : (Jvm.Cond.methodLink "RoamingNet$Wire" (34 : Nat) ({ cls := "RoamingNet$Wire", name := "sendTo", desc := "(IIII)LRoamingNet$Message;" } : Jvm.MethodName)) ∈ lw_tbl := List.mem_append_right _ (List.mem_of_getElem? (i := 293) (by decide +kernel))
theorem t_295 : (Jvm.Cond.instanceMethod ({ cls := "RoamingNet$Wire", name := "sendTo", desc := "(IIII)LRoamingNet$Message;" } : Jvm.MethodName)) ∈ lw_tbl := List.mem_append_right _ (List.mem_of_getElem? (i := 295) (by decide +kernel))
theorem t_296 : (Jvm.Cond.code ({ cls := "RoamingNet$Wire", name := "sendTo", desc := "(IIII)LRoamingNet$Message;" } : Jvm.MethodName) prog_7_method_6_code (6 : Nat) (Option.some (Jvm.ClassFile.FieldType.object "RoamingNet$Message"))) ∈ lw_tbl := List.mem_append_right _ (List.mem_of_getElem? (i := 296) (by decide +kernel))
theorem t_297 : (Jvm.Cond.methodLink "RoamingNet$Wire" (26 : Nat) ({ cls := "RoamingNet$Wire", name := "nextRow", desc := "()LRoamingNet$Message;" } : Jvm.MethodName)) ∈ lw_tbl := List.mem_append_right _ (List.mem_of_getElem? (i := 297) (by decide +kernel))
theorem t_299 : (Jvm.Cond.instanceMethod ({ cls := "RoamingNet$Wire", name := "nextRow", desc := "()LRoamingNet$Message;" } : Jvm.MethodName)) ∈ lw_tbl := List.mem_append_right _ (List.mem_of_getElem? (i := 299) (by decide +kernel))
theorem t_300 : (Jvm.Cond.code ({ cls := "RoamingNet$Wire", name := "nextRow", desc := "()LRoamingNet$Message;" } : Jvm.MethodName) prog_7_method_4_code (1 : Nat) (Option.some (Jvm.ClassFile.FieldType.object "RoamingNet$Message"))) ∈ lw_tbl := List.mem_append_right _ (List.mem_of_getElem? (i := 300) (by decide +kernel))
theorem t_301 : (Jvm.Cond.methodLink "RoamingNet$Wire" (22 : Nat) ({ cls := "RoamingNet$Wire", name := "isFull", desc := "()Z" } : Jvm.MethodName)) ∈ lw_tbl := List.mem_append_right _ (List.mem_of_getElem? (i := 301) (by decide +kernel))
theorem t_303 : (Jvm.Cond.instanceMethod ({ cls := "RoamingNet$Wire", name := "isFull", desc := "()Z" } : Jvm.MethodName)) ∈ lw_tbl := List.mem_append_right _ (List.mem_of_getElem? (i := 303) (by decide +kernel))
theorem t_304 : (Jvm.Cond.code ({ cls := "RoamingNet$Wire", name := "isFull", desc := "()Z" } : Jvm.MethodName) prog_7_method_3_code (1 : Nat) (Option.some Jvm.ClassFile.FieldType.boolean)) ∈ lw_tbl := List.mem_append_right _ (List.mem_of_getElem? (i := 304) (by decide +kernel))
theorem t_305 : (Jvm.Cond.methodLinkNest "RoamingNet$Wire" (30 : Nat) ({ cls := "RoamingNet$Message", name := "begin", desc := "(IIII)V" } : Jvm.MethodName) "RoamingNet") ∈ lw_tbl := List.mem_append_right _ (List.mem_of_getElem? (i := 305) (by decide +kernel))
theorem t_307 : (Jvm.Cond.instanceMethod ({ cls := "RoamingNet$Message", name := "begin", desc := "(IIII)V" } : Jvm.MethodName)) ∈ lw_tbl := List.mem_append_right _ (List.mem_of_getElem? (i := 307) (by decide +kernel))
theorem t_308 : (Jvm.Cond.code ({ cls := "RoamingNet$Message", name := "begin", desc := "(IIII)V" } : Jvm.MethodName) prog_5_method_2_code (5 : Nat) (Option.none : Option Jvm.ClassFile.FieldType)) ∈ lw_tbl := List.mem_append_right _ (List.mem_of_getElem? (i := 308) (by decide +kernel))
theorem t_309 : (Jvm.Cond.methodLinkNest "RoamingNet" (171 : Nat) ({ cls := "RoamingNet$Mobile", name := "notice", desc := "()V" } : Jvm.MethodName) "RoamingNet") ∈ lw_tbl := List.mem_append_right _ (List.mem_of_getElem? (i := 309) (by decide +kernel))
theorem t_311 : (Jvm.Cond.instanceMethod ({ cls := "RoamingNet$Mobile", name := "notice", desc := "()V" } : Jvm.MethodName)) ∈ lw_tbl := List.mem_append_right _ (List.mem_of_getElem? (i := 311) (by decide +kernel))
theorem t_312 : (Jvm.Cond.code ({ cls := "RoamingNet$Mobile", name := "notice", desc := "()V" } : Jvm.MethodName) prog_6_method_8_code (1 : Nat) (Option.none : Option Jvm.ClassFile.FieldType)) ∈ lw_tbl := List.mem_append_right _ (List.mem_of_getElem? (i := 312) (by decide +kernel))
theorem t_313 : (Jvm.Cond.methodLink "RoamingNet$Mobile" (73 : Nat) ({ cls := "RoamingNet$Mobile", name := "registerWith", desc := "(I)V" } : Jvm.MethodName)) ∈ lw_tbl := List.mem_append_right _ (List.mem_of_getElem? (i := 313) (by decide +kernel))
theorem t_315 : (Jvm.Cond.instanceMethod ({ cls := "RoamingNet$Mobile", name := "registerWith", desc := "(I)V" } : Jvm.MethodName)) ∈ lw_tbl := List.mem_append_right _ (List.mem_of_getElem? (i := 315) (by decide +kernel))
theorem t_316 : (Jvm.Cond.code ({ cls := "RoamingNet$Mobile", name := "registerWith", desc := "(I)V" } : Jvm.MethodName) prog_6_method_5_code (3 : Nat) (Option.none : Option Jvm.ClassFile.FieldType)) ∈ lw_tbl := List.mem_append_right _ (List.mem_of_getElem? (i := 316) (by decide +kernel))
theorem t_317 : (Jvm.Cond.methodLinkNest "RoamingNet$Mobile" (79 : Nat) ({ cls := "RoamingNet$Wire", name := "sendTo", desc := "(IIII)LRoamingNet$Message;" } : Jvm.MethodName) "RoamingNet") ∈ lw_tbl := List.mem_append_right _ (List.mem_of_getElem? (i := 317) (by decide +kernel))
theorem t_318 : (Jvm.Cond.methodLinkNest "RoamingNet$Mobile" (92 : Nat) ({ cls := "RoamingNet$Message", name := "requestSeal", desc := "(I)I" } : Jvm.MethodName) "RoamingNet") ∈ lw_tbl := List.mem_append_right _ (List.mem_of_getElem? (i := 318) (by decide +kernel))
theorem t_320 : (Jvm.Cond.instanceMethod ({ cls := "RoamingNet$Message", name := "requestSeal", desc := "(I)I" } : Jvm.MethodName)) ∈ lw_tbl := List.mem_append_right _ (List.mem_of_getElem? (i := 320) (by decide +kernel))
theorem t_321 : (Jvm.Cond.code ({ cls := "RoamingNet$Message", name := "requestSeal", desc := "(I)I" } : Jvm.MethodName) prog_5_method_5_code (3 : Nat) (Option.some Jvm.ClassFile.FieldType.int)) ∈ lw_tbl := List.mem_append_right _ (List.mem_of_getElem? (i := 321) (by decide +kernel))
theorem t_322 : (Jvm.Cond.methodLink "RoamingNet$Message" (41 : Nat) ({ cls := "RoamingNet$Message", name := "stir", desc := "(II)I" } : Jvm.MethodName)) ∈ lw_tbl := List.mem_append_right _ (List.mem_of_getElem? (i := 322) (by decide +kernel))
theorem t_323 : (Jvm.Cond.static ({ cls := "RoamingNet$Message", name := "stir", desc := "(II)I" } : Jvm.MethodName)) ∈ lw_tbl := List.mem_append_right _ (List.mem_of_getElem? (i := 323) (by decide +kernel))
theorem t_324 : (Jvm.Cond.code ({ cls := "RoamingNet$Message", name := "stir", desc := "(II)I" } : Jvm.MethodName) prog_5_method_7_code (3 : Nat) (Option.some Jvm.ClassFile.FieldType.int)) ∈ lw_tbl := List.mem_append_right _ (List.mem_of_getElem? (i := 324) (by decide +kernel))
theorem t_325 : (Jvm.Cond.constant "RoamingNet$Message" (45 : Nat) (16777619 : Int32)) ∈ lw_tbl := List.mem_append_right _ (List.mem_of_getElem? (i := 325) (by decide +kernel))
theorem t_326 : (Jvm.Cond.methodLinkNest "RoamingNet" (174 : Nat) ({ cls := "RoamingNet$Correspondent", name := "resendIfDue", desc := "(I)V" } : Jvm.MethodName) "RoamingNet") ∈ lw_tbl := List.mem_append_right _ (List.mem_of_getElem? (i := 326) (by decide +kernel))
theorem t_328 : (Jvm.Cond.instanceMethod ({ cls := "RoamingNet$Correspondent", name := "resendIfDue", desc := "(I)V" } : Jvm.MethodName)) ∈ lw_tbl := List.mem_append_right _ (List.mem_of_getElem? (i := 328) (by decide +kernel))
theorem t_329 : (Jvm.Cond.code ({ cls := "RoamingNet$Correspondent", name := "resendIfDue", desc := "(I)V" } : Jvm.MethodName) prog_2_method_4_code (3 : Nat) (Option.none : Option Jvm.ClassFile.FieldType)) ∈ lw_tbl := List.mem_append_right _ (List.mem_of_getElem? (i := 329) (by decide +kernel))
theorem t_330 : (Jvm.Cond.methodLinkNest "RoamingNet$Correspondent" (28 : Nat) ({ cls := "RoamingNet$Wire", name := "sendTo", desc := "(IIII)LRoamingNet$Message;" } : Jvm.MethodName) "RoamingNet") ∈ lw_tbl := List.mem_append_right _ (List.mem_of_getElem? (i := 330) (by decide +kernel))
theorem t_335 : (Jvm.Cond.methodLinkNest "RoamingNet" (84 : Nat) ({ cls := "RoamingNet$Correspondent", name := "pump", desc := "(I)V" } : Jvm.MethodName) "RoamingNet") ∈ lw_tbl := List.mem_append_right _ (List.mem_of_getElem? (i := 335) (by decide +kernel))
theorem t_337 : (Jvm.Cond.instanceMethod ({ cls := "RoamingNet$Correspondent", name := "pump", desc := "(I)V" } : Jvm.MethodName)) ∈ lw_tbl := List.mem_append_right _ (List.mem_of_getElem? (i := 337) (by decide +kernel))
theorem t_338 : (Jvm.Cond.code ({ cls := "RoamingNet$Correspondent", name := "pump", desc := "(I)V" } : Jvm.MethodName) prog_2_method_2_code (2 : Nat) (Option.none : Option Jvm.ClassFile.FieldType)) ∈ lw_tbl := List.mem_append_right _ (List.mem_of_getElem? (i := 338) (by decide +kernel))
theorem t_343 : (Jvm.Cond.methodLinkNest "RoamingNet" (88 : Nat) ({ cls := "RoamingNet$Wire", name := "holds", desc := "(I)Z" } : Jvm.MethodName) "RoamingNet") ∈ lw_tbl := List.mem_append_right _ (List.mem_of_getElem? (i := 343) (by decide +kernel))
theorem t_345 : (Jvm.Cond.instanceMethod ({ cls := "RoamingNet$Wire", name := "holds", desc := "(I)Z" } : Jvm.MethodName)) ∈ lw_tbl := List.mem_append_right _ (List.mem_of_getElem? (i := 345) (by decide +kernel))
theorem t_346 : (Jvm.Cond.code ({ cls := "RoamingNet$Wire", name := "holds", desc := "(I)Z" } : Jvm.MethodName) prog_7_method_2_code (2 : Nat) (Option.some Jvm.ClassFile.FieldType.boolean)) ∈ lw_tbl := List.mem_append_right _ (List.mem_of_getElem? (i := 346) (by decide +kernel))
theorem t_347 : (Jvm.Cond.methodLinkNest "RoamingNet" (95 : Nat) ({ cls := "RoamingNet$Message", name := "copyFrom", desc := "(LRoamingNet$Message;)V" } : Jvm.MethodName) "RoamingNet") ∈ lw_tbl := List.mem_append_right _ (List.mem_of_getElem? (i := 347) (by decide +kernel))
theorem t_349 : (Jvm.Cond.instanceMethod ({ cls := "RoamingNet$Message", name := "copyFrom", desc := "(LRoamingNet$Message;)V" } : Jvm.MethodName)) ∈ lw_tbl := List.mem_append_right _ (List.mem_of_getElem? (i := 349) (by decide +kernel))
theorem t_350 : (Jvm.Cond.code ({ cls := "RoamingNet$Message", name := "copyFrom", desc := "(LRoamingNet$Message;)V" } : Jvm.MethodName) prog_5_method_3_code (2 : Nat) (Option.none : Option Jvm.ClassFile.FieldType)) ∈ lw_tbl := List.mem_append_right _ (List.mem_of_getElem? (i := 350) (by decide +kernel))
theorem t_351 : (Jvm.Cond.methodLinkNest "RoamingNet" (99 : Nat) ({ cls := "RoamingNet$Wire", name := "remove", desc := "(I)V" } : Jvm.MethodName) "RoamingNet") ∈ lw_tbl := List.mem_append_right _ (List.mem_of_getElem? (i := 351) (by decide +kernel))
theorem t_353 : (Jvm.Cond.instanceMethod ({ cls := "RoamingNet$Wire", name := "remove", desc := "(I)V" } : Jvm.MethodName)) ∈ lw_tbl := List.mem_append_right _ (List.mem_of_getElem? (i := 353) (by decide +kernel))
theorem t_354 : (Jvm.Cond.code ({ cls := "RoamingNet$Wire", name := "remove", desc := "(I)V" } : Jvm.MethodName) prog_7_method_5_code (4 : Nat) (Option.none : Option Jvm.ClassFile.FieldType)) ∈ lw_tbl := List.mem_append_right _ (List.mem_of_getElem? (i := 354) (by decide +kernel))
theorem t_355 : (Jvm.Cond.methodLink "RoamingNet" (102 : Nat) ({ cls := "RoamingNet", name := "handOver", desc := "(LRoamingNet$Message;)V" } : Jvm.MethodName)) ∈ lw_tbl := List.mem_append_right _ (List.mem_of_getElem? (i := 355) (by decide +kernel))
theorem t_357 : (Jvm.Cond.instanceMethod ({ cls := "RoamingNet", name := "handOver", desc := "(LRoamingNet$Message;)V" } : Jvm.MethodName)) ∈ lw_tbl := List.mem_append_right _ (List.mem_of_getElem? (i := 357) (by decide +kernel))
theorem t_358 : (Jvm.Cond.code ({ cls := "RoamingNet", name := "handOver", desc := "(LRoamingNet$Message;)V" } : Jvm.MethodName) prog_1_method_20_code (2 : Nat) (Option.none : Option Jvm.ClassFile.FieldType)) ∈ lw_tbl := List.mem_append_right _ (List.mem_of_getElem? (i := 358) (by decide +kernel))
theorem t_359 : (Jvm.Cond.methodLinkNest "RoamingNet" (186 : Nat) ({ cls := "RoamingNet$Mobile", name := "receive", desc := "(LRoamingNet$Message;)V" } : Jvm.MethodName) "RoamingNet") ∈ lw_tbl := List.mem_append_right _ (List.mem_of_getElem? (i := 359) (by decide +kernel))
theorem t_361 : (Jvm.Cond.instanceMethod ({ cls := "RoamingNet$Mobile", name := "receive", desc := "(LRoamingNet$Message;)V" } : Jvm.MethodName)) ∈ lw_tbl := List.mem_append_right _ (List.mem_of_getElem? (i := 361) (by decide +kernel))
theorem t_362 : (Jvm.Cond.code ({ cls := "RoamingNet$Mobile", name := "receive", desc := "(LRoamingNet$Message;)V" } : Jvm.MethodName) prog_6_method_2_code (2 : Nat) (Option.none : Option Jvm.ClassFile.FieldType)) ∈ lw_tbl := List.mem_append_right _ (List.mem_of_getElem? (i := 362) (by decide +kernel))
theorem t_363 : (Jvm.Cond.methodLink "RoamingNet$Mobile" (44 : Nat) ({ cls := "RoamingNet$Mobile", name := "takeAdvert", desc := "(I)V" } : Jvm.MethodName)) ∈ lw_tbl := List.mem_append_right _ (List.mem_of_getElem? (i := 363) (by decide +kernel))
theorem t_365 : (Jvm.Cond.instanceMethod ({ cls := "RoamingNet$Mobile", name := "takeAdvert", desc := "(I)V" } : Jvm.MethodName)) ∈ lw_tbl := List.mem_append_right _ (List.mem_of_getElem? (i := 365) (by decide +kernel))
theorem t_366 : (Jvm.Cond.code ({ cls := "RoamingNet$Mobile", name := "takeAdvert", desc := "(I)V" } : Jvm.MethodName) prog_6_method_3_code (3 : Nat) (Option.none : Option Jvm.ClassFile.FieldType)) ∈ lw_tbl := List.mem_append_right _ (List.mem_of_getElem? (i := 366) (by decide +kernel))
theorem t_367 : (Jvm.Cond.methodLink "RoamingNet$Mobile" (69 : Nat) ({ cls := "RoamingNet$Mobile", name := "endsSoon", desc := "()Z" } : Jvm.MethodName)) ∈ lw_tbl := List.mem_append_right _ (List.mem_of_getElem? (i := 367) (by decide +kernel))
theorem t_369 : (Jvm.Cond.instanceMethod ({ cls := "RoamingNet$Mobile", name := "endsSoon", desc := "()Z" } : Jvm.MethodName)) ∈ lw_tbl := List.mem_append_right _ (List.mem_of_getElem? (i := 369) (by decide +kernel))
theorem t_370 : (Jvm.Cond.code ({ cls := "RoamingNet$Mobile", name := "endsSoon", desc := "()Z" } : Jvm.MethodName) prog_6_method_4_code (1 : Nat) (Option.some Jvm.ClassFile.FieldType.boolean)) ∈ lw_tbl := List.mem_append_right _ (List.mem_of_getElem? (i := 370) (by decide +kernel))
theorem t_371 : (Jvm.Cond.methodLink "RoamingNet$Mobile" (48 : Nat) ({ cls := "RoamingNet$Mobile", name := "takeReply", desc := "(LRoamingNet$Message;)V" } : Jvm.MethodName)) ∈ lw_tbl := List.mem_append_right _ (List.mem_of_getElem? (i := 371) (by decide +kernel))
theorem t_373 : (Jvm.Cond.instanceMethod ({ cls := "RoamingNet$Mobile", name := "takeReply", desc := "(LRoamingNet$Message;)V" } : Jvm.MethodName)) ∈ lw_tbl := List.mem_append_right _ (List.mem_of_getElem? (i := 373) (by decide +kernel))
theorem t_374 : (Jvm.Cond.code ({ cls := "RoamingNet$Mobile", name := "takeReply", desc := "(LRoamingNet$Message;)V" } : Jvm.MethodName) prog_6_method_6_code (2 : Nat) (Option.none : Option Jvm.ClassFile.FieldType)) ∈ lw_tbl := List.mem_append_right _ (List.mem_of_getElem? (i := 374) (by decide +kernel))
theorem t_375 : (Jvm.Cond.methodLinkNest "RoamingNet$Mobile" (105 : Nat) ({ cls := "RoamingNet$Message", name := "replySeal", desc := "(I)I" } : Jvm.MethodName) "RoamingNet") ∈ lw_tbl := List.mem_append_right _ (List.mem_of_getElem? (i := 375) (by decide +kernel))
theorem t_377 : (Jvm.Cond.instanceMethod ({ cls := "RoamingNet$Message", name := "replySeal", desc := "(I)I" } : Jvm.MethodName)) ∈ lw_tbl := List.mem_append_right _ (List.mem_of_getElem? (i := 377) (by decide +kernel))
theorem t_378 : (Jvm.Cond.code ({ cls := "RoamingNet$Message", name := "replySeal", desc := "(I)I" } : Jvm.MethodName) prog_5_method_6_code (3 : Nat) (Option.some Jvm.ClassFile.FieldType.int)) ∈ lw_tbl := List.mem_append_right _ (List.mem_of_getElem? (i := 378) (by decide +kernel))
theorem t_379 : (Jvm.Cond.methodLink "RoamingNet$Mobile" (52 : Nat) ({ cls := "RoamingNet$Mobile", name := "takeData", desc := "(I)V" } : Jvm.MethodName)) ∈ lw_tbl := List.mem_append_right _ (List.mem_of_getElem? (i := 379) (by decide +kernel))
theorem t_381 : (Jvm.Cond.instanceMethod ({ cls := "RoamingNet$Mobile", name := "takeData", desc := "(I)V" } : Jvm.MethodName)) ∈ lw_tbl := List.mem_append_right _ (List.mem_of_getElem? (i := 381) (by decide +kernel))
theorem t_382 : (Jvm.Cond.code ({ cls := "RoamingNet$Mobile", name := "takeData", desc := "(I)V" } : Jvm.MethodName) prog_6_method_7_code (2 : Nat) (Option.none : Option Jvm.ClassFile.FieldType)) ∈ lw_tbl := List.mem_append_right _ (List.mem_of_getElem? (i := 382) (by decide +kernel))
theorem t_383 : (Jvm.Cond.methodLinkNest "RoamingNet" (189 : Nat) ({ cls := "RoamingNet$Correspondent", name := "receive", desc := "(LRoamingNet$Message;)V" } : Jvm.MethodName) "RoamingNet") ∈ lw_tbl := List.mem_append_right _ (List.mem_of_getElem? (i := 383) (by decide +kernel))
theorem t_385 : (Jvm.Cond.instanceMethod ({ cls := "RoamingNet$Correspondent", name := "receive", desc := "(LRoamingNet$Message;)V" } : Jvm.MethodName)) ∈ lw_tbl := List.mem_append_right _ (List.mem_of_getElem? (i := 385) (by decide +kernel))
theorem t_386 : (Jvm.Cond.code ({ cls := "RoamingNet$Correspondent", name := "receive", desc := "(LRoamingNet$Message;)V" } : Jvm.MethodName) prog_2_method_3_code (3 : Nat) (Option.none : Option Jvm.ClassFile.FieldType)) ∈ lw_tbl := List.mem_append_right _ (List.mem_of_getElem? (i := 386) (by decide +kernel))
theorem t_387 : (Jvm.Cond.methodLink "RoamingNet$Correspondent" (49 : Nat) ({ cls := "RoamingNet$Correspondent", name := "pump", desc := "(I)V" } : Jvm.MethodName)) ∈ lw_tbl := List.mem_append_right _ (List.mem_of_getElem? (i := 387) (by decide +kernel))
theorem t_388 : (Jvm.Cond.methodLinkNest "RoamingNet" (190 : Nat) ({ cls := "RoamingNet$HomeAgent", name := "receive", desc := "(LRoamingNet$Message;)V" } : Jvm.MethodName) "RoamingNet") ∈ lw_tbl := List.mem_append_right _ (List.mem_of_getElem? (i := 388) (by decide +kernel))
theorem t_390 : (Jvm.Cond.instanceMethod ({ cls := "RoamingNet$HomeAgent", name := "receive", desc := "(LRoamingNet$Message;)V" } : Jvm.MethodName)) ∈ lw_tbl := List.mem_append_right _ (List.mem_of_getElem? (i := 390) (by decide +kernel))
theorem t_391 : (Jvm.Cond.code ({ cls := "RoamingNet$HomeAgent", name := "receive", desc := "(LRoamingNet$Message;)V" } : Jvm.MethodName) prog_4_method_3_code (2 : Nat) (Option.none : Option Jvm.ClassFile.FieldType)) ∈ lw_tbl := List.mem_append_right _ (List.mem_of_getElem? (i := 391) (by decide +kernel))
theorem t_392 : (Jvm.Cond.methodLink "RoamingNet$HomeAgent" (42 : Nat) ({ cls := "RoamingNet$HomeAgent", name := "takeRequest", desc := "(LRoamingNet$Message;)V" } : Jvm.MethodName)) ∈ lw_tbl := List.mem_append_right _ (List.mem_of_getElem? (i := 392) (by decide +kernel))
theorem t_394 : (Jvm.Cond.instanceMethod ({ cls := "RoamingNet$HomeAgent", name := "takeRequest", desc := "(LRoamingNet$Message;)V" } : Jvm.MethodName)) ∈ lw_tbl := List.mem_append_right _ (List.mem_of_getElem? (i := 394) (by decide +kernel))
theorem t_395 : (Jvm.Cond.code ({ cls := "RoamingNet$HomeAgent", name := "takeRequest", desc := "(LRoamingNet$Message;)V" } : Jvm.MethodName) prog_4_method_4_code (6 : Nat) (Option.none : Option Jvm.ClassFile.FieldType)) ∈ lw_tbl := List.mem_append_right _ (List.mem_of_getElem? (i := 395) (by decide +kernel))
theorem t_396 : (Jvm.Cond.methodLink "RoamingNet$HomeAgent" (56 : Nat) ({ cls := "RoamingNet$HomeAgent", name := "judge", desc := "(LRoamingNet$Message;)I" } : Jvm.MethodName)) ∈ lw_tbl := List.mem_append_right _ (List.mem_of_getElem? (i := 396) (by decide +kernel))
theorem t_398 : (Jvm.Cond.instanceMethod ({ cls := "RoamingNet$HomeAgent", name := "judge", desc := "(LRoamingNet$Message;)I" } : Jvm.MethodName)) ∈ lw_tbl := List.mem_append_right _ (List.mem_of_getElem? (i := 398) (by decide +kernel))
theorem t_399 : (Jvm.Cond.code ({ cls := "RoamingNet$HomeAgent", name := "judge", desc := "(LRoamingNet$Message;)I" } : Jvm.MethodName) prog_4_method_5_code (3 : Nat) (Option.some Jvm.ClassFile.FieldType.int)) ∈ lw_tbl := List.mem_append_right _ (List.mem_of_getElem? (i := 399) (by decide +kernel))
theorem t_400 : (Jvm.Cond.methodLinkNest "RoamingNet$HomeAgent" (88 : Nat) ({ cls := "RoamingNet$Message", name := "requestSeal", desc := "(I)I" } : Jvm.MethodName) "RoamingNet") ∈ lw_tbl := List.mem_append_right _ (List.mem_of_getElem? (i := 400) (by decide +kernel))
theorem t_401 : (Jvm.Cond.methodLink "RoamingNet$HomeAgent" (63 : Nat) ({ cls := "java/lang/Math", name := "min", desc := "(II)I" } : Jvm.MethodName)) ∈ lw_tbl := List.mem_append_right _ (List.mem_of_getElem? (i := 401) (by decide +kernel))
theorem t_402 : (Jvm.Cond.static ({ cls := "java/lang/Math", name := "min", desc := "(II)I" } : Jvm.MethodName)) ∈ lw_tbl := List.mem_append_right _ (List.mem_of_getElem? (i := 402) (by decide +kernel))
theorem t_403 : (Jvm.Cond.code ({ cls := "java/lang/Math", name := "min", desc := "(II)I" } : Jvm.MethodName) prog_10_method_69_code (2 : Nat) (Option.some Jvm.ClassFile.FieldType.int)) ∈ lw_tbl := List.mem_append_right _ (List.mem_of_getElem? (i := 403) (by decide +kernel))
theorem t_404 : (Jvm.Cond.methodLinkNest "RoamingNet$HomeAgent" (71 : Nat) ({ cls := "RoamingNet$Wire", name := "sendInNetwork", desc := "(IIII)LRoamingNet$Message;" } : Jvm.MethodName) "RoamingNet") ∈ lw_tbl := List.mem_append_right _ (List.mem_of_getElem? (i := 404) (by decide +kernel))
theorem t_405 : (Jvm.Cond.methodLinkNest "RoamingNet$HomeAgent" (75 : Nat) ({ cls := "RoamingNet$Wire", name := "sendTo", desc := "(IIII)LRoamingNet$Message;" } : Jvm.MethodName) "RoamingNet") ∈ lw_tbl := List.mem_append_right _ (List.mem_of_getElem? (i := 405) (by decide +kernel))
theorem t_406 : (Jvm.Cond.methodLinkNest "RoamingNet$HomeAgent" (81 : Nat) ({ cls := "RoamingNet$Message", name := "replySeal", desc := "(I)I" } : Jvm.MethodName) "RoamingNet") ∈ lw_tbl := List.mem_append_right _ (List.mem_of_getElem? (i := 406) (by decide +kernel))
theorem t_407 : (Jvm.Cond.methodLink "RoamingNet$HomeAgent" (52 : Nat) ({ cls := "RoamingNet$HomeAgent", name := "takeData", desc := "(II)V" } : Jvm.MethodName)) ∈ lw_tbl := List.mem_append_right _ (List.mem_of_getElem? (i := 407) (by decide +kernel))
theorem t_409 : (Jvm.Cond.instanceMethod ({ cls := "RoamingNet$HomeAgent", name := "takeData", desc := "(II)V" } : Jvm.MethodName)) ∈ lw_tbl := List.mem_append_right _ (List.mem_of_getElem? (i := 409) (by decide +kernel))
theorem t_410 : (Jvm.Cond.code ({ cls := "RoamingNet$HomeAgent", name := "takeData", desc := "(II)V" } : Jvm.MethodName) prog_4_method_6_code (3 : Nat) (Option.none : Option Jvm.ClassFile.FieldType)) ∈ lw_tbl := List.mem_append_right _ (List.mem_of_getElem? (i := 410) (by decide +kernel))
theorem t_411 : (Jvm.Cond.methodLink "RoamingNet$HomeAgent" (91 : Nat) ({ cls := "RoamingNet$HomeAgent", name := "isBound", desc := "(I)Z" } : Jvm.MethodName)) ∈ lw_tbl := List.mem_append_right _ (List.mem_of_getElem? (i := 411) (by decide +kernel))
theorem t_413 : (Jvm.Cond.instanceMethod ({ cls := "RoamingNet$HomeAgent", name := "isBound", desc := "(I)Z" } : Jvm.MethodName)) ∈ lw_tbl := List.mem_append_right _ (List.mem_of_getElem? (i := 413) (by decide +kernel))
theorem t_414 : (Jvm.Cond.code ({ cls := "RoamingNet$HomeAgent", name := "isBound", desc := "(I)Z" } : Jvm.MethodName) prog_4_method_2_code (2 : Nat) (Option.some Jvm.ClassFile.FieldType.boolean)) ∈ lw_tbl := List.mem_append_right _ (List.mem_of_getElem? (i := 414) (by decide +kernel))
theorem t_415 : (Jvm.Cond.methodLinkNest "RoamingNet" (191 : Nat) ({ cls := "RoamingNet$ForeignAgent", name := "receive", desc := "(LRoamingNet$Message;)V" } : Jvm.MethodName) "RoamingNet") ∈ lw_tbl := List.mem_append_right _ (List.mem_of_getElem? (i := 415) (by decide +kernel))
theorem t_417 : (Jvm.Cond.instanceMethod ({ cls := "RoamingNet$ForeignAgent", name := "receive", desc := "(LRoamingNet$Message;)V" } : Jvm.MethodName)) ∈ lw_tbl := List.mem_append_right _ (List.mem_of_getElem? (i := 417) (by decide +kernel))
theorem t_418 : (Jvm.Cond.code ({ cls := "RoamingNet$ForeignAgent", name := "receive", desc := "(LRoamingNet$Message;)V" } : Jvm.MethodName) prog_3_method_6_code (2 : Nat) (Option.none : Option Jvm.ClassFile.FieldType)) ∈ lw_tbl := List.mem_append_right _ (List.mem_of_getElem? (i := 418) (by decide +kernel))
theorem t_419 : (Jvm.Cond.methodLink "RoamingNet$ForeignAgent" (52 : Nat) ({ cls := "RoamingNet$ForeignAgent", name := "takeRequest", desc := "(LRoamingNet$Message;)V" } : Jvm.MethodName)) ∈ lw_tbl := List.mem_append_right _ (List.mem_of_getElem? (i := 419) (by decide +kernel))
theorem t_421 : (Jvm.Cond.instanceMethod ({ cls := "RoamingNet$ForeignAgent", name := "takeRequest", desc := "(LRoamingNet$Message;)V" } : Jvm.MethodName)) ∈ lw_tbl := List.mem_append_right _ (List.mem_of_getElem? (i := 421) (by decide +kernel))
theorem t_422 : (Jvm.Cond.code ({ cls := "RoamingNet$ForeignAgent", name := "takeRequest", desc := "(LRoamingNet$Message;)V" } : Jvm.MethodName) prog_3_method_7_code (4 : Nat) (Option.none : Option Jvm.ClassFile.FieldType)) ∈ lw_tbl := List.mem_append_right _ (List.mem_of_getElem? (i := 422) (by decide +kernel))
theorem t_423 : (Jvm.Cond.methodLink "RoamingNet$ForeignAgent" (44 : Nat) ({ cls := "RoamingNet$ForeignAgent", name := "takesPlace", desc := "(I)Z" } : Jvm.MethodName)) ∈ lw_tbl := List.mem_append_right _ (List.mem_of_getElem? (i := 423) (by decide +kernel))
theorem t_425 : (Jvm.Cond.instanceMethod ({ cls := "RoamingNet$ForeignAgent", name := "takesPlace", desc := "(I)Z" } : Jvm.MethodName)) ∈ lw_tbl := List.mem_append_right _ (List.mem_of_getElem? (i := 425) (by decide +kernel))
theorem t_426 : (Jvm.Cond.code ({ cls := "RoamingNet$ForeignAgent", name := "takesPlace", desc := "(I)Z" } : Jvm.MethodName) prog_3_method_4_code (2 : Nat) (Option.some Jvm.ClassFile.FieldType.boolean)) ∈ lw_tbl := List.mem_append_right _ (List.mem_of_getElem? (i := 426) (by decide +kernel))
theorem t_427 : (Jvm.Cond.methodLink "RoamingNet$ForeignAgent" (37 : Nat) ({ cls := "RoamingNet$ForeignAgent", name := "isVisited", desc := "(I)Z" } : Jvm.MethodName)) ∈ lw_tbl := List.mem_append_right _ (List.mem_of_getElem? (i := 427) (by decide +kernel))
theorem t_429 : (Jvm.Cond.instanceMethod ({ cls := "RoamingNet$ForeignAgent", name := "isVisited", desc := "(I)Z" } : Jvm.MethodName)) ∈ lw_tbl := List.mem_append_right _ (List.mem_of_getElem? (i := 429) (by decide +kernel))
theorem t_430 : (Jvm.Cond.code ({ cls := "RoamingNet$ForeignAgent", name := "isVisited", desc := "(I)Z" } : Jvm.MethodName) prog_3_method_2_code (2 : Nat) (Option.some Jvm.ClassFile.FieldType.boolean)) ∈ lw_tbl := List.mem_append_right _ (List.mem_of_getElem? (i := 430) (by decide +kernel))
theorem t_431 : (Jvm.Cond.methodLink "RoamingNet$ForeignAgent" (41 : Nat) ({ cls := "RoamingNet$ForeignAgent", name := "hasEntry", desc := "(I)Z" } : Jvm.MethodName)) ∈ lw_tbl := List.mem_append_right _ (List.mem_of_getElem? (i := 431) (by decide +kernel))
theorem t_433 : (Jvm.Cond.instanceMethod ({ cls := "RoamingNet$ForeignAgent", name := "hasEntry", desc := "(I)Z" } : Jvm.MethodName)) ∈ lw_tbl := List.mem_append_right _ (List.mem_of_getElem? (i := 433) (by decide +kernel))
theorem t_434 : (Jvm.Cond.code ({ cls := "RoamingNet$ForeignAgent", name := "hasEntry", desc := "(I)Z" } : Jvm.MethodName) prog_3_method_3_code (2 : Nat) (Option.some Jvm.ClassFile.FieldType.boolean)) ∈ lw_tbl := List.mem_append_right _ (List.mem_of_getElem? (i := 434) (by decide +kernel))
theorem t_435 : (Jvm.Cond.methodLink "RoamingNet$ForeignAgent" (72 : Nat) ({ cls := "RoamingNet$ForeignAgent", name := "isCrowded", desc := "()Z" } : Jvm.MethodName)) ∈ lw_tbl := List.mem_append_right _ (List.mem_of_getElem? (i := 435) (by decide +kernel))
theorem t_437 : (Jvm.Cond.instanceMethod ({ cls := "RoamingNet$ForeignAgent", name := "isCrowded", desc := "()Z" } : Jvm.MethodName)) ∈ lw_tbl := List.mem_append_right _ (List.mem_of_getElem? (i := 437) (by decide +kernel))
theorem t_438 : (Jvm.Cond.code ({ cls := "RoamingNet$ForeignAgent", name := "isCrowded", desc := "()Z" } : Jvm.MethodName) prog_3_method_5_code (3 : Nat) (Option.some Jvm.ClassFile.FieldType.boolean)) ∈ lw_tbl := List.mem_append_right _ (List.mem_of_getElem? (i := 438) (by decide +kernel))
theorem t_439 : (Jvm.Cond.methodLinkNest "RoamingNet$ForeignAgent" (76 : Nat) ({ cls := "RoamingNet$Wire", name := "sendInNetwork", desc := "(IIII)LRoamingNet$Message;" } : Jvm.MethodName) "RoamingNet") ∈ lw_tbl := List.mem_append_right _ (List.mem_of_getElem? (i := 439) (by decide +kernel))
theorem t_440 : (Jvm.Cond.methodLinkNest "RoamingNet$ForeignAgent" (83 : Nat) ({ cls := "RoamingNet$Wire", name := "sendOn", desc := "(LRoamingNet$Message;II)V" } : Jvm.MethodName) "RoamingNet") ∈ lw_tbl := List.mem_append_right _ (List.mem_of_getElem? (i := 440) (by decide +kernel))
theorem t_442 : (Jvm.Cond.instanceMethod ({ cls := "RoamingNet$Wire", name := "sendOn", desc := "(LRoamingNet$Message;II)V" } : Jvm.MethodName)) ∈ lw_tbl := List.mem_append_right _ (List.mem_of_getElem? (i := 442) (by decide +kernel))
theorem t_443 : (Jvm.Cond.code ({ cls := "RoamingNet$Wire", name := "sendOn", desc := "(LRoamingNet$Message;II)V" } : Jvm.MethodName) prog_7_method_8_code (5 : Nat) (Option.none : Option Jvm.ClassFile.FieldType)) ∈ lw_tbl := List.mem_append_right _ (List.mem_of_getElem? (i := 443) (by decide +kernel))
theorem t_444 : (Jvm.Cond.methodLinkNest "RoamingNet$Wire" (41 : Nat) ({ cls := "RoamingNet$Message", name := "copyFrom", desc := "(LRoamingNet$Message;)V" } : Jvm.MethodName) "RoamingNet") ∈ lw_tbl := List.mem_append_right _ (List.mem_of_getElem? (i := 444) (by decide +kernel))
theorem t_445 : (Jvm.Cond.methodLink "RoamingNet$ForeignAgent" (56 : Nat) ({ cls := "RoamingNet$ForeignAgent", name := "takeReply", desc := "(LRoamingNet$Message;)V" } : Jvm.MethodName)) ∈ lw_tbl := List.mem_append_right _ (List.mem_of_getElem? (i := 445) (by decide +kernel))
theorem t_447 : (Jvm.Cond.instanceMethod ({ cls := "RoamingNet$ForeignAgent", name := "takeReply", desc := "(LRoamingNet$Message;)V" } : Jvm.MethodName)) ∈ lw_tbl := List.mem_append_right _ (List.mem_of_getElem? (i := 447) (by decide +kernel))
theorem t_448 : (Jvm.Cond.code ({ cls := "RoamingNet$ForeignAgent", name := "takeReply", desc := "(LRoamingNet$Message;)V" } : Jvm.MethodName) prog_3_method_8_code (3 : Nat) (Option.none : Option Jvm.ClassFile.FieldType)) ∈ lw_tbl := List.mem_append_right _ (List.mem_of_getElem? (i := 448) (by decide +kernel))
theorem t_449 : (Jvm.Cond.methodLink "RoamingNet$ForeignAgent" (65 : Nat) ({ cls := "RoamingNet$ForeignAgent", name := "takeTunnel", desc := "(II)V" } : Jvm.MethodName)) ∈ lw_tbl := List.mem_append_right _ (List.mem_of_getElem? (i := 449) (by decide +kernel))
theorem t_451 : (Jvm.Cond.instanceMethod ({ cls := "RoamingNet$ForeignAgent", name := "takeTunnel", desc := "(II)V" } : Jvm.MethodName)) ∈ lw_tbl := List.mem_append_right _ (List.mem_of_getElem? (i := 451) (by decide +kernel))
theorem t_452 : (Jvm.Cond.code ({ cls := "RoamingNet$ForeignAgent", name := "takeTunnel", desc := "(II)V" } : Jvm.MethodName) prog_3_method_9_code (3 : Nat) (Option.none : Option Jvm.ClassFile.FieldType)) ∈ lw_tbl := List.mem_append_right _ (List.mem_of_getElem? (i := 452) (by decide +kernel))
theorem t_461 : (Jvm.Cond.methodLinkNest "RoamingNet" (105 : Nat) ({ cls := "RoamingNet$Wire", name := "isFull", desc := "()Z" } : Jvm.MethodName) "RoamingNet") ∈ lw_tbl := List.mem_append_right _ (List.mem_of_getElem? (i := 461) (by decide +kernel))
theorem t_462 : (Jvm.Cond.methodLinkNest "RoamingNet" (109 : Nat) ({ cls := "RoamingNet$Wire", name := "nextRow", desc := "()LRoamingNet$Message;" } : Jvm.MethodName) "RoamingNet") ∈ lw_tbl := List.mem_append_right _ (List.mem_of_getElem? (i := 462) (by decide +kernel))
theorem t_467 : (Jvm.Cond.methodLink "RoamingNet" (113 : Nat) ({ cls := "RoamingNet", name := "isAgent", desc := "(I)Z" } : Jvm.MethodName)) ∈ lw_tbl := List.mem_append_right _ (List.mem_of_getElem? (i := 467) (by decide +kernel))
theorem t_468 : (Jvm.Cond.static ({ cls := "RoamingNet", name := "isAgent", desc := "(I)Z" } : Jvm.MethodName)) ∈ lw_tbl := List.mem_append_right _ (List.mem_of_getElem? (i := 468) (by decide +kernel))
theorem t_469 : (Jvm.Cond.code ({ cls := "RoamingNet", name := "isAgent", desc := "(I)Z" } : Jvm.MethodName) prog_1_method_23_code (1 : Nat) (Option.some Jvm.ClassFile.FieldType.boolean)) ∈ lw_tbl := List.mem_append_right _ (List.mem_of_getElem? (i := 469) (by decide +kernel))
theorem t_470 : (Jvm.Cond.methodLinkNest "RoamingNet" (116 : Nat) ({ cls := "RoamingNet$Wire", name := "sendTo", desc := "(IIII)LRoamingNet$Message;" } : Jvm.MethodName) "RoamingNet") ∈ lw_tbl := List.mem_append_right _ (List.mem_of_getElem? (i := 470) (by decide +kernel))
theorem t_479 : (Jvm.Cond.methodLinkNest "RoamingNet" (132 : Nat) ({ cls := "RoamingNet$Message", name := "summary", desc := "()I" } : Jvm.MethodName) "RoamingNet") ∈ lw_tbl := List.mem_append_right _ (List.mem_of_getElem? (i := 479) (by decide +kernel))
theorem t_481 : (Jvm.Cond.instanceMethod ({ cls := "RoamingNet$Message", name := "summary", desc := "()I" } : Jvm.MethodName)) ∈ lw_tbl := List.mem_append_right _ (List.mem_of_getElem? (i := 481) (by decide +kernel))
theorem t_482 : (Jvm.Cond.code ({ cls := "RoamingNet$Message", name := "summary", desc := "()I" } : Jvm.MethodName) prog_5_method_4_code (1 : Nat) (Option.some Jvm.ClassFile.FieldType.int)) ∈ lw_tbl := List.mem_append_right _ (List.mem_of_getElem? (i := 482) (by decide +kernel))
theorem t_483 : (Jvm.Cond.constant "RoamingNet$Message" (39 : Nat) (1000000 : Int32)) ∈ lw_tbl := List.mem_append_right _ (List.mem_of_getElem? (i := 483) (by decide +kernel))
theorem t_484 : (Jvm.Cond.constant "RoamingNet$Message" (40 : Nat) (100000 : Int32)) ∈ lw_tbl := List.mem_append_right _ (List.mem_of_getElem? (i := 484) (by decide +kernel))
theorem t_501 : (Jvm.Cond.methodLinkNest "RoamingNet" (142 : Nat) ({ cls := "RoamingNet$HomeAgent", name := "isBound", desc := "(I)Z" } : Jvm.MethodName) "RoamingNet") ∈ lw_tbl := List.mem_append_right _ (List.mem_of_getElem? (i := 501) (by decide +kernel))
theorem t_506 : (Jvm.Cond.methodLinkNest "RoamingNet" (153 : Nat) ({ cls := "RoamingNet$ForeignAgent", name := "isVisited", desc := "(I)Z" } : Jvm.MethodName) "RoamingNet") ∈ lw_tbl := List.mem_append_right _ (List.mem_of_getElem? (i := 506) (by decide +kernel))
theorem t_550 : (Jvm.Cond.laysFinal "RoamingNetModel" "RoamingNetModel" "life" "I") ∈ lw_tbl := List.mem_append_right _ (List.mem_of_getElem? (i := 550) (by decide +kernel))
theorem t_552 : (Jvm.Cond.laysFinal "RoamingNetModel" "RoamingNetModel" "limit" "I") ∈ lw_tbl := List.mem_append_right _ (List.mem_of_getElem? (i := 552) (by decide +kernel))
theorem t_554 : (Jvm.Cond.laysFinal "RoamingNetModel" "RoamingNetModel" "places" "I") ∈ lw_tbl := List.mem_append_right _ (List.mem_of_getElem? (i := 554) (by decide +kernel))
theorem t_556 : (Jvm.Cond.lays "RoamingNetModel" "RoamingNetModel" "clock" "I") ∈ lw_tbl := List.mem_append_right _ (List.mem_of_getElem? (i := 556) (by decide +kernel))
theorem t_558 : (Jvm.Cond.lays "RoamingNetModel" "RoamingNetModel" "many" "I") ∈ lw_tbl := List.mem_append_right _ (List.mem_of_getElem? (i := 558) (by decide +kernel))
theorem t_560 : (Jvm.Cond.laysFinal "RoamingNetModel" "RoamingNetModel" "rows" "[I") ∈ lw_tbl := List.mem_append_right _ (List.mem_of_getElem? (i := 560) (by decide +kernel))
theorem t_562 : (Jvm.Cond.laysFinal "RoamingNetModel" "RoamingNetModel" "row" "[I") ∈ lw_tbl := List.mem_append_right _ (List.mem_of_getElem? (i := 562) (by decide +kernel))
theorem t_564 : (Jvm.Cond.laysFinal "RoamingNetModel" "RoamingNetModel" "place" "[I") ∈ lw_tbl := List.mem_append_right _ (List.mem_of_getElem? (i := 564) (by decide +kernel))
theorem t_566 : (Jvm.Cond.laysFinal "RoamingNetModel" "RoamingNetModel" "secret" "[I") ∈ lw_tbl := List.mem_append_right _ (List.mem_of_getElem? (i := 566) (by decide +kernel))
theorem t_568 : (Jvm.Cond.laysFinal "RoamingNetModel" "RoamingNetModel" "lastId" "[I") ∈ lw_tbl := List.mem_append_right _ (List.mem_of_getElem? (i := 568) (by decide +kernel))
theorem t_570 : (Jvm.Cond.laysFinal "RoamingNetModel" "RoamingNetModel" "with" "[I") ∈ lw_tbl := List.mem_append_right _ (List.mem_of_getElem? (i := 570) (by decide +kernel))
theorem t_572 : (Jvm.Cond.laysFinal "RoamingNetModel" "RoamingNetModel" "until" "[I") ∈ lw_tbl := List.mem_append_right _ (List.mem_of_getElem? (i := 572) (by decide +kernel))
theorem t_574 : (Jvm.Cond.laysFinal "RoamingNetModel" "RoamingNetModel" "heard" "[I") ∈ lw_tbl := List.mem_append_right _ (List.mem_of_getElem? (i := 574) (by decide +kernel))
theorem t_576 : (Jvm.Cond.laysFinal "RoamingNetModel" "RoamingNetModel" "heardUntil" "[I") ∈ lw_tbl := List.mem_append_right _ (List.mem_of_getElem? (i := 576) (by decide +kernel))
theorem t_578 : (Jvm.Cond.laysFinal "RoamingNetModel" "RoamingNetModel" "openId" "[I") ∈ lw_tbl := List.mem_append_right _ (List.mem_of_getElem? (i := 578) (by decide +kernel))
theorem t_580 : (Jvm.Cond.laysFinal "RoamingNetModel" "RoamingNetModel" "openWith" "[I") ∈ lw_tbl := List.mem_append_right _ (List.mem_of_getElem? (i := 580) (by decide +kernel))
theorem t_582 : (Jvm.Cond.laysFinal "RoamingNetModel" "RoamingNetModel" "openSince" "[I") ∈ lw_tbl := List.mem_append_right _ (List.mem_of_getElem? (i := 582) (by decide +kernel))
theorem t_584 : (Jvm.Cond.laysFinal "RoamingNetModel" "RoamingNetModel" "received" "[I") ∈ lw_tbl := List.mem_append_right _ (List.mem_of_getElem? (i := 584) (by decide +kernel))
theorem t_586 : (Jvm.Cond.laysFinal "RoamingNetModel" "RoamingNetModel" "homeSecret" "[I") ∈ lw_tbl := List.mem_append_right _ (List.mem_of_getElem? (i := 586) (by decide +kernel))
theorem t_588 : (Jvm.Cond.laysFinal "RoamingNetModel" "RoamingNetModel" "accepted" "[I") ∈ lw_tbl := List.mem_append_right _ (List.mem_of_getElem? (i := 588) (by decide +kernel))
theorem t_590 : (Jvm.Cond.laysFinal "RoamingNetModel" "RoamingNetModel" "careOf" "[I") ∈ lw_tbl := List.mem_append_right _ (List.mem_of_getElem? (i := 590) (by decide +kernel))
theorem t_592 : (Jvm.Cond.laysFinal "RoamingNetModel" "RoamingNetModel" "boundUntil" "[I") ∈ lw_tbl := List.mem_append_right _ (List.mem_of_getElem? (i := 592) (by decide +kernel))
theorem t_594 : (Jvm.Cond.laysFinal "RoamingNetModel" "RoamingNetModel" "visitUntil" "[I") ∈ lw_tbl := List.mem_append_right _ (List.mem_of_getElem? (i := 594) (by decide +kernel))
theorem t_596 : (Jvm.Cond.laysFinal "RoamingNetModel" "RoamingNetModel" "entryId" "[I") ∈ lw_tbl := List.mem_append_right _ (List.mem_of_getElem? (i := 596) (by decide +kernel))
theorem t_598 : (Jvm.Cond.laysFinal "RoamingNetModel" "RoamingNetModel" "entryUntil" "[I") ∈ lw_tbl := List.mem_append_right _ (List.mem_of_getElem? (i := 598) (by decide +kernel))
theorem t_600 : (Jvm.Cond.laysFinal "RoamingNetModel" "RoamingNetModel" "said" "[I") ∈ lw_tbl := List.mem_append_right _ (List.mem_of_getElem? (i := 600) (by decide +kernel))
theorem t_602 : (Jvm.Cond.laysFinal "RoamingNetModel" "RoamingNetModel" "sent" "[I") ∈ lw_tbl := List.mem_append_right _ (List.mem_of_getElem? (i := 602) (by decide +kernel))
theorem t_604 : (Jvm.Cond.laysFinal "RoamingNetModel" "RoamingNetModel" "acked" "[I") ∈ lw_tbl := List.mem_append_right _ (List.mem_of_getElem? (i := 604) (by decide +kernel))
theorem t_606 : (Jvm.Cond.laysFinal "RoamingNetModel" "RoamingNetModel" "last" "[I") ∈ lw_tbl := List.mem_append_right _ (List.mem_of_getElem? (i := 606) (by decide +kernel))
theorem w_Wire_sendTo : Cond.code y_Wire_sendTo b_Wire_sendTo 6 (some (.object "RoamingNet$Message")) ∈ rx_W := rx_in t_296 rfl
theorem z_Wire_sendTo : Cond.instanceMethod y_Wire_sendTo ∈ rx_W := rx_in t_295 rfl
theorem s_Wire_sendTo : Cond.selects y_Wire_sendTo.cls y_Wire_sendTo y_Wire_sendTo ∈ rx_W := rx_in (List.mem_append_left _ (List.mem_map.mpr ⟨(y_Wire_sendTo, 3), by decide +kernel, rfl⟩)) rfl
theorem w_Corr_pump : Cond.code y_Corr_pump b_Corr_pump 2 none ∈ rx_W := rx_in t_338 rfl
theorem z_Corr_pump : Cond.instanceMethod y_Corr_pump ∈ rx_W := rx_in t_337 rfl
theorem s_Corr_pump : Cond.selects y_Corr_pump.cls y_Corr_pump y_Corr_pump ∈ rx_W := rx_in (List.mem_append_left _ (List.mem_map.mpr ⟨(y_Corr_pump, 5), by decide +kernel, rfl⟩)) rfl
theorem w_Fa_isVisited : Cond.code y_Fa_isVisited b_Fa_isVisited 2 (some .boolean) ∈ rx_W := rx_in t_430 rfl
theorem z_Fa_isVisited : Cond.instanceMethod y_Fa_isVisited ∈ rx_W := rx_in t_429 rfl
theorem s_Fa_isVisited : Cond.selects y_Fa_isVisited.cls y_Fa_isVisited y_Fa_isVisited ∈ rx_W := rx_in (List.mem_append_left _ (List.mem_map.mpr ⟨(y_Fa_isVisited, 6), by decide +kernel, rfl⟩)) rfl
theorem w_Fa_hasEntry : Cond.code y_Fa_hasEntry b_Fa_hasEntry 2 (some .boolean) ∈ rx_W := rx_in t_434 rfl
theorem z_Fa_hasEntry : Cond.instanceMethod y_Fa_hasEntry ∈ rx_W := rx_in t_433 rfl
theorem s_Fa_hasEntry : Cond.selects y_Fa_hasEntry.cls y_Fa_hasEntry y_Fa_hasEntry ∈ rx_W := rx_in (List.mem_append_left _ (List.mem_map.mpr ⟨(y_Fa_hasEntry, 6), by decide +kernel, rfl⟩)) rfl
theorem w_Fa_takesPlace : Cond.code y_Fa_takesPlace b_Fa_takesPlace 2 (some .boolean) ∈ rx_W := rx_in t_426 rfl
theorem z_Fa_takesPlace : Cond.instanceMethod y_Fa_takesPlace ∈ rx_W := rx_in t_425 rfl
theorem s_Fa_takesPlace : Cond.selects y_Fa_takesPlace.cls y_Fa_takesPlace y_Fa_takesPlace ∈ rx_W := rx_in (List.mem_append_left _ (List.mem_map.mpr ⟨(y_Fa_takesPlace, 6), by decide +kernel, rfl⟩)) rfl
theorem w_Fa_takeRequest : Cond.code y_Fa_takeRequest b_Fa_takeRequest 4 none ∈ rx_W := rx_in t_422 rfl
theorem z_Fa_takeRequest : Cond.instanceMethod y_Fa_takeRequest ∈ rx_W := rx_in t_421 rfl
theorem s_Fa_takeRequest : Cond.selects y_Fa_takeRequest.cls y_Fa_takeRequest y_Fa_takeRequest ∈ rx_W := rx_in (List.mem_append_left _ (List.mem_map.mpr ⟨(y_Fa_takeRequest, 6), by decide +kernel, rfl⟩)) rfl
theorem w_Fa_takeReply : Cond.code y_Fa_takeReply b_Fa_takeReply 3 none ∈ rx_W := rx_in t_448 rfl
theorem z_Fa_takeReply : Cond.instanceMethod y_Fa_takeReply ∈ rx_W := rx_in t_447 rfl
theorem s_Fa_takeReply : Cond.selects y_Fa_takeReply.cls y_Fa_takeReply y_Fa_takeReply ∈ rx_W := rx_in (List.mem_append_left _ (List.mem_map.mpr ⟨(y_Fa_takeReply, 6), by decide +kernel, rfl⟩)) rfl
theorem w_Fa_takeTunnel : Cond.code y_Fa_takeTunnel b_Fa_takeTunnel 3 none ∈ rx_W := rx_in t_452 rfl
theorem z_Fa_takeTunnel : Cond.instanceMethod y_Fa_takeTunnel ∈ rx_W := rx_in t_451 rfl
theorem s_Fa_takeTunnel : Cond.selects y_Fa_takeTunnel.cls y_Fa_takeTunnel y_Fa_takeTunnel ∈ rx_W := rx_in (List.mem_append_left _ (List.mem_map.mpr ⟨(y_Fa_takeTunnel, 6), by decide +kernel, rfl⟩)) rfl
theorem w_Fa_isCrowded : Cond.code y_Fa_isCrowded b_Fa_isCrowded 3 (some .boolean) ∈ rx_W := rx_in t_438 rfl
theorem z_Fa_isCrowded : Cond.instanceMethod y_Fa_isCrowded ∈ rx_W := rx_in t_437 rfl
theorem s_Fa_isCrowded : Cond.selects y_Fa_isCrowded.cls y_Fa_isCrowded y_Fa_isCrowded ∈ rx_W := rx_in (List.mem_append_left _ (List.mem_map.mpr ⟨(y_Fa_isCrowded, 6), by decide +kernel, rfl⟩)) rfl
theorem w_Wire_sendInNetwork : Cond.code y_Wire_sendInNetwork b_Wire_sendInNetwork 6 (some (.object "RoamingNet$Message")) ∈ rx_W := rx_in t_292 rfl
theorem z_Wire_sendInNetwork : Cond.instanceMethod y_Wire_sendInNetwork ∈ rx_W := rx_in t_291 rfl
theorem s_Wire_sendInNetwork : Cond.selects y_Wire_sendInNetwork.cls y_Wire_sendInNetwork y_Wire_sendInNetwork ∈ rx_W := rx_in (List.mem_append_left _ (List.mem_map.mpr ⟨(y_Wire_sendInNetwork, 3), by decide +kernel, rfl⟩)) rfl
theorem w_Wire_sendOn : Cond.code y_Wire_sendOn b_Wire_sendOn 5 none ∈ rx_W := rx_in t_443 rfl
theorem z_Wire_sendOn : Cond.instanceMethod y_Wire_sendOn ∈ rx_W := rx_in t_442 rfl
theorem s_Wire_sendOn : Cond.selects y_Wire_sendOn.cls y_Wire_sendOn y_Wire_sendOn ∈ rx_W := rx_in (List.mem_append_left _ (List.mem_map.mpr ⟨(y_Wire_sendOn, 3), by decide +kernel, rfl⟩)) rfl
theorem w_Home_takeRequest : Cond.code y_Home_takeRequest b_Home_takeRequest 6 none ∈ rx_W := rx_in t_395 rfl
theorem z_Home_takeRequest : Cond.instanceMethod y_Home_takeRequest ∈ rx_W := rx_in t_394 rfl
theorem s_Home_takeRequest : Cond.selects y_Home_takeRequest.cls y_Home_takeRequest y_Home_takeRequest ∈ rx_W := rx_in (List.mem_append_left _ (List.mem_map.mpr ⟨(y_Home_takeRequest, 6), by decide +kernel, rfl⟩)) rfl
theorem w_Home_takeData : Cond.code y_Home_takeData b_Home_takeData 3 none ∈ rx_W := rx_in t_410 rfl
theorem z_Home_takeData : Cond.instanceMethod y_Home_takeData ∈ rx_W := rx_in t_409 rfl
theorem s_Home_takeData : Cond.selects y_Home_takeData.cls y_Home_takeData y_Home_takeData ∈ rx_W := rx_in (List.mem_append_left _ (List.mem_map.mpr ⟨(y_Home_takeData, 6), by decide +kernel, rfl⟩)) rfl
theorem w_Home_judge : Cond.code y_Home_judge b_Home_judge 3 (some .int) ∈ rx_W := rx_in t_399 rfl
theorem z_Home_judge : Cond.instanceMethod y_Home_judge ∈ rx_W := rx_in t_398 rfl
theorem s_Home_judge : Cond.selects y_Home_judge.cls y_Home_judge y_Home_judge ∈ rx_W := rx_in (List.mem_append_left _ (List.mem_map.mpr ⟨(y_Home_judge, 6), by decide +kernel, rfl⟩)) rfl
theorem w_Msg_replySeal : Cond.code y_Msg_replySeal b_Msg_replySeal 3 (some .int) ∈ rx_W := rx_in t_378 rfl
theorem z_Msg_replySeal : Cond.instanceMethod y_Msg_replySeal ∈ rx_W := rx_in t_377 rfl
theorem s_Msg_replySeal : Cond.selects y_Msg_replySeal.cls y_Msg_replySeal y_Msg_replySeal ∈ rx_W := rx_in (List.mem_append_left _ (List.mem_map.mpr ⟨(y_Msg_replySeal, 9), by decide +kernel, rfl⟩)) rfl
theorem w_Msg_requestSeal : Cond.code y_Msg_requestSeal b_Msg_requestSeal 3 (some .int) ∈ rx_W := rx_in t_321 rfl
theorem z_Msg_requestSeal : Cond.instanceMethod y_Msg_requestSeal ∈ rx_W := rx_in t_320 rfl
theorem s_Msg_requestSeal : Cond.selects y_Msg_requestSeal.cls y_Msg_requestSeal y_Msg_requestSeal ∈ rx_W := rx_in (List.mem_append_left _ (List.mem_map.mpr ⟨(y_Msg_requestSeal, 9), by decide +kernel, rfl⟩)) rfl
theorem w_Home_isBound : Cond.code y_Home_isBound b_Home_isBound 2 (some .boolean) ∈ rx_W := rx_in t_414 rfl
theorem z_Home_isBound : Cond.instanceMethod y_Home_isBound ∈ rx_W := rx_in t_413 rfl
theorem s_Home_isBound : Cond.selects y_Home_isBound.cls y_Home_isBound y_Home_isBound ∈ rx_W := rx_in (List.mem_append_left _ (List.mem_map.mpr ⟨(y_Home_isBound, 6), by decide +kernel, rfl⟩)) rfl
theorem w_Mob_takeAdvert : Cond.code y_Mob_takeAdvert b_Mob_takeAdvert 3 none ∈ rx_W := rx_in t_366 rfl
theorem z_Mob_takeAdvert : Cond.instanceMethod y_Mob_takeAdvert ∈ rx_W := rx_in t_365 rfl
theorem s_Mob_takeAdvert : Cond.selects y_Mob_takeAdvert.cls y_Mob_takeAdvert y_Mob_takeAdvert ∈ rx_W := rx_in (List.mem_append_left _ (List.mem_map.mpr ⟨(y_Mob_takeAdvert, 14), by decide +kernel, rfl⟩)) rfl
theorem w_Mob_takeReply : Cond.code y_Mob_takeReply b_Mob_takeReply 2 none ∈ rx_W := rx_in t_374 rfl
theorem z_Mob_takeReply : Cond.instanceMethod y_Mob_takeReply ∈ rx_W := rx_in t_373 rfl
theorem s_Mob_takeReply : Cond.selects y_Mob_takeReply.cls y_Mob_takeReply y_Mob_takeReply ∈ rx_W := rx_in (List.mem_append_left _ (List.mem_map.mpr ⟨(y_Mob_takeReply, 14), by decide +kernel, rfl⟩)) rfl
theorem w_Mob_takeData : Cond.code y_Mob_takeData b_Mob_takeData 2 none ∈ rx_W := rx_in t_382 rfl
theorem z_Mob_takeData : Cond.instanceMethod y_Mob_takeData ∈ rx_W := rx_in t_381 rfl
theorem s_Mob_takeData : Cond.selects y_Mob_takeData.cls y_Mob_takeData y_Mob_takeData ∈ rx_W := rx_in (List.mem_append_left _ (List.mem_map.mpr ⟨(y_Mob_takeData, 14), by decide +kernel, rfl⟩)) rfl
theorem w_Mob_endsSoon : Cond.code y_Mob_endsSoon b_Mob_endsSoon 1 (some .boolean) ∈ rx_W := rx_in t_370 rfl
theorem z_Mob_endsSoon : Cond.instanceMethod y_Mob_endsSoon ∈ rx_W := rx_in t_369 rfl
theorem s_Mob_endsSoon : Cond.selects y_Mob_endsSoon.cls y_Mob_endsSoon y_Mob_endsSoon ∈ rx_W := rx_in (List.mem_append_left _ (List.mem_map.mpr ⟨(y_Mob_endsSoon, 14), by decide +kernel, rfl⟩)) rfl
theorem w_Mob_registerWith : Cond.code y_Mob_registerWith b_Mob_registerWith 3 none ∈ rx_W := rx_in t_316 rfl
theorem z_Mob_registerWith : Cond.instanceMethod y_Mob_registerWith ∈ rx_W := rx_in t_315 rfl
theorem s_Mob_registerWith : Cond.selects y_Mob_registerWith.cls y_Mob_registerWith y_Mob_registerWith ∈ rx_W := rx_in (List.mem_append_left _ (List.mem_map.mpr ⟨(y_Mob_registerWith, 14), by decide +kernel, rfl⟩)) rfl
theorem w_Msg_stir : Cond.code y_Msg_stir b_Msg_stir 3 (some .int) ∈ rx_W := rx_in t_324 rfl
theorem z_Msg_stir : Cond.static y_Msg_stir ∈ rx_W := rx_in t_323 rfl
theorem w_Net_handOver : Cond.code y_Net_handOver b_Net_handOver 2 none ∈ rx_W := rx_in t_358 rfl
theorem z_Net_handOver : Cond.instanceMethod y_Net_handOver ∈ rx_W := rx_in t_357 rfl
theorem s_Net_handOver : Cond.selects y_Net_handOver.cls y_Net_handOver y_Net_handOver ∈ rx_W := rx_in (List.mem_append_left _ (List.mem_map.mpr ⟨(y_Net_handOver, 6), by decide +kernel, rfl⟩)) rfl
theorem w_Wire_isFull : Cond.code y_Wire_isFull b_Wire_isFull 1 (some .boolean) ∈ rx_W := rx_in t_304 rfl
theorem z_Wire_isFull : Cond.instanceMethod y_Wire_isFull ∈ rx_W := rx_in t_303 rfl
theorem s_Wire_isFull : Cond.selects y_Wire_isFull.cls y_Wire_isFull y_Wire_isFull ∈ rx_W := rx_in (List.mem_append_left _ (List.mem_map.mpr ⟨(y_Wire_isFull, 3), by decide +kernel, rfl⟩)) rfl
theorem w_Wire_nextRow : Cond.code y_Wire_nextRow b_Wire_nextRow 1 (some (.object "RoamingNet$Message")) ∈ rx_W := rx_in t_300 rfl
theorem z_Wire_nextRow : Cond.instanceMethod y_Wire_nextRow ∈ rx_W := rx_in t_299 rfl
theorem s_Wire_nextRow : Cond.selects y_Wire_nextRow.cls y_Wire_nextRow y_Wire_nextRow ∈ rx_W := rx_in (List.mem_append_left _ (List.mem_map.mpr ⟨(y_Wire_nextRow, 3), by decide +kernel, rfl⟩)) rfl
theorem w_Net_isWithin : Cond.code y_Net_isWithin b_Net_isWithin 3 (some .boolean) ∈ rx_W := rx_in t_20 rfl
theorem z_Net_isWithin : Cond.static y_Net_isWithin ∈ rx_W := rx_in t_19 rfl
theorem w_Net_isAgent : Cond.code y_Net_isAgent b_Net_isAgent 1 (some .boolean) ∈ rx_W := rx_in t_469 rfl
theorem z_Net_isAgent : Cond.static y_Net_isAgent ∈ rx_W := rx_in t_468 rfl
theorem w_Msg_summary : Cond.code y_Msg_summary b_Msg_summary 1 (some .int) ∈ rx_W := rx_in t_482 rfl
theorem z_Msg_summary : Cond.instanceMethod y_Msg_summary ∈ rx_W := rx_in t_481 rfl
theorem s_Msg_summary : Cond.selects y_Msg_summary.cls y_Msg_summary y_Msg_summary ∈ rx_W := rx_in (List.mem_append_left _ (List.mem_map.mpr ⟨(y_Msg_summary, 9), by decide +kernel, rfl⟩)) rfl
theorem w_Net_advertise : Cond.code y_Net_advertise b_Net_advertise 3 none ∈ rx_W := rx_in t_288 rfl
theorem z_Net_advertise : Cond.instanceMethod y_Net_advertise ∈ rx_W := rx_in t_287 rfl
theorem s_Net_advertise : Cond.selects y_Net_advertise.cls y_Net_advertise y_Net_advertise ∈ rx_W := rx_in (List.mem_append_left _ (List.mem_map.mpr ⟨(y_Net_advertise, 6), by decide +kernel, rfl⟩)) rfl
theorem w_Mob_notice : Cond.code y_Mob_notice b_Mob_notice 1 none ∈ rx_W := rx_in t_312 rfl
theorem z_Mob_notice : Cond.instanceMethod y_Mob_notice ∈ rx_W := rx_in t_311 rfl
theorem s_Mob_notice : Cond.selects y_Mob_notice.cls y_Mob_notice y_Mob_notice ∈ rx_W := rx_in (List.mem_append_left _ (List.mem_map.mpr ⟨(y_Mob_notice, 14), by decide +kernel, rfl⟩)) rfl
theorem w_Corr_resendIfDue : Cond.code y_Corr_resendIfDue b_Corr_resendIfDue 3 none ∈ rx_W := rx_in t_329 rfl
theorem z_Corr_resendIfDue : Cond.instanceMethod y_Corr_resendIfDue ∈ rx_W := rx_in t_328 rfl
theorem s_Corr_resendIfDue : Cond.selects y_Corr_resendIfDue.cls y_Corr_resendIfDue y_Corr_resendIfDue ∈ rx_W := rx_in (List.mem_append_left _ (List.mem_map.mpr ⟨(y_Corr_resendIfDue, 5), by decide +kernel, rfl⟩)) rfl
theorem w_Mob_receive : Cond.code y_Mob_receive b_Mob_receive 2 none ∈ rx_W := rx_in t_362 rfl
theorem z_Mob_receive : Cond.instanceMethod y_Mob_receive ∈ rx_W := rx_in t_361 rfl
theorem s_Mob_receive : Cond.selects y_Mob_receive.cls y_Mob_receive y_Mob_receive ∈ rx_W := rx_in (List.mem_append_left _ (List.mem_map.mpr ⟨(y_Mob_receive, 14), by decide +kernel, rfl⟩)) rfl
theorem w_Corr_receive : Cond.code y_Corr_receive b_Corr_receive 3 none ∈ rx_W := rx_in t_386 rfl
theorem z_Corr_receive : Cond.instanceMethod y_Corr_receive ∈ rx_W := rx_in t_385 rfl
theorem s_Corr_receive : Cond.selects y_Corr_receive.cls y_Corr_receive y_Corr_receive ∈ rx_W := rx_in (List.mem_append_left _ (List.mem_map.mpr ⟨(y_Corr_receive, 5), by decide +kernel, rfl⟩)) rfl
theorem w_Home_receive : Cond.code y_Home_receive b_Home_receive 2 none ∈ rx_W := rx_in t_391 rfl
theorem z_Home_receive : Cond.instanceMethod y_Home_receive ∈ rx_W := rx_in t_390 rfl
theorem s_Home_receive : Cond.selects y_Home_receive.cls y_Home_receive y_Home_receive ∈ rx_W := rx_in (List.mem_append_left _ (List.mem_map.mpr ⟨(y_Home_receive, 6), by decide +kernel, rfl⟩)) rfl
theorem w_Fa_receive : Cond.code y_Fa_receive b_Fa_receive 2 none ∈ rx_W := rx_in t_418 rfl
theorem z_Fa_receive : Cond.instanceMethod y_Fa_receive ∈ rx_W := rx_in t_417 rfl
theorem s_Fa_receive : Cond.selects y_Fa_receive.cls y_Fa_receive y_Fa_receive ∈ rx_W := rx_in (List.mem_append_left _ (List.mem_map.mpr ⟨(y_Fa_receive, 6), by decide +kernel, rfl⟩)) rfl
theorem w_Net_isMobile : Cond.code y_Net_isMobile b_Net_isMobile 1 (some .boolean) ∈ rx_W := rx_in t_272 rfl
theorem z_Net_isMobile : Cond.static y_Net_isMobile ∈ rx_W := rx_in t_271 rfl
theorem w_Net_passOneTick : Cond.code y_Net_passOneTick b_Net_passOneTick 2 none ∈ rx_W := rx_in t_284 rfl
theorem z_Net_passOneTick : Cond.instanceMethod y_Net_passOneTick ∈ rx_W := rx_in t_283 rfl
theorem s_Net_passOneTick : Cond.selects y_Net_passOneTick.cls y_Net_passOneTick y_Net_passOneTick ∈ rx_W := rx_in (List.mem_append_left _ (List.mem_map.mpr ⟨(y_Net_passOneTick, 6), by decide +kernel, rfl⟩)) rfl
theorem w_Wire_holds : Cond.code y_Wire_holds b_Wire_holds 2 (some .boolean) ∈ rx_W := rx_in t_346 rfl
theorem z_Wire_holds : Cond.instanceMethod y_Wire_holds ∈ rx_W := rx_in t_345 rfl
theorem s_Wire_holds : Cond.selects y_Wire_holds.cls y_Wire_holds y_Wire_holds ∈ rx_W := rx_in (List.mem_append_left _ (List.mem_map.mpr ⟨(y_Wire_holds, 3), by decide +kernel, rfl⟩)) rfl
theorem w_Msg_copyFrom : Cond.code y_Msg_copyFrom b_Msg_copyFrom 2 none ∈ rx_W := rx_in t_350 rfl
theorem z_Msg_copyFrom : Cond.instanceMethod y_Msg_copyFrom ∈ rx_W := rx_in t_349 rfl
theorem s_Msg_copyFrom : Cond.selects y_Msg_copyFrom.cls y_Msg_copyFrom y_Msg_copyFrom ∈ rx_W := rx_in (List.mem_append_left _ (List.mem_map.mpr ⟨(y_Msg_copyFrom, 9), by decide +kernel, rfl⟩)) rfl
theorem w_Wire_remove : Cond.code y_Wire_remove b_Wire_remove 4 none ∈ rx_W := rx_in t_354 rfl
theorem z_Wire_remove : Cond.instanceMethod y_Wire_remove ∈ rx_W := rx_in t_353 rfl
theorem s_Wire_remove : Cond.selects y_Wire_remove.cls y_Wire_remove y_Wire_remove ∈ rx_W := rx_in (List.mem_append_left _ (List.mem_map.mpr ⟨(y_Wire_remove, 3), by decide +kernel, rfl⟩)) rfl
theorem w_Msg_begin : Cond.code y_Msg_begin b_Msg_begin 5 none ∈ rx_W := rx_in t_308 rfl
theorem z_Msg_begin : Cond.instanceMethod y_Msg_begin ∈ rx_W := rx_in t_307 rfl
theorem s_Msg_begin : Cond.selects y_Msg_begin.cls y_Msg_begin y_Msg_begin ∈ rx_W := rx_in (List.mem_append_left _ (List.mem_map.mpr ⟨(y_Msg_begin, 9), by decide +kernel, rfl⟩)) rfl
theorem u_Net : ∀ w ∈ u_ws R_Net F_Net 6, w ∈ rx_W := by
  intro w hw
  obtain ⟨k, hk, rfl⟩ := List.mem_map.mp hw
  have hk := List.mem_range.mp hk
  match k, hk with
  | 0, _ => exact rx_in t_253 rfl
  | 1, _ => exact rx_in t_255 rfl
  | 2, _ => exact rx_in t_257 rfl
  | 3, _ => exact rx_in t_259 rfl
  | 4, _ => exact rx_in t_261 rfl
  | 5, _ => exact rx_in t_263 rfl
  | k + 6, hk => omega
theorem u_Msg : ∀ w ∈ u_ws R_Msg F_Msg 9, w ∈ rx_W := by
  intro w hw
  obtain ⟨k, hk, rfl⟩ := List.mem_map.mp hw
  have hk := List.mem_range.mp hk
  match k, hk with
  | 0, _ => exact rx_in t_73 rfl
  | 1, _ => exact rx_in t_75 rfl
  | 2, _ => exact rx_in t_77 rfl
  | 3, _ => exact rx_in t_79 rfl
  | 4, _ => exact rx_in t_81 rfl
  | 5, _ => exact rx_in t_83 rfl
  | 6, _ => exact rx_in t_85 rfl
  | 7, _ => exact rx_in t_87 rfl
  | 8, _ => exact rx_in t_89 rfl
  | k + 9, hk => omega
theorem u_Wire : ∀ w ∈ u_ws R_Wire F_Wire 3, w ∈ rx_W := by
  intro w hw
  obtain ⟨k, hk, rfl⟩ := List.mem_map.mp hw
  have hk := List.mem_range.mp hk
  match k, hk with
  | 0, _ => exact rx_in t_101 rfl
  | 1, _ => exact rx_in t_103 rfl
  | 2, _ => exact rx_in t_105 rfl
  | k + 3, hk => omega
theorem u_Mob : ∀ w ∈ u_ws R_Mob F_Mob 14, w ∈ rx_W := by
  intro w hw
  obtain ⟨k, hk, rfl⟩ := List.mem_map.mp hw
  have hk := List.mem_range.mp hk
  match k, hk with
  | 0, _ => exact rx_in t_137 rfl
  | 1, _ => exact rx_in t_139 rfl
  | 2, _ => exact rx_in t_141 rfl
  | 3, _ => exact rx_in t_143 rfl
  | 4, _ => exact rx_in t_145 rfl
  | 5, _ => exact rx_in t_147 rfl
  | 6, _ => exact rx_in t_149 rfl
  | 7, _ => exact rx_in t_151 rfl
  | 8, _ => exact rx_in t_153 rfl
  | 9, _ => exact rx_in t_155 rfl
  | 10, _ => exact rx_in t_157 rfl
  | 11, _ => exact rx_in t_159 rfl
  | 12, _ => exact rx_in t_161 rfl
  | 13, _ => exact rx_in t_163 rfl
  | k + 14, hk => omega
theorem u_Home : ∀ w ∈ u_ws R_Home F_Home 6, w ∈ rx_W := by
  intro w hw
  obtain ⟨k, hk, rfl⟩ := List.mem_map.mp hw
  have hk := List.mem_range.mp hk
  match k, hk with
  | 0, _ => exact rx_in t_181 rfl
  | 1, _ => exact rx_in t_183 rfl
  | 2, _ => exact rx_in t_185 rfl
  | 3, _ => exact rx_in t_187 rfl
  | 4, _ => exact rx_in t_189 rfl
  | 5, _ => exact rx_in t_191 rfl
  | k + 6, hk => omega
theorem u_Fa : ∀ w ∈ u_ws R_Fa F_Fa 6, w ∈ rx_W := by
  intro w hw
  obtain ⟨k, hk, rfl⟩ := List.mem_map.mp hw
  have hk := List.mem_range.mp hk
  match k, hk with
  | 0, _ => exact rx_in t_209 rfl
  | 1, _ => exact rx_in t_211 rfl
  | 2, _ => exact rx_in t_213 rfl
  | 3, _ => exact rx_in t_215 rfl
  | 4, _ => exact rx_in t_217 rfl
  | 5, _ => exact rx_in t_219 rfl
  | k + 6, hk => omega
theorem u_Corr : ∀ w ∈ u_ws R_Corr F_Corr 5, w ∈ rx_W := by
  intro w hw
  obtain ⟨k, hk, rfl⟩ := List.mem_map.mp hw
  have hk := List.mem_range.mp hk
  match k, hk with
  | 0, _ => exact rx_in t_236 rfl
  | 1, _ => exact rx_in t_238 rfl
  | 2, _ => exact rx_in t_240 rfl
  | 3, _ => exact rx_in t_242 rfl
  | 4, _ => exact rx_in t_244 rfl
  | k + 5, hk => omega
theorem u_Mod : ∀ w ∈ u_ws R_Mod F_Mod 29, w ∈ rx_W := by
  intro w hw
  obtain ⟨k, hk, rfl⟩ := List.mem_map.mp hw
  have hk := List.mem_range.mp hk
  match k, hk with
  | 0, _ => exact rx_in t_550 rfl
  | 1, _ => exact rx_in t_552 rfl
  | 2, _ => exact rx_in t_554 rfl
  | 3, _ => exact rx_in t_556 rfl
  | 4, _ => exact rx_in t_558 rfl
  | 5, _ => exact rx_in t_560 rfl
  | 6, _ => exact rx_in t_562 rfl
  | 7, _ => exact rx_in t_564 rfl
  | 8, _ => exact rx_in t_566 rfl
  | 9, _ => exact rx_in t_568 rfl
  | 10, _ => exact rx_in t_570 rfl
  | 11, _ => exact rx_in t_572 rfl
  | 12, _ => exact rx_in t_574 rfl
  | 13, _ => exact rx_in t_576 rfl
  | 14, _ => exact rx_in t_578 rfl
  | 15, _ => exact rx_in t_580 rfl
  | 16, _ => exact rx_in t_582 rfl
  | 17, _ => exact rx_in t_584 rfl
  | 18, _ => exact rx_in t_586 rfl
  | 19, _ => exact rx_in t_588 rfl
  | 20, _ => exact rx_in t_590 rfl
  | 21, _ => exact rx_in t_592 rfl
  | 22, _ => exact rx_in t_594 rfl
  | 23, _ => exact rx_in t_596 rfl
  | 24, _ => exact rx_in t_598 rfl
  | 25, _ => exact rx_in t_600 rfl
  | 26, _ => exact rx_in t_602 rfl
  | 27, _ => exact rx_in t_604 rfl
  | 28, _ => exact rx_in t_606 rfl
  | k + 29, hk => omega
