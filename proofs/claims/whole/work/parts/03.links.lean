theorem lw_at {i : Nat} {w : Cond} (h : lw_tbl[i]? = some w) (hg : goodWord w = true) : w ∈ lw_good := List.mem_filter.mpr ⟨List.mem_of_getElem? h, hg⟩
set_option maxRecDepth 20000 in
theorem lk_0 : (.fieldLink R_Device 9 "MachineLoop$Device" "settings" "[I" : Cond) ∈ lw_good := lw_at (i := 77) (by decide +kernel) rfl
set_option maxRecDepth 20000 in
theorem lk_1 : (.methodLink R_Device 3 Lib.objectInit : Cond) ∈ lw_good := lw_at (i := 74) (by decide +kernel) rfl
set_option maxRecDepth 20000 in
theorem lk_2 : (.instanceMethod Lib.objectInit : Cond) ∈ lw_good := lw_at (i := 59) (by decide +kernel) rfl
set_option maxRecDepth 20000 in
theorem lk_3 : (.code Lib.objectInit ⟨#[0xb1]⟩ 1 none : Cond) ∈ lw_good := lw_at (i := 60) rfl rfl
set_option maxRecDepth 20000 in
theorem lk_4 : (.fieldLink R_Device 15 "MachineLoop$Device" "kept" "[I" : Cond) ∈ lw_good := lw_at (i := 78) (by decide +kernel) rfl
set_option maxRecDepth 20000 in
theorem lk_5 : (.fieldLink R_Resources 9 "MachineLoop$Resources" "values" "[I" : Cond) ∈ lw_good := lw_at (i := 91) (by decide +kernel) rfl
set_option maxRecDepth 20000 in
theorem lk_6 : (.methodLink R_Resources 3 Lib.objectInit : Cond) ∈ lw_good := lw_at (i := 90) (by decide +kernel) rfl
set_option maxRecDepth 20000 in
theorem lk_7 : (.fieldLink R_Resources 15 "MachineLoop$Resources" "kept" "[I" : Cond) ∈ lw_good := lw_at (i := 92) (by decide +kernel) rfl
set_option maxRecDepth 20000 in
theorem lk_8 : (.methodLink R_Store 3 Lib.objectInit : Cond) ∈ lw_good := lw_at (i := 110) (by decide +kernel) rfl
set_option maxRecDepth 20000 in
theorem lk_9 : (.methodLink R_Store 9 Lib.Math.max.name : Cond) ∈ lw_good := lw_at (i := 111) (by decide +kernel) rfl
set_option maxRecDepth 20000 in
theorem lk_10 : (.static Lib.Math.max.name : Cond) ∈ lw_good := lw_at (i := 112) (by decide +kernel) rfl
set_option maxRecDepth 20000 in
theorem lk_11 : (.initialized "java/lang/Math" : Cond) ∈ lw_good := lw_at (i := 46) (by decide +kernel) rfl
set_option maxRecDepth 20000 in
theorem lk_12 : (.code Lib.Math.max.name Lib.Math.max.code 2 (some .int) : Cond) ∈ lw_good := lw_at (i := 113) rfl rfl
set_option maxRecDepth 20000 in
theorem lk_13 : (.fieldLink R_Store 15 "MachineLoop$Store" "bytes" "[B" : Cond) ∈ lw_good := lw_at (i := 114) (by decide +kernel) rfl
set_option maxRecDepth 20000 in
theorem lk_14 : (.fieldLink R_Store 21 "MachineLoop$Store" "size" "I" : Cond) ∈ lw_good := lw_at (i := 115) (by decide +kernel) rfl
set_option maxRecDepth 20000 in
theorem lk_15 : (.fieldLink R_Store 25 "MachineLoop$Store" "isThere" "Z" : Cond) ∈ lw_good := lw_at (i := 116) (by decide +kernel) rfl
set_option maxRecDepth 20000 in
theorem lk_16 : (.fieldLink R_Handle 18 "MachineLoop$Handle" "store" "LMachineLoop$Store;" : Cond) ∈ lw_good := lw_at (i := 140) (by decide +kernel) rfl
set_option maxRecDepth 20000 in
theorem lk_17 : (.fieldLink R_Handle 22 "MachineLoop$Handle" "mode" "I" : Cond) ∈ lw_good := lw_at (i := 142) (by decide +kernel) rfl
set_option maxRecDepth 20000 in
theorem lk_18 : (.fieldLink R_Handle 26 "MachineLoop$Handle" "isOfJob" "Z" : Cond) ∈ lw_good := lw_at (i := 144) (by decide +kernel) rfl
set_option maxRecDepth 20000 in
theorem lk_19 : (.fieldLink R_Handle 30 "MachineLoop$Handle" "place" "I" : Cond) ∈ lw_good := lw_at (i := 139) (by decide +kernel) rfl
set_option maxRecDepth 20000 in
theorem lk_20 : (.fieldLink R_Handle 33 "MachineLoop$Handle" "filterCount" "I" : Cond) ∈ lw_good := lw_at (i := 137) (by decide +kernel) rfl
set_option maxRecDepth 20000 in
theorem lk_21 : (.fieldLink R_Handle 36 "MachineLoop$Handle" "keptFilterCount" "I" : Cond) ∈ lw_good := lw_at (i := 138) (by decide +kernel) rfl
set_option maxRecDepth 20000 in
theorem lk_22 : (.methodLink R_Handle 3 Lib.objectInit : Cond) ∈ lw_good := lw_at (i := 131) (by decide +kernel) rfl
set_option maxRecDepth 20000 in
theorem lk_23 : (.fieldLink R_Handle 9 "MachineLoop$Handle" "filters" "[I" : Cond) ∈ lw_good := lw_at (i := 136) (by decide +kernel) rfl
set_option maxRecDepth 20000 in
theorem lk_24 : (.methodLink R_Handle 15 y_Handle_detach : Cond) ∈ lw_good := lw_at (i := 132) (by decide +kernel) rfl
set_option maxRecDepth 20000 in
theorem lk_25 : (.instanceMethod y_Handle_detach : Cond) ∈ lw_good := lw_at (i := 133) (by decide +kernel) rfl
set_option maxRecDepth 20000 in
theorem lk_26 : (.selects y_Handle_detach.cls y_Handle_detach y_Handle_detach : Cond) ∈ lw_good := lw_at (i := 134) (by decide +kernel) rfl
set_option maxRecDepth 20000 in
theorem lk_27 : (.fieldLink R_FileTree 31 "MachineLoop$FileTree" "handles" "[LMachineLoop$Handle;" : Cond) ∈ lw_good := lw_at (i := 168) (by decide +kernel) rfl
set_option maxRecDepth 20000 in
theorem lk_28 : (.classLink R_FileTree 24 "MachineLoop$Handle" : Cond) ∈ lw_good := lw_at (i := 126) (by decide +kernel) rfl
set_option maxRecDepth 20000 in
theorem lk_29 : (.methodLink R_FileTree 26 y_Handle_init : Cond) ∈ lw_good := lw_at (i := 128) (by decide +kernel) rfl
set_option maxRecDepth 20000 in
theorem lk_30 : (.instanceMethod y_Handle_init : Cond) ∈ lw_good := lw_at (i := 129) (by decide +kernel) rfl
set_option maxRecDepth 20000 in
theorem lk_31 : (.classLink R_FileTree 9 "MachineLoop$Store" : Cond) ∈ lw_good := lw_at (i := 104) (by decide +kernel) rfl
set_option maxRecDepth 20000 in
theorem lk_32 : (.methodLink R_FileTree 17 y_Store_init : Cond) ∈ lw_good := lw_at (i := 107) (by decide +kernel) rfl
set_option maxRecDepth 20000 in
theorem lk_33 : (.instanceMethod y_Store_init : Cond) ∈ lw_good := lw_at (i := 108) (by decide +kernel) rfl
set_option maxRecDepth 20000 in
theorem lk_34 : (.fieldLink R_FileTree 20 "MachineLoop$FileTree" "output" "LMachineLoop$Store;" : Cond) ∈ lw_good := lw_at (i := 167) (by decide +kernel) rfl
set_option maxRecDepth 20000 in
theorem lk_35 : (.methodLink R_FileTree 27 y_Handle_attach : Cond) ∈ lw_good := lw_at (i := 161) (by decide +kernel) rfl
set_option maxRecDepth 20000 in
theorem lk_36 : (.instanceMethod y_Handle_attach : Cond) ∈ lw_good := lw_at (i := 162) (by decide +kernel) rfl
set_option maxRecDepth 20000 in
theorem lk_37 : (.selects y_Handle_attach.cls y_Handle_attach y_Handle_attach : Cond) ∈ lw_good := lw_at (i := 163) (by decide +kernel) rfl
set_option maxRecDepth 20000 in
theorem lk_38 : (.fieldLink R_FileTree 11 "MachineLoop$FileTree" "stores" "[LMachineLoop$Store;" : Cond) ∈ lw_good := lw_at (i := 166) (by decide +kernel) rfl
set_option maxRecDepth 20000 in
theorem lk_39 : (.methodLink R_FileTree 3 Lib.objectInit : Cond) ∈ lw_good := lw_at (i := 103) (by decide +kernel) rfl
set_option maxRecDepth 20000 in
theorem lk_40 : (.methodLink R_Numbers 3 Lib.objectInit : Cond) ∈ lw_good := lw_at (i := 188) (by decide +kernel) rfl
set_option maxRecDepth 20000 in
theorem lk_41 : (.fieldLink R_Numbers 9 "MachineLoop$Numbers" "numbers" "[I" : Cond) ∈ lw_good := lw_at (i := 189) (by decide +kernel) rfl
set_option maxRecDepth 20000 in
theorem lk_42 : (.fieldLink R_Numbers 15 "MachineLoop$Numbers" "height" "I" : Cond) ∈ lw_good := lw_at (i := 190) (by decide +kernel) rfl
set_option maxRecDepth 20000 in
theorem lk_43 : (.methodLink R_Plan 3 Lib.objectInit : Cond) ∈ lw_good := lw_at (i := 201) (by decide +kernel) rfl
set_option maxRecDepth 20000 in
theorem lk_44 : (.fieldLink R_Plan 9 "MachineLoop$Plan" "doneFrom" "[I" : Cond) ∈ lw_good := lw_at (i := 202) (by decide +kernel) rfl
set_option maxRecDepth 20000 in
theorem lk_45 : (.fieldLink R_Plan 15 "MachineLoop$Plan" "mates" "[I" : Cond) ∈ lw_good := lw_at (i := 203) (by decide +kernel) rfl
set_option maxRecDepth 20000 in
theorem lk_46 : (.fieldLink R_Plan 18 "MachineLoop$Plan" "openBraces" "[I" : Cond) ∈ lw_good := lw_at (i := 204) (by decide +kernel) rfl
set_option maxRecDepth 20000 in
theorem lk_47 : (.fieldLink R_Plan 21 "MachineLoop$Plan" "length" "I" : Cond) ∈ lw_good := lw_at (i := 205) (by decide +kernel) rfl
set_option maxRecDepth 20000 in
theorem lk_48 : (.methodLink R_Machine 3 Lib.objectInit : Cond) ∈ lw_good := lw_at (i := 68) (by decide +kernel) rfl
set_option maxRecDepth 20000 in
theorem lk_49 : (.classLink R_Machine 9 "MachineLoop$Device" : Cond) ∈ lw_good := lw_at (i := 69) (by decide +kernel) rfl
set_option maxRecDepth 20000 in
theorem lk_50 : (.methodLink R_Machine 11 y_Device_init : Cond) ∈ lw_good := lw_at (i := 71) (by decide +kernel) rfl
set_option maxRecDepth 20000 in
theorem lk_51 : (.instanceMethod y_Device_init : Cond) ∈ lw_good := lw_at (i := 72) (by decide +kernel) rfl
set_option maxRecDepth 20000 in
theorem lk_52 : (.fieldLink R_Machine 12 "MachineLoop$Machine" "device" "LMachineLoop$Device;" : Cond) ∈ lw_good := lw_at (i := 215) (by decide +kernel) rfl
set_option maxRecDepth 20000 in
theorem lk_53 : (.classLink R_Machine 18 "MachineLoop$Resources" : Cond) ∈ lw_good := lw_at (i := 85) (by decide +kernel) rfl
set_option maxRecDepth 20000 in
theorem lk_54 : (.methodLink R_Machine 20 y_Resources_init : Cond) ∈ lw_good := lw_at (i := 87) (by decide +kernel) rfl
set_option maxRecDepth 20000 in
theorem lk_55 : (.instanceMethod y_Resources_init : Cond) ∈ lw_good := lw_at (i := 88) (by decide +kernel) rfl
set_option maxRecDepth 20000 in
theorem lk_56 : (.fieldLink R_Machine 21 "MachineLoop$Machine" "resources" "LMachineLoop$Resources;" : Cond) ∈ lw_good := lw_at (i := 217) (by decide +kernel) rfl
set_option maxRecDepth 20000 in
theorem lk_57 : (.classLink R_Machine 25 "MachineLoop$FileTree" : Cond) ∈ lw_good := lw_at (i := 98) (by decide +kernel) rfl
set_option maxRecDepth 20000 in
theorem lk_58 : (.methodLink R_Machine 27 y_FileTree_init : Cond) ∈ lw_good := lw_at (i := 100) (by decide +kernel) rfl
set_option maxRecDepth 20000 in
theorem lk_59 : (.instanceMethod y_FileTree_init : Cond) ∈ lw_good := lw_at (i := 101) (by decide +kernel) rfl
set_option maxRecDepth 20000 in
theorem lk_60 : (.fieldLink R_Machine 28 "MachineLoop$Machine" "files" "LMachineLoop$FileTree;" : Cond) ∈ lw_good := lw_at (i := 219) (by decide +kernel) rfl
set_option maxRecDepth 20000 in
theorem lk_61 : (.constantLong R_Machine 32 20000 : Cond) ∈ lw_good := lw_at (i := 176) (by decide +kernel) rfl
set_option maxRecDepth 20000 in
theorem lk_62 : (.methodLink R_Machine 34 Lib.MathLoose.min_long.x : Cond) ∈ lw_good := lw_at (i := 177) (by decide +kernel) rfl
set_option maxRecDepth 20000 in
theorem lk_63 : (.static Lib.MathLoose.min_long.x : Cond) ∈ lw_good := lw_at (i := 178) (by decide +kernel) rfl
set_option maxRecDepth 20000 in
theorem lk_64 : (.code Lib.MathLoose.min_long.x Lib.MathLoose.min_long.code 4 (some .long) : Cond) ∈ lw_good := lw_at (i := 179) rfl rfl
set_option maxRecDepth 20000 in
theorem lk_65 : (.methodLink R_Machine 40 Lib.MathLoose.max_long.x : Cond) ∈ lw_good := lw_at (i := 180) (by decide +kernel) rfl
set_option maxRecDepth 20000 in
theorem lk_66 : (.static Lib.MathLoose.max_long.x : Cond) ∈ lw_good := lw_at (i := 181) (by decide +kernel) rfl
set_option maxRecDepth 20000 in
theorem lk_67 : (.code Lib.MathLoose.max_long.x Lib.MathLoose.max_long.code 4 (some .long) : Cond) ∈ lw_good := lw_at (i := 182) rfl rfl
set_option maxRecDepth 20000 in
theorem lk_68 : (.fieldLink R_Machine 43 "MachineLoop$Machine" "stepLimit" "I" : Cond) ∈ lw_good := lw_at (i := 221) (by decide +kernel) rfl
set_option maxRecDepth 20000 in
theorem lk_69 : (.classLink R_Machine 47 "MachineLoop$Numbers" : Cond) ∈ lw_good := lw_at (i := 183) (by decide +kernel) rfl
set_option maxRecDepth 20000 in
theorem lk_70 : (.methodLink R_Machine 49 y_Numbers_init : Cond) ∈ lw_good := lw_at (i := 185) (by decide +kernel) rfl
set_option maxRecDepth 20000 in
theorem lk_71 : (.instanceMethod y_Numbers_init : Cond) ∈ lw_good := lw_at (i := 186) (by decide +kernel) rfl
set_option maxRecDepth 20000 in
theorem lk_72 : (.fieldLink R_Machine 50 "MachineLoop$Machine" "stack" "LMachineLoop$Numbers;" : Cond) ∈ lw_good := lw_at (i := 222) (by decide +kernel) rfl
set_option maxRecDepth 20000 in
theorem lk_73 : (.classLink R_Machine 54 "MachineLoop$Plan" : Cond) ∈ lw_good := lw_at (i := 196) (by decide +kernel) rfl
set_option maxRecDepth 20000 in
theorem lk_74 : (.methodLink R_Machine 56 y_Plan_init : Cond) ∈ lw_good := lw_at (i := 198) (by decide +kernel) rfl
set_option maxRecDepth 20000 in
theorem lk_75 : (.instanceMethod y_Plan_init : Cond) ∈ lw_good := lw_at (i := 199) (by decide +kernel) rfl
set_option maxRecDepth 20000 in
theorem lk_76 : (.fieldLink R_Machine 57 "MachineLoop$Machine" "plan" "LMachineLoop$Plan;" : Cond) ∈ lw_good := lw_at (i := 223) (by decide +kernel) rfl
set_option maxRecDepth 20000 in
theorem lk_77 : (.fieldLink R_Machine 61 "MachineLoop$Machine" "timesLeft" "[I" : Cond) ∈ lw_good := lw_at (i := 224) (by decide +kernel) rfl
set_option maxRecDepth 20000 in
theorem lk_78 : (.fieldLink R_Machine 65 "MachineLoop$Machine" "loopCount" "I" : Cond) ∈ lw_good := lw_at (i := 225) (by decide +kernel) rfl
set_option maxRecDepth 20000 in
theorem lk_79 : (.fieldLink R_Machine 68 "MachineLoop$Machine" "marks" "I" : Cond) ∈ lw_good := lw_at (i := 226) (by decide +kernel) rfl
set_option maxRecDepth 20000 in
theorem lk_80 : (.fieldLink R_Machine 71 "MachineLoop$Machine" "nextPlace" "I" : Cond) ∈ lw_good := lw_at (i := 227) (by decide +kernel) rfl
set_option maxRecDepth 20000 in
theorem lk_81 : (.methodLink R_ML 1 Lib.objectInit : Cond) ∈ lw_good := lw_at (i := 58) (by decide +kernel) rfl
set_option maxRecDepth 20000 in
theorem lk_82 : (.classLink R_ML 9 "MachineLoop$Job" : Cond) ∈ lw_good := lw_at (i := 61) (by decide +kernel) rfl
set_option maxRecDepth 20000 in
theorem lk_83 : (.fieldLink R_ML 11 "MachineLoop" "jobs" "[LMachineLoop$Job;" : Cond) ∈ lw_good := lw_at (i := 249) (by decide +kernel) rfl
set_option maxRecDepth 20000 in
theorem lk_84 : (.classLink R_ML 15 "MachineLoop$Machine" : Cond) ∈ lw_good := lw_at (i := 63) (by decide +kernel) rfl
set_option maxRecDepth 20000 in
theorem lk_85 : (.methodLink R_ML 17 y_Machine_init : Cond) ∈ lw_good := lw_at (i := 65) (by decide +kernel) rfl
set_option maxRecDepth 20000 in
theorem lk_86 : (.instanceMethod y_Machine_init : Cond) ∈ lw_good := lw_at (i := 66) (by decide +kernel) rfl
set_option maxRecDepth 20000 in
theorem lk_87 : (.fieldLink R_ML 20 "MachineLoop" "machine" "LMachineLoop$Machine;" : Cond) ∈ lw_good := lw_at (i := 250) (by decide +kernel) rfl
set_option maxRecDepth 20000 in
theorem lk_88 : (.fieldLink R_ML 24 "MachineLoop" "jobCount" "I" : Cond) ∈ lw_good := lw_at (i := 251) (by decide +kernel) rfl
set_option maxRecDepth 20000 in
theorem lk_89 : (.fieldLink R_ML 28 "MachineLoop" "startsFail" "Z" : Cond) ∈ lw_good := lw_at (i := 252) (by decide +kernel) rfl
set_option maxRecDepth 20000 in
theorem lk_90 : (.methodLink R_Job 3 Lib.objectInit : Cond) ∈ lw_good := lw_at (i := 270) (by decide +kernel) rfl
set_option maxRecDepth 20000 in
theorem lk_91 : (.fieldLink R_Job 9 "MachineLoop$Job" "signs" "[B" : Cond) ∈ lw_good := lw_at (i := 271) (by decide +kernel) rfl
set_option maxRecDepth 20000 in
theorem lk_92 : (.fieldLink R_Job 15 "MachineLoop$Job" "pages" "[I" : Cond) ∈ lw_good := lw_at (i := 272) (by decide +kernel) rfl
set_option maxRecDepth 20000 in
theorem lk_93 : (.fieldLink R_Job 19 "MachineLoop$Job" "length" "I" : Cond) ∈ lw_good := lw_at (i := 273) (by decide +kernel) rfl
set_option maxRecDepth 20000 in
theorem lk_94 : (.fieldLink R_Job 23 "MachineLoop$Job" "pageCount" "I" : Cond) ∈ lw_good := lw_at (i := 276) (by decide +kernel) rfl
set_option maxRecDepth 20000 in
theorem lk_95 : (.fieldLink R_Job 26 "MachineLoop$Job" "outcome" "I" : Cond) ∈ lw_good := lw_at (i := 278) (by decide +kernel) rfl
set_option maxRecDepth 20000 in
theorem lk_96 : (.fieldLink R_Job 29 "MachineLoop$Job" "error" "I" : Cond) ∈ lw_good := lw_at (i := 281) (by decide +kernel) rfl
set_option maxRecDepth 20000 in
theorem lk_97 : (.fieldLink R_Job 32 "MachineLoop$Job" "errorPlace" "I" : Cond) ∈ lw_good := lw_at (i := 283) (by decide +kernel) rfl
set_option maxRecDepth 20000 in
theorem lk_98 : (.fieldLink R_Job 35 "MachineLoop$Job" "steps" "I" : Cond) ∈ lw_good := lw_at (i := 285) (by decide +kernel) rfl
set_option maxRecDepth 20000 in
theorem lk_99 : (.fieldLink R_Job 38 "MachineLoop$Job" "flushed" "I" : Cond) ∈ lw_good := lw_at (i := 288) (by decide +kernel) rfl
set_option maxRecDepth 20000 in
theorem lk_100 : (.methodLink R_ML 32 y_Job_init : Cond) ∈ lw_good := lw_at (i := 267) (by decide +kernel) rfl
set_option maxRecDepth 20000 in
theorem lk_101 : (.instanceMethod y_Job_init : Cond) ∈ lw_good := lw_at (i := 268) (by decide +kernel) rfl
set_option maxRecDepth 20000 in
theorem lk_102 : (.methodLink R_ML 33 y_ML_jobOrNull : Cond) ∈ lw_good := lw_at (i := 313) (by decide +kernel) rfl
set_option maxRecDepth 20000 in
theorem lk_103 : (.instanceMethod y_ML_jobOrNull : Cond) ∈ lw_good := lw_at (i := 315) (by decide +kernel) rfl
set_option maxRecDepth 20000 in
theorem lk_104 : (.selects y_ML_jobOrNull.cls y_ML_jobOrNull y_ML_jobOrNull : Cond) ∈ lw_good := lw_at (i := 0) (by decide +kernel) rfl
set_option maxRecDepth 20000 in
theorem lk_105 : (.fieldLink R_ML 37 "MachineLoop$Job" "outcome" "I" : Cond) ∈ lw_good := lw_at (i := 280) (by decide +kernel) rfl
set_option maxRecDepth 20000 in
theorem lk_106 : (.methodLink R_ML 40 y_Job_append : Cond) ∈ lw_good := lw_at (i := 317) (by decide +kernel) rfl
set_option maxRecDepth 20000 in
theorem lk_107 : (.instanceMethod y_Job_append : Cond) ∈ lw_good := lw_at (i := 318) (by decide +kernel) rfl
set_option maxRecDepth 20000 in
theorem lk_108 : (.selects y_Job_append.cls y_Job_append y_Job_append : Cond) ∈ lw_good := lw_at (i := 319) (by decide +kernel) rfl
set_option maxRecDepth 20000 in
theorem lk_109 : (.methodLink R_Device 27 arraycopyName : Cond) ∈ lw_good := lw_at (i := 337) (by decide +kernel) rfl
set_option maxRecDepth 20000 in
theorem lk_110 : (.native arraycopyName : Cond) ∈ lw_good := lw_at (i := 339) (by decide +kernel) rfl
set_option maxRecDepth 20000 in
theorem lk_111 : (.static arraycopyName : Cond) ∈ lw_good := lw_at (i := 338) (by decide +kernel) rfl
set_option maxRecDepth 20000 in
theorem lk_112 : (.initialized "java/lang/System" : Cond) ∈ lw_good := lw_at (i := 52) (by decide +kernel) rfl
set_option maxRecDepth 20000 in
theorem lk_113 : (.methodLink R_Resources 22 arraycopyName : Cond) ∈ lw_good := lw_at (i := 344) (by decide +kernel) rfl
set_option maxRecDepth 20000 in
theorem lk_114 : (.methodLink R_FileTree 51 y_FileTree_handleOrNull : Cond) ∈ lw_good := lw_at (i := 349) (by decide +kernel) rfl
set_option maxRecDepth 20000 in
theorem lk_115 : (.instanceMethod y_FileTree_handleOrNull : Cond) ∈ lw_good := lw_at (i := 351) (by decide +kernel) rfl
set_option maxRecDepth 20000 in
theorem lk_116 : (.selects y_FileTree_handleOrNull.cls y_FileTree_handleOrNull y_FileTree_handleOrNull : Cond) ∈ lw_good := lw_at (i := 2) (by decide +kernel) rfl
set_option maxRecDepth 20000 in
theorem lk_117 : (.methodLink R_FileTree 95 y_Handle_keepFilters : Cond) ∈ lw_good := lw_at (i := 353) (by decide +kernel) rfl
set_option maxRecDepth 20000 in
theorem lk_118 : (.instanceMethod y_Handle_keepFilters : Cond) ∈ lw_good := lw_at (i := 354) (by decide +kernel) rfl
set_option maxRecDepth 20000 in
theorem lk_119 : (.selects y_Handle_keepFilters.cls y_Handle_keepFilters y_Handle_keepFilters : Cond) ∈ lw_good := lw_at (i := 355) (by decide +kernel) rfl
set_option maxRecDepth 20000 in
theorem lk_120 : (.methodLink R_Plan 41 y_Job_signAt : Cond) ∈ lw_good := lw_at (i := 368) (by decide +kernel) rfl
set_option maxRecDepth 20000 in
theorem lk_121 : (.instanceMethod y_Job_signAt : Cond) ∈ lw_good := lw_at (i := 369) (by decide +kernel) rfl
set_option maxRecDepth 20000 in
theorem lk_122 : (.selects y_Job_signAt.cls y_Job_signAt y_Job_signAt : Cond) ∈ lw_good := lw_at (i := 370) (by decide +kernel) rfl
set_option maxRecDepth 20000 in
theorem lk_123 : (.fieldLink R_Plan 25 "MachineLoop$Job" "length" "I" : Cond) ∈ lw_good := lw_at (i := 274) (by decide +kernel) rfl
set_option maxRecDepth 20000 in
theorem lk_124 : (.methodLink R_Plan 28 Lib.Math.min.name : Cond) ∈ lw_good := lw_at (i := 361) (by decide +kernel) rfl
set_option maxRecDepth 20000 in
theorem lk_125 : (.static Lib.Math.min.name : Cond) ∈ lw_good := lw_at (i := 362) (by decide +kernel) rfl
set_option maxRecDepth 20000 in
theorem lk_126 : (.code Lib.Math.min.name Lib.Math.min.code 2 (some .int) : Cond) ∈ lw_good := lw_at (i := 363) rfl rfl
set_option maxRecDepth 20000 in
theorem lk_127 : (.methodLink R_Plan 34 y_Plan_findDoneSigns : Cond) ∈ lw_good := lw_at (i := 364) (by decide +kernel) rfl
set_option maxRecDepth 20000 in
theorem lk_128 : (.instanceMethod y_Plan_findDoneSigns : Cond) ∈ lw_good := lw_at (i := 366) (by decide +kernel) rfl
set_option maxRecDepth 20000 in
theorem lk_129 : (.selects y_Plan_findDoneSigns.cls y_Plan_findDoneSigns y_Plan_findDoneSigns : Cond) ∈ lw_good := lw_at (i := 3) (by decide +kernel) rfl
set_option maxRecDepth 20000 in
theorem lk_130 : (.methodLink R_Plan 38 y_Plan_findMates : Cond) ∈ lw_good := lw_at (i := 372) (by decide +kernel) rfl
set_option maxRecDepth 20000 in
theorem lk_131 : (.instanceMethod y_Plan_findMates : Cond) ∈ lw_good := lw_at (i := 374) (by decide +kernel) rfl
set_option maxRecDepth 20000 in
theorem lk_132 : (.selects y_Plan_findMates.cls y_Plan_findMates y_Plan_findMates : Cond) ∈ lw_good := lw_at (i := 4) (by decide +kernel) rfl
set_option maxRecDepth 20000 in
theorem lk_133 : (.methodLink R_Machine 107 y_Device_keep : Cond) ∈ lw_good := lw_at (i := 333) (by decide +kernel) rfl
set_option maxRecDepth 20000 in
theorem lk_134 : (.instanceMethod y_Device_keep : Cond) ∈ lw_good := lw_at (i := 334) (by decide +kernel) rfl
set_option maxRecDepth 20000 in
theorem lk_135 : (.selects y_Device_keep.cls y_Device_keep y_Device_keep : Cond) ∈ lw_good := lw_at (i := 335) (by decide +kernel) rfl
set_option maxRecDepth 20000 in
theorem lk_136 : (.methodLink R_Machine 110 y_Resources_keep : Cond) ∈ lw_good := lw_at (i := 340) (by decide +kernel) rfl
set_option maxRecDepth 20000 in
theorem lk_137 : (.instanceMethod y_Resources_keep : Cond) ∈ lw_good := lw_at (i := 341) (by decide +kernel) rfl
set_option maxRecDepth 20000 in
theorem lk_138 : (.selects y_Resources_keep.cls y_Resources_keep y_Resources_keep : Cond) ∈ lw_good := lw_at (i := 342) (by decide +kernel) rfl
set_option maxRecDepth 20000 in
theorem lk_139 : (.methodLink R_Machine 111 y_FileTree_keep : Cond) ∈ lw_good := lw_at (i := 345) (by decide +kernel) rfl
set_option maxRecDepth 20000 in
theorem lk_140 : (.instanceMethod y_FileTree_keep : Cond) ∈ lw_good := lw_at (i := 346) (by decide +kernel) rfl
set_option maxRecDepth 20000 in
theorem lk_141 : (.selects y_FileTree_keep.cls y_FileTree_keep y_FileTree_keep : Cond) ∈ lw_good := lw_at (i := 347) (by decide +kernel) rfl
set_option maxRecDepth 20000 in
theorem lk_142 : (.methodLink R_Machine 112 y_Plan_prepare : Cond) ∈ lw_good := lw_at (i := 357) (by decide +kernel) rfl
set_option maxRecDepth 20000 in
theorem lk_143 : (.instanceMethod y_Plan_prepare : Cond) ∈ lw_good := lw_at (i := 358) (by decide +kernel) rfl
set_option maxRecDepth 20000 in
theorem lk_144 : (.selects y_Plan_prepare.cls y_Plan_prepare y_Plan_prepare : Cond) ∈ lw_good := lw_at (i := 359) (by decide +kernel) rfl
set_option maxRecDepth 20000 in
theorem lk_145 : (.methodLink R_Machine 115 y_Numbers_clear : Cond) ∈ lw_good := lw_at (i := 376) (by decide +kernel) rfl
set_option maxRecDepth 20000 in
theorem lk_146 : (.instanceMethod y_Numbers_clear : Cond) ∈ lw_good := lw_at (i := 377) (by decide +kernel) rfl
set_option maxRecDepth 20000 in
theorem lk_147 : (.selects y_Numbers_clear.cls y_Numbers_clear y_Numbers_clear : Cond) ∈ lw_good := lw_at (i := 378) (by decide +kernel) rfl
set_option maxRecDepth 20000 in
theorem lk_148 : (.methodLink R_Machine 89 y_Plan_firstDoneFrom : Cond) ∈ lw_good := lw_at (i := 380) (by decide +kernel) rfl
set_option maxRecDepth 20000 in
theorem lk_149 : (.instanceMethod y_Plan_firstDoneFrom : Cond) ∈ lw_good := lw_at (i := 381) (by decide +kernel) rfl
set_option maxRecDepth 20000 in
theorem lk_150 : (.selects y_Plan_firstDoneFrom.cls y_Plan_firstDoneFrom y_Plan_firstDoneFrom : Cond) ∈ lw_good := lw_at (i := 382) (by decide +kernel) rfl
set_option maxRecDepth 20000 in
theorem lk_151 : (.methodLink R_Machine 204 y_Plan_mateOf : Cond) ∈ lw_good := lw_at (i := 408) (by decide +kernel) rfl
set_option maxRecDepth 20000 in
theorem lk_152 : (.instanceMethod y_Plan_mateOf : Cond) ∈ lw_good := lw_at (i := 409) (by decide +kernel) rfl
set_option maxRecDepth 20000 in
theorem lk_153 : (.selects y_Plan_mateOf.cls y_Plan_mateOf y_Plan_mateOf : Cond) ∈ lw_good := lw_at (i := 410) (by decide +kernel) rfl
set_option maxRecDepth 20000 in
theorem lk_154 : (.methodLink R_Machine 198 y_Device_copies : Cond) ∈ lw_good := lw_at (i := 420) (by decide +kernel) rfl
set_option maxRecDepth 20000 in
theorem lk_155 : (.instanceMethod y_Device_copies : Cond) ∈ lw_good := lw_at (i := 421) (by decide +kernel) rfl
set_option maxRecDepth 20000 in
theorem lk_156 : (.selects y_Device_copies.cls y_Device_copies y_Device_copies : Cond) ∈ lw_good := lw_at (i := 422) (by decide +kernel) rfl
set_option maxRecDepth 20000 in
theorem lk_157 : (.methodLink R_Machine 201 y_Job_show : Cond) ∈ lw_good := lw_at (i := 424) (by decide +kernel) rfl
set_option maxRecDepth 20000 in
theorem lk_158 : (.instanceMethod y_Job_show : Cond) ∈ lw_good := lw_at (i := 425) (by decide +kernel) rfl
set_option maxRecDepth 20000 in
theorem lk_159 : (.selects y_Job_show.cls y_Job_show y_Job_show : Cond) ∈ lw_good := lw_at (i := 426) (by decide +kernel) rfl
set_option maxRecDepth 20000 in
theorem lk_160 : (.methodLink R_Machine 190 y_Device_change : Cond) ∈ lw_good := lw_at (i := 432) (by decide +kernel) rfl
set_option maxRecDepth 20000 in
theorem lk_161 : (.instanceMethod y_Device_change : Cond) ∈ lw_good := lw_at (i := 433) (by decide +kernel) rfl
set_option maxRecDepth 20000 in
theorem lk_162 : (.selects y_Device_change.cls y_Device_change y_Device_change : Cond) ∈ lw_good := lw_at (i := 434) (by decide +kernel) rfl
set_option maxRecDepth 20000 in
theorem lk_163 : (.methodLink R_Machine 194 y_Device_passesOverWrongRequests : Cond) ∈ lw_good := lw_at (i := 440) (by decide +kernel) rfl
set_option maxRecDepth 20000 in
theorem lk_164 : (.instanceMethod y_Device_passesOverWrongRequests : Cond) ∈ lw_good := lw_at (i := 441) (by decide +kernel) rfl
set_option maxRecDepth 20000 in
theorem lk_165 : (.selects y_Device_passesOverWrongRequests.cls y_Device_passesOverWrongRequests y_Device_passesOverWrongRequests : Cond) ∈ lw_good := lw_at (i := 442) (by decide +kernel) rfl
set_option maxRecDepth 20000 in
theorem lk_166 : (.methodLink R_Resources 18 y_Resources_slotOf : Cond) ∈ lw_good := lw_at (i := 448) (by decide +kernel) rfl
set_option maxRecDepth 20000 in
theorem lk_167 : (.static y_Resources_slotOf : Cond) ∈ lw_good := lw_at (i := 449) (by decide +kernel) rfl
set_option maxRecDepth 20000 in
theorem lk_168 : (.methodLink R_Machine 123 y_Numbers_lay : Cond) ∈ lw_good := lw_at (i := 389) (by decide +kernel) rfl
set_option maxRecDepth 20000 in
theorem lk_169 : (.instanceMethod y_Numbers_lay : Cond) ∈ lw_good := lw_at (i := 390) (by decide +kernel) rfl
set_option maxRecDepth 20000 in
theorem lk_170 : (.selects y_Numbers_lay.cls y_Numbers_lay y_Numbers_lay : Cond) ∈ lw_good := lw_at (i := 391) (by decide +kernel) rfl
set_option maxRecDepth 20000 in
theorem lk_171 : (.fieldLink R_FileTree 61 "MachineLoop$Handle" "store" "LMachineLoop$Store;" : Cond) ∈ lw_good := lw_at (i := 141) (by decide +kernel) rfl
set_option maxRecDepth 20000 in
theorem lk_172 : (.fieldLink R_FileTree 64 "MachineLoop$Handle" "mode" "I" : Cond) ∈ lw_good := lw_at (i := 143) (by decide +kernel) rfl
set_option maxRecDepth 20000 in
theorem lk_173 : (.methodLink R_FileTree 55 y_Store_makeEmpty : Cond) ∈ lw_good := lw_at (i := 482) (by decide +kernel) rfl
set_option maxRecDepth 20000 in
theorem lk_174 : (.instanceMethod y_Store_makeEmpty : Cond) ∈ lw_good := lw_at (i := 483) (by decide +kernel) rfl
set_option maxRecDepth 20000 in
theorem lk_175 : (.selects y_Store_makeEmpty.cls y_Store_makeEmpty y_Store_makeEmpty : Cond) ∈ lw_good := lw_at (i := 484) (by decide +kernel) rfl
set_option maxRecDepth 20000 in
theorem lk_176 : (.methodLink R_FileTree 43 y_FileTree_isHeldAgainst : Cond) ∈ lw_good := lw_at (i := 474) (by decide +kernel) rfl
set_option maxRecDepth 20000 in
theorem lk_177 : (.instanceMethod y_FileTree_isHeldAgainst : Cond) ∈ lw_good := lw_at (i := 476) (by decide +kernel) rfl
set_option maxRecDepth 20000 in
theorem lk_178 : (.selects y_FileTree_isHeldAgainst.cls y_FileTree_isHeldAgainst y_FileTree_isHeldAgainst : Cond) ∈ lw_good := lw_at (i := 13) (by decide +kernel) rfl
set_option maxRecDepth 20000 in
theorem lk_179 : (.methodLink R_FileTree 47 y_FileTree_freeHandle : Cond) ∈ lw_good := lw_at (i := 478) (by decide +kernel) rfl
set_option maxRecDepth 20000 in
theorem lk_180 : (.instanceMethod y_FileTree_freeHandle : Cond) ∈ lw_good := lw_at (i := 480) (by decide +kernel) rfl
set_option maxRecDepth 20000 in
theorem lk_181 : (.selects y_FileTree_freeHandle.cls y_FileTree_freeHandle y_FileTree_freeHandle : Cond) ∈ lw_good := lw_at (i := 14) (by decide +kernel) rfl
set_option maxRecDepth 20000 in
theorem lk_182 : (.fieldLink R_FileTree 39 "MachineLoop$Store" "isThere" "Z" : Cond) ∈ lw_good := lw_at (i := 117) (by decide +kernel) rfl
set_option maxRecDepth 20000 in
theorem lk_183 : (.methodLink R_FileTree 35 y_FileTree_storeOrNull : Cond) ∈ lw_good := lw_at (i := 470) (by decide +kernel) rfl
set_option maxRecDepth 20000 in
theorem lk_184 : (.instanceMethod y_FileTree_storeOrNull : Cond) ∈ lw_good := lw_at (i := 472) (by decide +kernel) rfl
set_option maxRecDepth 20000 in
theorem lk_185 : (.selects y_FileTree_storeOrNull.cls y_FileTree_storeOrNull y_FileTree_storeOrNull : Cond) ∈ lw_good := lw_at (i := 12) (by decide +kernel) rfl
set_option maxRecDepth 20000 in
theorem lk_186 : (.methodLink R_FileTree 58 y_FileTree_openOrNull : Cond) ∈ lw_good := lw_at (i := 490) (by decide +kernel) rfl
set_option maxRecDepth 20000 in
theorem lk_187 : (.instanceMethod y_FileTree_openOrNull : Cond) ∈ lw_good := lw_at (i := 492) (by decide +kernel) rfl
set_option maxRecDepth 20000 in
theorem lk_188 : (.selects y_FileTree_openOrNull.cls y_FileTree_openOrNull y_FileTree_openOrNull : Cond) ∈ lw_good := lw_at (i := 15) (by decide +kernel) rfl
set_option maxRecDepth 20000 in
theorem lk_189 : (.fieldLink R_FileTree 89 "MachineLoop$Handle" "isOfJob" "Z" : Cond) ∈ lw_good := lw_at (i := 145) (by decide +kernel) rfl
set_option maxRecDepth 20000 in
theorem lk_190 : (.methodLink R_FileTree 86 y_Handle_detach : Cond) ∈ lw_good := lw_at (i := 494) (by decide +kernel) rfl
set_option maxRecDepth 20000 in
theorem lk_191 : (.methodLink R_Handle 39 y_Handle_throughFilter : Cond) ∈ lw_good := lw_at (i := 507) (by decide +kernel) rfl
set_option maxRecDepth 20000 in
theorem lk_192 : (.static y_Handle_throughFilter : Cond) ∈ lw_good := lw_at (i := 508) (by decide +kernel) rfl
set_option maxRecDepth 20000 in
theorem lk_193 : (.methodLink R_Store 29 y_Store_isFull : Cond) ∈ lw_good := lw_at (i := 514) (by decide +kernel) rfl
set_option maxRecDepth 20000 in
theorem lk_194 : (.instanceMethod y_Store_isFull : Cond) ∈ lw_good := lw_at (i := 500) (by decide +kernel) rfl
set_option maxRecDepth 20000 in
theorem lk_195 : (.selects y_Store_isFull.cls y_Store_isFull y_Store_isFull : Cond) ∈ lw_good := lw_at (i := 501) (by decide +kernel) rfl
set_option maxRecDepth 20000 in
theorem lk_196 : (.methodLink R_FileTree 68 y_Store_isFull : Cond) ∈ lw_good := lw_at (i := 499) (by decide +kernel) rfl
set_option maxRecDepth 20000 in
theorem lk_197 : (.methodLink R_FileTree 72 y_Handle_asWritten : Cond) ∈ lw_good := lw_at (i := 503) (by decide +kernel) rfl
set_option maxRecDepth 20000 in
theorem lk_198 : (.instanceMethod y_Handle_asWritten : Cond) ∈ lw_good := lw_at (i := 504) (by decide +kernel) rfl
set_option maxRecDepth 20000 in
theorem lk_199 : (.selects y_Handle_asWritten.cls y_Handle_asWritten y_Handle_asWritten : Cond) ∈ lw_good := lw_at (i := 505) (by decide +kernel) rfl
set_option maxRecDepth 20000 in
theorem lk_200 : (.methodLink R_FileTree 76 y_Store_append : Cond) ∈ lw_good := lw_at (i := 510) (by decide +kernel) rfl
set_option maxRecDepth 20000 in
theorem lk_201 : (.instanceMethod y_Store_append : Cond) ∈ lw_good := lw_at (i := 511) (by decide +kernel) rfl
set_option maxRecDepth 20000 in
theorem lk_202 : (.selects y_Store_append.cls y_Store_append y_Store_append : Cond) ∈ lw_good := lw_at (i := 512) (by decide +kernel) rfl
set_option maxRecDepth 20000 in
theorem lk_203 : (.methodLink R_FileTree 83 y_Handle_layFilter : Cond) ∈ lw_good := lw_at (i := 519) (by decide +kernel) rfl
set_option maxRecDepth 20000 in
theorem lk_204 : (.instanceMethod y_Handle_layFilter : Cond) ∈ lw_good := lw_at (i := 520) (by decide +kernel) rfl
set_option maxRecDepth 20000 in
theorem lk_205 : (.selects y_Handle_layFilter.cls y_Handle_layFilter y_Handle_layFilter : Cond) ∈ lw_good := lw_at (i := 521) (by decide +kernel) rfl
set_option maxRecDepth 20000 in
theorem lk_206 : (.methodLink R_Handle 43 y_Store_byteAt : Cond) ∈ lw_good := lw_at (i := 531) (by decide +kernel) rfl
set_option maxRecDepth 20000 in
theorem lk_207 : (.instanceMethod y_Store_byteAt : Cond) ∈ lw_good := lw_at (i := 532) (by decide +kernel) rfl
set_option maxRecDepth 20000 in
theorem lk_208 : (.selects y_Store_byteAt.cls y_Store_byteAt y_Store_byteAt : Cond) ∈ lw_good := lw_at (i := 533) (by decide +kernel) rfl
set_option maxRecDepth 20000 in
theorem lk_209 : (.methodLink R_FileTree 79 y_Handle_nextByte : Cond) ∈ lw_good := lw_at (i := 527) (by decide +kernel) rfl
set_option maxRecDepth 20000 in
theorem lk_210 : (.instanceMethod y_Handle_nextByte : Cond) ∈ lw_good := lw_at (i := 528) (by decide +kernel) rfl
set_option maxRecDepth 20000 in
theorem lk_211 : (.selects y_Handle_nextByte.cls y_Handle_nextByte y_Handle_nextByte : Cond) ∈ lw_good := lw_at (i := 529) (by decide +kernel) rfl
set_option maxRecDepth 20000 in
theorem lk_212 : (.methodLink R_Machine 154 y_Machine_layUnlessRefused : Cond) ∈ lw_good := lw_at (i := 451) (by decide +kernel) rfl
set_option maxRecDepth 20000 in
theorem lk_213 : (.instanceMethod y_Machine_layUnlessRefused : Cond) ∈ lw_good := lw_at (i := 453) (by decide +kernel) rfl
set_option maxRecDepth 20000 in
theorem lk_214 : (.selects y_Machine_layUnlessRefused.cls y_Machine_layUnlessRefused y_Machine_layUnlessRefused : Cond) ∈ lw_good := lw_at (i := 10) (by decide +kernel) rfl
set_option maxRecDepth 20000 in
theorem lk_215 : (.methodLink R_Machine 177 y_FileTree_shutByJob : Cond) ∈ lw_good := lw_at (i := 486) (by decide +kernel) rfl
set_option maxRecDepth 20000 in
theorem lk_216 : (.instanceMethod y_FileTree_shutByJob : Cond) ∈ lw_good := lw_at (i := 487) (by decide +kernel) rfl
set_option maxRecDepth 20000 in
theorem lk_217 : (.selects y_FileTree_shutByJob.cls y_FileTree_shutByJob y_FileTree_shutByJob : Cond) ∈ lw_good := lw_at (i := 488) (by decide +kernel) rfl
set_option maxRecDepth 20000 in
theorem lk_218 : (.methodLink R_Machine 161 y_Machine_errorIfRefused : Cond) ∈ lw_good := lw_at (i := 459) (by decide +kernel) rfl
set_option maxRecDepth 20000 in
theorem lk_219 : (.static y_Machine_errorIfRefused : Cond) ∈ lw_good := lw_at (i := 460) (by decide +kernel) rfl
set_option maxRecDepth 20000 in
theorem lk_220 : (.methodLink R_Machine 182 y_FileTree_putFilter : Cond) ∈ lw_good := lw_at (i := 515) (by decide +kernel) rfl
set_option maxRecDepth 20000 in
theorem lk_221 : (.instanceMethod y_FileTree_putFilter : Cond) ∈ lw_good := lw_at (i := 516) (by decide +kernel) rfl
set_option maxRecDepth 20000 in
theorem lk_222 : (.selects y_FileTree_putFilter.cls y_FileTree_putFilter y_FileTree_putFilter : Cond) ∈ lw_good := lw_at (i := 517) (by decide +kernel) rfl
set_option maxRecDepth 20000 in
theorem lk_223 : (.methodLink R_Machine 173 y_FileTree_open : Cond) ∈ lw_good := lw_at (i := 466) (by decide +kernel) rfl
set_option maxRecDepth 20000 in
theorem lk_224 : (.instanceMethod y_FileTree_open : Cond) ∈ lw_good := lw_at (i := 467) (by decide +kernel) rfl
set_option maxRecDepth 20000 in
theorem lk_225 : (.selects y_FileTree_open.cls y_FileTree_open y_FileTree_open : Cond) ∈ lw_good := lw_at (i := 468) (by decide +kernel) rfl
set_option maxRecDepth 20000 in
theorem lk_226 : (.methodLink R_Machine 180 y_FileTree_put : Cond) ∈ lw_good := lw_at (i := 495) (by decide +kernel) rfl
set_option maxRecDepth 20000 in
theorem lk_227 : (.instanceMethod y_FileTree_put : Cond) ∈ lw_good := lw_at (i := 496) (by decide +kernel) rfl
set_option maxRecDepth 20000 in
theorem lk_228 : (.selects y_FileTree_put.cls y_FileTree_put y_FileTree_put : Cond) ∈ lw_good := lw_at (i := 497) (by decide +kernel) rfl
set_option maxRecDepth 20000 in
theorem lk_229 : (.methodLink R_Machine 185 y_FileTree_take : Cond) ∈ lw_good := lw_at (i := 523) (by decide +kernel) rfl
set_option maxRecDepth 20000 in
theorem lk_230 : (.instanceMethod y_FileTree_take : Cond) ∈ lw_good := lw_at (i := 524) (by decide +kernel) rfl
set_option maxRecDepth 20000 in
theorem lk_231 : (.selects y_FileTree_take.cls y_FileTree_take y_FileTree_take : Cond) ∈ lw_good := lw_at (i := 525) (by decide +kernel) rfl
set_option maxRecDepth 20000 in
theorem lk_232 : (.methodLink R_Machine 187 y_Machine_layByte : Cond) ∈ lw_good := lw_at (i := 535) (by decide +kernel) rfl
set_option maxRecDepth 20000 in
theorem lk_233 : (.instanceMethod y_Machine_layByte : Cond) ∈ lw_good := lw_at (i := 537) (by decide +kernel) rfl
set_option maxRecDepth 20000 in
theorem lk_234 : (.selects y_Machine_layByte.cls y_Machine_layByte y_Machine_layByte : Cond) ∈ lw_good := lw_at (i := 16) (by decide +kernel) rfl
set_option maxRecDepth 20000 in
theorem lk_235 : (.methodLink R_Numbers 19 y_Numbers_lay : Cond) ∈ lw_good := lw_at (i := 547) (by decide +kernel) rfl
set_option maxRecDepth 20000 in
theorem lk_236 : (.methodLink R_Machine 170 y_Numbers_layTwo : Cond) ∈ lw_good := lw_at (i := 543) (by decide +kernel) rfl
set_option maxRecDepth 20000 in
theorem lk_237 : (.instanceMethod y_Numbers_layTwo : Cond) ∈ lw_good := lw_at (i := 544) (by decide +kernel) rfl
set_option maxRecDepth 20000 in
theorem lk_238 : (.selects y_Numbers_layTwo.cls y_Numbers_layTwo y_Numbers_layTwo : Cond) ∈ lw_good := lw_at (i := 545) (by decide +kernel) rfl
set_option maxRecDepth 20000 in
theorem lk_239 : (.methodLink R_Machine 157 y_Resources_put : Cond) ∈ lw_good := lw_at (i := 455) (by decide +kernel) rfl
set_option maxRecDepth 20000 in
theorem lk_240 : (.instanceMethod y_Resources_put : Cond) ∈ lw_good := lw_at (i := 456) (by decide +kernel) rfl
set_option maxRecDepth 20000 in
theorem lk_241 : (.selects y_Resources_put.cls y_Resources_put y_Resources_put : Cond) ∈ lw_good := lw_at (i := 457) (by decide +kernel) rfl
set_option maxRecDepth 20000 in
theorem lk_242 : (.methodLink R_Machine 151 y_Resources_valueAt : Cond) ∈ lw_good := lw_at (i := 444) (by decide +kernel) rfl
set_option maxRecDepth 20000 in
theorem lk_243 : (.instanceMethod y_Resources_valueAt : Cond) ∈ lw_good := lw_at (i := 445) (by decide +kernel) rfl
set_option maxRecDepth 20000 in
theorem lk_244 : (.selects y_Resources_valueAt.cls y_Resources_valueAt y_Resources_valueAt : Cond) ∈ lw_good := lw_at (i := 446) (by decide +kernel) rfl
set_option maxRecDepth 20000 in
theorem lk_245 : (.methodLink R_Machine 164 y_Machine_doFileSign : Cond) ∈ lw_good := lw_at (i := 462) (by decide +kernel) rfl
set_option maxRecDepth 20000 in
theorem lk_246 : (.instanceMethod y_Machine_doFileSign : Cond) ∈ lw_good := lw_at (i := 464) (by decide +kernel) rfl
set_option maxRecDepth 20000 in
theorem lk_247 : (.selects y_Machine_doFileSign.cls y_Machine_doFileSign y_Machine_doFileSign : Cond) ∈ lw_good := lw_at (i := 11) (by decide +kernel) rfl
set_option maxRecDepth 20000 in
theorem lk_248 : (.methodLink R_Machine 148 y_Machine_request : Cond) ∈ lw_good := lw_at (i := 428) (by decide +kernel) rfl
set_option maxRecDepth 20000 in
theorem lk_249 : (.instanceMethod y_Machine_request : Cond) ∈ lw_good := lw_at (i := 430) (by decide +kernel) rfl
set_option maxRecDepth 20000 in
theorem lk_250 : (.selects y_Machine_request.cls y_Machine_request y_Machine_request : Cond) ∈ lw_good := lw_at (i := 9) (by decide +kernel) rfl
set_option maxRecDepth 20000 in
theorem lk_251 : (.fieldLink R_Machine 78 "MachineLoop$Job" "outcome" "I" : Cond) ∈ lw_good := lw_at (i := 279) (by decide +kernel) rfl
set_option maxRecDepth 20000 in
theorem lk_252 : (.methodLink R_Machine 144 y_Machine_showPage : Cond) ∈ lw_good := lw_at (i := 416) (by decide +kernel) rfl
set_option maxRecDepth 20000 in
theorem lk_253 : (.instanceMethod y_Machine_showPage : Cond) ∈ lw_good := lw_at (i := 418) (by decide +kernel) rfl
set_option maxRecDepth 20000 in
theorem lk_254 : (.selects y_Machine_showPage.cls y_Machine_showPage y_Machine_showPage : Cond) ∈ lw_good := lw_at (i := 8) (by decide +kernel) rfl
set_option maxRecDepth 20000 in
theorem lk_255 : (.methodLink R_Machine 137 y_Machine_enterLoop : Cond) ∈ lw_good := lw_at (i := 404) (by decide +kernel) rfl
set_option maxRecDepth 20000 in
theorem lk_256 : (.instanceMethod y_Machine_enterLoop : Cond) ∈ lw_good := lw_at (i := 406) (by decide +kernel) rfl
set_option maxRecDepth 20000 in
theorem lk_257 : (.selects y_Machine_enterLoop.cls y_Machine_enterLoop y_Machine_enterLoop : Cond) ∈ lw_good := lw_at (i := 6) (by decide +kernel) rfl
set_option maxRecDepth 20000 in
theorem lk_258 : (.methodLink R_Machine 141 y_Machine_comeToLoopEnd : Cond) ∈ lw_good := lw_at (i := 412) (by decide +kernel) rfl
set_option maxRecDepth 20000 in
theorem lk_259 : (.instanceMethod y_Machine_comeToLoopEnd : Cond) ∈ lw_good := lw_at (i := 414) (by decide +kernel) rfl
set_option maxRecDepth 20000 in
theorem lk_260 : (.selects y_Machine_comeToLoopEnd.cls y_Machine_comeToLoopEnd y_Machine_comeToLoopEnd : Cond) ∈ lw_good := lw_at (i := 7) (by decide +kernel) rfl
set_option maxRecDepth 20000 in
theorem lk_261 : (.methodLink R_Machine 167 y_Machine_doStackSign : Cond) ∈ lw_good := lw_at (i := 539) (by decide +kernel) rfl
set_option maxRecDepth 20000 in
theorem lk_262 : (.instanceMethod y_Machine_doStackSign : Cond) ∈ lw_good := lw_at (i := 541) (by decide +kernel) rfl
set_option maxRecDepth 20000 in
theorem lk_263 : (.selects y_Machine_doStackSign.cls y_Machine_doStackSign y_Machine_doStackSign : Cond) ∈ lw_good := lw_at (i := 17) (by decide +kernel) rfl
set_option maxRecDepth 20000 in
theorem lk_264 : (.methodLink R_Machine 133 y_Numbers_take : Cond) ∈ lw_good := lw_at (i := 400) (by decide +kernel) rfl
set_option maxRecDepth 20000 in
theorem lk_265 : (.instanceMethod y_Numbers_take : Cond) ∈ lw_good := lw_at (i := 401) (by decide +kernel) rfl
set_option maxRecDepth 20000 in
theorem lk_266 : (.selects y_Numbers_take.cls y_Numbers_take y_Numbers_take : Cond) ∈ lw_good := lw_at (i := 402) (by decide +kernel) rfl
set_option maxRecDepth 20000 in
theorem lk_267 : (.methodLink R_Machine 126 y_Machine_numbersWanted : Cond) ∈ lw_good := lw_at (i := 393) (by decide +kernel) rfl
set_option maxRecDepth 20000 in
theorem lk_268 : (.static y_Machine_numbersWanted : Cond) ∈ lw_good := lw_at (i := 394) (by decide +kernel) rfl
set_option maxRecDepth 20000 in
theorem lk_269 : (.methodLink R_Machine 129 y_Numbers_has : Cond) ∈ lw_good := lw_at (i := 396) (by decide +kernel) rfl
set_option maxRecDepth 20000 in
theorem lk_270 : (.instanceMethod y_Numbers_has : Cond) ∈ lw_good := lw_at (i := 397) (by decide +kernel) rfl
set_option maxRecDepth 20000 in
theorem lk_271 : (.selects y_Numbers_has.cls y_Numbers_has y_Numbers_has : Cond) ∈ lw_good := lw_at (i := 398) (by decide +kernel) rfl
set_option maxRecDepth 20000 in
theorem lk_272 : (.methodLink R_FileTree 98 y_Handle_putBackFilters : Cond) ∈ lw_good := lw_at (i := 568) (by decide +kernel) rfl
set_option maxRecDepth 20000 in
theorem lk_273 : (.instanceMethod y_Handle_putBackFilters : Cond) ∈ lw_good := lw_at (i := 569) (by decide +kernel) rfl
set_option maxRecDepth 20000 in
theorem lk_274 : (.selects y_Handle_putBackFilters.cls y_Handle_putBackFilters y_Handle_putBackFilters : Cond) ∈ lw_good := lw_at (i := 570) (by decide +kernel) rfl
set_option maxRecDepth 20000 in
theorem lk_275 : (.methodLink R_Machine 118 y_Device_putBack : Cond) ∈ lw_good := lw_at (i := 556) (by decide +kernel) rfl
set_option maxRecDepth 20000 in
theorem lk_276 : (.instanceMethod y_Device_putBack : Cond) ∈ lw_good := lw_at (i := 557) (by decide +kernel) rfl
set_option maxRecDepth 20000 in
theorem lk_277 : (.selects y_Device_putBack.cls y_Device_putBack y_Device_putBack : Cond) ∈ lw_good := lw_at (i := 558) (by decide +kernel) rfl
set_option maxRecDepth 20000 in
theorem lk_278 : (.methodLink R_Machine 121 y_Resources_putBack : Cond) ∈ lw_good := lw_at (i := 560) (by decide +kernel) rfl
set_option maxRecDepth 20000 in
theorem lk_279 : (.instanceMethod y_Resources_putBack : Cond) ∈ lw_good := lw_at (i := 561) (by decide +kernel) rfl
set_option maxRecDepth 20000 in
theorem lk_280 : (.selects y_Resources_putBack.cls y_Resources_putBack y_Resources_putBack : Cond) ∈ lw_good := lw_at (i := 562) (by decide +kernel) rfl
set_option maxRecDepth 20000 in
theorem lk_281 : (.methodLink R_Machine 122 y_FileTree_putBack : Cond) ∈ lw_good := lw_at (i := 564) (by decide +kernel) rfl
set_option maxRecDepth 20000 in
theorem lk_282 : (.instanceMethod y_FileTree_putBack : Cond) ∈ lw_good := lw_at (i := 565) (by decide +kernel) rfl
set_option maxRecDepth 20000 in
theorem lk_283 : (.selects y_FileTree_putBack.cls y_FileTree_putBack y_FileTree_putBack : Cond) ∈ lw_good := lw_at (i := 566) (by decide +kernel) rfl
set_option maxRecDepth 20000 in
theorem lk_284 : (.methodLink R_Machine 104 y_Machine_finish : Cond) ∈ lw_good := lw_at (i := 552) (by decide +kernel) rfl
set_option maxRecDepth 20000 in
theorem lk_285 : (.instanceMethod y_Machine_finish : Cond) ∈ lw_good := lw_at (i := 554) (by decide +kernel) rfl
set_option maxRecDepth 20000 in
theorem lk_286 : (.selects y_Machine_finish.cls y_Machine_finish y_Machine_finish : Cond) ∈ lw_good := lw_at (i := 18) (by decide +kernel) rfl
set_option maxRecDepth 20000 in
theorem lk_287 : (.fieldLink R_Machine 83 "MachineLoop$Job" "length" "I" : Cond) ∈ lw_good := lw_at (i := 275) (by decide +kernel) rfl
set_option maxRecDepth 20000 in
theorem lk_288 : (.fieldLink R_Machine 86 "MachineLoop$Job" "steps" "I" : Cond) ∈ lw_good := lw_at (i := 286) (by decide +kernel) rfl
set_option maxRecDepth 20000 in
theorem lk_289 : (.methodLink R_Machine 93 y_Job_signAt : Cond) ∈ lw_good := lw_at (i := 384) (by decide +kernel) rfl
set_option maxRecDepth 20000 in
theorem lk_290 : (.methodLink R_Machine 96 y_Machine_doSign : Cond) ∈ lw_good := lw_at (i := 385) (by decide +kernel) rfl
set_option maxRecDepth 20000 in
theorem lk_291 : (.instanceMethod y_Machine_doSign : Cond) ∈ lw_good := lw_at (i := 387) (by decide +kernel) rfl
set_option maxRecDepth 20000 in
theorem lk_292 : (.selects y_Machine_doSign.cls y_Machine_doSign y_Machine_doSign : Cond) ∈ lw_good := lw_at (i := 5) (by decide +kernel) rfl
set_option maxRecDepth 20000 in
theorem lk_293 : (.methodLink R_Machine 100 y_Job_fail : Cond) ∈ lw_good := lw_at (i := 548) (by decide +kernel) rfl
set_option maxRecDepth 20000 in
theorem lk_294 : (.instanceMethod y_Job_fail : Cond) ∈ lw_good := lw_at (i := 549) (by decide +kernel) rfl
set_option maxRecDepth 20000 in
theorem lk_295 : (.selects y_Job_fail.cls y_Job_fail y_Job_fail : Cond) ∈ lw_good := lw_at (i := 550) (by decide +kernel) rfl
set_option maxRecDepth 20000 in
theorem lk_296 : (.methodLink R_Machine 74 y_Machine_begin : Cond) ∈ lw_good := lw_at (i := 329) (by decide +kernel) rfl
set_option maxRecDepth 20000 in
theorem lk_297 : (.instanceMethod y_Machine_begin : Cond) ∈ lw_good := lw_at (i := 331) (by decide +kernel) rfl
set_option maxRecDepth 20000 in
theorem lk_298 : (.selects y_Machine_begin.cls y_Machine_begin y_Machine_begin : Cond) ∈ lw_good := lw_at (i := 1) (by decide +kernel) rfl
set_option maxRecDepth 20000 in
theorem lk_299 : (.methodLink R_ML 44 y_Machine_execute : Cond) ∈ lw_good := lw_at (i := 325) (by decide +kernel) rfl
set_option maxRecDepth 20000 in
theorem lk_300 : (.instanceMethod y_Machine_execute : Cond) ∈ lw_good := lw_at (i := 326) (by decide +kernel) rfl
set_option maxRecDepth 20000 in
theorem lk_301 : (.selects y_Machine_execute.cls y_Machine_execute y_Machine_execute : Cond) ∈ lw_good := lw_at (i := 327) (by decide +kernel) rfl
set_option maxRecDepth 20000 in
theorem lk_302 : (.fieldLink R_ML 48 "MachineLoop$Job" "error" "I" : Cond) ∈ lw_good := lw_at (i := 282) (by decide +kernel) rfl
set_option maxRecDepth 20000 in
theorem lk_303 : (.fieldLink R_ML 51 "MachineLoop$Job" "errorPlace" "I" : Cond) ∈ lw_good := lw_at (i := 284) (by decide +kernel) rfl
set_option maxRecDepth 20000 in
theorem lk_304 : (.fieldLink R_ML 54 "MachineLoop$Job" "pageCount" "I" : Cond) ∈ lw_good := lw_at (i := 277) (by decide +kernel) rfl
set_option maxRecDepth 20000 in
theorem lk_305 : (.fieldLink R_ML 57 "MachineLoop$Job" "steps" "I" : Cond) ∈ lw_good := lw_at (i := 287) (by decide +kernel) rfl
set_option maxRecDepth 20000 in
theorem lk_306 : (.fieldLink R_ML 60 "MachineLoop$Job" "flushed" "I" : Cond) ∈ lw_good := lw_at (i := 289) (by decide +kernel) rfl
set_option maxRecDepth 20000 in
theorem lk_307 : (.methodLink R_ML 63 y_Job_marksOf : Cond) ∈ lw_good := lw_at (i := 580) (by decide +kernel) rfl
set_option maxRecDepth 20000 in
theorem lk_308 : (.instanceMethod y_Job_marksOf : Cond) ∈ lw_good := lw_at (i := 581) (by decide +kernel) rfl
set_option maxRecDepth 20000 in
theorem lk_309 : (.selects y_Job_marksOf.cls y_Job_marksOf y_Job_marksOf : Cond) ∈ lw_good := lw_at (i := 582) (by decide +kernel) rfl
set_option maxRecDepth 20000 in
theorem lk_310 : (.fieldLink R_ML 67 "MachineLoop$Machine" "device" "LMachineLoop$Device;" : Cond) ∈ lw_good := lw_at (i := 216) (by decide +kernel) rfl
set_option maxRecDepth 20000 in
theorem lk_311 : (.methodLink R_ML 71 y_Device_change : Cond) ∈ lw_good := lw_at (i := 588) (by decide +kernel) rfl
set_option maxRecDepth 20000 in
theorem lk_312 : (.fieldLink R_ML 77 "MachineLoop$Machine" "resources" "LMachineLoop$Resources;" : Cond) ∈ lw_good := lw_at (i := 218) (by decide +kernel) rfl
set_option maxRecDepth 20000 in
theorem lk_313 : (.methodLink R_ML 81 y_Resources_put : Cond) ∈ lw_good := lw_at (i := 593) (by decide +kernel) rfl
set_option maxRecDepth 20000 in
theorem lk_314 : (.methodLink R_ML 87 y_Resources_valueAt : Cond) ∈ lw_good := lw_at (i := 598) (by decide +kernel) rfl
set_option maxRecDepth 20000 in
theorem lk_315 : (.fieldLink R_ML 91 "MachineLoop$Machine" "files" "LMachineLoop$FileTree;" : Cond) ∈ lw_good := lw_at (i := 220) (by decide +kernel) rfl
set_option maxRecDepth 20000 in
theorem lk_316 : (.methodLink R_ML 95 y_FileTree_open : Cond) ∈ lw_good := lw_at (i := 603) (by decide +kernel) rfl
set_option maxRecDepth 20000 in
theorem lk_317 : (.methodLink R_ML 101 y_FileTree_put : Cond) ∈ lw_good := lw_at (i := 608) (by decide +kernel) rfl
set_option maxRecDepth 20000 in
theorem lk_318 : (.methodLink R_ML 103 y_FileTree_take : Cond) ∈ lw_good := lw_at (i := 613) (by decide +kernel) rfl
set_option maxRecDepth 20000 in
theorem lk_319 : (.methodLink R_ML 106 y_FileTree_putFilter : Cond) ∈ lw_good := lw_at (i := 618) (by decide +kernel) rfl
set_option maxRecDepth 20000 in
theorem lk_320 : (.methodLink R_ML 109 y_FileTree_shut : Cond) ∈ lw_good := lw_at (i := 623) (by decide +kernel) rfl
set_option maxRecDepth 20000 in
theorem lk_321 : (.instanceMethod y_FileTree_shut : Cond) ∈ lw_good := lw_at (i := 624) (by decide +kernel) rfl
set_option maxRecDepth 20000 in
theorem lk_322 : (.selects y_FileTree_shut.cls y_FileTree_shut y_FileTree_shut : Cond) ∈ lw_good := lw_at (i := 625) (by decide +kernel) rfl
set_option maxRecDepth 20000 in
theorem lk_323 : (.methodLink R_FileTree 92 y_Store_byteAt : Cond) ∈ lw_good := lw_at (i := 639) (by decide +kernel) rfl
set_option maxRecDepth 20000 in
theorem lk_324 : (.methodLink R_ML 112 y_FileTree_outputByte : Cond) ∈ lw_good := lw_at (i := 635) (by decide +kernel) rfl
set_option maxRecDepth 20000 in
theorem lk_325 : (.instanceMethod y_FileTree_outputByte : Cond) ∈ lw_good := lw_at (i := 636) (by decide +kernel) rfl
set_option maxRecDepth 20000 in
theorem lk_326 : (.selects y_FileTree_outputByte.cls y_FileTree_outputByte y_FileTree_outputByte : Cond) ∈ lw_good := lw_at (i := 637) (by decide +kernel) rfl
set_option maxRecDepth 20000 in
theorem lk_327 : (.methodLink R_ML 115 y_FileTree_fileByte : Cond) ∈ lw_good := lw_at (i := 644) (by decide +kernel) rfl
set_option maxRecDepth 20000 in
theorem lk_328 : (.instanceMethod y_FileTree_fileByte : Cond) ∈ lw_good := lw_at (i := 645) (by decide +kernel) rfl
set_option maxRecDepth 20000 in
theorem lk_329 : (.selects y_FileTree_fileByte.cls y_FileTree_fileByte y_FileTree_fileByte : Cond) ∈ lw_good := lw_at (i := 646) (by decide +kernel) rfl
set_option maxRecDepth 20000 in
theorem lk_330 : (.fieldLink R_Mo 48 "MachineLoopModel" "open" "[Z" : Cond) ∈ lw_good := lw_at (i := 674) (by decide +kernel) rfl
set_option maxRecDepth 20000 in
theorem lk_331 : (.fieldLink R_Mo 54 "MachineLoopModel" "mode" "[I" : Cond) ∈ lw_good := lw_at (i := 676) (by decide +kernel) rfl
set_option maxRecDepth 20000 in
theorem lk_332 : (.fieldLink R_Mo 26 "MachineLoopModel" "resource" "[I" : Cond) ∈ lw_good := lw_at (i := 666) (by decide +kernel) rfl
set_option maxRecDepth 20000 in
theorem lk_333 : (.fieldLink R_Mo 83 "MachineLoopModel" "most" "I" : Cond) ∈ lw_good := lw_at (i := 659) (by decide +kernel) rfl
set_option maxRecDepth 20000 in
theorem lk_334 : (.methodLink R_Mo 1 Lib.objectInit : Cond) ∈ lw_good := lw_at (i := 656) (by decide +kernel) rfl
set_option maxRecDepth 20000 in
theorem lk_335 : (.fieldLink R_Mo 7 "MachineLoopModel" "signs" "[B" : Cond) ∈ lw_good := lw_at (i := 661) (by decide +kernel) rfl
set_option maxRecDepth 20000 in
theorem lk_336 : (.fieldLink R_Mo 13 "MachineLoopModel" "size" "[I" : Cond) ∈ lw_good := lw_at (i := 662) (by decide +kernel) rfl
set_option maxRecDepth 20000 in
theorem lk_337 : (.fieldLink R_Mo 17 "MachineLoopModel" "told" "[I" : Cond) ∈ lw_good := lw_at (i := 663) (by decide +kernel) rfl
set_option maxRecDepth 20000 in
theorem lk_338 : (.fieldLink R_Mo 20 "MachineLoopModel" "pages" "[I" : Cond) ∈ lw_good := lw_at (i := 664) (by decide +kernel) rfl
set_option maxRecDepth 20000 in
theorem lk_339 : (.fieldLink R_Mo 23 "MachineLoopModel" "setting" "[I" : Cond) ∈ lw_good := lw_at (i := 665) (by decide +kernel) rfl
set_option maxRecDepth 20000 in
theorem lk_340 : (.fieldLink R_Mo 29 "MachineLoopModel" "settingWas" "[I" : Cond) ∈ lw_good := lw_at (i := 667) (by decide +kernel) rfl
set_option maxRecDepth 20000 in
theorem lk_341 : (.fieldLink R_Mo 32 "MachineLoopModel" "resourceWas" "[I" : Cond) ∈ lw_good := lw_at (i := 668) (by decide +kernel) rfl
set_option maxRecDepth 20000 in
theorem lk_342 : (.fieldLink R_Mo 35 "MachineLoopModel" "there" "[Z" : Cond) ∈ lw_good := lw_at (i := 669) (by decide +kernel) rfl
set_option maxRecDepth 20000 in
theorem lk_343 : (.fieldLink R_Mo 39 "MachineLoopModel" "length" "[I" : Cond) ∈ lw_good := lw_at (i := 670) (by decide +kernel) rfl
set_option maxRecDepth 20000 in
theorem lk_344 : (.fieldLink R_Mo 42 "MachineLoopModel" "lies" "[B" : Cond) ∈ lw_good := lw_at (i := 671) (by decide +kernel) rfl
set_option maxRecDepth 20000 in
theorem lk_345 : (.fieldLink R_Mo 45 "MachineLoopModel" "out" "[B" : Cond) ∈ lw_good := lw_at (i := 672) (by decide +kernel) rfl
set_option maxRecDepth 20000 in
theorem lk_346 : (.fieldLink R_Mo 51 "MachineLoopModel" "name" "[I" : Cond) ∈ lw_good := lw_at (i := 675) (by decide +kernel) rfl
set_option maxRecDepth 20000 in
theorem lk_347 : (.fieldLink R_Mo 57 "MachineLoopModel" "place" "[I" : Cond) ∈ lw_good := lw_at (i := 677) (by decide +kernel) rfl
set_option maxRecDepth 20000 in
theorem lk_348 : (.fieldLink R_Mo 60 "MachineLoopModel" "filters" "[I" : Cond) ∈ lw_good := lw_at (i := 678) (by decide +kernel) rfl
set_option maxRecDepth 20000 in
theorem lk_349 : (.fieldLink R_Mo 63 "MachineLoopModel" "filter" "[I" : Cond) ∈ lw_good := lw_at (i := 679) (by decide +kernel) rfl
set_option maxRecDepth 20000 in
theorem lk_350 : (.fieldLink R_Mo 66 "MachineLoopModel" "filtersWas" "[I" : Cond) ∈ lw_good := lw_at (i := 680) (by decide +kernel) rfl
set_option maxRecDepth 20000 in
theorem lk_351 : (.fieldLink R_Mo 69 "MachineLoopModel" "own" "[Z" : Cond) ∈ lw_good := lw_at (i := 681) (by decide +kernel) rfl
set_option maxRecDepth 20000 in
theorem lk_352 : (.fieldLink R_Mo 72 "MachineLoopModel" "stack" "[I" : Cond) ∈ lw_good := lw_at (i := 687) (by decide +kernel) rfl
set_option maxRecDepth 20000 in
theorem lk_353 : (.fieldLink R_Mo 75 "MachineLoopModel" "begin" "[I" : Cond) ∈ lw_good := lw_at (i := 691) (by decide +kernel) rfl
set_option maxRecDepth 20000 in
theorem lk_354 : (.fieldLink R_Mo 78 "MachineLoopModel" "left" "[I" : Cond) ∈ lw_good := lw_at (i := 692) (by decide +kernel) rfl
set_option maxRecDepth 20000 in
theorem lk_355 : (.constantLong R_Mo 81 20000 : Cond) ∈ lw_good := lw_at (i := 657) (by decide +kernel) rfl
set_option maxRecDepth 20000 in
theorem lk_356 : (.fieldLink R_Mo 87 "MachineLoopModel" "code" "I" : Cond) ∈ lw_good := lw_at (i := 658) (by decide +kernel) rfl
set_option maxRecDepth 20000 in
theorem lk_357 : (.fieldLink R_Mo 90 "MachineLoopModel" "jobs" "I" : Cond) ∈ lw_good := lw_at (i := 660) (by decide +kernel) rfl
set_option maxRecDepth 20000 in
theorem lk_358 : (.methodLink R_Mo 93 y_Mo_noJob : Cond) ∈ lw_good := lw_at (i := 779) (by decide +kernel) rfl
set_option maxRecDepth 20000 in
theorem lk_359 : (.instanceMethod y_Mo_noJob : Cond) ∈ lw_good := lw_at (i := 781) (by decide +kernel) rfl
set_option maxRecDepth 20000 in
theorem lk_360 : (.selects y_Mo_noJob.cls y_Mo_noJob y_Mo_noJob : Cond) ∈ lw_good := lw_at (i := 19) (by decide +kernel) rfl
set_option maxRecDepth 20000 in
theorem lk_361 : (.methodLink R_Mo 97 y_Mo_in : Cond) ∈ lw_good := lw_at (i := 787) (by decide +kernel) rfl
set_option maxRecDepth 20000 in
theorem lk_362 : (.static y_Mo_in : Cond) ∈ lw_good := lw_at (i := 788) (by decide +kernel) rfl
set_option maxRecDepth 20000 in
theorem lk_363 : (.methodLink R_Mo 101 y_Mo_isSetting : Cond) ∈ lw_good := lw_at (i := 798) (by decide +kernel) rfl
set_option maxRecDepth 20000 in
theorem lk_364 : (.static y_Mo_isSetting : Cond) ∈ lw_good := lw_at (i := 799) (by decide +kernel) rfl
set_option maxRecDepth 20000 in
theorem lk_365 : (.fieldLink R_Mo 108 "MachineLoopModel" "outSize" "I" : Cond) ∈ lw_good := lw_at (i := 673) (by decide +kernel) rfl
set_option maxRecDepth 20000 in
theorem lk_366 : (.methodLink R_Mo 111 y_Mo_half : Cond) ∈ lw_good := lw_at (i := 829) (by decide +kernel) rfl
set_option maxRecDepth 20000 in
theorem lk_367 : (.static y_Mo_half : Cond) ∈ lw_good := lw_at (i := 830) (by decide +kernel) rfl
set_option maxRecDepth 20000 in
theorem lk_368 : (.methodLink R_Mo 105 y_Mo_isOpen : Cond) ∈ lw_good := lw_at (i := 825) (by decide +kernel) rfl
set_option maxRecDepth 20000 in
theorem lk_369 : (.instanceMethod y_Mo_isOpen : Cond) ∈ lw_good := lw_at (i := 827) (by decide +kernel) rfl
set_option maxRecDepth 20000 in
theorem lk_370 : (.selects y_Mo_isOpen.cls y_Mo_isOpen y_Mo_isOpen : Cond) ∈ lw_good := lw_at (i := 22) (by decide +kernel) rfl
set_option maxRecDepth 20000 in
theorem lk_371 : (.methodLink R_Mo 115 y_Mo_opened : Cond) ∈ lw_good := lw_at (i := 813) (by decide +kernel) rfl
set_option maxRecDepth 20000 in
theorem lk_372 : (.instanceMethod y_Mo_opened : Cond) ∈ lw_good := lw_at (i := 815) (by decide +kernel) rfl
set_option maxRecDepth 20000 in
theorem lk_373 : (.selects y_Mo_opened.cls y_Mo_opened y_Mo_opened : Cond) ∈ lw_good := lw_at (i := 20) (by decide +kernel) rfl
set_option maxRecDepth 20000 in
theorem lk_374 : (.methodLink R_Mo 119 y_Mo_written : Cond) ∈ lw_good := lw_at (i := 821) (by decide +kernel) rfl
set_option maxRecDepth 20000 in
theorem lk_375 : (.instanceMethod y_Mo_written : Cond) ∈ lw_good := lw_at (i := 823) (by decide +kernel) rfl
set_option maxRecDepth 20000 in
theorem lk_376 : (.selects y_Mo_written.cls y_Mo_written y_Mo_written : Cond) ∈ lw_good := lw_at (i := 21) (by decide +kernel) rfl
set_option maxRecDepth 20000 in
theorem lk_377 : (.methodLink R_Mo 122 y_Mo_taken : Cond) ∈ lw_good := lw_at (i := 836) (by decide +kernel) rfl
set_option maxRecDepth 20000 in
theorem lk_378 : (.instanceMethod y_Mo_taken : Cond) ∈ lw_good := lw_at (i := 838) (by decide +kernel) rfl
set_option maxRecDepth 20000 in
theorem lk_379 : (.selects y_Mo_taken.cls y_Mo_taken y_Mo_taken : Cond) ∈ lw_good := lw_at (i := 23) (by decide +kernel) rfl
set_option maxRecDepth 20000 in
theorem lk_380 : (.methodLink R_Mo 125 y_Mo_filtered : Cond) ∈ lw_good := lw_at (i := 844) (by decide +kernel) rfl
set_option maxRecDepth 20000 in
theorem lk_381 : (.instanceMethod y_Mo_filtered : Cond) ∈ lw_good := lw_at (i := 846) (by decide +kernel) rfl
set_option maxRecDepth 20000 in
theorem lk_382 : (.selects y_Mo_filtered.cls y_Mo_filtered y_Mo_filtered : Cond) ∈ lw_good := lw_at (i := 24) (by decide +kernel) rfl
set_option maxRecDepth 20000 in
theorem lk_383 : (.fieldLink R_Mo 128 "MachineLoopModel" "fails" "Z" : Cond) ∈ lw_good := lw_at (i := 682) (by decide +kernel) rfl
set_option maxRecDepth 20000 in
theorem lk_384 : (.fieldLink R_Mo 132 "MachineLoopModel" "job" "I" : Cond) ∈ lw_good := lw_at (i := 683) (by decide +kernel) rfl
set_option maxRecDepth 20000 in
theorem lk_385 : (.methodLink R_Mo 135 y_Mo_sign : Cond) ∈ lw_good := lw_at (i := 872) (by decide +kernel) rfl
set_option maxRecDepth 20000 in
theorem lk_386 : (.instanceMethod y_Mo_sign : Cond) ∈ lw_good := lw_at (i := 874) (by decide +kernel) rfl
set_option maxRecDepth 20000 in
theorem lk_387 : (.selects y_Mo_sign.cls y_Mo_sign y_Mo_sign : Cond) ∈ lw_good := lw_at (i := 26) (by decide +kernel) rfl
set_option maxRecDepth 20000 in
theorem lk_388 : (.methodLink R_Mo 138 y_Mo_behindRemark : Cond) ∈ lw_good := lw_at (i := 876) (by decide +kernel) rfl
set_option maxRecDepth 20000 in
theorem lk_389 : (.instanceMethod y_Mo_behindRemark : Cond) ∈ lw_good := lw_at (i := 878) (by decide +kernel) rfl
set_option maxRecDepth 20000 in
theorem lk_390 : (.selects y_Mo_behindRemark.cls y_Mo_behindRemark y_Mo_behindRemark : Cond) ∈ lw_good := lw_at (i := 27) (by decide +kernel) rfl
set_option maxRecDepth 20000 in
theorem lk_391 : (.fieldLink R_Mo 141 "MachineLoopModel" "high" "I" : Cond) ∈ lw_good := lw_at (i := 686) (by decide +kernel) rfl
set_option maxRecDepth 20000 in
theorem lk_392 : (.fieldLink R_Mo 144 "MachineLoopModel" "error" "I" : Cond) ∈ lw_good := lw_at (i := 693) (by decide +kernel) rfl
set_option maxRecDepth 20000 in
theorem lk_393 : (.fieldLink R_Mo 150 "MachineLoopModel" "marks" "I" : Cond) ∈ lw_good := lw_at (i := 688) (by decide +kernel) rfl
set_option maxRecDepth 20000 in
theorem lk_394 : (.fieldLink R_Mo 147 "MachineLoopModel" "shown" "I" : Cond) ∈ lw_good := lw_at (i := 689) (by decide +kernel) rfl
set_option maxRecDepth 20000 in
theorem lk_395 : (.fieldLink R_Mo 153 "MachineLoopModel" "at" "I" : Cond) ∈ lw_good := lw_at (i := 684) (by decide +kernel) rfl
set_option maxRecDepth 20000 in
theorem lk_396 : (.methodLink R_Mo 156 y_Mo_endOf : Cond) ∈ lw_good := lw_at (i := 922) (by decide +kernel) rfl
set_option maxRecDepth 20000 in
theorem lk_397 : (.instanceMethod y_Mo_endOf : Cond) ∈ lw_good := lw_at (i := 924) (by decide +kernel) rfl
set_option maxRecDepth 20000 in
theorem lk_398 : (.selects y_Mo_endOf.cls y_Mo_endOf y_Mo_endOf : Cond) ∈ lw_good := lw_at (i := 37) (by decide +kernel) rfl
set_option maxRecDepth 20000 in
theorem lk_399 : (.fieldLink R_Mo 159 "MachineLoopModel" "loops" "I" : Cond) ∈ lw_good := lw_at (i := 690) (by decide +kernel) rfl
set_option maxRecDepth 20000 in
theorem lk_400 : (.methodLink R_Mo 162 y_Mo_resource : Cond) ∈ lw_good := lw_at (i := 904) (by decide +kernel) rfl
set_option maxRecDepth 20000 in
theorem lk_401 : (.instanceMethod y_Mo_resource : Cond) ∈ lw_good := lw_at (i := 806) (by decide +kernel) rfl
set_option maxRecDepth 20000 in
theorem lk_402 : (.selects y_Mo_resource.cls y_Mo_resource y_Mo_resource : Cond) ∈ lw_good := lw_at (i := 807) (by decide +kernel) rfl
set_option maxRecDepth 20000 in
theorem lk_403 : (.methodLink R_Mo 164 y_Mo_lay : Cond) ∈ lw_good := lw_at (i := 887) (by decide +kernel) rfl
set_option maxRecDepth 20000 in
theorem lk_404 : (.instanceMethod y_Mo_lay : Cond) ∈ lw_good := lw_at (i := 889) (by decide +kernel) rfl
set_option maxRecDepth 20000 in
theorem lk_405 : (.selects y_Mo_lay.cls y_Mo_lay y_Mo_lay : Cond) ∈ lw_good := lw_at (i := 29) (by decide +kernel) rfl
set_option maxRecDepth 20000 in
theorem lk_406 : (.methodLink R_Mo 168 y_Mo_device : Cond) ∈ lw_good := lw_at (i := 899) (by decide +kernel) rfl
set_option maxRecDepth 20000 in
theorem lk_407 : (.instanceMethod y_Mo_device : Cond) ∈ lw_good := lw_at (i := 795) (by decide +kernel) rfl
set_option maxRecDepth 20000 in
theorem lk_408 : (.selects y_Mo_device.cls y_Mo_device y_Mo_device : Cond) ∈ lw_good := lw_at (i := 796) (by decide +kernel) rfl
set_option maxRecDepth 20000 in
theorem lk_409 : (.methodLink R_Mo 184 y_Mo_define : Cond) ∈ lw_good := lw_at (i := 905) (by decide +kernel) rfl
set_option maxRecDepth 20000 in
theorem lk_410 : (.instanceMethod y_Mo_define : Cond) ∈ lw_good := lw_at (i := 802) (by decide +kernel) rfl
set_option maxRecDepth 20000 in
theorem lk_411 : (.selects y_Mo_define.cls y_Mo_define y_Mo_define : Cond) ∈ lw_good := lw_at (i := 803) (by decide +kernel) rfl
set_option maxRecDepth 20000 in
theorem lk_412 : (.methodLink R_Mo 181 y_Mo_readResource : Cond) ∈ lw_good := lw_at (i := 900) (by decide +kernel) rfl
set_option maxRecDepth 20000 in
theorem lk_413 : (.instanceMethod y_Mo_readResource : Cond) ∈ lw_good := lw_at (i := 902) (by decide +kernel) rfl
set_option maxRecDepth 20000 in
theorem lk_414 : (.selects y_Mo_readResource.cls y_Mo_readResource y_Mo_readResource : Cond) ∈ lw_good := lw_at (i := 32) (by decide +kernel) rfl
set_option maxRecDepth 20000 in
theorem lk_415 : (.methodLink R_Mo 191 y_Mo_closeFile : Cond) ∈ lw_good := lw_at (i := 910) (by decide +kernel) rfl
set_option maxRecDepth 20000 in
theorem lk_416 : (.instanceMethod y_Mo_closeFile : Cond) ∈ lw_good := lw_at (i := 912) (by decide +kernel) rfl
set_option maxRecDepth 20000 in
theorem lk_417 : (.selects y_Mo_closeFile.cls y_Mo_closeFile y_Mo_closeFile : Cond) ∈ lw_good := lw_at (i := 34) (by decide +kernel) rfl
set_option maxRecDepth 20000 in
theorem lk_418 : (.methodLink R_Mo 177 y_Mo_set : Cond) ∈ lw_good := lw_at (i := 895) (by decide +kernel) rfl
set_option maxRecDepth 20000 in
theorem lk_419 : (.instanceMethod y_Mo_set : Cond) ∈ lw_good := lw_at (i := 897) (by decide +kernel) rfl
set_option maxRecDepth 20000 in
theorem lk_420 : (.selects y_Mo_set.cls y_Mo_set y_Mo_set : Cond) ∈ lw_good := lw_at (i := 31) (by decide +kernel) rfl
set_option maxRecDepth 20000 in
theorem lk_421 : (.methodLink R_Mo 188 y_Mo_openFile : Cond) ∈ lw_good := lw_at (i := 906) (by decide +kernel) rfl
set_option maxRecDepth 20000 in
theorem lk_422 : (.instanceMethod y_Mo_openFile : Cond) ∈ lw_good := lw_at (i := 908) (by decide +kernel) rfl
set_option maxRecDepth 20000 in
theorem lk_423 : (.selects y_Mo_openFile.cls y_Mo_openFile y_Mo_openFile : Cond) ∈ lw_good := lw_at (i := 33) (by decide +kernel) rfl
set_option maxRecDepth 20000 in
theorem lk_424 : (.fieldLink R_Mo 203 "MachineLoopModel" "done" "Z" : Cond) ∈ lw_good := lw_at (i := 694) (by decide +kernel) rfl
set_option maxRecDepth 20000 in
theorem lk_425 : (.methodLink R_Mo 194 y_Mo_readFile : Cond) ∈ lw_good := lw_at (i := 914) (by decide +kernel) rfl
set_option maxRecDepth 20000 in
theorem lk_426 : (.instanceMethod y_Mo_readFile : Cond) ∈ lw_good := lw_at (i := 916) (by decide +kernel) rfl
set_option maxRecDepth 20000 in
theorem lk_427 : (.selects y_Mo_readFile.cls y_Mo_readFile y_Mo_readFile : Cond) ∈ lw_good := lw_at (i := 35) (by decide +kernel) rfl
set_option maxRecDepth 20000 in
theorem lk_428 : (.methodLink R_Mo 174 y_Mo_show : Cond) ∈ lw_good := lw_at (i := 891) (by decide +kernel) rfl
set_option maxRecDepth 20000 in
theorem lk_429 : (.instanceMethod y_Mo_show : Cond) ∈ lw_good := lw_at (i := 893) (by decide +kernel) rfl
set_option maxRecDepth 20000 in
theorem lk_430 : (.selects y_Mo_show.cls y_Mo_show y_Mo_show : Cond) ∈ lw_good := lw_at (i := 30) (by decide +kernel) rfl
set_option maxRecDepth 20000 in
theorem lk_431 : (.methodLink R_Mo 197 y_Mo_beginLoop : Cond) ∈ lw_good := lw_at (i := 918) (by decide +kernel) rfl
set_option maxRecDepth 20000 in
theorem lk_432 : (.instanceMethod y_Mo_beginLoop : Cond) ∈ lw_good := lw_at (i := 920) (by decide +kernel) rfl
set_option maxRecDepth 20000 in
theorem lk_433 : (.selects y_Mo_beginLoop.cls y_Mo_beginLoop y_Mo_beginLoop : Cond) ∈ lw_good := lw_at (i := 36) (by decide +kernel) rfl
set_option maxRecDepth 20000 in
theorem lk_434 : (.methodLink R_Mo 200 y_Mo_endLoop : Cond) ∈ lw_good := lw_at (i := 926) (by decide +kernel) rfl
set_option maxRecDepth 20000 in
theorem lk_435 : (.instanceMethod y_Mo_endLoop : Cond) ∈ lw_good := lw_at (i := 928) (by decide +kernel) rfl
set_option maxRecDepth 20000 in
theorem lk_436 : (.selects y_Mo_endLoop.cls y_Mo_endLoop y_Mo_endLoop : Cond) ∈ lw_good := lw_at (i := 38) (by decide +kernel) rfl
set_option maxRecDepth 20000 in
theorem lk_437 : (.methodLink R_Mo 171 y_Mo_wants : Cond) ∈ lw_good := lw_at (i := 884) (by decide +kernel) rfl
set_option maxRecDepth 20000 in
theorem lk_438 : (.static y_Mo_wants : Cond) ∈ lw_good := lw_at (i := 885) (by decide +kernel) rfl
set_option maxRecDepth 20000 in
theorem lk_439 : (.fieldLink R_Mo 206 "MachineLoopModel" "steps" "I" : Cond) ∈ lw_good := lw_at (i := 685) (by decide +kernel) rfl
set_option maxRecDepth 20000 in
theorem lk_440 : (.methodLink R_Mo 209 y_Mo_act : Cond) ∈ lw_good := lw_at (i := 880) (by decide +kernel) rfl
set_option maxRecDepth 20000 in
theorem lk_441 : (.instanceMethod y_Mo_act : Cond) ∈ lw_good := lw_at (i := 882) (by decide +kernel) rfl
set_option maxRecDepth 20000 in
theorem lk_442 : (.selects y_Mo_act.cls y_Mo_act y_Mo_act : Cond) ∈ lw_good := lw_at (i := 28) (by decide +kernel) rfl
set_option maxRecDepth 20000 in
theorem lk_443 : (.methodLink R_Mo 212 y_Mo_runJob : Cond) ∈ lw_good := lw_at (i := 868) (by decide +kernel) rfl
set_option maxRecDepth 20000 in
theorem lk_444 : (.instanceMethod y_Mo_runJob : Cond) ∈ lw_good := lw_at (i := 870) (by decide +kernel) rfl
set_option maxRecDepth 20000 in
theorem lk_445 : (.selects y_Mo_runJob.cls y_Mo_runJob y_Mo_runJob : Cond) ∈ lw_good := lw_at (i := 25) (by decide +kernel) rfl
set_option maxRecDepth 20000 in
theorem lk_446 : (.methodLink R_Law 82 y_Mo_startFails : Cond) ∈ lw_good := lw_at (i := 852) (by decide +kernel) rfl
set_option maxRecDepth 20000 in
theorem lk_447 : (.instanceMethod y_Mo_startFails : Cond) ∈ lw_good := lw_at (i := 853) (by decide +kernel) rfl
set_option maxRecDepth 20000 in
theorem lk_448 : (.selects y_Mo_startFails.cls y_Mo_startFails y_Mo_startFails : Cond) ∈ lw_good := lw_at (i := 854) (by decide +kernel) rfl
set_option maxRecDepth 20000 in
theorem lk_449 : (.methodLink R_Law 78 y_ML_startFails : Cond) ∈ lw_good := lw_at (i := 627) (by decide +kernel) rfl
set_option maxRecDepth 20000 in
theorem lk_450 : (.instanceMethod y_ML_startFails : Cond) ∈ lw_good := lw_at (i := 628) (by decide +kernel) rfl
set_option maxRecDepth 20000 in
theorem lk_451 : (.selects y_ML_startFails.cls y_ML_startFails y_ML_startFails : Cond) ∈ lw_good := lw_at (i := 629) (by decide +kernel) rfl
set_option maxRecDepth 20000 in
theorem lk_452 : (.methodLink R_Law 21 y_ML_job : Cond) ∈ lw_good := lw_at (i := 262) (by decide +kernel) rfl
set_option maxRecDepth 20000 in
theorem lk_453 : (.instanceMethod y_ML_job : Cond) ∈ lw_good := lw_at (i := 263) (by decide +kernel) rfl
set_option maxRecDepth 20000 in
theorem lk_454 : (.selects y_ML_job.cls y_ML_job y_ML_job : Cond) ∈ lw_good := lw_at (i := 264) (by decide +kernel) rfl
set_option maxRecDepth 20000 in
theorem lk_455 : (.methodLink R_Law 25 y_Mo_job : Cond) ∈ lw_good := lw_at (i := 771) (by decide +kernel) rfl
set_option maxRecDepth 20000 in
theorem lk_456 : (.instanceMethod y_Mo_job : Cond) ∈ lw_good := lw_at (i := 772) (by decide +kernel) rfl
set_option maxRecDepth 20000 in
theorem lk_457 : (.selects y_Mo_job.cls y_Mo_job y_Mo_job : Cond) ∈ lw_good := lw_at (i := 773) (by decide +kernel) rfl
set_option maxRecDepth 20000 in
theorem lk_458 : (.methodLink R_Law 26 y_ML_add : Cond) ∈ lw_good := lw_at (i := 309) (by decide +kernel) rfl
set_option maxRecDepth 20000 in
theorem lk_459 : (.instanceMethod y_ML_add : Cond) ∈ lw_good := lw_at (i := 310) (by decide +kernel) rfl
set_option maxRecDepth 20000 in
theorem lk_460 : (.selects y_ML_add.cls y_ML_add y_ML_add : Cond) ∈ lw_good := lw_at (i := 311) (by decide +kernel) rfl
set_option maxRecDepth 20000 in
theorem lk_461 : (.methodLink R_Law 30 y_Mo_add : Cond) ∈ lw_good := lw_at (i := 775) (by decide +kernel) rfl
set_option maxRecDepth 20000 in
theorem lk_462 : (.instanceMethod y_Mo_add : Cond) ∈ lw_good := lw_at (i := 776) (by decide +kernel) rfl
set_option maxRecDepth 20000 in
theorem lk_463 : (.selects y_Mo_add.cls y_Mo_add y_Mo_add : Cond) ∈ lw_good := lw_at (i := 777) (by decide +kernel) rfl
set_option maxRecDepth 20000 in
theorem lk_464 : (.methodLink R_Law 31 y_ML_run : Cond) ∈ lw_good := lw_at (i := 321) (by decide +kernel) rfl
set_option maxRecDepth 20000 in
theorem lk_465 : (.instanceMethod y_ML_run : Cond) ∈ lw_good := lw_at (i := 322) (by decide +kernel) rfl
set_option maxRecDepth 20000 in
theorem lk_466 : (.selects y_ML_run.cls y_ML_run y_ML_run : Cond) ∈ lw_good := lw_at (i := 323) (by decide +kernel) rfl
set_option maxRecDepth 20000 in
theorem lk_467 : (.methodLink R_Law 34 y_Mo_run : Cond) ∈ lw_good := lw_at (i := 864) (by decide +kernel) rfl
set_option maxRecDepth 20000 in
theorem lk_468 : (.instanceMethod y_Mo_run : Cond) ∈ lw_good := lw_at (i := 865) (by decide +kernel) rfl
set_option maxRecDepth 20000 in
theorem lk_469 : (.selects y_Mo_run.cls y_Mo_run y_Mo_run : Cond) ∈ lw_good := lw_at (i := 866) (by decide +kernel) rfl
set_option maxRecDepth 20000 in
theorem lk_470 : (.methodLink R_Law 35 y_ML_ended : Cond) ∈ lw_good := lw_at (i := 572) (by decide +kernel) rfl
set_option maxRecDepth 20000 in
theorem lk_471 : (.instanceMethod y_ML_ended : Cond) ∈ lw_good := lw_at (i := 573) (by decide +kernel) rfl
set_option maxRecDepth 20000 in
theorem lk_472 : (.selects y_ML_ended.cls y_ML_ended y_ML_ended : Cond) ∈ lw_good := lw_at (i := 574) (by decide +kernel) rfl
set_option maxRecDepth 20000 in
theorem lk_473 : (.methodLink R_Law 39 y_Mo_ended : Cond) ∈ lw_good := lw_at (i := 783) (by decide +kernel) rfl
set_option maxRecDepth 20000 in
theorem lk_474 : (.instanceMethod y_Mo_ended : Cond) ∈ lw_good := lw_at (i := 784) (by decide +kernel) rfl
set_option maxRecDepth 20000 in
theorem lk_475 : (.selects y_Mo_ended.cls y_Mo_ended y_Mo_ended : Cond) ∈ lw_good := lw_at (i := 785) (by decide +kernel) rfl
set_option maxRecDepth 20000 in
theorem lk_476 : (.methodLink R_Law 40 y_ML_page : Cond) ∈ lw_good := lw_at (i := 576) (by decide +kernel) rfl
set_option maxRecDepth 20000 in
theorem lk_477 : (.instanceMethod y_ML_page : Cond) ∈ lw_good := lw_at (i := 577) (by decide +kernel) rfl
set_option maxRecDepth 20000 in
theorem lk_478 : (.selects y_ML_page.cls y_ML_page y_ML_page : Cond) ∈ lw_good := lw_at (i := 578) (by decide +kernel) rfl
set_option maxRecDepth 20000 in
theorem lk_479 : (.methodLink R_Law 43 y_Mo_page : Cond) ∈ lw_good := lw_at (i := 790) (by decide +kernel) rfl
set_option maxRecDepth 20000 in
theorem lk_480 : (.instanceMethod y_Mo_page : Cond) ∈ lw_good := lw_at (i := 791) (by decide +kernel) rfl
set_option maxRecDepth 20000 in
theorem lk_481 : (.selects y_Mo_page.cls y_Mo_page y_Mo_page : Cond) ∈ lw_good := lw_at (i := 792) (by decide +kernel) rfl
set_option maxRecDepth 20000 in
theorem lk_482 : (.methodLink R_Law 44 y_ML_device : Cond) ∈ lw_good := lw_at (i := 584) (by decide +kernel) rfl
set_option maxRecDepth 20000 in
theorem lk_483 : (.instanceMethod y_ML_device : Cond) ∈ lw_good := lw_at (i := 585) (by decide +kernel) rfl
set_option maxRecDepth 20000 in
theorem lk_484 : (.selects y_ML_device.cls y_ML_device y_ML_device : Cond) ∈ lw_good := lw_at (i := 586) (by decide +kernel) rfl
set_option maxRecDepth 20000 in
theorem lk_485 : (.methodLink R_Law 47 y_Mo_device : Cond) ∈ lw_good := lw_at (i := 794) (by decide +kernel) rfl
set_option maxRecDepth 20000 in
theorem lk_486 : (.methodLink R_Law 48 y_ML_define : Cond) ∈ lw_good := lw_at (i := 589) (by decide +kernel) rfl
set_option maxRecDepth 20000 in
theorem lk_487 : (.instanceMethod y_ML_define : Cond) ∈ lw_good := lw_at (i := 590) (by decide +kernel) rfl
set_option maxRecDepth 20000 in
theorem lk_488 : (.selects y_ML_define.cls y_ML_define y_ML_define : Cond) ∈ lw_good := lw_at (i := 591) (by decide +kernel) rfl
set_option maxRecDepth 20000 in
theorem lk_489 : (.methodLink R_Law 52 y_Mo_define : Cond) ∈ lw_good := lw_at (i := 801) (by decide +kernel) rfl
set_option maxRecDepth 20000 in
theorem lk_490 : (.methodLink R_Law 53 y_ML_resource : Cond) ∈ lw_good := lw_at (i := 594) (by decide +kernel) rfl
set_option maxRecDepth 20000 in
theorem lk_491 : (.instanceMethod y_ML_resource : Cond) ∈ lw_good := lw_at (i := 595) (by decide +kernel) rfl
set_option maxRecDepth 20000 in
theorem lk_492 : (.selects y_ML_resource.cls y_ML_resource y_ML_resource : Cond) ∈ lw_good := lw_at (i := 596) (by decide +kernel) rfl
set_option maxRecDepth 20000 in
theorem lk_493 : (.methodLink R_Law 56 y_Mo_resource : Cond) ∈ lw_good := lw_at (i := 805) (by decide +kernel) rfl
set_option maxRecDepth 20000 in
theorem lk_494 : (.methodLink R_Law 57 y_ML_file : Cond) ∈ lw_good := lw_at (i := 599) (by decide +kernel) rfl
set_option maxRecDepth 20000 in
theorem lk_495 : (.instanceMethod y_ML_file : Cond) ∈ lw_good := lw_at (i := 600) (by decide +kernel) rfl
set_option maxRecDepth 20000 in
theorem lk_496 : (.selects y_ML_file.cls y_ML_file y_ML_file : Cond) ∈ lw_good := lw_at (i := 601) (by decide +kernel) rfl
set_option maxRecDepth 20000 in
theorem lk_497 : (.methodLink R_Law 60 y_Mo_file : Cond) ∈ lw_good := lw_at (i := 809) (by decide +kernel) rfl
set_option maxRecDepth 20000 in
theorem lk_498 : (.instanceMethod y_Mo_file : Cond) ∈ lw_good := lw_at (i := 810) (by decide +kernel) rfl
set_option maxRecDepth 20000 in
theorem lk_499 : (.selects y_Mo_file.cls y_Mo_file y_Mo_file : Cond) ∈ lw_good := lw_at (i := 811) (by decide +kernel) rfl
set_option maxRecDepth 20000 in
theorem lk_500 : (.methodLink R_Law 61 y_ML_write : Cond) ∈ lw_good := lw_at (i := 604) (by decide +kernel) rfl
set_option maxRecDepth 20000 in
theorem lk_501 : (.instanceMethod y_ML_write : Cond) ∈ lw_good := lw_at (i := 605) (by decide +kernel) rfl
set_option maxRecDepth 20000 in
theorem lk_502 : (.selects y_ML_write.cls y_ML_write y_ML_write : Cond) ∈ lw_good := lw_at (i := 606) (by decide +kernel) rfl
set_option maxRecDepth 20000 in
theorem lk_503 : (.methodLink R_Law 64 y_Mo_write : Cond) ∈ lw_good := lw_at (i := 817) (by decide +kernel) rfl
set_option maxRecDepth 20000 in
theorem lk_504 : (.instanceMethod y_Mo_write : Cond) ∈ lw_good := lw_at (i := 818) (by decide +kernel) rfl
set_option maxRecDepth 20000 in
theorem lk_505 : (.selects y_Mo_write.cls y_Mo_write y_Mo_write : Cond) ∈ lw_good := lw_at (i := 819) (by decide +kernel) rfl
set_option maxRecDepth 20000 in
theorem lk_506 : (.methodLink R_Law 65 y_ML_read : Cond) ∈ lw_good := lw_at (i := 609) (by decide +kernel) rfl
set_option maxRecDepth 20000 in
theorem lk_507 : (.instanceMethod y_ML_read : Cond) ∈ lw_good := lw_at (i := 610) (by decide +kernel) rfl
set_option maxRecDepth 20000 in
theorem lk_508 : (.selects y_ML_read.cls y_ML_read y_ML_read : Cond) ∈ lw_good := lw_at (i := 611) (by decide +kernel) rfl
set_option maxRecDepth 20000 in
theorem lk_509 : (.methodLink R_Law 69 y_Mo_read : Cond) ∈ lw_good := lw_at (i := 832) (by decide +kernel) rfl
set_option maxRecDepth 20000 in
theorem lk_510 : (.instanceMethod y_Mo_read : Cond) ∈ lw_good := lw_at (i := 833) (by decide +kernel) rfl
set_option maxRecDepth 20000 in
theorem lk_511 : (.selects y_Mo_read.cls y_Mo_read y_Mo_read : Cond) ∈ lw_good := lw_at (i := 834) (by decide +kernel) rfl
set_option maxRecDepth 20000 in
theorem lk_512 : (.methodLink R_Law 70 y_ML_filter : Cond) ∈ lw_good := lw_at (i := 614) (by decide +kernel) rfl
set_option maxRecDepth 20000 in
theorem lk_513 : (.instanceMethod y_ML_filter : Cond) ∈ lw_good := lw_at (i := 615) (by decide +kernel) rfl
set_option maxRecDepth 20000 in
theorem lk_514 : (.selects y_ML_filter.cls y_ML_filter y_ML_filter : Cond) ∈ lw_good := lw_at (i := 616) (by decide +kernel) rfl
set_option maxRecDepth 20000 in
theorem lk_515 : (.methodLink R_Law 73 y_Mo_filter : Cond) ∈ lw_good := lw_at (i := 840) (by decide +kernel) rfl
set_option maxRecDepth 20000 in
theorem lk_516 : (.instanceMethod y_Mo_filter : Cond) ∈ lw_good := lw_at (i := 841) (by decide +kernel) rfl
set_option maxRecDepth 20000 in
theorem lk_517 : (.selects y_Mo_filter.cls y_Mo_filter y_Mo_filter : Cond) ∈ lw_good := lw_at (i := 842) (by decide +kernel) rfl
set_option maxRecDepth 20000 in
theorem lk_518 : (.methodLink R_Law 74 y_ML_close : Cond) ∈ lw_good := lw_at (i := 619) (by decide +kernel) rfl
set_option maxRecDepth 20000 in
theorem lk_519 : (.instanceMethod y_ML_close : Cond) ∈ lw_good := lw_at (i := 620) (by decide +kernel) rfl
set_option maxRecDepth 20000 in
theorem lk_520 : (.selects y_ML_close.cls y_ML_close y_ML_close : Cond) ∈ lw_good := lw_at (i := 621) (by decide +kernel) rfl
set_option maxRecDepth 20000 in
theorem lk_521 : (.methodLink R_Law 77 y_Mo_close : Cond) ∈ lw_good := lw_at (i := 848) (by decide +kernel) rfl
set_option maxRecDepth 20000 in
theorem lk_522 : (.instanceMethod y_Mo_close : Cond) ∈ lw_good := lw_at (i := 849) (by decide +kernel) rfl
set_option maxRecDepth 20000 in
theorem lk_523 : (.selects y_Mo_close.cls y_Mo_close y_Mo_close : Cond) ∈ lw_good := lw_at (i := 850) (by decide +kernel) rfl
set_option maxRecDepth 20000 in
theorem lk_524 : (.methodLink R_Law 83 y_ML_output : Cond) ∈ lw_good := lw_at (i := 631) (by decide +kernel) rfl
set_option maxRecDepth 20000 in
theorem lk_525 : (.instanceMethod y_ML_output : Cond) ∈ lw_good := lw_at (i := 632) (by decide +kernel) rfl
set_option maxRecDepth 20000 in
theorem lk_526 : (.selects y_ML_output.cls y_ML_output y_ML_output : Cond) ∈ lw_good := lw_at (i := 633) (by decide +kernel) rfl
set_option maxRecDepth 20000 in
theorem lk_527 : (.methodLink R_Law 86 y_Mo_output : Cond) ∈ lw_good := lw_at (i := 856) (by decide +kernel) rfl
set_option maxRecDepth 20000 in
theorem lk_528 : (.instanceMethod y_Mo_output : Cond) ∈ lw_good := lw_at (i := 857) (by decide +kernel) rfl
set_option maxRecDepth 20000 in
theorem lk_529 : (.selects y_Mo_output.cls y_Mo_output y_Mo_output : Cond) ∈ lw_good := lw_at (i := 858) (by decide +kernel) rfl
set_option maxRecDepth 20000 in
theorem lk_530 : (.methodLink R_Law 87 y_ML_lies : Cond) ∈ lw_good := lw_at (i := 640) (by decide +kernel) rfl
set_option maxRecDepth 20000 in
theorem lk_531 : (.instanceMethod y_ML_lies : Cond) ∈ lw_good := lw_at (i := 641) (by decide +kernel) rfl
set_option maxRecDepth 20000 in
theorem lk_532 : (.selects y_ML_lies.cls y_ML_lies y_ML_lies : Cond) ∈ lw_good := lw_at (i := 642) (by decide +kernel) rfl
set_option maxRecDepth 20000 in
theorem lk_533 : (.methodLink R_Law 90 y_Mo_lies : Cond) ∈ lw_good := lw_at (i := 860) (by decide +kernel) rfl
set_option maxRecDepth 20000 in
theorem lk_534 : (.instanceMethod y_Mo_lies : Cond) ∈ lw_good := lw_at (i := 861) (by decide +kernel) rfl
set_option maxRecDepth 20000 in
theorem lk_535 : (.selects y_Mo_lies.cls y_Mo_lies y_Mo_lies : Cond) ∈ lw_good := lw_at (i := 862) (by decide +kernel) rfl
set_option maxRecDepth 20000 in
theorem lk_536 : (.classLink R_Law 7 "MachineLoop" : Cond) ∈ lw_good := lw_at (i := 53) (by decide +kernel) rfl
set_option maxRecDepth 20000 in
theorem lk_537 : (.methodLink R_Law 9 y_Law_cell : Cond) ∈ lw_good := lw_at (i := 648) (by decide +kernel) rfl
set_option maxRecDepth 20000 in
theorem lk_538 : (.static y_Law_cell : Cond) ∈ lw_good := lw_at (i := 649) (by decide +kernel) rfl
set_option maxRecDepth 20000 in
theorem lk_539 : (.methodLink R_Law 15 y_ML_init : Cond) ∈ lw_good := lw_at (i := 55) (by decide +kernel) rfl
set_option maxRecDepth 20000 in
theorem lk_540 : (.instanceMethod y_ML_init : Cond) ∈ lw_good := lw_at (i := 56) (by decide +kernel) rfl
set_option maxRecDepth 20000 in
theorem lk_541 : (.classLink R_Law 18 "MachineLoopModel" : Cond) ∈ lw_good := lw_at (i := 651) (by decide +kernel) rfl
set_option maxRecDepth 20000 in
theorem lk_542 : (.methodLink R_Law 20 y_Mo_init : Cond) ∈ lw_good := lw_at (i := 653) (by decide +kernel) rfl
set_option maxRecDepth 20000 in
theorem lk_543 : (.instanceMethod y_Mo_init : Cond) ∈ lw_good := lw_at (i := 654) (by decide +kernel) rfl
set_option maxRecDepth 20000 in
theorem lk_544 : (.lays "MachineLoop" "MachineLoop" "startsFail" "Z" : Cond) ∈ lw_good := lw_at (i := 259) (by decide +kernel) rfl
set_option maxRecDepth 20000 in
theorem lk_545 : (.lays "MachineLoop" "MachineLoop" "jobCount" "I" : Cond) ∈ lw_good := lw_at (i := 257) (by decide +kernel) rfl
set_option maxRecDepth 20000 in
theorem lk_546 : (.laysFinal "MachineLoop" "MachineLoop" "machine" "LMachineLoop$Machine;" : Cond) ∈ lw_good := lw_at (i := 255) (by decide +kernel) rfl
set_option maxRecDepth 20000 in
theorem lk_547 : (.laysFinal "MachineLoop" "MachineLoop" "jobs" "[LMachineLoop$Job;" : Cond) ∈ lw_good := lw_at (i := 253) (by decide +kernel) rfl
set_option maxRecDepth 20000 in
theorem lk_548 : (.lays "MachineLoop$Machine" "MachineLoop$Machine" "nextPlace" "I" : Cond) ∈ lw_good := lw_at (i := 246) (by decide +kernel) rfl
set_option maxRecDepth 20000 in
theorem lk_549 : (.lays "MachineLoop$Machine" "MachineLoop$Machine" "marks" "I" : Cond) ∈ lw_good := lw_at (i := 244) (by decide +kernel) rfl
set_option maxRecDepth 20000 in
theorem lk_550 : (.lays "MachineLoop$Machine" "MachineLoop$Machine" "loopCount" "I" : Cond) ∈ lw_good := lw_at (i := 242) (by decide +kernel) rfl
set_option maxRecDepth 20000 in
theorem lk_551 : (.laysFinal "MachineLoop$Machine" "MachineLoop$Machine" "timesLeft" "[I" : Cond) ∈ lw_good := lw_at (i := 240) (by decide +kernel) rfl
set_option maxRecDepth 20000 in
theorem lk_552 : (.laysFinal "MachineLoop$Machine" "MachineLoop$Machine" "plan" "LMachineLoop$Plan;" : Cond) ∈ lw_good := lw_at (i := 238) (by decide +kernel) rfl
set_option maxRecDepth 20000 in
theorem lk_553 : (.laysFinal "MachineLoop$Machine" "MachineLoop$Machine" "stack" "LMachineLoop$Numbers;" : Cond) ∈ lw_good := lw_at (i := 236) (by decide +kernel) rfl
set_option maxRecDepth 20000 in
theorem lk_554 : (.laysFinal "MachineLoop$Machine" "MachineLoop$Machine" "stepLimit" "I" : Cond) ∈ lw_good := lw_at (i := 234) (by decide +kernel) rfl
set_option maxRecDepth 20000 in
theorem lk_555 : (.laysFinal "MachineLoop$Machine" "MachineLoop$Machine" "files" "LMachineLoop$FileTree;" : Cond) ∈ lw_good := lw_at (i := 232) (by decide +kernel) rfl
set_option maxRecDepth 20000 in
theorem lk_556 : (.laysFinal "MachineLoop$Machine" "MachineLoop$Machine" "resources" "LMachineLoop$Resources;" : Cond) ∈ lw_good := lw_at (i := 230) (by decide +kernel) rfl
set_option maxRecDepth 20000 in
theorem lk_557 : (.laysFinal "MachineLoop$Machine" "MachineLoop$Machine" "device" "LMachineLoop$Device;" : Cond) ∈ lw_good := lw_at (i := 228) (by decide +kernel) rfl
set_option maxRecDepth 20000 in
theorem lk_558 : (.laysFinal "MachineLoop$Device" "MachineLoop$Device" "kept" "[I" : Cond) ∈ lw_good := lw_at (i := 81) (by decide +kernel) rfl
set_option maxRecDepth 20000 in
theorem lk_559 : (.laysFinal "MachineLoop$Device" "MachineLoop$Device" "settings" "[I" : Cond) ∈ lw_good := lw_at (i := 79) (by decide +kernel) rfl
set_option maxRecDepth 20000 in
theorem lk_560 : (.laysFinal "MachineLoop$Resources" "MachineLoop$Resources" "kept" "[I" : Cond) ∈ lw_good := lw_at (i := 95) (by decide +kernel) rfl
set_option maxRecDepth 20000 in
theorem lk_561 : (.laysFinal "MachineLoop$Resources" "MachineLoop$Resources" "values" "[I" : Cond) ∈ lw_good := lw_at (i := 93) (by decide +kernel) rfl
set_option maxRecDepth 20000 in
theorem lk_562 : (.laysFinal "MachineLoop$FileTree" "MachineLoop$FileTree" "handles" "[LMachineLoop$Handle;" : Cond) ∈ lw_good := lw_at (i := 173) (by decide +kernel) rfl
set_option maxRecDepth 20000 in
theorem lk_563 : (.laysFinal "MachineLoop$FileTree" "MachineLoop$FileTree" "output" "LMachineLoop$Store;" : Cond) ∈ lw_good := lw_at (i := 171) (by decide +kernel) rfl
set_option maxRecDepth 20000 in
theorem lk_564 : (.laysFinal "MachineLoop$FileTree" "MachineLoop$FileTree" "stores" "[LMachineLoop$Store;" : Cond) ∈ lw_good := lw_at (i := 169) (by decide +kernel) rfl
set_option maxRecDepth 20000 in
theorem lk_565 : (.lays "MachineLoop$Numbers" "MachineLoop$Numbers" "height" "I" : Cond) ∈ lw_good := lw_at (i := 193) (by decide +kernel) rfl
set_option maxRecDepth 20000 in
theorem lk_566 : (.laysFinal "MachineLoop$Numbers" "MachineLoop$Numbers" "numbers" "[I" : Cond) ∈ lw_good := lw_at (i := 191) (by decide +kernel) rfl
set_option maxRecDepth 20000 in
theorem lk_567 : (.lays "MachineLoop$Plan" "MachineLoop$Plan" "length" "I" : Cond) ∈ lw_good := lw_at (i := 212) (by decide +kernel) rfl
set_option maxRecDepth 20000 in
theorem lk_568 : (.laysFinal "MachineLoop$Plan" "MachineLoop$Plan" "openBraces" "[I" : Cond) ∈ lw_good := lw_at (i := 210) (by decide +kernel) rfl
set_option maxRecDepth 20000 in
theorem lk_569 : (.laysFinal "MachineLoop$Plan" "MachineLoop$Plan" "mates" "[I" : Cond) ∈ lw_good := lw_at (i := 208) (by decide +kernel) rfl
set_option maxRecDepth 20000 in
theorem lk_570 : (.laysFinal "MachineLoop$Plan" "MachineLoop$Plan" "doneFrom" "[I" : Cond) ∈ lw_good := lw_at (i := 206) (by decide +kernel) rfl
set_option maxRecDepth 20000 in
theorem lk_571 : (.lays "MachineLoop$Job" "MachineLoop$Job" "flushed" "I" : Cond) ∈ lw_good := lw_at (i := 306) (by decide +kernel) rfl
set_option maxRecDepth 20000 in
theorem lk_572 : (.lays "MachineLoop$Job" "MachineLoop$Job" "steps" "I" : Cond) ∈ lw_good := lw_at (i := 304) (by decide +kernel) rfl
set_option maxRecDepth 20000 in
theorem lk_573 : (.lays "MachineLoop$Job" "MachineLoop$Job" "errorPlace" "I" : Cond) ∈ lw_good := lw_at (i := 302) (by decide +kernel) rfl
set_option maxRecDepth 20000 in
theorem lk_574 : (.lays "MachineLoop$Job" "MachineLoop$Job" "error" "I" : Cond) ∈ lw_good := lw_at (i := 300) (by decide +kernel) rfl
set_option maxRecDepth 20000 in
theorem lk_575 : (.lays "MachineLoop$Job" "MachineLoop$Job" "outcome" "I" : Cond) ∈ lw_good := lw_at (i := 298) (by decide +kernel) rfl
set_option maxRecDepth 20000 in
theorem lk_576 : (.lays "MachineLoop$Job" "MachineLoop$Job" "pageCount" "I" : Cond) ∈ lw_good := lw_at (i := 296) (by decide +kernel) rfl
set_option maxRecDepth 20000 in
theorem lk_577 : (.lays "MachineLoop$Job" "MachineLoop$Job" "length" "I" : Cond) ∈ lw_good := lw_at (i := 294) (by decide +kernel) rfl
set_option maxRecDepth 20000 in
theorem lk_578 : (.laysFinal "MachineLoop$Job" "MachineLoop$Job" "pages" "[I" : Cond) ∈ lw_good := lw_at (i := 292) (by decide +kernel) rfl
set_option maxRecDepth 20000 in
theorem lk_579 : (.laysFinal "MachineLoop$Job" "MachineLoop$Job" "signs" "[B" : Cond) ∈ lw_good := lw_at (i := 290) (by decide +kernel) rfl
set_option maxRecDepth 20000 in
theorem lk_580 : (.lays "MachineLoop$Store" "MachineLoop$Store" "isThere" "Z" : Cond) ∈ lw_good := lw_at (i := 122) (by decide +kernel) rfl
set_option maxRecDepth 20000 in
theorem lk_581 : (.lays "MachineLoop$Store" "MachineLoop$Store" "size" "I" : Cond) ∈ lw_good := lw_at (i := 120) (by decide +kernel) rfl
set_option maxRecDepth 20000 in
theorem lk_582 : (.laysFinal "MachineLoop$Store" "MachineLoop$Store" "bytes" "[B" : Cond) ∈ lw_good := lw_at (i := 118) (by decide +kernel) rfl
set_option maxRecDepth 20000 in
theorem lk_583 : (.lays "MachineLoop$Handle" "MachineLoop$Handle" "isOfJob" "Z" : Cond) ∈ lw_good := lw_at (i := 158) (by decide +kernel) rfl
set_option maxRecDepth 20000 in
theorem lk_584 : (.lays "MachineLoop$Handle" "MachineLoop$Handle" "mode" "I" : Cond) ∈ lw_good := lw_at (i := 156) (by decide +kernel) rfl
set_option maxRecDepth 20000 in
theorem lk_585 : (.lays "MachineLoop$Handle" "MachineLoop$Handle" "store" "LMachineLoop$Store;" : Cond) ∈ lw_good := lw_at (i := 154) (by decide +kernel) rfl
set_option maxRecDepth 20000 in
theorem lk_586 : (.lays "MachineLoop$Handle" "MachineLoop$Handle" "place" "I" : Cond) ∈ lw_good := lw_at (i := 152) (by decide +kernel) rfl
set_option maxRecDepth 20000 in
theorem lk_587 : (.lays "MachineLoop$Handle" "MachineLoop$Handle" "keptFilterCount" "I" : Cond) ∈ lw_good := lw_at (i := 150) (by decide +kernel) rfl
set_option maxRecDepth 20000 in
theorem lk_588 : (.lays "MachineLoop$Handle" "MachineLoop$Handle" "filterCount" "I" : Cond) ∈ lw_good := lw_at (i := 148) (by decide +kernel) rfl
set_option maxRecDepth 20000 in
theorem lk_589 : (.laysFinal "MachineLoop$Handle" "MachineLoop$Handle" "filters" "[I" : Cond) ∈ lw_good := lw_at (i := 146) (by decide +kernel) rfl
set_option maxRecDepth 20000 in
theorem lk_590 : (.lays "MachineLoopModel" "MachineLoopModel" "done" "Z" : Cond) ∈ lw_good := lw_at (i := 767) (by decide +kernel) rfl
set_option maxRecDepth 20000 in
theorem lk_591 : (.lays "MachineLoopModel" "MachineLoopModel" "error" "I" : Cond) ∈ lw_good := lw_at (i := 765) (by decide +kernel) rfl
set_option maxRecDepth 20000 in
theorem lk_592 : (.laysFinal "MachineLoopModel" "MachineLoopModel" "left" "[I" : Cond) ∈ lw_good := lw_at (i := 763) (by decide +kernel) rfl
set_option maxRecDepth 20000 in
theorem lk_593 : (.laysFinal "MachineLoopModel" "MachineLoopModel" "begin" "[I" : Cond) ∈ lw_good := lw_at (i := 761) (by decide +kernel) rfl
set_option maxRecDepth 20000 in
theorem lk_594 : (.lays "MachineLoopModel" "MachineLoopModel" "loops" "I" : Cond) ∈ lw_good := lw_at (i := 759) (by decide +kernel) rfl
set_option maxRecDepth 20000 in
theorem lk_595 : (.lays "MachineLoopModel" "MachineLoopModel" "shown" "I" : Cond) ∈ lw_good := lw_at (i := 757) (by decide +kernel) rfl
set_option maxRecDepth 20000 in
theorem lk_596 : (.lays "MachineLoopModel" "MachineLoopModel" "marks" "I" : Cond) ∈ lw_good := lw_at (i := 755) (by decide +kernel) rfl
set_option maxRecDepth 20000 in
theorem lk_597 : (.laysFinal "MachineLoopModel" "MachineLoopModel" "stack" "[I" : Cond) ∈ lw_good := lw_at (i := 753) (by decide +kernel) rfl
set_option maxRecDepth 20000 in
theorem lk_598 : (.lays "MachineLoopModel" "MachineLoopModel" "high" "I" : Cond) ∈ lw_good := lw_at (i := 751) (by decide +kernel) rfl
set_option maxRecDepth 20000 in
theorem lk_599 : (.lays "MachineLoopModel" "MachineLoopModel" "steps" "I" : Cond) ∈ lw_good := lw_at (i := 749) (by decide +kernel) rfl
set_option maxRecDepth 20000 in
theorem lk_600 : (.lays "MachineLoopModel" "MachineLoopModel" "at" "I" : Cond) ∈ lw_good := lw_at (i := 747) (by decide +kernel) rfl
set_option maxRecDepth 20000 in
theorem lk_601 : (.lays "MachineLoopModel" "MachineLoopModel" "job" "I" : Cond) ∈ lw_good := lw_at (i := 745) (by decide +kernel) rfl
set_option maxRecDepth 20000 in
theorem lk_602 : (.lays "MachineLoopModel" "MachineLoopModel" "fails" "Z" : Cond) ∈ lw_good := lw_at (i := 743) (by decide +kernel) rfl
set_option maxRecDepth 20000 in
theorem lk_603 : (.laysFinal "MachineLoopModel" "MachineLoopModel" "own" "[Z" : Cond) ∈ lw_good := lw_at (i := 741) (by decide +kernel) rfl
set_option maxRecDepth 20000 in
theorem lk_604 : (.laysFinal "MachineLoopModel" "MachineLoopModel" "filtersWas" "[I" : Cond) ∈ lw_good := lw_at (i := 739) (by decide +kernel) rfl
set_option maxRecDepth 20000 in
theorem lk_605 : (.laysFinal "MachineLoopModel" "MachineLoopModel" "filter" "[I" : Cond) ∈ lw_good := lw_at (i := 737) (by decide +kernel) rfl
set_option maxRecDepth 20000 in
theorem lk_606 : (.laysFinal "MachineLoopModel" "MachineLoopModel" "filters" "[I" : Cond) ∈ lw_good := lw_at (i := 735) (by decide +kernel) rfl
set_option maxRecDepth 20000 in
theorem lk_607 : (.laysFinal "MachineLoopModel" "MachineLoopModel" "place" "[I" : Cond) ∈ lw_good := lw_at (i := 733) (by decide +kernel) rfl
set_option maxRecDepth 20000 in
theorem lk_608 : (.laysFinal "MachineLoopModel" "MachineLoopModel" "mode" "[I" : Cond) ∈ lw_good := lw_at (i := 731) (by decide +kernel) rfl
set_option maxRecDepth 20000 in
theorem lk_609 : (.laysFinal "MachineLoopModel" "MachineLoopModel" "name" "[I" : Cond) ∈ lw_good := lw_at (i := 729) (by decide +kernel) rfl
set_option maxRecDepth 20000 in
theorem lk_610 : (.laysFinal "MachineLoopModel" "MachineLoopModel" "open" "[Z" : Cond) ∈ lw_good := lw_at (i := 727) (by decide +kernel) rfl
set_option maxRecDepth 20000 in
theorem lk_611 : (.lays "MachineLoopModel" "MachineLoopModel" "outSize" "I" : Cond) ∈ lw_good := lw_at (i := 725) (by decide +kernel) rfl
set_option maxRecDepth 20000 in
theorem lk_612 : (.laysFinal "MachineLoopModel" "MachineLoopModel" "out" "[B" : Cond) ∈ lw_good := lw_at (i := 723) (by decide +kernel) rfl
set_option maxRecDepth 20000 in
theorem lk_613 : (.laysFinal "MachineLoopModel" "MachineLoopModel" "lies" "[B" : Cond) ∈ lw_good := lw_at (i := 721) (by decide +kernel) rfl
set_option maxRecDepth 20000 in
theorem lk_614 : (.laysFinal "MachineLoopModel" "MachineLoopModel" "length" "[I" : Cond) ∈ lw_good := lw_at (i := 719) (by decide +kernel) rfl
set_option maxRecDepth 20000 in
theorem lk_615 : (.laysFinal "MachineLoopModel" "MachineLoopModel" "there" "[Z" : Cond) ∈ lw_good := lw_at (i := 717) (by decide +kernel) rfl
set_option maxRecDepth 20000 in
theorem lk_616 : (.laysFinal "MachineLoopModel" "MachineLoopModel" "resourceWas" "[I" : Cond) ∈ lw_good := lw_at (i := 715) (by decide +kernel) rfl
set_option maxRecDepth 20000 in
theorem lk_617 : (.laysFinal "MachineLoopModel" "MachineLoopModel" "settingWas" "[I" : Cond) ∈ lw_good := lw_at (i := 713) (by decide +kernel) rfl
set_option maxRecDepth 20000 in
theorem lk_618 : (.laysFinal "MachineLoopModel" "MachineLoopModel" "resource" "[I" : Cond) ∈ lw_good := lw_at (i := 711) (by decide +kernel) rfl
set_option maxRecDepth 20000 in
theorem lk_619 : (.laysFinal "MachineLoopModel" "MachineLoopModel" "setting" "[I" : Cond) ∈ lw_good := lw_at (i := 709) (by decide +kernel) rfl
set_option maxRecDepth 20000 in
theorem lk_620 : (.laysFinal "MachineLoopModel" "MachineLoopModel" "pages" "[I" : Cond) ∈ lw_good := lw_at (i := 707) (by decide +kernel) rfl
set_option maxRecDepth 20000 in
theorem lk_621 : (.laysFinal "MachineLoopModel" "MachineLoopModel" "told" "[I" : Cond) ∈ lw_good := lw_at (i := 705) (by decide +kernel) rfl
set_option maxRecDepth 20000 in
theorem lk_622 : (.laysFinal "MachineLoopModel" "MachineLoopModel" "size" "[I" : Cond) ∈ lw_good := lw_at (i := 703) (by decide +kernel) rfl
set_option maxRecDepth 20000 in
theorem lk_623 : (.laysFinal "MachineLoopModel" "MachineLoopModel" "signs" "[B" : Cond) ∈ lw_good := lw_at (i := 701) (by decide +kernel) rfl
set_option maxRecDepth 20000 in
theorem lk_624 : (.lays "MachineLoopModel" "MachineLoopModel" "jobs" "I" : Cond) ∈ lw_good := lw_at (i := 699) (by decide +kernel) rfl
set_option maxRecDepth 20000 in
theorem lk_625 : (.laysFinal "MachineLoopModel" "MachineLoopModel" "most" "I" : Cond) ∈ lw_good := lw_at (i := 697) (by decide +kernel) rfl
set_option maxRecDepth 20000 in
theorem lk_626 : (.lays "MachineLoopModel" "MachineLoopModel" "code" "I" : Cond) ∈ lw_good := lw_at (i := 695) (by decide +kernel) rfl
set_option maxRecDepth 20000 in
theorem lk_627 : (.code y_Device_init b_Device_init 2 none : Cond) ∈ lw_good := lw_at (i := 73) rfl rfl
set_option maxRecDepth 20000 in
theorem lk_628 : (.initialized "MachineLoop$Device" : Cond) ∈ lw_good := lw_at (i := 42) (by decide +kernel) rfl
set_option maxRecDepth 20000 in
theorem lk_629 : (.code y_Resources_init b_Resources_init 2 none : Cond) ∈ lw_good := lw_at (i := 89) rfl rfl
set_option maxRecDepth 20000 in
theorem lk_630 : (.initialized "MachineLoop$Resources" : Cond) ∈ lw_good := lw_at (i := 43) (by decide +kernel) rfl
set_option maxRecDepth 20000 in
theorem lk_631 : (.code y_Store_init b_Store_init 2 none : Cond) ∈ lw_good := lw_at (i := 109) rfl rfl
set_option maxRecDepth 20000 in
theorem lk_632 : (.initialized "MachineLoop$Store" : Cond) ∈ lw_good := lw_at (i := 45) (by decide +kernel) rfl
set_option maxRecDepth 20000 in
theorem lk_633 : (.code y_Handle_detach b_Handle_detach 1 none : Cond) ∈ lw_good := lw_at (i := 135) rfl rfl
set_option maxRecDepth 20000 in
theorem lk_634 : (.initialized "MachineLoop$Handle" : Cond) ∈ lw_good := lw_at (i := 47) (by decide +kernel) rfl
set_option maxRecDepth 20000 in
theorem lk_635 : (.code y_Handle_init b_Handle_init 1 none : Cond) ∈ lw_good := lw_at (i := 130) rfl rfl
set_option maxRecDepth 20000 in
theorem lk_636 : (.code y_Handle_attach b_Handle_attach 4 none : Cond) ∈ lw_good := lw_at (i := 164) rfl rfl
set_option maxRecDepth 20000 in
theorem lk_637 : (.code y_FileTree_init b_FileTree_init 3 none : Cond) ∈ lw_good := lw_at (i := 102) rfl rfl
set_option maxRecDepth 20000 in
theorem lk_638 : (.initialized "MachineLoop$FileTree" : Cond) ∈ lw_good := lw_at (i := 44) (by decide +kernel) rfl
set_option maxRecDepth 20000 in
theorem lk_639 : (.code y_Numbers_init b_Numbers_init 1 none : Cond) ∈ lw_good := lw_at (i := 187) rfl rfl
set_option maxRecDepth 20000 in
theorem lk_640 : (.initialized "MachineLoop$Numbers" : Cond) ∈ lw_good := lw_at (i := 48) (by decide +kernel) rfl
set_option maxRecDepth 20000 in
theorem lk_641 : (.code y_Plan_init b_Plan_init 1 none : Cond) ∈ lw_good := lw_at (i := 200) rfl rfl
set_option maxRecDepth 20000 in
theorem lk_642 : (.initialized "MachineLoop$Plan" : Cond) ∈ lw_good := lw_at (i := 49) (by decide +kernel) rfl
set_option maxRecDepth 20000 in
theorem lk_643 : (.code y_Machine_init b_Machine_init 3 none : Cond) ∈ lw_good := lw_at (i := 67) rfl rfl
set_option maxRecDepth 20000 in
theorem lk_644 : (.initialized "MachineLoop$Machine" : Cond) ∈ lw_good := lw_at (i := 41) (by decide +kernel) rfl
set_option maxRecDepth 20000 in
theorem lk_645 : (.code y_ML_init b_ML_init 3 none : Cond) ∈ lw_good := lw_at (i := 57) rfl rfl
set_option maxRecDepth 20000 in
theorem lk_646 : (.initialized "MachineLoop" : Cond) ∈ lw_good := lw_at (i := 40) (by decide +kernel) rfl
set_option maxRecDepth 20000 in
theorem lk_647 : (.code y_Job_init b_Job_init 1 none : Cond) ∈ lw_good := lw_at (i := 269) rfl rfl
set_option maxRecDepth 20000 in
theorem lk_648 : (.initialized "MachineLoop$Job" : Cond) ∈ lw_good := lw_at (i := 51) (by decide +kernel) rfl
set_option maxRecDepth 20000 in
theorem lk_649 : (.code y_ML_job b_ML_job 1 (some .int) : Cond) ∈ lw_good := lw_at (i := 265) rfl rfl
set_option maxRecDepth 20000 in
theorem lk_650 : (.code y_ML_jobOrNull b_ML_jobOrNull 2 (some (.object "MachineLoop$Job")) : Cond) ∈ lw_good := lw_at (i := 316) rfl rfl
set_option maxRecDepth 20000 in
theorem lk_651 : (.code y_Job_append b_Job_append 2 (some .int) : Cond) ∈ lw_good := lw_at (i := 320) rfl rfl
set_option maxRecDepth 20000 in
theorem lk_652 : (.code y_ML_add b_ML_add 4 (some .int) : Cond) ∈ lw_good := lw_at (i := 312) rfl rfl
set_option maxRecDepth 20000 in
theorem lk_653 : (.code y_Device_keep b_Device_keep 1 none : Cond) ∈ lw_good := lw_at (i := 336) rfl rfl
set_option maxRecDepth 20000 in
theorem lk_654 : (.code y_Resources_keep b_Resources_keep 1 none : Cond) ∈ lw_good := lw_at (i := 343) rfl rfl
set_option maxRecDepth 20000 in
theorem lk_655 : (.code y_FileTree_handleOrNull b_FileTree_handleOrNull 2 (some (.object "MachineLoop$Handle")) : Cond) ∈ lw_good := lw_at (i := 352) rfl rfl
set_option maxRecDepth 20000 in
theorem lk_656 : (.code y_Handle_keepFilters b_Handle_keepFilters 1 none : Cond) ∈ lw_good := lw_at (i := 356) rfl rfl
set_option maxRecDepth 20000 in
theorem lk_657 : (.code y_FileTree_keep b_FileTree_keep 3 none : Cond) ∈ lw_good := lw_at (i := 348) rfl rfl
set_option maxRecDepth 20000 in
theorem lk_658 : (.code y_Job_signAt b_Job_signAt 2 (some .int) : Cond) ∈ lw_good := lw_at (i := 371) rfl rfl
set_option maxRecDepth 20000 in
theorem lk_659 : (.code y_Plan_findDoneSigns b_Plan_findDoneSigns 5 none : Cond) ∈ lw_good := lw_at (i := 367) rfl rfl
set_option maxRecDepth 20000 in
theorem lk_660 : (.code y_Plan_findMates b_Plan_findMates 5 none : Cond) ∈ lw_good := lw_at (i := 375) rfl rfl
set_option maxRecDepth 20000 in
theorem lk_661 : (.code y_Plan_prepare b_Plan_prepare 2 none : Cond) ∈ lw_good := lw_at (i := 360) rfl rfl
set_option maxRecDepth 20000 in
theorem lk_662 : (.code y_Numbers_clear b_Numbers_clear 1 none : Cond) ∈ lw_good := lw_at (i := 379) rfl rfl
set_option maxRecDepth 20000 in
theorem lk_663 : (.code y_Plan_firstDoneFrom b_Plan_firstDoneFrom 2 (some .int) : Cond) ∈ lw_good := lw_at (i := 383) rfl rfl
set_option maxRecDepth 20000 in
theorem lk_664 : (.code y_Machine_begin b_Machine_begin 2 none : Cond) ∈ lw_good := lw_at (i := 332) rfl rfl
set_option maxRecDepth 20000 in
theorem lk_665 : (.code y_Numbers_lay b_Numbers_lay 2 (some .int) : Cond) ∈ lw_good := lw_at (i := 392) rfl rfl
set_option maxRecDepth 20000 in
theorem lk_666 : (.code y_Machine_numbersWanted b_Machine_numbersWanted 1 (some .int) : Cond) ∈ lw_good := lw_at (i := 395) rfl rfl
set_option maxRecDepth 20000 in
theorem lk_667 : (.code y_Numbers_has b_Numbers_has 2 (some .boolean) : Cond) ∈ lw_good := lw_at (i := 399) rfl rfl
set_option maxRecDepth 20000 in
theorem lk_668 : (.code y_Numbers_take b_Numbers_take 1 (some .int) : Cond) ∈ lw_good := lw_at (i := 403) rfl rfl
set_option maxRecDepth 20000 in
theorem lk_669 : (.code y_Plan_mateOf b_Plan_mateOf 2 (some .int) : Cond) ∈ lw_good := lw_at (i := 411) rfl rfl
set_option maxRecDepth 20000 in
theorem lk_670 : (.code y_Machine_enterLoop b_Machine_enterLoop 4 (some .int) : Cond) ∈ lw_good := lw_at (i := 407) rfl rfl
set_option maxRecDepth 20000 in
theorem lk_671 : (.code y_Machine_comeToLoopEnd b_Machine_comeToLoopEnd 3 (some .int) : Cond) ∈ lw_good := lw_at (i := 415) rfl rfl
set_option maxRecDepth 20000 in
theorem lk_672 : (.code y_Device_copies b_Device_copies 1 (some .int) : Cond) ∈ lw_good := lw_at (i := 423) rfl rfl
set_option maxRecDepth 20000 in
theorem lk_673 : (.code y_Job_show b_Job_show 4 (some .boolean) : Cond) ∈ lw_good := lw_at (i := 427) rfl rfl
set_option maxRecDepth 20000 in
theorem lk_674 : (.code y_Machine_showPage b_Machine_showPage 2 (some .int) : Cond) ∈ lw_good := lw_at (i := 419) rfl rfl
set_option maxRecDepth 20000 in
theorem lk_675 : (.code y_Device_change b_Device_change 3 (some .boolean) : Cond) ∈ lw_good := lw_at (i := 435) rfl rfl
set_option maxRecDepth 20000 in
theorem lk_676 : (.code y_Device_passesOverWrongRequests b_Device_passesOverWrongRequests 1 (some .boolean) : Cond) ∈ lw_good := lw_at (i := 443) rfl rfl
set_option maxRecDepth 20000 in
theorem lk_677 : (.code y_Machine_request b_Machine_request 4 (some .int) : Cond) ∈ lw_good := lw_at (i := 431) rfl rfl
set_option maxRecDepth 20000 in
theorem lk_678 : (.code y_Resources_slotOf b_Resources_slotOf 2 (some .int) : Cond) ∈ lw_good := lw_at (i := 450) rfl rfl
set_option maxRecDepth 20000 in
theorem lk_679 : (.code y_Resources_valueAt b_Resources_valueAt 4 (some .int) : Cond) ∈ lw_good := lw_at (i := 447) rfl rfl
set_option maxRecDepth 20000 in
theorem lk_680 : (.code y_Machine_layUnlessRefused b_Machine_layUnlessRefused 3 (some .int) : Cond) ∈ lw_good := lw_at (i := 454) rfl rfl
set_option maxRecDepth 20000 in
theorem lk_681 : (.code y_Resources_put b_Resources_put 5 (some .int) : Cond) ∈ lw_good := lw_at (i := 458) rfl rfl
set_option maxRecDepth 20000 in
theorem lk_682 : (.code y_Machine_errorIfRefused b_Machine_errorIfRefused 2 (some .int) : Cond) ∈ lw_good := lw_at (i := 461) rfl rfl
set_option maxRecDepth 20000 in
theorem lk_683 : (.code y_FileTree_storeOrNull b_FileTree_storeOrNull 2 (some (.object "MachineLoop$Store")) : Cond) ∈ lw_good := lw_at (i := 473) rfl rfl
set_option maxRecDepth 20000 in
theorem lk_684 : (.code y_FileTree_isHeldAgainst b_FileTree_isHeldAgainst 5 (some .boolean) : Cond) ∈ lw_good := lw_at (i := 477) rfl rfl
set_option maxRecDepth 20000 in
theorem lk_685 : (.code y_FileTree_freeHandle b_FileTree_freeHandle 3 (some .int) : Cond) ∈ lw_good := lw_at (i := 481) rfl rfl
set_option maxRecDepth 20000 in
theorem lk_686 : (.code y_Store_makeEmpty b_Store_makeEmpty 1 none : Cond) ∈ lw_good := lw_at (i := 485) rfl rfl
set_option maxRecDepth 20000 in
theorem lk_687 : (.code y_FileTree_open b_FileTree_open 7 (some .int) : Cond) ∈ lw_good := lw_at (i := 469) rfl rfl
set_option maxRecDepth 20000 in
theorem lk_688 : (.code y_FileTree_openOrNull b_FileTree_openOrNull 3 (some (.object "MachineLoop$Handle")) : Cond) ∈ lw_good := lw_at (i := 493) rfl rfl
set_option maxRecDepth 20000 in
theorem lk_689 : (.code y_FileTree_shutByJob b_FileTree_shutByJob 3 (some .int) : Cond) ∈ lw_good := lw_at (i := 489) rfl rfl
set_option maxRecDepth 20000 in
theorem lk_690 : (.code y_Store_isFull b_Store_isFull 1 (some .boolean) : Cond) ∈ lw_good := lw_at (i := 502) rfl rfl
set_option maxRecDepth 20000 in
theorem lk_691 : (.code y_Handle_throughFilter b_Handle_throughFilter 3 (some .int) : Cond) ∈ lw_good := lw_at (i := 509) rfl rfl
set_option maxRecDepth 20000 in
theorem lk_692 : (.code y_Handle_asWritten b_Handle_asWritten 4 (some .int) : Cond) ∈ lw_good := lw_at (i := 506) rfl rfl
set_option maxRecDepth 20000 in
theorem lk_693 : (.code y_Store_append b_Store_append 2 none : Cond) ∈ lw_good := lw_at (i := 513) rfl rfl
set_option maxRecDepth 20000 in
theorem lk_694 : (.code y_FileTree_put b_FileTree_put 4 (some .int) : Cond) ∈ lw_good := lw_at (i := 498) rfl rfl
set_option maxRecDepth 20000 in
theorem lk_695 : (.code y_Handle_layFilter b_Handle_layFilter 2 (some .int) : Cond) ∈ lw_good := lw_at (i := 522) rfl rfl
set_option maxRecDepth 20000 in
theorem lk_696 : (.code y_FileTree_putFilter b_FileTree_putFilter 4 (some .int) : Cond) ∈ lw_good := lw_at (i := 518) rfl rfl
set_option maxRecDepth 20000 in
theorem lk_697 : (.code y_Store_byteAt b_Store_byteAt 2 (some .int) : Cond) ∈ lw_good := lw_at (i := 534) rfl rfl
set_option maxRecDepth 20000 in
theorem lk_698 : (.code y_Handle_nextByte b_Handle_nextByte 4 (some .int) : Cond) ∈ lw_good := lw_at (i := 530) rfl rfl
set_option maxRecDepth 20000 in
theorem lk_699 : (.code y_FileTree_take b_FileTree_take 3 (some .int) : Cond) ∈ lw_good := lw_at (i := 526) rfl rfl
set_option maxRecDepth 20000 in
theorem lk_700 : (.code y_Machine_layByte b_Machine_layByte 2 (some .int) : Cond) ∈ lw_good := lw_at (i := 538) rfl rfl
set_option maxRecDepth 20000 in
theorem lk_701 : (.code y_Machine_doFileSign b_Machine_doFileSign 4 (some .int) : Cond) ∈ lw_good := lw_at (i := 465) rfl rfl
set_option maxRecDepth 20000 in
theorem lk_702 : (.code y_Numbers_layTwo b_Numbers_layTwo 4 (some .int) : Cond) ∈ lw_good := lw_at (i := 546) rfl rfl
set_option maxRecDepth 20000 in
theorem lk_703 : (.code y_Machine_doStackSign b_Machine_doStackSign 4 (some .int) : Cond) ∈ lw_good := lw_at (i := 542) rfl rfl
set_option maxRecDepth 20000 in
theorem lk_704 : (.code y_Machine_doSign b_Machine_doSign 8 (some .int) : Cond) ∈ lw_good := lw_at (i := 388) rfl rfl
set_option maxRecDepth 20000 in
theorem lk_705 : (.code y_Job_fail b_Job_fail 3 none : Cond) ∈ lw_good := lw_at (i := 551) rfl rfl
set_option maxRecDepth 20000 in
theorem lk_706 : (.code y_Device_putBack b_Device_putBack 1 none : Cond) ∈ lw_good := lw_at (i := 559) rfl rfl
set_option maxRecDepth 20000 in
theorem lk_707 : (.code y_Resources_putBack b_Resources_putBack 1 none : Cond) ∈ lw_good := lw_at (i := 563) rfl rfl
set_option maxRecDepth 20000 in
theorem lk_708 : (.code y_Handle_putBackFilters b_Handle_putBackFilters 1 none : Cond) ∈ lw_good := lw_at (i := 571) rfl rfl
set_option maxRecDepth 20000 in
theorem lk_709 : (.code y_FileTree_putBack b_FileTree_putBack 3 none : Cond) ∈ lw_good := lw_at (i := 567) rfl rfl
set_option maxRecDepth 20000 in
theorem lk_710 : (.code y_Machine_finish b_Machine_finish 1 none : Cond) ∈ lw_good := lw_at (i := 555) rfl rfl
set_option maxRecDepth 20000 in
theorem lk_711 : (.code y_Machine_execute b_Machine_execute 5 none : Cond) ∈ lw_good := lw_at (i := 328) rfl rfl
set_option maxRecDepth 20000 in
theorem lk_712 : (.code y_ML_run b_ML_run 4 (some .int) : Cond) ∈ lw_good := lw_at (i := 324) rfl rfl
set_option maxRecDepth 20000 in
theorem lk_713 : (.code y_ML_ended b_ML_ended 4 (some .int) : Cond) ∈ lw_good := lw_at (i := 575) rfl rfl
set_option maxRecDepth 20000 in
theorem lk_714 : (.code y_Job_marksOf b_Job_marksOf 2 (some .int) : Cond) ∈ lw_good := lw_at (i := 583) rfl rfl
set_option maxRecDepth 20000 in
theorem lk_715 : (.code y_ML_page b_ML_page 4 (some .int) : Cond) ∈ lw_good := lw_at (i := 579) rfl rfl
set_option maxRecDepth 20000 in
theorem lk_716 : (.code y_ML_device b_ML_device 3 (some .int) : Cond) ∈ lw_good := lw_at (i := 587) rfl rfl
set_option maxRecDepth 20000 in
theorem lk_717 : (.code y_ML_define b_ML_define 4 (some .int) : Cond) ∈ lw_good := lw_at (i := 592) rfl rfl
set_option maxRecDepth 20000 in
theorem lk_718 : (.code y_ML_resource b_ML_resource 3 (some .int) : Cond) ∈ lw_good := lw_at (i := 597) rfl rfl
set_option maxRecDepth 20000 in
theorem lk_719 : (.code y_ML_file b_ML_file 3 (some .int) : Cond) ∈ lw_good := lw_at (i := 602) rfl rfl
set_option maxRecDepth 20000 in
theorem lk_720 : (.code y_ML_write b_ML_write 3 (some .int) : Cond) ∈ lw_good := lw_at (i := 607) rfl rfl
set_option maxRecDepth 20000 in
theorem lk_721 : (.code y_ML_read b_ML_read 2 (some .int) : Cond) ∈ lw_good := lw_at (i := 612) rfl rfl
set_option maxRecDepth 20000 in
theorem lk_722 : (.code y_ML_filter b_ML_filter 3 (some .int) : Cond) ∈ lw_good := lw_at (i := 617) rfl rfl
set_option maxRecDepth 20000 in
theorem lk_723 : (.code y_FileTree_shut b_FileTree_shut 3 (some .int) : Cond) ∈ lw_good := lw_at (i := 626) rfl rfl
set_option maxRecDepth 20000 in
theorem lk_724 : (.code y_ML_close b_ML_close 2 (some .int) : Cond) ∈ lw_good := lw_at (i := 622) rfl rfl
set_option maxRecDepth 20000 in
theorem lk_725 : (.code y_ML_startFails b_ML_startFails 3 (some .boolean) : Cond) ∈ lw_good := lw_at (i := 630) rfl rfl
set_option maxRecDepth 20000 in
theorem lk_726 : (.code y_FileTree_outputByte b_FileTree_outputByte 2 (some .int) : Cond) ∈ lw_good := lw_at (i := 638) rfl rfl
set_option maxRecDepth 20000 in
theorem lk_727 : (.code y_ML_output b_ML_output 2 (some .int) : Cond) ∈ lw_good := lw_at (i := 634) rfl rfl
set_option maxRecDepth 20000 in
theorem lk_728 : (.code y_FileTree_fileByte b_FileTree_fileByte 4 (some .int) : Cond) ∈ lw_good := lw_at (i := 647) rfl rfl
set_option maxRecDepth 20000 in
theorem lk_729 : (.code y_ML_lies b_ML_lies 3 (some .int) : Cond) ∈ lw_good := lw_at (i := 643) rfl rfl
set_option maxRecDepth 20000 in
theorem lk_730 : (.code y_Mo_init b_Mo_init 4 none : Cond) ∈ lw_good := lw_at (i := 655) rfl rfl
set_option maxRecDepth 20000 in
theorem lk_731 : (.initialized "MachineLoopModel" : Cond) ∈ lw_good := lw_at (i := 50) (by decide +kernel) rfl
set_option maxRecDepth 20000 in
theorem lk_732 : (.code y_Mo_in b_Mo_in 3 (some .boolean) : Cond) ∈ lw_good := lw_at (i := 789) rfl rfl
set_option maxRecDepth 20000 in
theorem lk_733 : (.code y_Mo_job b_Mo_job 1 (some .int) : Cond) ∈ lw_good := lw_at (i := 774) rfl rfl
set_option maxRecDepth 20000 in
theorem lk_734 : (.code y_Mo_noJob b_Mo_noJob 2 (some .boolean) : Cond) ∈ lw_good := lw_at (i := 782) rfl rfl
set_option maxRecDepth 20000 in
theorem lk_735 : (.code y_Mo_add b_Mo_add 3 (some .int) : Cond) ∈ lw_good := lw_at (i := 778) rfl rfl
set_option maxRecDepth 20000 in
theorem lk_736 : (.code y_Mo_ended b_Mo_ended 3 (some .int) : Cond) ∈ lw_good := lw_at (i := 786) rfl rfl
set_option maxRecDepth 20000 in
theorem lk_737 : (.code y_Mo_page b_Mo_page 3 (some .int) : Cond) ∈ lw_good := lw_at (i := 793) rfl rfl
set_option maxRecDepth 20000 in
theorem lk_738 : (.code y_Mo_isSetting b_Mo_isSetting 2 (some .boolean) : Cond) ∈ lw_good := lw_at (i := 800) rfl rfl
set_option maxRecDepth 20000 in
theorem lk_739 : (.code y_Mo_device b_Mo_device 3 (some .int) : Cond) ∈ lw_good := lw_at (i := 797) rfl rfl
set_option maxRecDepth 20000 in
theorem lk_740 : (.code y_Mo_define b_Mo_define 4 (some .int) : Cond) ∈ lw_good := lw_at (i := 804) rfl rfl
set_option maxRecDepth 20000 in
theorem lk_741 : (.code y_Mo_resource b_Mo_resource 3 (some .int) : Cond) ∈ lw_good := lw_at (i := 808) rfl rfl
set_option maxRecDepth 20000 in
theorem lk_742 : (.code y_Mo_opened b_Mo_opened 6 (some .int) : Cond) ∈ lw_good := lw_at (i := 816) rfl rfl
set_option maxRecDepth 20000 in
theorem lk_743 : (.code y_Mo_isOpen b_Mo_isOpen 2 (some .boolean) : Cond) ∈ lw_good := lw_at (i := 828) rfl rfl
set_option maxRecDepth 20000 in
theorem lk_744 : (.code y_Mo_half b_Mo_half 1 (some .int) : Cond) ∈ lw_good := lw_at (i := 831) rfl rfl
set_option maxRecDepth 20000 in
theorem lk_745 : (.code y_Mo_written b_Mo_written 6 (some .int) : Cond) ∈ lw_good := lw_at (i := 824) rfl rfl
set_option maxRecDepth 20000 in
theorem lk_746 : (.code y_Mo_taken b_Mo_taken 5 (some .int) : Cond) ∈ lw_good := lw_at (i := 839) rfl rfl
set_option maxRecDepth 20000 in
theorem lk_747 : (.code y_Mo_filtered b_Mo_filtered 3 (some .int) : Cond) ∈ lw_good := lw_at (i := 847) rfl rfl
set_option maxRecDepth 20000 in
theorem lk_748 : (.code y_Mo_file b_Mo_file 3 (some .int) : Cond) ∈ lw_good := lw_at (i := 812) rfl rfl
set_option maxRecDepth 20000 in
theorem lk_749 : (.code y_Mo_write b_Mo_write 3 (some .int) : Cond) ∈ lw_good := lw_at (i := 820) rfl rfl
set_option maxRecDepth 20000 in
theorem lk_750 : (.code y_Mo_read b_Mo_read 2 (some .int) : Cond) ∈ lw_good := lw_at (i := 835) rfl rfl
set_option maxRecDepth 20000 in
theorem lk_751 : (.code y_Mo_filter b_Mo_filter 3 (some .int) : Cond) ∈ lw_good := lw_at (i := 843) rfl rfl
set_option maxRecDepth 20000 in
theorem lk_752 : (.code y_Mo_close b_Mo_close 2 (some .int) : Cond) ∈ lw_good := lw_at (i := 851) rfl rfl
set_option maxRecDepth 20000 in
theorem lk_753 : (.code y_Mo_startFails b_Mo_startFails 3 (some .boolean) : Cond) ∈ lw_good := lw_at (i := 855) rfl rfl
set_option maxRecDepth 20000 in
theorem lk_754 : (.code y_Mo_output b_Mo_output 2 (some .int) : Cond) ∈ lw_good := lw_at (i := 859) rfl rfl
set_option maxRecDepth 20000 in
theorem lk_755 : (.code y_Mo_lies b_Mo_lies 3 (some .int) : Cond) ∈ lw_good := lw_at (i := 863) rfl rfl
set_option maxRecDepth 20000 in
theorem lk_756 : (.code y_Mo_sign b_Mo_sign 2 (some .int) : Cond) ∈ lw_good := lw_at (i := 875) rfl rfl
set_option maxRecDepth 20000 in
theorem lk_757 : (.code y_Mo_behindRemark b_Mo_behindRemark 3 (some .int) : Cond) ∈ lw_good := lw_at (i := 879) rfl rfl
set_option maxRecDepth 20000 in
theorem lk_758 : (.code y_Mo_endOf b_Mo_endOf 5 (some .int) : Cond) ∈ lw_good := lw_at (i := 925) rfl rfl
set_option maxRecDepth 20000 in
theorem lk_759 : (.code y_Mo_lay b_Mo_lay 2 none : Cond) ∈ lw_good := lw_at (i := 890) rfl rfl
set_option maxRecDepth 20000 in
theorem lk_760 : (.code y_Mo_wants b_Mo_wants 1 (some .int) : Cond) ∈ lw_good := lw_at (i := 886) rfl rfl
set_option maxRecDepth 20000 in
theorem lk_761 : (.code y_Mo_show b_Mo_show 2 none : Cond) ∈ lw_good := lw_at (i := 894) rfl rfl
set_option maxRecDepth 20000 in
theorem lk_762 : (.code y_Mo_beginLoop b_Mo_beginLoop 3 none : Cond) ∈ lw_good := lw_at (i := 921) rfl rfl
set_option maxRecDepth 20000 in
theorem lk_763 : (.code y_Mo_endLoop b_Mo_endLoop 1 none : Cond) ∈ lw_good := lw_at (i := 929) rfl rfl
set_option maxRecDepth 20000 in
theorem lk_764 : (.code y_Mo_readResource b_Mo_readResource 4 none : Cond) ∈ lw_good := lw_at (i := 903) rfl rfl
set_option maxRecDepth 20000 in
theorem lk_765 : (.code y_Mo_set b_Mo_set 4 none : Cond) ∈ lw_good := lw_at (i := 898) rfl rfl
set_option maxRecDepth 20000 in
theorem lk_766 : (.code y_Mo_openFile b_Mo_openFile 4 none : Cond) ∈ lw_good := lw_at (i := 909) rfl rfl
set_option maxRecDepth 20000 in
theorem lk_767 : (.code y_Mo_closeFile b_Mo_closeFile 2 none : Cond) ∈ lw_good := lw_at (i := 913) rfl rfl
set_option maxRecDepth 20000 in
theorem lk_768 : (.code y_Mo_readFile b_Mo_readFile 3 none : Cond) ∈ lw_good := lw_at (i := 917) rfl rfl
set_option maxRecDepth 20000 in
theorem lk_769 : (.code y_Mo_act b_Mo_act 6 none : Cond) ∈ lw_good := lw_at (i := 883) rfl rfl
set_option maxRecDepth 20000 in
theorem lk_770 : (.code y_Mo_runJob b_Mo_runJob 3 none : Cond) ∈ lw_good := lw_at (i := 871) rfl rfl
set_option maxRecDepth 20000 in
theorem lk_771 : (.code y_Mo_run b_Mo_run 4 (some .int) : Cond) ∈ lw_good := lw_at (i := 867) rfl rfl
set_option maxRecDepth 20000 in
theorem lk_772 : (.code y_Law_cell b_Law_cell 2 (some .int) : Cond) ∈ lw_good := lw_at (i := 650) rfl rfl
set_option maxRecDepth 20000 in
theorem lk_773 : (.initialized "MachineLoopLaw" : Cond) ∈ lw_good := lw_at (i := 39) (by decide +kernel) rfl
set_option maxRecDepth 20000 in
theorem lk_774 : (.instantiable "MachineLoop" 4 : Cond) ∈ lw_good := lw_at (i := 54) (by decide +kernel) rfl
set_option maxRecDepth 20000 in
theorem lk_775 : (.instantiable "MachineLoop$Machine" 10 : Cond) ∈ lw_good := lw_at (i := 64) (by decide +kernel) rfl
set_option maxRecDepth 20000 in
theorem lk_776 : (.instantiable "MachineLoop$Device" 2 : Cond) ∈ lw_good := lw_at (i := 70) (by decide +kernel) rfl
set_option maxRecDepth 20000 in
theorem lk_777 : (.instantiable "MachineLoop$Resources" 2 : Cond) ∈ lw_good := lw_at (i := 86) (by decide +kernel) rfl
set_option maxRecDepth 20000 in
theorem lk_778 : (.instantiable "MachineLoop$FileTree" 3 : Cond) ∈ lw_good := lw_at (i := 99) (by decide +kernel) rfl
set_option maxRecDepth 20000 in
theorem lk_779 : (.instantiable "MachineLoop$Numbers" 2 : Cond) ∈ lw_good := lw_at (i := 184) (by decide +kernel) rfl
set_option maxRecDepth 20000 in
theorem lk_780 : (.instantiable "MachineLoop$Plan" 4 : Cond) ∈ lw_good := lw_at (i := 197) (by decide +kernel) rfl
set_option maxRecDepth 20000 in
theorem lk_781 : (.instantiable "MachineLoop$Job" 9 : Cond) ∈ lw_good := lw_at (i := 266) (by decide +kernel) rfl
set_option maxRecDepth 20000 in
theorem lk_782 : (.instantiable "MachineLoop$Store" 3 : Cond) ∈ lw_good := lw_at (i := 106) (by decide +kernel) rfl
set_option maxRecDepth 20000 in
theorem lk_783 : (.instantiable "MachineLoop$Handle" 7 : Cond) ∈ lw_good := lw_at (i := 127) (by decide +kernel) rfl
set_option maxRecDepth 20000 in
theorem lk_784 : (.instantiable "MachineLoopModel" 37 : Cond) ∈ lw_good := lw_at (i := 652) (by decide +kernel) rfl
set_option maxRecDepth 20000 in
theorem lk_785 : (.arrayClass .int : Cond) ∈ lw_good := lw_at (i := 84) (by decide +kernel) rfl
set_option maxRecDepth 20000 in
theorem lk_786 : (.arrayClass .byte : Cond) ∈ lw_good := lw_at (i := 125) (by decide +kernel) rfl
set_option maxRecDepth 20000 in
theorem lk_787 : (.arrayClass .boolean : Cond) ∈ lw_good := lw_at (i := 770) (by decide +kernel) rfl
theorem i_ML : ∀ w ∈ u_ws R_ML F_ML 4, w ∈ lw_good := show ∀ w ∈ ([.laysFinal "MachineLoop" "MachineLoop" "jobs" "[LMachineLoop$Job;", .laysFinal "MachineLoop" "MachineLoop" "machine" "LMachineLoop$Machine;", .lays "MachineLoop" "MachineLoop" "jobCount" "I", .lays "MachineLoop" "MachineLoop" "startsFail" "Z"] : List Cond), w ∈ lw_good from (List.forall_mem_cons.mpr ⟨lk_547, (List.forall_mem_cons.mpr ⟨lk_546, (List.forall_mem_cons.mpr ⟨lk_545, (List.forall_mem_cons.mpr ⟨lk_544, (fun _ h => absurd h List.not_mem_nil)⟩)⟩)⟩)⟩)
theorem i_Machine : ∀ w ∈ u_ws R_Machine F_Machine 10, w ∈ lw_good := show ∀ w ∈ ([.laysFinal "MachineLoop$Machine" "MachineLoop$Machine" "device" "LMachineLoop$Device;", .laysFinal "MachineLoop$Machine" "MachineLoop$Machine" "resources" "LMachineLoop$Resources;", .laysFinal "MachineLoop$Machine" "MachineLoop$Machine" "files" "LMachineLoop$FileTree;", .laysFinal "MachineLoop$Machine" "MachineLoop$Machine" "stepLimit" "I", .laysFinal "MachineLoop$Machine" "MachineLoop$Machine" "stack" "LMachineLoop$Numbers;", .laysFinal "MachineLoop$Machine" "MachineLoop$Machine" "plan" "LMachineLoop$Plan;", .laysFinal "MachineLoop$Machine" "MachineLoop$Machine" "timesLeft" "[I", .lays "MachineLoop$Machine" "MachineLoop$Machine" "loopCount" "I", .lays "MachineLoop$Machine" "MachineLoop$Machine" "marks" "I", .lays "MachineLoop$Machine" "MachineLoop$Machine" "nextPlace" "I"] : List Cond), w ∈ lw_good from (List.forall_mem_cons.mpr ⟨lk_557, (List.forall_mem_cons.mpr ⟨lk_556, (List.forall_mem_cons.mpr ⟨lk_555, (List.forall_mem_cons.mpr ⟨lk_554, (List.forall_mem_cons.mpr ⟨lk_553, (List.forall_mem_cons.mpr ⟨lk_552, (List.forall_mem_cons.mpr ⟨lk_551, (List.forall_mem_cons.mpr ⟨lk_550, (List.forall_mem_cons.mpr ⟨lk_549, (List.forall_mem_cons.mpr ⟨lk_548, (fun _ h => absurd h List.not_mem_nil)⟩)⟩)⟩)⟩)⟩)⟩)⟩)⟩)⟩)⟩)
theorem i_Device : ∀ w ∈ u_ws R_Device F_Device 2, w ∈ lw_good := show ∀ w ∈ ([.laysFinal "MachineLoop$Device" "MachineLoop$Device" "settings" "[I", .laysFinal "MachineLoop$Device" "MachineLoop$Device" "kept" "[I"] : List Cond), w ∈ lw_good from (List.forall_mem_cons.mpr ⟨lk_559, (List.forall_mem_cons.mpr ⟨lk_558, (fun _ h => absurd h List.not_mem_nil)⟩)⟩)
theorem i_Resources : ∀ w ∈ u_ws R_Resources F_Resources 2, w ∈ lw_good := show ∀ w ∈ ([.laysFinal "MachineLoop$Resources" "MachineLoop$Resources" "values" "[I", .laysFinal "MachineLoop$Resources" "MachineLoop$Resources" "kept" "[I"] : List Cond), w ∈ lw_good from (List.forall_mem_cons.mpr ⟨lk_561, (List.forall_mem_cons.mpr ⟨lk_560, (fun _ h => absurd h List.not_mem_nil)⟩)⟩)
theorem i_FileTree : ∀ w ∈ u_ws R_FileTree F_FileTree 3, w ∈ lw_good := show ∀ w ∈ ([.laysFinal "MachineLoop$FileTree" "MachineLoop$FileTree" "stores" "[LMachineLoop$Store;", .laysFinal "MachineLoop$FileTree" "MachineLoop$FileTree" "output" "LMachineLoop$Store;", .laysFinal "MachineLoop$FileTree" "MachineLoop$FileTree" "handles" "[LMachineLoop$Handle;"] : List Cond), w ∈ lw_good from (List.forall_mem_cons.mpr ⟨lk_564, (List.forall_mem_cons.mpr ⟨lk_563, (List.forall_mem_cons.mpr ⟨lk_562, (fun _ h => absurd h List.not_mem_nil)⟩)⟩)⟩)
theorem i_Numbers : ∀ w ∈ u_ws R_Numbers F_Numbers 2, w ∈ lw_good := show ∀ w ∈ ([.laysFinal "MachineLoop$Numbers" "MachineLoop$Numbers" "numbers" "[I", .lays "MachineLoop$Numbers" "MachineLoop$Numbers" "height" "I"] : List Cond), w ∈ lw_good from (List.forall_mem_cons.mpr ⟨lk_566, (List.forall_mem_cons.mpr ⟨lk_565, (fun _ h => absurd h List.not_mem_nil)⟩)⟩)
theorem i_Plan : ∀ w ∈ u_ws R_Plan F_Plan 4, w ∈ lw_good := show ∀ w ∈ ([.laysFinal "MachineLoop$Plan" "MachineLoop$Plan" "doneFrom" "[I", .laysFinal "MachineLoop$Plan" "MachineLoop$Plan" "mates" "[I", .laysFinal "MachineLoop$Plan" "MachineLoop$Plan" "openBraces" "[I", .lays "MachineLoop$Plan" "MachineLoop$Plan" "length" "I"] : List Cond), w ∈ lw_good from (List.forall_mem_cons.mpr ⟨lk_570, (List.forall_mem_cons.mpr ⟨lk_569, (List.forall_mem_cons.mpr ⟨lk_568, (List.forall_mem_cons.mpr ⟨lk_567, (fun _ h => absurd h List.not_mem_nil)⟩)⟩)⟩)⟩)
theorem i_Job : ∀ w ∈ u_ws R_Job F_Job 9, w ∈ lw_good := show ∀ w ∈ ([.laysFinal "MachineLoop$Job" "MachineLoop$Job" "signs" "[B", .laysFinal "MachineLoop$Job" "MachineLoop$Job" "pages" "[I", .lays "MachineLoop$Job" "MachineLoop$Job" "length" "I", .lays "MachineLoop$Job" "MachineLoop$Job" "pageCount" "I", .lays "MachineLoop$Job" "MachineLoop$Job" "outcome" "I", .lays "MachineLoop$Job" "MachineLoop$Job" "error" "I", .lays "MachineLoop$Job" "MachineLoop$Job" "errorPlace" "I", .lays "MachineLoop$Job" "MachineLoop$Job" "steps" "I", .lays "MachineLoop$Job" "MachineLoop$Job" "flushed" "I"] : List Cond), w ∈ lw_good from (List.forall_mem_cons.mpr ⟨lk_579, (List.forall_mem_cons.mpr ⟨lk_578, (List.forall_mem_cons.mpr ⟨lk_577, (List.forall_mem_cons.mpr ⟨lk_576, (List.forall_mem_cons.mpr ⟨lk_575, (List.forall_mem_cons.mpr ⟨lk_574, (List.forall_mem_cons.mpr ⟨lk_573, (List.forall_mem_cons.mpr ⟨lk_572, (List.forall_mem_cons.mpr ⟨lk_571, (fun _ h => absurd h List.not_mem_nil)⟩)⟩)⟩)⟩)⟩)⟩)⟩)⟩)⟩)
theorem i_Store : ∀ w ∈ u_ws R_Store F_Store 3, w ∈ lw_good := show ∀ w ∈ ([.laysFinal "MachineLoop$Store" "MachineLoop$Store" "bytes" "[B", .lays "MachineLoop$Store" "MachineLoop$Store" "size" "I", .lays "MachineLoop$Store" "MachineLoop$Store" "isThere" "Z"] : List Cond), w ∈ lw_good from (List.forall_mem_cons.mpr ⟨lk_582, (List.forall_mem_cons.mpr ⟨lk_581, (List.forall_mem_cons.mpr ⟨lk_580, (fun _ h => absurd h List.not_mem_nil)⟩)⟩)⟩)
theorem i_Handle : ∀ w ∈ u_ws R_Handle F_Handle 7, w ∈ lw_good := show ∀ w ∈ ([.laysFinal "MachineLoop$Handle" "MachineLoop$Handle" "filters" "[I", .lays "MachineLoop$Handle" "MachineLoop$Handle" "filterCount" "I", .lays "MachineLoop$Handle" "MachineLoop$Handle" "keptFilterCount" "I", .lays "MachineLoop$Handle" "MachineLoop$Handle" "place" "I", .lays "MachineLoop$Handle" "MachineLoop$Handle" "store" "LMachineLoop$Store;", .lays "MachineLoop$Handle" "MachineLoop$Handle" "mode" "I", .lays "MachineLoop$Handle" "MachineLoop$Handle" "isOfJob" "Z"] : List Cond), w ∈ lw_good from (List.forall_mem_cons.mpr ⟨lk_589, (List.forall_mem_cons.mpr ⟨lk_588, (List.forall_mem_cons.mpr ⟨lk_587, (List.forall_mem_cons.mpr ⟨lk_586, (List.forall_mem_cons.mpr ⟨lk_585, (List.forall_mem_cons.mpr ⟨lk_584, (List.forall_mem_cons.mpr ⟨lk_583, (fun _ h => absurd h List.not_mem_nil)⟩)⟩)⟩)⟩)⟩)⟩)⟩)
theorem i_Mo : ∀ w ∈ u_ws R_Mo F_Mo 37, w ∈ lw_good := show ∀ w ∈ ([.lays "MachineLoopModel" "MachineLoopModel" "code" "I", .laysFinal "MachineLoopModel" "MachineLoopModel" "most" "I", .lays "MachineLoopModel" "MachineLoopModel" "jobs" "I", .laysFinal "MachineLoopModel" "MachineLoopModel" "signs" "[B", .laysFinal "MachineLoopModel" "MachineLoopModel" "size" "[I", .laysFinal "MachineLoopModel" "MachineLoopModel" "told" "[I", .laysFinal "MachineLoopModel" "MachineLoopModel" "pages" "[I", .laysFinal "MachineLoopModel" "MachineLoopModel" "setting" "[I", .laysFinal "MachineLoopModel" "MachineLoopModel" "resource" "[I", .laysFinal "MachineLoopModel" "MachineLoopModel" "settingWas" "[I", .laysFinal "MachineLoopModel" "MachineLoopModel" "resourceWas" "[I", .laysFinal "MachineLoopModel" "MachineLoopModel" "there" "[Z", .laysFinal "MachineLoopModel" "MachineLoopModel" "length" "[I", .laysFinal "MachineLoopModel" "MachineLoopModel" "lies" "[B", .laysFinal "MachineLoopModel" "MachineLoopModel" "out" "[B", .lays "MachineLoopModel" "MachineLoopModel" "outSize" "I", .laysFinal "MachineLoopModel" "MachineLoopModel" "open" "[Z", .laysFinal "MachineLoopModel" "MachineLoopModel" "name" "[I", .laysFinal "MachineLoopModel" "MachineLoopModel" "mode" "[I", .laysFinal "MachineLoopModel" "MachineLoopModel" "place" "[I", .laysFinal "MachineLoopModel" "MachineLoopModel" "filters" "[I", .laysFinal "MachineLoopModel" "MachineLoopModel" "filter" "[I", .laysFinal "MachineLoopModel" "MachineLoopModel" "filtersWas" "[I", .laysFinal "MachineLoopModel" "MachineLoopModel" "own" "[Z", .lays "MachineLoopModel" "MachineLoopModel" "fails" "Z", .lays "MachineLoopModel" "MachineLoopModel" "job" "I", .lays "MachineLoopModel" "MachineLoopModel" "at" "I", .lays "MachineLoopModel" "MachineLoopModel" "steps" "I", .lays "MachineLoopModel" "MachineLoopModel" "high" "I", .laysFinal "MachineLoopModel" "MachineLoopModel" "stack" "[I", .lays "MachineLoopModel" "MachineLoopModel" "marks" "I", .lays "MachineLoopModel" "MachineLoopModel" "shown" "I", .lays "MachineLoopModel" "MachineLoopModel" "loops" "I", .laysFinal "MachineLoopModel" "MachineLoopModel" "begin" "[I", .laysFinal "MachineLoopModel" "MachineLoopModel" "left" "[I", .lays "MachineLoopModel" "MachineLoopModel" "error" "I", .lays "MachineLoopModel" "MachineLoopModel" "done" "Z"] : List Cond), w ∈ lw_good from (List.forall_mem_cons.mpr ⟨lk_626, (List.forall_mem_cons.mpr ⟨lk_625, (List.forall_mem_cons.mpr ⟨lk_624, (List.forall_mem_cons.mpr ⟨lk_623, (List.forall_mem_cons.mpr ⟨lk_622, (List.forall_mem_cons.mpr ⟨lk_621, (List.forall_mem_cons.mpr ⟨lk_620, (List.forall_mem_cons.mpr ⟨lk_619, (List.forall_mem_cons.mpr ⟨lk_618, (List.forall_mem_cons.mpr ⟨lk_617, (List.forall_mem_cons.mpr ⟨lk_616, (List.forall_mem_cons.mpr ⟨lk_615, (List.forall_mem_cons.mpr ⟨lk_614, (List.forall_mem_cons.mpr ⟨lk_613, (List.forall_mem_cons.mpr ⟨lk_612, (List.forall_mem_cons.mpr ⟨lk_611, (List.forall_mem_cons.mpr ⟨lk_610, (List.forall_mem_cons.mpr ⟨lk_609, (List.forall_mem_cons.mpr ⟨lk_608, (List.forall_mem_cons.mpr ⟨lk_607, (List.forall_mem_cons.mpr ⟨lk_606, (List.forall_mem_cons.mpr ⟨lk_605, (List.forall_mem_cons.mpr ⟨lk_604, (List.forall_mem_cons.mpr ⟨lk_603, (List.forall_mem_cons.mpr ⟨lk_602, (List.forall_mem_cons.mpr ⟨lk_601, (List.forall_mem_cons.mpr ⟨lk_600, (List.forall_mem_cons.mpr ⟨lk_599, (List.forall_mem_cons.mpr ⟨lk_598, (List.forall_mem_cons.mpr ⟨lk_597, (List.forall_mem_cons.mpr ⟨lk_596, (List.forall_mem_cons.mpr ⟨lk_595, (List.forall_mem_cons.mpr ⟨lk_594, (List.forall_mem_cons.mpr ⟨lk_593, (List.forall_mem_cons.mpr ⟨lk_592, (List.forall_mem_cons.mpr ⟨lk_591, (List.forall_mem_cons.mpr ⟨lk_590, (fun _ h => absurd h List.not_mem_nil)⟩)⟩)⟩)⟩)⟩)⟩)⟩)⟩)⟩)⟩)⟩)⟩)⟩)⟩)⟩)⟩)⟩)⟩)⟩)⟩)⟩)⟩)⟩)⟩)⟩)⟩)⟩)⟩)⟩)⟩)⟩)⟩)⟩)⟩)⟩)⟩)⟩)
