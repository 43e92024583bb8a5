/-! the entries of the pools -/
theorem wf_LP_13 : Cond.fieldLink R_LP 13 R_LP (F_LP 0).2.1 (F_LP 0).2.2.1 ∈ WA := wa_2 (List.mem_of_getElem? (i := 25) (by decide +kernel)) (by decide +kernel)
theorem fl_LP_13 : FL R_LP 13 0 0 := ⟨_, rfl, by decide, rfl, wf_LP_13⟩
theorem fi_LP_13 : FI R_LP 13 0 0 := ⟨_, rfl, by decide, rfl, wf_LP_13, rfl, rfl⟩
theorem wf_LP_17 : Cond.fieldLink R_LP 17 R_LP (F_LP 1).2.1 (F_LP 1).2.2.1 ∈ WA := wa_2 (List.mem_of_getElem? (i := 26) (by decide +kernel)) (by decide +kernel)
theorem fl_LP_17 : FL R_LP 17 0 1 := ⟨_, rfl, by decide, rfl, wf_LP_17⟩
theorem fi_LP_17 : FI R_LP 17 0 1 := ⟨_, rfl, by decide, rfl, wf_LP_17, rfl, rfl⟩
theorem wf_LP_22 : Cond.fieldLink R_LP 22 R_LP (F_LP 2).2.1 (F_LP 2).2.2.1 ∈ WA := wa_2 (List.mem_of_getElem? (i := 27) (by decide +kernel)) (by decide +kernel)
theorem fl_LP_22 : FL R_LP 22 0 2 := ⟨_, rfl, by decide, rfl, wf_LP_22⟩
theorem fi_LP_22 : FI R_LP 22 0 2 := ⟨_, rfl, by decide, rfl, wf_LP_22, rfl, rfl⟩
theorem wf_LP_31 : Cond.fieldLink R_LP 31 R_LP (F_LP 3).2.1 (F_LP 3).2.2.1 ∈ WA := wa_2 (List.mem_of_getElem? (i := 28) (by decide +kernel)) (by decide +kernel)
theorem fl_LP_31 : FL R_LP 31 0 3 := ⟨_, rfl, by decide, rfl, wf_LP_31⟩
theorem fi_LP_31 : FI R_LP 31 0 3 := ⟨_, rfl, by decide, rfl, wf_LP_31, rfl, rfl⟩
theorem wf_LP_39 : Cond.fieldLink R_LP 39 R_LP (F_LP 4).2.1 (F_LP 4).2.2.1 ∈ WA := wa_2 (List.mem_of_getElem? (i := 29) (by decide +kernel)) (by decide +kernel)
theorem fl_LP_39 : FL R_LP 39 0 4 := ⟨_, rfl, by decide, rfl, wf_LP_39⟩
theorem fi_LP_39 : FI R_LP 39 0 4 := ⟨_, rfl, by decide, rfl, wf_LP_39, rfl, rfl⟩
theorem wf_LP_46 : Cond.fieldLink R_LP 46 R_LP (F_LP 5).2.1 (F_LP 5).2.2.1 ∈ WA := wa_2 (List.mem_of_getElem? (i := 30) (by decide +kernel)) (by decide +kernel)
theorem fl_LP_46 : FL R_LP 46 0 5 := ⟨_, rfl, by decide, rfl, wf_LP_46⟩
theorem fi_LP_46 : FI R_LP 46 0 5 := ⟨_, rfl, by decide, rfl, wf_LP_46, rfl, rfl⟩
theorem wf_LP_56 : Cond.fieldLink R_LP 56 R_LP (F_LP 6).2.1 (F_LP 6).2.2.1 ∈ WA := wa_2 (List.mem_of_getElem? (i := 31) (by decide +kernel)) (by decide +kernel)
theorem fl_LP_56 : FL R_LP 56 0 6 := ⟨_, rfl, by decide, rfl, wf_LP_56⟩
theorem fw_LP_56 : FW R_LP 56 0 6 := ⟨_, rfl, by decide, rfl, wf_LP_56, rfl⟩
theorem wf_LP_67 : Cond.fieldLink R_LP 67 R_Srv (F_Srv 5).2.1 (F_Srv 5).2.2.1 ∈ WA := wa_1 (List.mem_of_getElem? (i := 102) (by decide +kernel)) (by decide +kernel)
theorem fl_LP_67 : FL R_LP 67 1 5 := ⟨_, rfl, by decide, rfl, wf_LP_67⟩
theorem fw_LP_67 : FW R_LP 67 1 5 := ⟨_, rfl, by decide, rfl, wf_LP_67, rfl⟩
theorem wf_LP_70 : Cond.fieldLink R_LP 70 R_Srv (F_Srv 6).2.1 (F_Srv 6).2.2.1 ∈ WA := wa_1 (List.mem_of_getElem? (i := 104) (by decide +kernel)) (by decide +kernel)
theorem fl_LP_70 : FL R_LP 70 1 6 := ⟨_, rfl, by decide, rfl, wf_LP_70⟩
theorem wf_LP_76 : Cond.fieldLink R_LP 76 R_Srv (F_Srv 12).2.1 (F_Srv 12).2.2.1 ∈ WA := wa_1 (List.mem_of_getElem? (i := 111) (by decide +kernel)) (by decide +kernel)
theorem fl_LP_76 : FL R_LP 76 1 12 := ⟨_, rfl, by decide, rfl, wf_LP_76⟩
theorem fw_LP_76 : FW R_LP 76 1 12 := ⟨_, rfl, by decide, rfl, wf_LP_76, rfl⟩
theorem wf_LP_86 : Cond.fieldLink R_LP 86 R_Srv (F_Srv 1).2.1 (F_Srv 1).2.2.1 ∈ WA := wa_1 (List.mem_of_getElem? (i := 97) (by decide +kernel)) (by decide +kernel)
theorem fl_LP_86 : FL R_LP 86 1 1 := ⟨_, rfl, by decide, rfl, wf_LP_86⟩
theorem wf_LP_108 : Cond.fieldLink R_LP 108 R_Msg (F_Msg 3).2.1 (F_Msg 3).2.2.1 ∈ WA := wa_1 (List.mem_of_getElem? (i := 183) (by decide +kernel)) (by decide +kernel)
theorem fl_LP_108 : FL R_LP 108 5 3 := ⟨_, rfl, by decide, rfl, wf_LP_108⟩
theorem fw_LP_108 : FW R_LP 108 5 3 := ⟨_, rfl, by decide, rfl, wf_LP_108, rfl⟩
theorem wf_LP_111 : Cond.fieldLink R_LP 111 R_Cli (F_Cli 0).2.1 (F_Cli 0).2.2.1 ∈ WA := wa_1 (List.mem_of_getElem? (i := 147) (by decide +kernel)) (by decide +kernel)
theorem fl_LP_111 : FL R_LP 111 3 0 := ⟨_, rfl, by decide, rfl, wf_LP_111⟩
theorem wf_LP_114 : Cond.fieldLink R_LP 114 R_Msg (F_Msg 5).2.1 (F_Msg 5).2.2.1 ∈ WA := wa_1 (List.mem_of_getElem? (i := 188) (by decide +kernel)) (by decide +kernel)
theorem fl_LP_114 : FL R_LP 114 5 5 := ⟨_, rfl, by decide, rfl, wf_LP_114⟩
theorem fw_LP_114 : FW R_LP 114 5 5 := ⟨_, rfl, by decide, rfl, wf_LP_114, rfl⟩
theorem wf_LP_117 : Cond.fieldLink R_LP 117 R_Msg (F_Msg 4).2.1 (F_Msg 4).2.2.1 ∈ WA := wa_1 (List.mem_of_getElem? (i := 186) (by decide +kernel)) (by decide +kernel)
theorem fl_LP_117 : FL R_LP 117 5 4 := ⟨_, rfl, by decide, rfl, wf_LP_117⟩
theorem fw_LP_117 : FW R_LP 117 5 4 := ⟨_, rfl, by decide, rfl, wf_LP_117, rfl⟩
theorem wf_LP_120 : Cond.fieldLink R_LP 120 R_Msg (F_Msg 6).2.1 (F_Msg 6).2.2.1 ∈ WA := wa_1 (List.mem_of_getElem? (i := 193) (by decide +kernel)) (by decide +kernel)
theorem fl_LP_120 : FL R_LP 120 5 6 := ⟨_, rfl, by decide, rfl, wf_LP_120⟩
theorem fw_LP_120 : FW R_LP 120 5 6 := ⟨_, rfl, by decide, rfl, wf_LP_120, rfl⟩
theorem wf_LP_164 : Cond.fieldLink R_LP 164 R_Net (F_Net 4).2.1 (F_Net 4).2.2.1 ∈ WA := wa_2 (List.mem_of_getElem? (i := 11) (by decide +kernel)) (by decide +kernel)
theorem fl_LP_164 : FL R_LP 164 4 4 := ⟨_, rfl, by decide, rfl, wf_LP_164⟩
theorem wf_LP_174 : Cond.fieldLink R_LP 174 R_Cli (F_Cli 2).2.1 (F_Cli 2).2.2.1 ∈ WA := wa_1 (List.mem_of_getElem? (i := 150) (by decide +kernel)) (by decide +kernel)
theorem fl_LP_174 : FL R_LP 174 3 2 := ⟨_, rfl, by decide, rfl, wf_LP_174⟩
theorem wf_LP_175 : Cond.fieldLink R_LP 175 R_Cli (F_Cli 3).2.1 (F_Cli 3).2.2.1 ∈ WA := wa_1 (List.mem_of_getElem? (i := 152) (by decide +kernel)) (by decide +kernel)
theorem fl_LP_175 : FL R_LP 175 3 3 := ⟨_, rfl, by decide, rfl, wf_LP_175⟩
theorem wf_LP_178 : Cond.fieldLink R_LP 178 R_Srv (F_Srv 4).2.1 (F_Srv 4).2.2.1 ∈ WA := wa_1 (List.mem_of_getElem? (i := 101) (by decide +kernel)) (by decide +kernel)
theorem fl_LP_178 : FL R_LP 178 1 4 := ⟨_, rfl, by decide, rfl, wf_LP_178⟩
theorem wf_LP_188 : Cond.fieldLink R_LP 188 R_LP (F_LP 7).2.1 (F_LP 7).2.2.1 ∈ WA := wa_2 (List.mem_of_getElem? (i := 32) (by decide +kernel)) (by decide +kernel)
theorem fl_LP_188 : FL R_LP 188 0 7 := ⟨_, rfl, by decide, rfl, wf_LP_188⟩
theorem fw_LP_188 : FW R_LP 188 0 7 := ⟨_, rfl, by decide, rfl, wf_LP_188, rfl⟩
theorem wf_LP_202 : Cond.fieldLink R_LP 202 R_Msg (F_Msg 0).2.1 (F_Msg 0).2.2.1 ∈ WA := wa_1 (List.mem_of_getElem? (i := 176) (by decide +kernel)) (by decide +kernel)
theorem fl_LP_202 : FL R_LP 202 5 0 := ⟨_, rfl, by decide, rfl, wf_LP_202⟩
theorem wf_LP_208 : Cond.fieldLink R_LP 208 R_Msg (F_Msg 2).2.1 (F_Msg 2).2.2.1 ∈ WA := wa_1 (List.mem_of_getElem? (i := 180) (by decide +kernel)) (by decide +kernel)
theorem fl_LP_208 : FL R_LP 208 5 2 := ⟨_, rfl, by decide, rfl, wf_LP_208⟩
theorem wf_Cli_9 : Cond.fieldLink R_Cli 9 R_Cli (F_Cli 2).2.1 (F_Cli 2).2.2.1 ∈ WA := wa_1 (List.mem_of_getElem? (i := 149) (by decide +kernel)) (by decide +kernel)
theorem fl_Cli_9 : FL R_Cli 9 3 2 := ⟨_, rfl, by decide, rfl, wf_Cli_9⟩
theorem fw_Cli_9 : FW R_Cli 9 3 2 := ⟨_, rfl, by decide, rfl, wf_Cli_9, rfl⟩
theorem wf_Cli_15 : Cond.fieldLink R_Cli 15 R_Cli (F_Cli 0).2.1 (F_Cli 0).2.2.1 ∈ WA := wa_1 (List.mem_of_getElem? (i := 146) (by decide +kernel)) (by decide +kernel)
theorem fl_Cli_15 : FL R_Cli 15 3 0 := ⟨_, rfl, by decide, rfl, wf_Cli_15⟩
theorem fw_Cli_15 : FW R_Cli 15 3 0 := ⟨_, rfl, by decide, rfl, wf_Cli_15, rfl⟩
theorem wf_Cli_18 : Cond.fieldLink R_Cli 18 R_Cli (F_Cli 1).2.1 (F_Cli 1).2.2.1 ∈ WA := wa_1 (List.mem_of_getElem? (i := 148) (by decide +kernel)) (by decide +kernel)
theorem fl_Cli_18 : FL R_Cli 18 3 1 := ⟨_, rfl, by decide, rfl, wf_Cli_18⟩
theorem fw_Cli_18 : FW R_Cli 18 3 1 := ⟨_, rfl, by decide, rfl, wf_Cli_18, rfl⟩
theorem wf_Cli_25 : Cond.fieldLink R_Cli 25 R_Cli (F_Cli 3).2.1 (F_Cli 3).2.2.1 ∈ WA := wa_1 (List.mem_of_getElem? (i := 151) (by decide +kernel)) (by decide +kernel)
theorem fl_Cli_25 : FL R_Cli 25 3 3 := ⟨_, rfl, by decide, rfl, wf_Cli_25⟩
theorem fw_Cli_25 : FW R_Cli 25 3 3 := ⟨_, rfl, by decide, rfl, wf_Cli_25, rfl⟩
theorem wf_Rec_9 : Cond.fieldLink R_Rec 9 R_Rec (F_Rec 0).2.1 (F_Rec 0).2.2.1 ∈ WA := wa_1 (List.mem_of_getElem? (i := 44) (by decide +kernel)) (by decide +kernel)
theorem fl_Rec_9 : FL R_Rec 9 2 0 := ⟨_, rfl, by decide, rfl, wf_Rec_9⟩
theorem fw_Rec_9 : FW R_Rec 9 2 0 := ⟨_, rfl, by decide, rfl, wf_Rec_9, rfl⟩
theorem wf_Rec_15 : Cond.fieldLink R_Rec 15 R_Rec (F_Rec 1).2.1 (F_Rec 1).2.2.1 ∈ WA := wa_1 (List.mem_of_getElem? (i := 46) (by decide +kernel)) (by decide +kernel)
theorem fl_Rec_15 : FL R_Rec 15 2 1 := ⟨_, rfl, by decide, rfl, wf_Rec_15⟩
theorem fw_Rec_15 : FW R_Rec 15 2 1 := ⟨_, rfl, by decide, rfl, wf_Rec_15, rfl⟩
theorem wf_Rec_18 : Cond.fieldLink R_Rec 18 R_Rec (F_Rec 5).2.1 (F_Rec 5).2.2.1 ∈ WA := wa_1 (List.mem_of_getElem? (i := 54) (by decide +kernel)) (by decide +kernel)
theorem fl_Rec_18 : FL R_Rec 18 2 5 := ⟨_, rfl, by decide, rfl, wf_Rec_18⟩
theorem fw_Rec_18 : FW R_Rec 18 2 5 := ⟨_, rfl, by decide, rfl, wf_Rec_18, rfl⟩
theorem wf_Rec_21 : Cond.fieldLink R_Rec 21 R_Rec (F_Rec 7).2.1 (F_Rec 7).2.2.1 ∈ WA := wa_1 (List.mem_of_getElem? (i := 57) (by decide +kernel)) (by decide +kernel)
theorem fl_Rec_21 : FL R_Rec 21 2 7 := ⟨_, rfl, by decide, rfl, wf_Rec_21⟩
theorem fw_Rec_21 : FW R_Rec 21 2 7 := ⟨_, rfl, by decide, rfl, wf_Rec_21, rfl⟩
theorem wf_Rec_28 : Cond.fieldLink R_Rec 28 R_Rec (F_Rec 2).2.1 (F_Rec 2).2.2.1 ∈ WA := wa_1 (List.mem_of_getElem? (i := 48) (by decide +kernel)) (by decide +kernel)
theorem fl_Rec_28 : FL R_Rec 28 2 2 := ⟨_, rfl, by decide, rfl, wf_Rec_28⟩
theorem fw_Rec_28 : FW R_Rec 28 2 2 := ⟨_, rfl, by decide, rfl, wf_Rec_28, rfl⟩
theorem wf_Rec_31 : Cond.fieldLink R_Rec 31 R_Rec (F_Rec 3).2.1 (F_Rec 3).2.2.1 ∈ WA := wa_1 (List.mem_of_getElem? (i := 50) (by decide +kernel)) (by decide +kernel)
theorem fl_Rec_31 : FL R_Rec 31 2 3 := ⟨_, rfl, by decide, rfl, wf_Rec_31⟩
theorem fw_Rec_31 : FW R_Rec 31 2 3 := ⟨_, rfl, by decide, rfl, wf_Rec_31, rfl⟩
theorem wf_Rec_34 : Cond.fieldLink R_Rec 34 R_Rec (F_Rec 4).2.1 (F_Rec 4).2.2.1 ∈ WA := wa_1 (List.mem_of_getElem? (i := 52) (by decide +kernel)) (by decide +kernel)
theorem fl_Rec_34 : FL R_Rec 34 2 4 := ⟨_, rfl, by decide, rfl, wf_Rec_34⟩
theorem fw_Rec_34 : FW R_Rec 34 2 4 := ⟨_, rfl, by decide, rfl, wf_Rec_34, rfl⟩
theorem wf_Rec_37 : Cond.fieldLink R_Rec 37 R_Rec (F_Rec 6).2.1 (F_Rec 6).2.2.1 ∈ WA := wa_1 (List.mem_of_getElem? (i := 56) (by decide +kernel)) (by decide +kernel)
theorem fl_Rec_37 : FL R_Rec 37 2 6 := ⟨_, rfl, by decide, rfl, wf_Rec_37⟩
theorem fw_Rec_37 : FW R_Rec 37 2 6 := ⟨_, rfl, by decide, rfl, wf_Rec_37, rfl⟩
theorem wf_Rec_40 : Cond.fieldLink R_Rec 40 R_Rec (F_Rec 8).2.1 (F_Rec 8).2.2.1 ∈ WA := wa_1 (List.mem_of_getElem? (i := 59) (by decide +kernel)) (by decide +kernel)
theorem fl_Rec_40 : FL R_Rec 40 2 8 := ⟨_, rfl, by decide, rfl, wf_Rec_40⟩
theorem fw_Rec_40 : FW R_Rec 40 2 8 := ⟨_, rfl, by decide, rfl, wf_Rec_40, rfl⟩
theorem wf_Rec_43 : Cond.fieldLink R_Rec 43 R_Msg (F_Msg 9).2.1 (F_Msg 9).2.2.1 ∈ WA := wa_1 (List.mem_of_getElem? (i := 200) (by decide +kernel)) (by decide +kernel)
theorem fl_Rec_43 : FL R_Rec 43 5 9 := ⟨_, rfl, by decide, rfl, wf_Rec_43⟩
theorem wf_Rec_46 : Cond.fieldLink R_Rec 46 R_Msg (F_Msg 6).2.1 (F_Msg 6).2.2.1 ∈ WA := wa_1 (List.mem_of_getElem? (i := 192) (by decide +kernel)) (by decide +kernel)
theorem fl_Rec_46 : FL R_Rec 46 5 6 := ⟨_, rfl, by decide, rfl, wf_Rec_46⟩
theorem wf_Rec_49 : Cond.fieldLink R_Rec 49 R_Msg (F_Msg 10).2.1 (F_Msg 10).2.2.1 ∈ WA := wa_1 (List.mem_of_getElem? (i := 203) (by decide +kernel)) (by decide +kernel)
theorem fl_Rec_49 : FL R_Rec 49 5 10 := ⟨_, rfl, by decide, rfl, wf_Rec_49⟩
theorem wf_Rec_71 : Cond.fieldLink R_Rec 71 R_Msg (F_Msg 11).2.1 (F_Msg 11).2.2.1 ∈ WA := wa_1 (List.mem_of_getElem? (i := 206) (by decide +kernel)) (by decide +kernel)
theorem fl_Rec_71 : FL R_Rec 71 5 11 := ⟨_, rfl, by decide, rfl, wf_Rec_71⟩
theorem wf_Rec_72 : Cond.fieldLink R_Rec 72 R_Msg (F_Msg 5).2.1 (F_Msg 5).2.2.1 ∈ WA := wa_1 (List.mem_of_getElem? (i := 189) (by decide +kernel)) (by decide +kernel)
theorem fl_Rec_72 : FL R_Rec 72 5 5 := ⟨_, rfl, by decide, rfl, wf_Rec_72⟩
theorem wf_Rec_75 : Cond.fieldLink R_Rec 75 R_Rec (F_Rec 9).2.1 (F_Rec 9).2.2.1 ∈ WA := wa_1 (List.mem_of_getElem? (i := 61) (by decide +kernel)) (by decide +kernel)
theorem fl_Rec_75 : FL R_Rec 75 2 9 := ⟨_, rfl, by decide, rfl, wf_Rec_75⟩
theorem fw_Rec_75 : FW R_Rec 75 2 9 := ⟨_, rfl, by decide, rfl, wf_Rec_75, rfl⟩
theorem wf_Rec_78 : Cond.fieldLink R_Rec 78 R_Msg (F_Msg 14).2.1 (F_Msg 14).2.2.1 ∈ WA := wa_1 (List.mem_of_getElem? (i := 213) (by decide +kernel)) (by decide +kernel)
theorem fl_Rec_78 : FL R_Rec 78 5 14 := ⟨_, rfl, by decide, rfl, wf_Rec_78⟩
theorem wf_Rec_81 : Cond.fieldLink R_Rec 81 R_Rec (F_Rec 10).2.1 (F_Rec 10).2.2.1 ∈ WA := wa_1 (List.mem_of_getElem? (i := 63) (by decide +kernel)) (by decide +kernel)
theorem fl_Rec_81 : FL R_Rec 81 2 10 := ⟨_, rfl, by decide, rfl, wf_Rec_81⟩
theorem wf_Rec_84 : Cond.fieldLink R_Rec 84 R_Rec (F_Rec 11).2.1 (F_Rec 11).2.2.1 ∈ WA := wa_1 (List.mem_of_getElem? (i := 66) (by decide +kernel)) (by decide +kernel)
theorem fl_Rec_84 : FL R_Rec 84 2 11 := ⟨_, rfl, by decide, rfl, wf_Rec_84⟩
theorem wf_Msg_9 : Cond.fieldLink R_Msg 9 R_Msg (F_Msg 0).2.1 (F_Msg 0).2.2.1 ∈ WA := wa_1 (List.mem_of_getElem? (i := 175) (by decide +kernel)) (by decide +kernel)
theorem fl_Msg_9 : FL R_Msg 9 5 0 := ⟨_, rfl, by decide, rfl, wf_Msg_9⟩
theorem fw_Msg_9 : FW R_Msg 9 5 0 := ⟨_, rfl, by decide, rfl, wf_Msg_9, rfl⟩
theorem wf_Msg_15 : Cond.fieldLink R_Msg 15 R_Msg (F_Msg 1).2.1 (F_Msg 1).2.2.1 ∈ WA := wa_1 (List.mem_of_getElem? (i := 177) (by decide +kernel)) (by decide +kernel)
theorem fl_Msg_15 : FL R_Msg 15 5 1 := ⟨_, rfl, by decide, rfl, wf_Msg_15⟩
theorem fw_Msg_15 : FW R_Msg 15 5 1 := ⟨_, rfl, by decide, rfl, wf_Msg_15, rfl⟩
theorem wf_Msg_18 : Cond.fieldLink R_Msg 18 R_Msg (F_Msg 2).2.1 (F_Msg 2).2.2.1 ∈ WA := wa_1 (List.mem_of_getElem? (i := 179) (by decide +kernel)) (by decide +kernel)
theorem fl_Msg_18 : FL R_Msg 18 5 2 := ⟨_, rfl, by decide, rfl, wf_Msg_18⟩
theorem fw_Msg_18 : FW R_Msg 18 5 2 := ⟨_, rfl, by decide, rfl, wf_Msg_18, rfl⟩
theorem wf_Msg_21 : Cond.fieldLink R_Msg 21 R_Msg (F_Msg 3).2.1 (F_Msg 3).2.2.1 ∈ WA := wa_1 (List.mem_of_getElem? (i := 181) (by decide +kernel)) (by decide +kernel)
theorem fl_Msg_21 : FL R_Msg 21 5 3 := ⟨_, rfl, by decide, rfl, wf_Msg_21⟩
theorem fw_Msg_21 : FW R_Msg 21 5 3 := ⟨_, rfl, by decide, rfl, wf_Msg_21, rfl⟩
theorem wf_Msg_24 : Cond.fieldLink R_Msg 24 R_Msg (F_Msg 4).2.1 (F_Msg 4).2.2.1 ∈ WA := wa_1 (List.mem_of_getElem? (i := 184) (by decide +kernel)) (by decide +kernel)
theorem fl_Msg_24 : FL R_Msg 24 5 4 := ⟨_, rfl, by decide, rfl, wf_Msg_24⟩
theorem fw_Msg_24 : FW R_Msg 24 5 4 := ⟨_, rfl, by decide, rfl, wf_Msg_24, rfl⟩
theorem wf_Msg_27 : Cond.fieldLink R_Msg 27 R_Msg (F_Msg 6).2.1 (F_Msg 6).2.2.1 ∈ WA := wa_1 (List.mem_of_getElem? (i := 191) (by decide +kernel)) (by decide +kernel)
theorem fl_Msg_27 : FL R_Msg 27 5 6 := ⟨_, rfl, by decide, rfl, wf_Msg_27⟩
theorem fw_Msg_27 : FW R_Msg 27 5 6 := ⟨_, rfl, by decide, rfl, wf_Msg_27, rfl⟩
theorem wf_Msg_30 : Cond.fieldLink R_Msg 30 R_Msg (F_Msg 5).2.1 (F_Msg 5).2.2.1 ∈ WA := wa_1 (List.mem_of_getElem? (i := 187) (by decide +kernel)) (by decide +kernel)
theorem fl_Msg_30 : FL R_Msg 30 5 5 := ⟨_, rfl, by decide, rfl, wf_Msg_30⟩
theorem fw_Msg_30 : FW R_Msg 30 5 5 := ⟨_, rfl, by decide, rfl, wf_Msg_30, rfl⟩
theorem wf_Msg_33 : Cond.fieldLink R_Msg 33 R_Msg (F_Msg 7).2.1 (F_Msg 7).2.2.1 ∈ WA := wa_1 (List.mem_of_getElem? (i := 195) (by decide +kernel)) (by decide +kernel)
theorem fl_Msg_33 : FL R_Msg 33 5 7 := ⟨_, rfl, by decide, rfl, wf_Msg_33⟩
theorem fw_Msg_33 : FW R_Msg 33 5 7 := ⟨_, rfl, by decide, rfl, wf_Msg_33, rfl⟩
theorem wf_Msg_36 : Cond.fieldLink R_Msg 36 R_Msg (F_Msg 8).2.1 (F_Msg 8).2.2.1 ∈ WA := wa_1 (List.mem_of_getElem? (i := 197) (by decide +kernel)) (by decide +kernel)
theorem fl_Msg_36 : FL R_Msg 36 5 8 := ⟨_, rfl, by decide, rfl, wf_Msg_36⟩
theorem fw_Msg_36 : FW R_Msg 36 5 8 := ⟨_, rfl, by decide, rfl, wf_Msg_36, rfl⟩
theorem wf_Msg_39 : Cond.fieldLink R_Msg 39 R_Msg (F_Msg 9).2.1 (F_Msg 9).2.2.1 ∈ WA := wa_1 (List.mem_of_getElem? (i := 199) (by decide +kernel)) (by decide +kernel)
theorem fl_Msg_39 : FL R_Msg 39 5 9 := ⟨_, rfl, by decide, rfl, wf_Msg_39⟩
theorem fw_Msg_39 : FW R_Msg 39 5 9 := ⟨_, rfl, by decide, rfl, wf_Msg_39, rfl⟩
theorem wf_Msg_42 : Cond.fieldLink R_Msg 42 R_Msg (F_Msg 10).2.1 (F_Msg 10).2.2.1 ∈ WA := wa_1 (List.mem_of_getElem? (i := 202) (by decide +kernel)) (by decide +kernel)
theorem fl_Msg_42 : FL R_Msg 42 5 10 := ⟨_, rfl, by decide, rfl, wf_Msg_42⟩
theorem fw_Msg_42 : FW R_Msg 42 5 10 := ⟨_, rfl, by decide, rfl, wf_Msg_42, rfl⟩
theorem wf_Msg_45 : Cond.fieldLink R_Msg 45 R_Msg (F_Msg 11).2.1 (F_Msg 11).2.2.1 ∈ WA := wa_1 (List.mem_of_getElem? (i := 205) (by decide +kernel)) (by decide +kernel)
theorem fl_Msg_45 : FL R_Msg 45 5 11 := ⟨_, rfl, by decide, rfl, wf_Msg_45⟩
theorem fw_Msg_45 : FW R_Msg 45 5 11 := ⟨_, rfl, by decide, rfl, wf_Msg_45, rfl⟩
theorem wf_Msg_49 : Cond.fieldLink R_Msg 49 R_Msg (F_Msg 12).2.1 (F_Msg 12).2.2.1 ∈ WA := wa_1 (List.mem_of_getElem? (i := 208) (by decide +kernel)) (by decide +kernel)
theorem fl_Msg_49 : FL R_Msg 49 5 12 := ⟨_, rfl, by decide, rfl, wf_Msg_49⟩
theorem fw_Msg_49 : FW R_Msg 49 5 12 := ⟨_, rfl, by decide, rfl, wf_Msg_49, rfl⟩
theorem wf_Msg_52 : Cond.fieldLink R_Msg 52 R_Msg (F_Msg 13).2.1 (F_Msg 13).2.2.1 ∈ WA := wa_1 (List.mem_of_getElem? (i := 210) (by decide +kernel)) (by decide +kernel)
theorem fl_Msg_52 : FL R_Msg 52 5 13 := ⟨_, rfl, by decide, rfl, wf_Msg_52⟩
theorem fw_Msg_52 : FW R_Msg 52 5 13 := ⟨_, rfl, by decide, rfl, wf_Msg_52, rfl⟩
theorem wf_Msg_55 : Cond.fieldLink R_Msg 55 R_Msg (F_Msg 14).2.1 (F_Msg 14).2.2.1 ∈ WA := wa_1 (List.mem_of_getElem? (i := 212) (by decide +kernel)) (by decide +kernel)
theorem fl_Msg_55 : FL R_Msg 55 5 14 := ⟨_, rfl, by decide, rfl, wf_Msg_55⟩
theorem fw_Msg_55 : FW R_Msg 55 5 14 := ⟨_, rfl, by decide, rfl, wf_Msg_55, rfl⟩
theorem wf_Net_11 : Cond.fieldLink R_Net 11 R_Net (F_Net 0).2.1 (F_Net 0).2.2.1 ∈ WA := wa_2 (List.mem_of_getElem? (i := 6) (by decide +kernel)) (by decide +kernel)
theorem fl_Net_11 : FL R_Net 11 4 0 := ⟨_, rfl, by decide, rfl, wf_Net_11⟩
theorem fw_Net_11 : FW R_Net 11 4 0 := ⟨_, rfl, by decide, rfl, wf_Net_11, rfl⟩
theorem wf_Net_17 : Cond.fieldLink R_Net 17 R_Net (F_Net 1).2.1 (F_Net 1).2.2.1 ∈ WA := wa_2 (List.mem_of_getElem? (i := 7) (by decide +kernel)) (by decide +kernel)
theorem fl_Net_17 : FL R_Net 17 4 1 := ⟨_, rfl, by decide, rfl, wf_Net_17⟩
theorem fw_Net_17 : FW R_Net 17 4 1 := ⟨_, rfl, by decide, rfl, wf_Net_17, rfl⟩
theorem wf_Net_21 : Cond.fieldLink R_Net 21 R_Net (F_Net 4).2.1 (F_Net 4).2.2.1 ∈ WA := wa_2 (List.mem_of_getElem? (i := 10) (by decide +kernel)) (by decide +kernel)
theorem fl_Net_21 : FL R_Net 21 4 4 := ⟨_, rfl, by decide, rfl, wf_Net_21⟩
theorem fw_Net_21 : FW R_Net 21 4 4 := ⟨_, rfl, by decide, rfl, wf_Net_21, rfl⟩
theorem wf_Net_29 : Cond.fieldLink R_Net 29 R_Net (F_Net 2).2.1 (F_Net 2).2.2.1 ∈ WA := wa_2 (List.mem_of_getElem? (i := 8) (by decide +kernel)) (by decide +kernel)
theorem fl_Net_29 : FL R_Net 29 4 2 := ⟨_, rfl, by decide, rfl, wf_Net_29⟩
theorem fw_Net_29 : FW R_Net 29 4 2 := ⟨_, rfl, by decide, rfl, wf_Net_29, rfl⟩
theorem wf_Net_32 : Cond.fieldLink R_Net 32 R_Net (F_Net 3).2.1 (F_Net 3).2.2.1 ∈ WA := wa_2 (List.mem_of_getElem? (i := 9) (by decide +kernel)) (by decide +kernel)
theorem fl_Net_32 : FL R_Net 32 4 3 := ⟨_, rfl, by decide, rfl, wf_Net_32⟩
theorem fw_Net_32 : FW R_Net 32 4 3 := ⟨_, rfl, by decide, rfl, wf_Net_32, rfl⟩
theorem wf_Srv_9 : Cond.fieldLink R_Srv 9 R_Srv (F_Srv 0).2.1 (F_Srv 0).2.2.1 ∈ WA := wa_1 (List.mem_of_getElem? (i := 95) (by decide +kernel)) (by decide +kernel)
theorem fl_Srv_9 : FL R_Srv 9 1 0 := ⟨_, rfl, by decide, rfl, wf_Srv_9⟩
theorem fi_Srv_9 : FI R_Srv 9 1 0 := ⟨_, rfl, by decide, rfl, wf_Srv_9, rfl, rfl⟩
theorem wf_Srv_15 : Cond.fieldLink R_Srv 15 R_Srv (F_Srv 1).2.1 (F_Srv 1).2.2.1 ∈ WA := wa_1 (List.mem_of_getElem? (i := 96) (by decide +kernel)) (by decide +kernel)
theorem fl_Srv_15 : FL R_Srv 15 1 1 := ⟨_, rfl, by decide, rfl, wf_Srv_15⟩
theorem fi_Srv_15 : FI R_Srv 15 1 1 := ⟨_, rfl, by decide, rfl, wf_Srv_15, rfl, rfl⟩
theorem wf_Srv_18 : Cond.fieldLink R_Srv 18 R_Srv (F_Srv 2).2.1 (F_Srv 2).2.2.1 ∈ WA := wa_1 (List.mem_of_getElem? (i := 98) (by decide +kernel)) (by decide +kernel)
theorem fl_Srv_18 : FL R_Srv 18 1 2 := ⟨_, rfl, by decide, rfl, wf_Srv_18⟩
theorem fi_Srv_18 : FI R_Srv 18 1 2 := ⟨_, rfl, by decide, rfl, wf_Srv_18, rfl, rfl⟩
theorem wf_Srv_21 : Cond.fieldLink R_Srv 21 R_Srv (F_Srv 3).2.1 (F_Srv 3).2.2.1 ∈ WA := wa_1 (List.mem_of_getElem? (i := 99) (by decide +kernel)) (by decide +kernel)
theorem fl_Srv_21 : FL R_Srv 21 1 3 := ⟨_, rfl, by decide, rfl, wf_Srv_21⟩
theorem fi_Srv_21 : FI R_Srv 21 1 3 := ⟨_, rfl, by decide, rfl, wf_Srv_21, rfl, rfl⟩
theorem wf_Srv_26 : Cond.fieldLink R_Srv 26 R_Srv (F_Srv 4).2.1 (F_Srv 4).2.2.1 ∈ WA := wa_1 (List.mem_of_getElem? (i := 100) (by decide +kernel)) (by decide +kernel)
theorem fl_Srv_26 : FL R_Srv 26 1 4 := ⟨_, rfl, by decide, rfl, wf_Srv_26⟩
theorem fi_Srv_26 : FI R_Srv 26 1 4 := ⟨_, rfl, by decide, rfl, wf_Srv_26, rfl, rfl⟩
theorem wf_Srv_33 : Cond.fieldLink R_Srv 33 R_Srv (F_Srv 6).2.1 (F_Srv 6).2.2.1 ∈ WA := wa_1 (List.mem_of_getElem? (i := 103) (by decide +kernel)) (by decide +kernel)
theorem fl_Srv_33 : FL R_Srv 33 1 6 := ⟨_, rfl, by decide, rfl, wf_Srv_33⟩
theorem fw_Srv_33 : FW R_Srv 33 1 6 := ⟨_, rfl, by decide, rfl, wf_Srv_33, rfl⟩
theorem wf_Srv_36 : Cond.fieldLink R_Srv 36 R_Srv (F_Srv 7).2.1 (F_Srv 7).2.2.1 ∈ WA := wa_1 (List.mem_of_getElem? (i := 105) (by decide +kernel)) (by decide +kernel)
theorem fl_Srv_36 : FL R_Srv 36 1 7 := ⟨_, rfl, by decide, rfl, wf_Srv_36⟩
theorem fw_Srv_36 : FW R_Srv 36 1 7 := ⟨_, rfl, by decide, rfl, wf_Srv_36, rfl⟩
theorem wf_Srv_39 : Cond.fieldLink R_Srv 39 R_Srv (F_Srv 8).2.1 (F_Srv 8).2.2.1 ∈ WA := wa_1 (List.mem_of_getElem? (i := 106) (by decide +kernel)) (by decide +kernel)
theorem fl_Srv_39 : FL R_Srv 39 1 8 := ⟨_, rfl, by decide, rfl, wf_Srv_39⟩
theorem fw_Srv_39 : FW R_Srv 39 1 8 := ⟨_, rfl, by decide, rfl, wf_Srv_39, rfl⟩
theorem wf_Srv_42 : Cond.fieldLink R_Srv 42 R_Srv (F_Srv 9).2.1 (F_Srv 9).2.2.1 ∈ WA := wa_1 (List.mem_of_getElem? (i := 107) (by decide +kernel)) (by decide +kernel)
theorem fl_Srv_42 : FL R_Srv 42 1 9 := ⟨_, rfl, by decide, rfl, wf_Srv_42⟩
theorem fw_Srv_42 : FW R_Srv 42 1 9 := ⟨_, rfl, by decide, rfl, wf_Srv_42, rfl⟩
theorem wf_Srv_49 : Cond.fieldLink R_Srv 49 R_Srv (F_Srv 12).2.1 (F_Srv 12).2.2.1 ∈ WA := wa_1 (List.mem_of_getElem? (i := 110) (by decide +kernel)) (by decide +kernel)
theorem fl_Srv_49 : FL R_Srv 49 1 12 := ⟨_, rfl, by decide, rfl, wf_Srv_49⟩
theorem fw_Srv_49 : FW R_Srv 49 1 12 := ⟨_, rfl, by decide, rfl, wf_Srv_49, rfl⟩
theorem wf_Srv_52 : Cond.fieldLink R_Srv 52 R_Srv (F_Srv 11).2.1 (F_Srv 11).2.2.1 ∈ WA := wa_1 (List.mem_of_getElem? (i := 109) (by decide +kernel)) (by decide +kernel)
theorem fl_Srv_52 : FL R_Srv 52 1 11 := ⟨_, rfl, by decide, rfl, wf_Srv_52⟩
theorem fw_Srv_52 : FW R_Srv 52 1 11 := ⟨_, rfl, by decide, rfl, wf_Srv_52, rfl⟩
theorem wf_Srv_58 : Cond.fieldLink R_Srv 58 R_Rec (F_Rec 12).2.1 (F_Rec 12).2.2.1 ∈ WA := wa_1 (List.mem_of_getElem? (i := 67) (by decide +kernel)) (by decide +kernel)
theorem fl_Srv_58 : FL R_Srv 58 2 12 := ⟨_, rfl, by decide, rfl, wf_Srv_58⟩
theorem fw_Srv_58 : FW R_Srv 58 2 12 := ⟨_, rfl, by decide, rfl, wf_Srv_58, rfl⟩
theorem wf_Srv_62 : Cond.fieldLink R_Srv 62 R_Rec (F_Rec 11).2.1 (F_Rec 11).2.2.1 ∈ WA := wa_1 (List.mem_of_getElem? (i := 65) (by decide +kernel)) (by decide +kernel)
theorem fl_Srv_62 : FL R_Srv 62 2 11 := ⟨_, rfl, by decide, rfl, wf_Srv_62⟩
theorem fw_Srv_62 : FW R_Srv 62 2 11 := ⟨_, rfl, by decide, rfl, wf_Srv_62, rfl⟩
theorem wf_Srv_68 : Cond.fieldLink R_Srv 68 R_Srv (F_Srv 10).2.1 (F_Srv 10).2.2.1 ∈ WA := wa_1 (List.mem_of_getElem? (i := 108) (by decide +kernel)) (by decide +kernel)
theorem fl_Srv_68 : FL R_Srv 68 1 10 := ⟨_, rfl, by decide, rfl, wf_Srv_68⟩
theorem fw_Srv_68 : FW R_Srv 68 1 10 := ⟨_, rfl, by decide, rfl, wf_Srv_68, rfl⟩
theorem wf_Srv_71 : Cond.fieldLink R_Srv 71 R_Rec (F_Rec 0).2.1 (F_Rec 0).2.2.1 ∈ WA := wa_1 (List.mem_of_getElem? (i := 45) (by decide +kernel)) (by decide +kernel)
theorem fl_Srv_71 : FL R_Srv 71 2 0 := ⟨_, rfl, by decide, rfl, wf_Srv_71⟩
theorem wf_Srv_74 : Cond.fieldLink R_Srv 74 R_Msg (F_Msg 3).2.1 (F_Msg 3).2.2.1 ∈ WA := wa_1 (List.mem_of_getElem? (i := 182) (by decide +kernel)) (by decide +kernel)
theorem fl_Srv_74 : FL R_Srv 74 5 3 := ⟨_, rfl, by decide, rfl, wf_Srv_74⟩
theorem fw_Srv_74 : FW R_Srv 74 5 3 := ⟨_, rfl, by decide, rfl, wf_Srv_74, rfl⟩
theorem wf_Srv_81 : Cond.fieldLink R_Srv 81 R_Msg (F_Msg 4).2.1 (F_Msg 4).2.2.1 ∈ WA := wa_1 (List.mem_of_getElem? (i := 185) (by decide +kernel)) (by decide +kernel)
theorem fl_Srv_81 : FL R_Srv 81 5 4 := ⟨_, rfl, by decide, rfl, wf_Srv_81⟩
theorem fw_Srv_81 : FW R_Srv 81 5 4 := ⟨_, rfl, by decide, rfl, wf_Srv_81, rfl⟩
theorem wf_Srv_84 : Cond.fieldLink R_Srv 84 R_Msg (F_Msg 1).2.1 (F_Msg 1).2.2.1 ∈ WA := wa_1 (List.mem_of_getElem? (i := 178) (by decide +kernel)) (by decide +kernel)
theorem fl_Srv_84 : FL R_Srv 84 5 1 := ⟨_, rfl, by decide, rfl, wf_Srv_84⟩
theorem wf_Srv_107 : Cond.fieldLink R_Srv 107 R_Rec (F_Rec 2).2.1 (F_Rec 2).2.2.1 ∈ WA := wa_1 (List.mem_of_getElem? (i := 49) (by decide +kernel)) (by decide +kernel)
theorem fl_Srv_107 : FL R_Srv 107 2 2 := ⟨_, rfl, by decide, rfl, wf_Srv_107⟩
theorem fw_Srv_107 : FW R_Srv 107 2 2 := ⟨_, rfl, by decide, rfl, wf_Srv_107, rfl⟩
theorem wf_Srv_114 : Cond.fieldLink R_Srv 114 R_Msg (F_Msg 6).2.1 (F_Msg 6).2.2.1 ∈ WA := wa_1 (List.mem_of_getElem? (i := 194) (by decide +kernel)) (by decide +kernel)
theorem fl_Srv_114 : FL R_Srv 114 5 6 := ⟨_, rfl, by decide, rfl, wf_Srv_114⟩
theorem fw_Srv_114 : FW R_Srv 114 5 6 := ⟨_, rfl, by decide, rfl, wf_Srv_114, rfl⟩
theorem wf_Srv_125 : Cond.fieldLink R_Srv 125 R_Msg (F_Msg 5).2.1 (F_Msg 5).2.2.1 ∈ WA := wa_1 (List.mem_of_getElem? (i := 190) (by decide +kernel)) (by decide +kernel)
theorem fl_Srv_125 : FL R_Srv 125 5 5 := ⟨_, rfl, by decide, rfl, wf_Srv_125⟩
theorem fw_Srv_125 : FW R_Srv 125 5 5 := ⟨_, rfl, by decide, rfl, wf_Srv_125, rfl⟩
theorem wf_Srv_126 : Cond.fieldLink R_Srv 126 R_Rec (F_Rec 5).2.1 (F_Rec 5).2.2.1 ∈ WA := wa_1 (List.mem_of_getElem? (i := 55) (by decide +kernel)) (by decide +kernel)
theorem fl_Srv_126 : FL R_Srv 126 2 5 := ⟨_, rfl, by decide, rfl, wf_Srv_126⟩
theorem wf_Srv_133 : Cond.fieldLink R_Srv 133 R_Rec (F_Rec 3).2.1 (F_Rec 3).2.2.1 ∈ WA := wa_1 (List.mem_of_getElem? (i := 51) (by decide +kernel)) (by decide +kernel)
theorem fl_Srv_133 : FL R_Srv 133 2 3 := ⟨_, rfl, by decide, rfl, wf_Srv_133⟩
theorem fw_Srv_133 : FW R_Srv 133 2 3 := ⟨_, rfl, by decide, rfl, wf_Srv_133, rfl⟩
theorem wf_Srv_136 : Cond.fieldLink R_Srv 136 R_Rec (F_Rec 8).2.1 (F_Rec 8).2.2.1 ∈ WA := wa_1 (List.mem_of_getElem? (i := 60) (by decide +kernel)) (by decide +kernel)
theorem fl_Srv_136 : FL R_Srv 136 2 8 := ⟨_, rfl, by decide, rfl, wf_Srv_136⟩
theorem wf_Srv_148 : Cond.fieldLink R_Srv 148 R_Rec (F_Rec 4).2.1 (F_Rec 4).2.2.1 ∈ WA := wa_1 (List.mem_of_getElem? (i := 53) (by decide +kernel)) (by decide +kernel)
theorem fl_Srv_148 : FL R_Srv 148 2 4 := ⟨_, rfl, by decide, rfl, wf_Srv_148⟩
theorem fw_Srv_148 : FW R_Srv 148 2 4 := ⟨_, rfl, by decide, rfl, wf_Srv_148, rfl⟩
theorem wf_Srv_161 : Cond.fieldLink R_Srv 161 R_Msg (F_Msg 7).2.1 (F_Msg 7).2.2.1 ∈ WA := wa_1 (List.mem_of_getElem? (i := 196) (by decide +kernel)) (by decide +kernel)
theorem fl_Srv_161 : FL R_Srv 161 5 7 := ⟨_, rfl, by decide, rfl, wf_Srv_161⟩
theorem fw_Srv_161 : FW R_Srv 161 5 7 := ⟨_, rfl, by decide, rfl, wf_Srv_161, rfl⟩
theorem wf_Srv_162 : Cond.fieldLink R_Srv 162 R_Rec (F_Rec 10).2.1 (F_Rec 10).2.2.1 ∈ WA := wa_1 (List.mem_of_getElem? (i := 64) (by decide +kernel)) (by decide +kernel)
theorem fl_Srv_162 : FL R_Srv 162 2 10 := ⟨_, rfl, by decide, rfl, wf_Srv_162⟩
theorem fw_Srv_162 : FW R_Srv 162 2 10 := ⟨_, rfl, by decide, rfl, wf_Srv_162, rfl⟩
theorem wf_Srv_165 : Cond.fieldLink R_Srv 165 R_Msg (F_Msg 8).2.1 (F_Msg 8).2.2.1 ∈ WA := wa_1 (List.mem_of_getElem? (i := 198) (by decide +kernel)) (by decide +kernel)
theorem fl_Srv_165 : FL R_Srv 165 5 8 := ⟨_, rfl, by decide, rfl, wf_Srv_165⟩
theorem fw_Srv_165 : FW R_Srv 165 5 8 := ⟨_, rfl, by decide, rfl, wf_Srv_165, rfl⟩
theorem wf_Srv_166 : Cond.fieldLink R_Srv 166 R_Rec (F_Rec 9).2.1 (F_Rec 9).2.2.1 ∈ WA := wa_1 (List.mem_of_getElem? (i := 62) (by decide +kernel)) (by decide +kernel)
theorem fl_Srv_166 : FL R_Srv 166 2 9 := ⟨_, rfl, by decide, rfl, wf_Srv_166⟩
theorem fw_Srv_166 : FW R_Srv 166 2 9 := ⟨_, rfl, by decide, rfl, wf_Srv_166, rfl⟩
theorem wf_Srv_195 : Cond.fieldLink R_Srv 195 R_Msg (F_Msg 13).2.1 (F_Msg 13).2.2.1 ∈ WA := wa_1 (List.mem_of_getElem? (i := 211) (by decide +kernel)) (by decide +kernel)
theorem fl_Srv_195 : FL R_Srv 195 5 13 := ⟨_, rfl, by decide, rfl, wf_Srv_195⟩
theorem fw_Srv_195 : FW R_Srv 195 5 13 := ⟨_, rfl, by decide, rfl, wf_Srv_195, rfl⟩
theorem wf_Srv_196 : Cond.fieldLink R_Srv 196 R_Msg (F_Msg 12).2.1 (F_Msg 12).2.2.1 ∈ WA := wa_1 (List.mem_of_getElem? (i := 209) (by decide +kernel)) (by decide +kernel)
theorem fl_Srv_196 : FL R_Srv 196 5 12 := ⟨_, rfl, by decide, rfl, wf_Srv_196⟩
theorem fw_Srv_196 : FW R_Srv 196 5 12 := ⟨_, rfl, by decide, rfl, wf_Srv_196, rfl⟩
theorem wf_Srv_203 : Cond.fieldLink R_Srv 203 R_Msg (F_Msg 14).2.1 (F_Msg 14).2.2.1 ∈ WA := wa_1 (List.mem_of_getElem? (i := 214) (by decide +kernel)) (by decide +kernel)
theorem fl_Srv_203 : FL R_Srv 203 5 14 := ⟨_, rfl, by decide, rfl, wf_Srv_203⟩
theorem fw_Srv_203 : FW R_Srv 203 5 14 := ⟨_, rfl, by decide, rfl, wf_Srv_203, rfl⟩
theorem wf_Srv_212 : Cond.fieldLink R_Srv 212 R_Rec (F_Rec 1).2.1 (F_Rec 1).2.2.1 ∈ WA := wa_1 (List.mem_of_getElem? (i := 47) (by decide +kernel)) (by decide +kernel)
theorem fl_Srv_212 : FL R_Srv 212 2 1 := ⟨_, rfl, by decide, rfl, wf_Srv_212⟩
theorem wf_Srv_215 : Cond.fieldLink R_Srv 215 R_Msg (F_Msg 9).2.1 (F_Msg 9).2.2.1 ∈ WA := wa_1 (List.mem_of_getElem? (i := 201) (by decide +kernel)) (by decide +kernel)
theorem fl_Srv_215 : FL R_Srv 215 5 9 := ⟨_, rfl, by decide, rfl, wf_Srv_215⟩
theorem fw_Srv_215 : FW R_Srv 215 5 9 := ⟨_, rfl, by decide, rfl, wf_Srv_215, rfl⟩
theorem wf_Srv_216 : Cond.fieldLink R_Srv 216 R_Msg (F_Msg 10).2.1 (F_Msg 10).2.2.1 ∈ WA := wa_1 (List.mem_of_getElem? (i := 204) (by decide +kernel)) (by decide +kernel)
theorem fl_Srv_216 : FL R_Srv 216 5 10 := ⟨_, rfl, by decide, rfl, wf_Srv_216⟩
theorem fw_Srv_216 : FW R_Srv 216 5 10 := ⟨_, rfl, by decide, rfl, wf_Srv_216, rfl⟩
theorem wf_Srv_217 : Cond.fieldLink R_Srv 217 R_Msg (F_Msg 11).2.1 (F_Msg 11).2.2.1 ∈ WA := wa_1 (List.mem_of_getElem? (i := 207) (by decide +kernel)) (by decide +kernel)
theorem fl_Srv_217 : FL R_Srv 217 5 11 := ⟨_, rfl, by decide, rfl, wf_Srv_217⟩
theorem fw_Srv_217 : FW R_Srv 217 5 11 := ⟨_, rfl, by decide, rfl, wf_Srv_217, rfl⟩
theorem wf_Srv_225 : Cond.fieldLink R_Srv 225 R_Rec (F_Rec 7).2.1 (F_Rec 7).2.2.1 ∈ WA := wa_1 (List.mem_of_getElem? (i := 58) (by decide +kernel)) (by decide +kernel)
theorem fl_Srv_225 : FL R_Srv 225 2 7 := ⟨_, rfl, by decide, rfl, wf_Srv_225⟩
theorem wf_Mod_7 : Cond.fieldLink R_Mod 7 R_Mod (F_Mod 5).2.1 (F_Mod 5).2.2.1 ∈ WA := wa_4 (List.mem_of_getElem? (i := 56) (by decide +kernel)) (by decide +kernel)
theorem fl_Mod_7 : FL R_Mod 7 6 5 := ⟨_, rfl, by decide, rfl, wf_Mod_7⟩
theorem fi_Mod_7 : FI R_Mod 7 6 5 := ⟨_, rfl, by decide, rfl, wf_Mod_7, rfl, rfl⟩
theorem wf_Mod_13 : Cond.fieldLink R_Mod 13 R_Mod (F_Mod 6).2.1 (F_Mod 6).2.2.1 ∈ WA := wa_4 (List.mem_of_getElem? (i := 57) (by decide +kernel)) (by decide +kernel)
theorem fl_Mod_13 : FL R_Mod 13 6 6 := ⟨_, rfl, by decide, rfl, wf_Mod_13⟩
theorem fi_Mod_13 : FI R_Mod 13 6 6 := ⟨_, rfl, by decide, rfl, wf_Mod_13, rfl, rfl⟩
theorem wf_Mod_16 : Cond.fieldLink R_Mod 16 R_Mod (F_Mod 7).2.1 (F_Mod 7).2.2.1 ∈ WA := wa_4 (List.mem_of_getElem? (i := 58) (by decide +kernel)) (by decide +kernel)
theorem fl_Mod_16 : FL R_Mod 16 6 7 := ⟨_, rfl, by decide, rfl, wf_Mod_16⟩
theorem fi_Mod_16 : FI R_Mod 16 6 7 := ⟨_, rfl, by decide, rfl, wf_Mod_16, rfl, rfl⟩
theorem wf_Mod_19 : Cond.fieldLink R_Mod 19 R_Mod (F_Mod 8).2.1 (F_Mod 8).2.2.1 ∈ WA := wa_4 (List.mem_of_getElem? (i := 59) (by decide +kernel)) (by decide +kernel)
theorem fl_Mod_19 : FL R_Mod 19 6 8 := ⟨_, rfl, by decide, rfl, wf_Mod_19⟩
theorem fi_Mod_19 : FI R_Mod 19 6 8 := ⟨_, rfl, by decide, rfl, wf_Mod_19, rfl, rfl⟩
theorem wf_Mod_22 : Cond.fieldLink R_Mod 22 R_Mod (F_Mod 9).2.1 (F_Mod 9).2.2.1 ∈ WA := wa_4 (List.mem_of_getElem? (i := 60) (by decide +kernel)) (by decide +kernel)
theorem fl_Mod_22 : FL R_Mod 22 6 9 := ⟨_, rfl, by decide, rfl, wf_Mod_22⟩
theorem fi_Mod_22 : FI R_Mod 22 6 9 := ⟨_, rfl, by decide, rfl, wf_Mod_22, rfl, rfl⟩
theorem wf_Mod_25 : Cond.fieldLink R_Mod 25 R_Mod (F_Mod 10).2.1 (F_Mod 10).2.2.1 ∈ WA := wa_4 (List.mem_of_getElem? (i := 61) (by decide +kernel)) (by decide +kernel)
theorem fl_Mod_25 : FL R_Mod 25 6 10 := ⟨_, rfl, by decide, rfl, wf_Mod_25⟩
theorem fi_Mod_25 : FI R_Mod 25 6 10 := ⟨_, rfl, by decide, rfl, wf_Mod_25, rfl, rfl⟩
theorem wf_Mod_28 : Cond.fieldLink R_Mod 28 R_Mod (F_Mod 11).2.1 (F_Mod 11).2.2.1 ∈ WA := wa_4 (List.mem_of_getElem? (i := 62) (by decide +kernel)) (by decide +kernel)
theorem fl_Mod_28 : FL R_Mod 28 6 11 := ⟨_, rfl, by decide, rfl, wf_Mod_28⟩
theorem fi_Mod_28 : FI R_Mod 28 6 11 := ⟨_, rfl, by decide, rfl, wf_Mod_28, rfl, rfl⟩
theorem wf_Mod_31 : Cond.fieldLink R_Mod 31 R_Mod (F_Mod 12).2.1 (F_Mod 12).2.2.1 ∈ WA := wa_4 (List.mem_of_getElem? (i := 63) (by decide +kernel)) (by decide +kernel)
theorem fl_Mod_31 : FL R_Mod 31 6 12 := ⟨_, rfl, by decide, rfl, wf_Mod_31⟩
theorem fi_Mod_31 : FI R_Mod 31 6 12 := ⟨_, rfl, by decide, rfl, wf_Mod_31, rfl, rfl⟩
theorem wf_Mod_34 : Cond.fieldLink R_Mod 34 R_Mod (F_Mod 13).2.1 (F_Mod 13).2.2.1 ∈ WA := wa_4 (List.mem_of_getElem? (i := 64) (by decide +kernel)) (by decide +kernel)
theorem fl_Mod_34 : FL R_Mod 34 6 13 := ⟨_, rfl, by decide, rfl, wf_Mod_34⟩
theorem fi_Mod_34 : FI R_Mod 34 6 13 := ⟨_, rfl, by decide, rfl, wf_Mod_34, rfl, rfl⟩
theorem wf_Mod_37 : Cond.fieldLink R_Mod 37 R_Mod (F_Mod 14).2.1 (F_Mod 14).2.2.1 ∈ WA := wa_4 (List.mem_of_getElem? (i := 65) (by decide +kernel)) (by decide +kernel)
theorem fl_Mod_37 : FL R_Mod 37 6 14 := ⟨_, rfl, by decide, rfl, wf_Mod_37⟩
theorem fi_Mod_37 : FI R_Mod 37 6 14 := ⟨_, rfl, by decide, rfl, wf_Mod_37, rfl, rfl⟩
theorem wf_Mod_40 : Cond.fieldLink R_Mod 40 R_Mod (F_Mod 15).2.1 (F_Mod 15).2.2.1 ∈ WA := wa_4 (List.mem_of_getElem? (i := 66) (by decide +kernel)) (by decide +kernel)
theorem fl_Mod_40 : FL R_Mod 40 6 15 := ⟨_, rfl, by decide, rfl, wf_Mod_40⟩
theorem fi_Mod_40 : FI R_Mod 40 6 15 := ⟨_, rfl, by decide, rfl, wf_Mod_40, rfl, rfl⟩
theorem wf_Mod_43 : Cond.fieldLink R_Mod 43 R_Mod (F_Mod 16).2.1 (F_Mod 16).2.2.1 ∈ WA := wa_4 (List.mem_of_getElem? (i := 67) (by decide +kernel)) (by decide +kernel)
theorem fl_Mod_43 : FL R_Mod 43 6 16 := ⟨_, rfl, by decide, rfl, wf_Mod_43⟩
theorem fi_Mod_43 : FI R_Mod 43 6 16 := ⟨_, rfl, by decide, rfl, wf_Mod_43, rfl, rfl⟩
theorem wf_Mod_46 : Cond.fieldLink R_Mod 46 R_Mod (F_Mod 17).2.1 (F_Mod 17).2.2.1 ∈ WA := wa_4 (List.mem_of_getElem? (i := 68) (by decide +kernel)) (by decide +kernel)
theorem fl_Mod_46 : FL R_Mod 46 6 17 := ⟨_, rfl, by decide, rfl, wf_Mod_46⟩
theorem fi_Mod_46 : FI R_Mod 46 6 17 := ⟨_, rfl, by decide, rfl, wf_Mod_46, rfl, rfl⟩
theorem wf_Mod_50 : Cond.fieldLink R_Mod 50 R_Mod (F_Mod 18).2.1 (F_Mod 18).2.2.1 ∈ WA := wa_4 (List.mem_of_getElem? (i := 69) (by decide +kernel)) (by decide +kernel)
theorem fl_Mod_50 : FL R_Mod 50 6 18 := ⟨_, rfl, by decide, rfl, wf_Mod_50⟩
theorem fi_Mod_50 : FI R_Mod 50 6 18 := ⟨_, rfl, by decide, rfl, wf_Mod_50, rfl, rfl⟩
theorem wf_Mod_53 : Cond.fieldLink R_Mod 53 R_Mod (F_Mod 19).2.1 (F_Mod 19).2.2.1 ∈ WA := wa_4 (List.mem_of_getElem? (i := 70) (by decide +kernel)) (by decide +kernel)
theorem fl_Mod_53 : FL R_Mod 53 6 19 := ⟨_, rfl, by decide, rfl, wf_Mod_53⟩
theorem fi_Mod_53 : FI R_Mod 53 6 19 := ⟨_, rfl, by decide, rfl, wf_Mod_53, rfl, rfl⟩
theorem wf_Mod_56 : Cond.fieldLink R_Mod 56 R_Mod (F_Mod 20).2.1 (F_Mod 20).2.2.1 ∈ WA := wa_4 (List.mem_of_getElem? (i := 71) (by decide +kernel)) (by decide +kernel)
theorem fl_Mod_56 : FL R_Mod 56 6 20 := ⟨_, rfl, by decide, rfl, wf_Mod_56⟩
theorem fi_Mod_56 : FI R_Mod 56 6 20 := ⟨_, rfl, by decide, rfl, wf_Mod_56, rfl, rfl⟩
theorem wf_Mod_59 : Cond.fieldLink R_Mod 59 R_Mod (F_Mod 21).2.1 (F_Mod 21).2.2.1 ∈ WA := wa_4 (List.mem_of_getElem? (i := 72) (by decide +kernel)) (by decide +kernel)
theorem fl_Mod_59 : FL R_Mod 59 6 21 := ⟨_, rfl, by decide, rfl, wf_Mod_59⟩
theorem fi_Mod_59 : FI R_Mod 59 6 21 := ⟨_, rfl, by decide, rfl, wf_Mod_59, rfl, rfl⟩
theorem wf_Mod_62 : Cond.fieldLink R_Mod 62 R_Mod (F_Mod 22).2.1 (F_Mod 22).2.2.1 ∈ WA := wa_4 (List.mem_of_getElem? (i := 73) (by decide +kernel)) (by decide +kernel)
theorem fl_Mod_62 : FL R_Mod 62 6 22 := ⟨_, rfl, by decide, rfl, wf_Mod_62⟩
theorem fi_Mod_62 : FI R_Mod 62 6 22 := ⟨_, rfl, by decide, rfl, wf_Mod_62, rfl, rfl⟩
theorem wf_Mod_65 : Cond.fieldLink R_Mod 65 R_Mod (F_Mod 23).2.1 (F_Mod 23).2.2.1 ∈ WA := wa_4 (List.mem_of_getElem? (i := 74) (by decide +kernel)) (by decide +kernel)
theorem fl_Mod_65 : FL R_Mod 65 6 23 := ⟨_, rfl, by decide, rfl, wf_Mod_65⟩
theorem fi_Mod_65 : FI R_Mod 65 6 23 := ⟨_, rfl, by decide, rfl, wf_Mod_65, rfl, rfl⟩
theorem wf_Mod_68 : Cond.fieldLink R_Mod 68 R_Mod (F_Mod 24).2.1 (F_Mod 24).2.2.1 ∈ WA := wa_4 (List.mem_of_getElem? (i := 75) (by decide +kernel)) (by decide +kernel)
theorem fl_Mod_68 : FL R_Mod 68 6 24 := ⟨_, rfl, by decide, rfl, wf_Mod_68⟩
theorem fi_Mod_68 : FI R_Mod 68 6 24 := ⟨_, rfl, by decide, rfl, wf_Mod_68, rfl, rfl⟩
theorem wf_Mod_71 : Cond.fieldLink R_Mod 71 R_Mod (F_Mod 25).2.1 (F_Mod 25).2.2.1 ∈ WA := wa_4 (List.mem_of_getElem? (i := 76) (by decide +kernel)) (by decide +kernel)
theorem fl_Mod_71 : FL R_Mod 71 6 25 := ⟨_, rfl, by decide, rfl, wf_Mod_71⟩
theorem fi_Mod_71 : FI R_Mod 71 6 25 := ⟨_, rfl, by decide, rfl, wf_Mod_71, rfl, rfl⟩
theorem wf_Mod_74 : Cond.fieldLink R_Mod 74 R_Mod (F_Mod 26).2.1 (F_Mod 26).2.2.1 ∈ WA := wa_4 (List.mem_of_getElem? (i := 77) (by decide +kernel)) (by decide +kernel)
theorem fl_Mod_74 : FL R_Mod 74 6 26 := ⟨_, rfl, by decide, rfl, wf_Mod_74⟩
theorem fi_Mod_74 : FI R_Mod 74 6 26 := ⟨_, rfl, by decide, rfl, wf_Mod_74, rfl, rfl⟩
theorem wf_Mod_77 : Cond.fieldLink R_Mod 77 R_Mod (F_Mod 27).2.1 (F_Mod 27).2.2.1 ∈ WA := wa_4 (List.mem_of_getElem? (i := 78) (by decide +kernel)) (by decide +kernel)
theorem fl_Mod_77 : FL R_Mod 77 6 27 := ⟨_, rfl, by decide, rfl, wf_Mod_77⟩
theorem fi_Mod_77 : FI R_Mod 77 6 27 := ⟨_, rfl, by decide, rfl, wf_Mod_77, rfl, rfl⟩
theorem wf_Mod_80 : Cond.fieldLink R_Mod 80 R_Mod (F_Mod 28).2.1 (F_Mod 28).2.2.1 ∈ WA := wa_4 (List.mem_of_getElem? (i := 79) (by decide +kernel)) (by decide +kernel)
theorem fl_Mod_80 : FL R_Mod 80 6 28 := ⟨_, rfl, by decide, rfl, wf_Mod_80⟩
theorem fi_Mod_80 : FI R_Mod 80 6 28 := ⟨_, rfl, by decide, rfl, wf_Mod_80, rfl, rfl⟩
theorem wf_Mod_83 : Cond.fieldLink R_Mod 83 R_Mod (F_Mod 29).2.1 (F_Mod 29).2.2.1 ∈ WA := wa_4 (List.mem_of_getElem? (i := 80) (by decide +kernel)) (by decide +kernel)
theorem fl_Mod_83 : FL R_Mod 83 6 29 := ⟨_, rfl, by decide, rfl, wf_Mod_83⟩
theorem fi_Mod_83 : FI R_Mod 83 6 29 := ⟨_, rfl, by decide, rfl, wf_Mod_83, rfl, rfl⟩
theorem wf_Mod_86 : Cond.fieldLink R_Mod 86 R_Mod (F_Mod 32).2.1 (F_Mod 32).2.2.1 ∈ WA := wa_4 (List.mem_of_getElem? (i := 83) (by decide +kernel)) (by decide +kernel)
theorem fl_Mod_86 : FL R_Mod 86 6 32 := ⟨_, rfl, by decide, rfl, wf_Mod_86⟩
theorem fi_Mod_86 : FI R_Mod 86 6 32 := ⟨_, rfl, by decide, rfl, wf_Mod_86, rfl, rfl⟩
theorem wf_Mod_89 : Cond.fieldLink R_Mod 89 R_Mod (F_Mod 33).2.1 (F_Mod 33).2.2.1 ∈ WA := wa_4 (List.mem_of_getElem? (i := 84) (by decide +kernel)) (by decide +kernel)
theorem fl_Mod_89 : FL R_Mod 89 6 33 := ⟨_, rfl, by decide, rfl, wf_Mod_89⟩
theorem fi_Mod_89 : FI R_Mod 89 6 33 := ⟨_, rfl, by decide, rfl, wf_Mod_89, rfl, rfl⟩
theorem wf_Mod_92 : Cond.fieldLink R_Mod 92 R_Mod (F_Mod 34).2.1 (F_Mod 34).2.2.1 ∈ WA := wa_4 (List.mem_of_getElem? (i := 85) (by decide +kernel)) (by decide +kernel)
theorem fl_Mod_92 : FL R_Mod 92 6 34 := ⟨_, rfl, by decide, rfl, wf_Mod_92⟩
theorem fi_Mod_92 : FI R_Mod 92 6 34 := ⟨_, rfl, by decide, rfl, wf_Mod_92, rfl, rfl⟩
theorem wf_Mod_95 : Cond.fieldLink R_Mod 95 R_Mod (F_Mod 35).2.1 (F_Mod 35).2.2.1 ∈ WA := wa_4 (List.mem_of_getElem? (i := 86) (by decide +kernel)) (by decide +kernel)
theorem fl_Mod_95 : FL R_Mod 95 6 35 := ⟨_, rfl, by decide, rfl, wf_Mod_95⟩
theorem fi_Mod_95 : FI R_Mod 95 6 35 := ⟨_, rfl, by decide, rfl, wf_Mod_95, rfl, rfl⟩
theorem wf_Mod_98 : Cond.fieldLink R_Mod 98 R_Mod (F_Mod 1).2.1 (F_Mod 1).2.2.1 ∈ WA := wa_4 (List.mem_of_getElem? (i := 52) (by decide +kernel)) (by decide +kernel)
theorem fl_Mod_98 : FL R_Mod 98 6 1 := ⟨_, rfl, by decide, rfl, wf_Mod_98⟩
theorem fi_Mod_98 : FI R_Mod 98 6 1 := ⟨_, rfl, by decide, rfl, wf_Mod_98, rfl, rfl⟩
theorem wf_Mod_102 : Cond.fieldLink R_Mod 102 R_Mod (F_Mod 2).2.1 (F_Mod 2).2.2.1 ∈ WA := wa_4 (List.mem_of_getElem? (i := 53) (by decide +kernel)) (by decide +kernel)
theorem fl_Mod_102 : FL R_Mod 102 6 2 := ⟨_, rfl, by decide, rfl, wf_Mod_102⟩
theorem fi_Mod_102 : FI R_Mod 102 6 2 := ⟨_, rfl, by decide, rfl, wf_Mod_102, rfl, rfl⟩
theorem wf_Mod_105 : Cond.fieldLink R_Mod 105 R_Mod (F_Mod 3).2.1 (F_Mod 3).2.2.1 ∈ WA := wa_4 (List.mem_of_getElem? (i := 54) (by decide +kernel)) (by decide +kernel)
theorem fl_Mod_105 : FL R_Mod 105 6 3 := ⟨_, rfl, by decide, rfl, wf_Mod_105⟩
theorem fi_Mod_105 : FI R_Mod 105 6 3 := ⟨_, rfl, by decide, rfl, wf_Mod_105, rfl, rfl⟩
theorem wf_Mod_108 : Cond.fieldLink R_Mod 108 R_Mod (F_Mod 0).2.1 (F_Mod 0).2.2.1 ∈ WA := wa_4 (List.mem_of_getElem? (i := 51) (by decide +kernel)) (by decide +kernel)
theorem fl_Mod_108 : FL R_Mod 108 6 0 := ⟨_, rfl, by decide, rfl, wf_Mod_108⟩
theorem fw_Mod_108 : FW R_Mod 108 6 0 := ⟨_, rfl, by decide, rfl, wf_Mod_108, rfl⟩
theorem wf_Mod_111 : Cond.fieldLink R_Mod 111 R_Mod (F_Mod 4).2.1 (F_Mod 4).2.2.1 ∈ WA := wa_4 (List.mem_of_getElem? (i := 55) (by decide +kernel)) (by decide +kernel)
theorem fl_Mod_111 : FL R_Mod 111 6 4 := ⟨_, rfl, by decide, rfl, wf_Mod_111⟩
theorem fw_Mod_111 : FW R_Mod 111 6 4 := ⟨_, rfl, by decide, rfl, wf_Mod_111, rfl⟩
theorem wf_Mod_114 : Cond.fieldLink R_Mod 114 R_Mod (F_Mod 31).2.1 (F_Mod 31).2.2.1 ∈ WA := wa_4 (List.mem_of_getElem? (i := 82) (by decide +kernel)) (by decide +kernel)
theorem fl_Mod_114 : FL R_Mod 114 6 31 := ⟨_, rfl, by decide, rfl, wf_Mod_114⟩
theorem fw_Mod_114 : FW R_Mod 114 6 31 := ⟨_, rfl, by decide, rfl, wf_Mod_114, rfl⟩
theorem wf_Mod_197 : Cond.fieldLink R_Mod 197 R_Mod (F_Mod 30).2.1 (F_Mod 30).2.2.1 ∈ WA := wa_4 (List.mem_of_getElem? (i := 81) (by decide +kernel)) (by decide +kernel)
theorem fl_Mod_197 : FL R_Mod 197 6 30 := ⟨_, rfl, by decide, rfl, wf_Mod_197⟩
theorem fw_Mod_197 : FW R_Mod 197 6 30 := ⟨_, rfl, by decide, rfl, wf_Mod_197, rfl⟩
theorem wc_LP_50 : Cond.constant R_LP 50 100000 ∈ WA := wa_3 (List.mem_of_getElem? (i := 20) (by decide +kernel)) (by decide +kernel)
theorem wc_LP_55 : Cond.constant R_LP 55 1000000000 ∈ WA := wa_3 (List.mem_of_getElem? (i := 24) (by decide +kernel)) (by decide +kernel)
theorem wc_Mod_200 : Cond.constant R_Mod 200 100000 ∈ WA := wa_4 (List.mem_of_getElem? (i := 170) (by decide +kernel)) (by decide +kernel)
theorem wc_Mod_201 : Cond.constant R_Mod 201 1000000000 ∈ WA := wa_4 (List.mem_of_getElem? (i := 171) (by decide +kernel)) (by decide +kernel)
theorem wk_LP_within : Cond.code md_LP_within.1 md_LP_within.2.1 md_LP_within.2.2.1 md_LP_within.2.2.2 ∈ WA := wa_1 (List.mem_of_getElem? (i := 23) (by decide +kernel)) (by decide +kernel)
theorem wn_LP_within : Cond.initialized md_LP_within.1.cls ∈ WA := wa_1 (List.mem_of_getElem? (i := 1) (by decide +kernel)) (by decide +kernel)
theorem ms_LP_within : Cond.static md_LP_within.1 ∈ WA := wa_1 (List.mem_of_getElem? (i := 22) (by decide +kernel)) (by decide +kernel)
theorem ml_LP_9 : MLk R_LP 9 md_LP_within 3 := ⟨wa_1 (List.mem_of_getElem? (i := 21) (by decide +kernel)) (by decide +kernel), wn_LP_within, wk_LP_within, by decide +kernel⟩
theorem wk_Srv_init : Cond.code md_Srv_init.1 md_Srv_init.2.1 md_Srv_init.2.2.1 md_Srv_init.2.2.2 ∈ WA := wa_1 (List.mem_of_getElem? (i := 35) (by decide +kernel)) (by decide +kernel)
theorem wn_Srv_init : Cond.initialized md_Srv_init.1.cls ∈ WA := wa_1 (List.mem_of_getElem? (i := 3) (by decide +kernel)) (by decide +kernel)
theorem mo_Srv_init : Cond.instanceMethod md_Srv_init.1 ∈ WA := wa_1 (List.mem_of_getElem? (i := 34) (by decide +kernel)) (by decide +kernel)
theorem ml_LP_26 : MLk R_LP 26 md_Srv_init 4 := ⟨wa_1 (List.mem_of_getElem? (i := 33) (by decide +kernel)) (by decide +kernel), wn_Srv_init, wk_Srv_init, by decide +kernel⟩
theorem wk_Cli_init : Cond.code md_Cli_init.1 md_Cli_init.2.1 md_Cli_init.2.2.1 md_Cli_init.2.2.2 ∈ WA := wa_1 (List.mem_of_getElem? (i := 144) (by decide +kernel)) (by decide +kernel)
theorem wn_Cli_init : Cond.initialized md_Cli_init.1.cls ∈ WA := wa_1 (List.mem_of_getElem? (i := 5) (by decide +kernel)) (by decide +kernel)
theorem mo_Cli_init : Cond.instanceMethod md_Cli_init.1 ∈ WA := wa_1 (List.mem_of_getElem? (i := 143) (by decide +kernel)) (by decide +kernel)
theorem ml_LP_35 : MLk R_LP 35 md_Cli_init 0 := ⟨wa_1 (List.mem_of_getElem? (i := 142) (by decide +kernel)) (by decide +kernel), wn_Cli_init, wk_Cli_init, by decide +kernel⟩
theorem wk_Net_init : Cond.code md_Net_init.1 md_Net_init.2.1 md_Net_init.2.2.1 md_Net_init.2.2.2 ∈ WA := wa_1 (List.mem_of_getElem? (i := 166) (by decide +kernel)) (by decide +kernel)
theorem wn_Net_init : Cond.initialized md_Net_init.1.cls ∈ WA := wa_1 (List.mem_of_getElem? (i := 6) (by decide +kernel)) (by decide +kernel)
theorem mo_Net_init : Cond.instanceMethod md_Net_init.1 ∈ WA := wa_1 (List.mem_of_getElem? (i := 165) (by decide +kernel)) (by decide +kernel)
theorem ml_LP_38 : MLk R_LP 38 md_Net_init 0 := ⟨wa_1 (List.mem_of_getElem? (i := 164) (by decide +kernel)) (by decide +kernel), wn_Net_init, wk_Net_init, by decide +kernel⟩
theorem wk_LP_isWithin : Cond.code md_LP_isWithin.1 md_LP_isWithin.2.1 md_LP_isWithin.2.2.1 md_LP_isWithin.2.2.2 ∈ WA := wa_3 (List.mem_of_getElem? (i := 23) (by decide +kernel)) (by decide +kernel)
theorem wn_LP_isWithin : Cond.initialized md_LP_isWithin.1.cls ∈ WA := wa_1 (List.mem_of_getElem? (i := 1) (by decide +kernel)) (by decide +kernel)
theorem ms_LP_isWithin : Cond.static md_LP_isWithin.1 ∈ WA := wa_3 (List.mem_of_getElem? (i := 22) (by decide +kernel)) (by decide +kernel)
theorem ml_LP_51 : MLk R_LP 51 md_LP_isWithin 3 := ⟨wa_3 (List.mem_of_getElem? (i := 21) (by decide +kernel)) (by decide +kernel), wn_LP_isWithin, wk_LP_isWithin, by decide +kernel⟩
theorem wk_LP_need : Cond.code md_LP_need.1 md_LP_need.2.1 md_LP_need.2.2.1 md_LP_need.2.2.2 ∈ WA := wa_3 (List.mem_of_getElem? (i := 27) (by decide +kernel)) (by decide +kernel)
theorem wn_LP_need : Cond.initialized md_LP_need.1.cls ∈ WA := wa_1 (List.mem_of_getElem? (i := 1) (by decide +kernel)) (by decide +kernel)
theorem ms_LP_need : Cond.static md_LP_need.1 ∈ WA := wa_3 (List.mem_of_getElem? (i := 26) (by decide +kernel)) (by decide +kernel)
theorem ml_LP_59 : MLk R_LP 59 md_LP_need 1 := ⟨wa_3 (List.mem_of_getElem? (i := 25) (by decide +kernel)) (by decide +kernel), wn_LP_need, wk_LP_need, by decide +kernel⟩
theorem wk_LP_serverOf : Cond.code md_LP_serverOf.1 md_LP_serverOf.2.1 md_LP_serverOf.2.2.1 md_LP_serverOf.2.2.2 ∈ WA := wa_3 (List.mem_of_getElem? (i := 99) (by decide +kernel)) (by decide +kernel)
theorem wn_LP_serverOf : Cond.initialized md_LP_serverOf.1.cls ∈ WA := wa_1 (List.mem_of_getElem? (i := 1) (by decide +kernel)) (by decide +kernel)
theorem mv_LP_serverOf : Cond.instanceMethod md_LP_serverOf.1 ∈ WA ∧ Cond.selects md_LP_serverOf.1.cls md_LP_serverOf.1 md_LP_serverOf.1 ∈ WA := ⟨wa_3 (List.mem_of_getElem? (i := 98) (by decide +kernel)) (by decide +kernel), wa_0 (List.mem_of_getElem? (i := 5) (by decide +kernel)) (by decide +kernel)⟩
theorem ml_LP_63 : MLk R_LP 63 md_LP_serverOf 1 := ⟨wa_3 (List.mem_of_getElem? (i := 96) (by decide +kernel)) (by decide +kernel), wn_LP_serverOf, wk_LP_serverOf, by decide +kernel⟩
theorem wk_Srv_die : Cond.code md_Srv_die.1 md_Srv_die.2.1 md_Srv_die.2.2.1 md_Srv_die.2.2.2 ∈ WA := wa_2 (List.mem_of_getElem? (i := 125) (by decide +kernel)) (by decide +kernel)
theorem wn_Srv_die : Cond.initialized md_Srv_die.1.cls ∈ WA := wa_1 (List.mem_of_getElem? (i := 3) (by decide +kernel)) (by decide +kernel)
theorem mv_Srv_die : Cond.instanceMethod md_Srv_die.1 ∈ WA ∧ Cond.selects md_Srv_die.1.cls md_Srv_die.1 md_Srv_die.1 ∈ WA := ⟨wa_2 (List.mem_of_getElem? (i := 123) (by decide +kernel)) (by decide +kernel), wa_2 (List.mem_of_getElem? (i := 124) (by decide +kernel)) (by decide +kernel)⟩
theorem ml_LP_73 : MLk R_LP 73 md_Srv_die 0 := ⟨wa_3 (List.mem_of_getElem? (i := 107) (by decide +kernel)) (by decide +kernel), wn_Srv_die, wk_Srv_die, by decide +kernel⟩
theorem wk_Srv_comeUp : Cond.code md_Srv_comeUp.1 md_Srv_comeUp.2.1 md_Srv_comeUp.2.2.1 md_Srv_comeUp.2.2.2 ∈ WA := wa_3 (List.mem_of_getElem? (i := 125) (by decide +kernel)) (by decide +kernel)
theorem wn_Srv_comeUp : Cond.initialized md_Srv_comeUp.1.cls ∈ WA := wa_1 (List.mem_of_getElem? (i := 3) (by decide +kernel)) (by decide +kernel)
theorem mv_Srv_comeUp : Cond.instanceMethod md_Srv_comeUp.1 ∈ WA ∧ Cond.selects md_Srv_comeUp.1.cls md_Srv_comeUp.1 md_Srv_comeUp.1 ∈ WA := ⟨wa_3 (List.mem_of_getElem? (i := 123) (by decide +kernel)) (by decide +kernel), wa_3 (List.mem_of_getElem? (i := 124) (by decide +kernel)) (by decide +kernel)⟩
theorem ml_LP_79 : MLk R_LP 79 md_Srv_comeUp 0 := ⟨wa_3 (List.mem_of_getElem? (i := 122) (by decide +kernel)) (by decide +kernel), wn_Srv_comeUp, wk_Srv_comeUp, by decide +kernel⟩
theorem wk_Srv_sendHello : Cond.code md_Srv_sendHello.1 md_Srv_sendHello.2.1 md_Srv_sendHello.2.2.1 md_Srv_sendHello.2.2.2 ∈ WA := wa_3 (List.mem_of_getElem? (i := 129) (by decide +kernel)) (by decide +kernel)
theorem wn_Srv_sendHello : Cond.initialized md_Srv_sendHello.1.cls ∈ WA := wa_1 (List.mem_of_getElem? (i := 3) (by decide +kernel)) (by decide +kernel)
theorem mv_Srv_sendHello : Cond.instanceMethod md_Srv_sendHello.1 ∈ WA ∧ Cond.selects md_Srv_sendHello.1.cls md_Srv_sendHello.1 md_Srv_sendHello.1 ∈ WA := ⟨wa_3 (List.mem_of_getElem? (i := 127) (by decide +kernel)) (by decide +kernel), wa_3 (List.mem_of_getElem? (i := 128) (by decide +kernel)) (by decide +kernel)⟩
theorem ml_LP_82 : MLk R_LP 82 md_Srv_sendHello 1 := ⟨wa_3 (List.mem_of_getElem? (i := 126) (by decide +kernel)) (by decide +kernel), wn_Srv_sendHello, wk_Srv_sendHello, by decide +kernel⟩
theorem wk_LP_clockOf : Cond.code md_LP_clockOf.1 md_LP_clockOf.2.1 md_LP_clockOf.2.2.1 md_LP_clockOf.2.2.2 ∈ WA := wa_2 (List.mem_of_getElem? (i := 97) (by decide +kernel)) (by decide +kernel)
theorem wn_LP_clockOf : Cond.initialized md_LP_clockOf.1.cls ∈ WA := wa_1 (List.mem_of_getElem? (i := 1) (by decide +kernel)) (by decide +kernel)
theorem mv_LP_clockOf : Cond.instanceMethod md_LP_clockOf.1 ∈ WA ∧ Cond.selects md_LP_clockOf.1.cls md_LP_clockOf.1 md_LP_clockOf.1 ∈ WA := ⟨wa_2 (List.mem_of_getElem? (i := 96) (by decide +kernel)) (by decide +kernel), wa_0 (List.mem_of_getElem? (i := 3) (by decide +kernel)) (by decide +kernel)⟩
theorem ml_LP_89 : MLk R_LP 89 md_LP_clockOf 1 := ⟨wa_2 (List.mem_of_getElem? (i := 94) (by decide +kernel)) (by decide +kernel), wn_LP_clockOf, wk_LP_clockOf, by decide +kernel⟩
theorem wk_Srv_goAlone : Cond.code md_Srv_goAlone.1 md_Srv_goAlone.2.1 md_Srv_goAlone.2.2.1 md_Srv_goAlone.2.2.2 ∈ WA := wa_3 (List.mem_of_getElem? (i := 140) (by decide +kernel)) (by decide +kernel)
theorem wn_Srv_goAlone : Cond.initialized md_Srv_goAlone.1.cls ∈ WA := wa_1 (List.mem_of_getElem? (i := 3) (by decide +kernel)) (by decide +kernel)
theorem mv_Srv_goAlone : Cond.instanceMethod md_Srv_goAlone.1 ∈ WA ∧ Cond.selects md_Srv_goAlone.1.cls md_Srv_goAlone.1 md_Srv_goAlone.1 ∈ WA := ⟨wa_3 (List.mem_of_getElem? (i := 138) (by decide +kernel)) (by decide +kernel), wa_3 (List.mem_of_getElem? (i := 139) (by decide +kernel)) (by decide +kernel)⟩
theorem ml_LP_93 : MLk R_LP 93 md_Srv_goAlone 1 := ⟨wa_3 (List.mem_of_getElem? (i := 137) (by decide +kernel)) (by decide +kernel), wn_Srv_goAlone, wk_Srv_goAlone, by decide +kernel⟩
theorem wk_LP_clientOf : Cond.code md_LP_clientOf.1 md_LP_clientOf.2.1 md_LP_clientOf.2.2.1 md_LP_clientOf.2.2.2 ∈ WA := wa_3 (List.mem_of_getElem? (i := 151) (by decide +kernel)) (by decide +kernel)
theorem wn_LP_clientOf : Cond.initialized md_LP_clientOf.1.cls ∈ WA := wa_1 (List.mem_of_getElem? (i := 1) (by decide +kernel)) (by decide +kernel)
theorem mv_LP_clientOf : Cond.instanceMethod md_LP_clientOf.1 ∈ WA ∧ Cond.selects md_LP_clientOf.1.cls md_LP_clientOf.1 md_LP_clientOf.1 ∈ WA := ⟨wa_3 (List.mem_of_getElem? (i := 150) (by decide +kernel)) (by decide +kernel), wa_0 (List.mem_of_getElem? (i := 6) (by decide +kernel)) (by decide +kernel)⟩
theorem ml_LP_97 : MLk R_LP 97 md_LP_clientOf 1 := ⟨wa_3 (List.mem_of_getElem? (i := 148) (by decide +kernel)) (by decide +kernel), wn_LP_clientOf, wk_LP_clientOf, by decide +kernel⟩
theorem wk_Cli_request : Cond.code md_Cli_request.1 md_Cli_request.2.1 md_Cli_request.2.2.1 md_Cli_request.2.2.2 ∈ WA := wa_3 (List.mem_of_getElem? (i := 155) (by decide +kernel)) (by decide +kernel)
theorem wn_Cli_request : Cond.initialized md_Cli_request.1.cls ∈ WA := wa_1 (List.mem_of_getElem? (i := 5) (by decide +kernel)) (by decide +kernel)
theorem mv_Cli_request : Cond.instanceMethod md_Cli_request.1 ∈ WA ∧ Cond.selects md_Cli_request.1.cls md_Cli_request.1 md_Cli_request.1 ∈ WA := ⟨wa_3 (List.mem_of_getElem? (i := 153) (by decide +kernel)) (by decide +kernel), wa_3 (List.mem_of_getElem? (i := 154) (by decide +kernel)) (by decide +kernel)⟩
theorem ml_LP_101 : MLk R_LP 101 md_Cli_request 1 := ⟨wa_3 (List.mem_of_getElem? (i := 152) (by decide +kernel)) (by decide +kernel), wn_Cli_request, wk_Cli_request, by decide +kernel⟩
theorem wk_Net_add : Cond.code md_Net_add.1 md_Net_add.2.1 md_Net_add.2.2.1 md_Net_add.2.2.2 ∈ WA := wa_2 (List.mem_of_getElem? (i := 156) (by decide +kernel)) (by decide +kernel)
theorem wn_Net_add : Cond.initialized md_Net_add.1.cls ∈ WA := wa_1 (List.mem_of_getElem? (i := 6) (by decide +kernel)) (by decide +kernel)
theorem mv_Net_add : Cond.instanceMethod md_Net_add.1 ∈ WA ∧ Cond.selects md_Net_add.1.cls md_Net_add.1 md_Net_add.1 ∈ WA := ⟨wa_2 (List.mem_of_getElem? (i := 154) (by decide +kernel)) (by decide +kernel), wa_2 (List.mem_of_getElem? (i := 155) (by decide +kernel)) (by decide +kernel)⟩
theorem ml_LP_104 : MLk R_LP 104 md_Net_add 3 := ⟨wa_3 (List.mem_of_getElem? (i := 157) (by decide +kernel)) (by decide +kernel), wn_Net_add, wk_Net_add, by decide +kernel⟩
theorem wk_Srv_sendPending : Cond.code md_Srv_sendPending.1 md_Srv_sendPending.2.1 md_Srv_sendPending.2.2.1 md_Srv_sendPending.2.2.2 ∈ WA := wa_3 (List.mem_of_getElem? (i := 168) (by decide +kernel)) (by decide +kernel)
theorem wn_Srv_sendPending : Cond.initialized md_Srv_sendPending.1.cls ∈ WA := wa_1 (List.mem_of_getElem? (i := 3) (by decide +kernel)) (by decide +kernel)
theorem mv_Srv_sendPending : Cond.instanceMethod md_Srv_sendPending.1 ∈ WA ∧ Cond.selects md_Srv_sendPending.1.cls md_Srv_sendPending.1 md_Srv_sendPending.1 ∈ WA := ⟨wa_3 (List.mem_of_getElem? (i := 166) (by decide +kernel)) (by decide +kernel), wa_3 (List.mem_of_getElem? (i := 167) (by decide +kernel)) (by decide +kernel)⟩
theorem ml_LP_123 : MLk R_LP 123 md_Srv_sendPending 1 := ⟨wa_3 (List.mem_of_getElem? (i := 165) (by decide +kernel)) (by decide +kernel), wn_Srv_sendPending, wk_Srv_sendPending, by decide +kernel⟩
theorem wk_Srv_serves : Cond.code md_Srv_serves.1 md_Srv_serves.2.1 md_Srv_serves.2.2.1 md_Srv_serves.2.2.2 ∈ WA := wa_2 (List.mem_of_getElem? (i := 93) (by decide +kernel)) (by decide +kernel)
theorem wn_Srv_serves : Cond.initialized md_Srv_serves.1.cls ∈ WA := wa_1 (List.mem_of_getElem? (i := 3) (by decide +kernel)) (by decide +kernel)
theorem mv_Srv_serves : Cond.instanceMethod md_Srv_serves.1 ∈ WA ∧ Cond.selects md_Srv_serves.1.cls md_Srv_serves.1 md_Srv_serves.1 ∈ WA := ⟨wa_2 (List.mem_of_getElem? (i := 91) (by decide +kernel)) (by decide +kernel), wa_2 (List.mem_of_getElem? (i := 92) (by decide +kernel)) (by decide +kernel)⟩
theorem ml_LP_127 : MLk R_LP 127 md_Srv_serves 0 := ⟨wa_3 (List.mem_of_getElem? (i := 177) (by decide +kernel)) (by decide +kernel), wn_Srv_serves, wk_Srv_serves, by decide +kernel⟩
theorem wk_Srv_endWhatIsOver : Cond.code md_Srv_endWhatIsOver.1 md_Srv_endWhatIsOver.2.1 md_Srv_endWhatIsOver.2.2.1 md_Srv_endWhatIsOver.2.2.2 ∈ WA := wa_3 (List.mem_of_getElem? (i := 181) (by decide +kernel)) (by decide +kernel)
theorem wn_Srv_endWhatIsOver : Cond.initialized md_Srv_endWhatIsOver.1.cls ∈ WA := wa_1 (List.mem_of_getElem? (i := 3) (by decide +kernel)) (by decide +kernel)
theorem mv_Srv_endWhatIsOver : Cond.instanceMethod md_Srv_endWhatIsOver.1 ∈ WA ∧ Cond.selects md_Srv_endWhatIsOver.1.cls md_Srv_endWhatIsOver.1 md_Srv_endWhatIsOver.1 ∈ WA := ⟨wa_3 (List.mem_of_getElem? (i := 179) (by decide +kernel)) (by decide +kernel), wa_3 (List.mem_of_getElem? (i := 180) (by decide +kernel)) (by decide +kernel)⟩
theorem ml_LP_131 : MLk R_LP 131 md_Srv_endWhatIsOver 1 := ⟨wa_3 (List.mem_of_getElem? (i := 178) (by decide +kernel)) (by decide +kernel), wn_Srv_endWhatIsOver, wk_Srv_endWhatIsOver, by decide +kernel⟩
theorem wk_Srv_handOver : Cond.code md_Srv_handOver.1 md_Srv_handOver.2.1 md_Srv_handOver.2.2.1 md_Srv_handOver.2.2.2 ∈ WA := wa_3 (List.mem_of_getElem? (i := 208) (by decide +kernel)) (by decide +kernel)
theorem wn_Srv_handOver : Cond.initialized md_Srv_handOver.1.cls ∈ WA := wa_1 (List.mem_of_getElem? (i := 3) (by decide +kernel)) (by decide +kernel)
theorem mv_Srv_handOver : Cond.instanceMethod md_Srv_handOver.1 ∈ WA ∧ Cond.selects md_Srv_handOver.1.cls md_Srv_handOver.1 md_Srv_handOver.1 ∈ WA := ⟨wa_3 (List.mem_of_getElem? (i := 206) (by decide +kernel)) (by decide +kernel), wa_3 (List.mem_of_getElem? (i := 207) (by decide +kernel)) (by decide +kernel)⟩
theorem ml_LP_135 : MLk R_LP 135 md_Srv_handOver 1 := ⟨wa_3 (List.mem_of_getElem? (i := 205) (by decide +kernel)) (by decide +kernel), wn_Srv_handOver, wk_Srv_handOver, by decide +kernel⟩
theorem wk_Net_has : Cond.code md_Net_has.1 md_Net_has.2.1 md_Net_has.2.2.1 md_Net_has.2.2.2 ∈ WA := wa_3 (List.mem_of_getElem? (i := 219) (by decide +kernel)) (by decide +kernel)
theorem wn_Net_has : Cond.initialized md_Net_has.1.cls ∈ WA := wa_1 (List.mem_of_getElem? (i := 6) (by decide +kernel)) (by decide +kernel)
theorem mv_Net_has : Cond.instanceMethod md_Net_has.1 ∈ WA ∧ Cond.selects md_Net_has.1.cls md_Net_has.1 md_Net_has.1 ∈ WA := ⟨wa_3 (List.mem_of_getElem? (i := 217) (by decide +kernel)) (by decide +kernel), wa_3 (List.mem_of_getElem? (i := 218) (by decide +kernel)) (by decide +kernel)⟩
theorem ml_LP_138 : MLk R_LP 138 md_Net_has 1 := ⟨wa_3 (List.mem_of_getElem? (i := 216) (by decide +kernel)) (by decide +kernel), wn_Net_has, wk_Net_has, by decide +kernel⟩
theorem wk_Net_at : Cond.code md_Net_at.1 md_Net_at.2.1 md_Net_at.2.2.1 md_Net_at.2.2.2 ∈ WA := wa_2 (List.mem_of_getElem? (i := 160) (by decide +kernel)) (by decide +kernel)
theorem wn_Net_at : Cond.initialized md_Net_at.1.cls ∈ WA := wa_1 (List.mem_of_getElem? (i := 6) (by decide +kernel)) (by decide +kernel)
theorem mv_Net_at : Cond.instanceMethod md_Net_at.1 ∈ WA ∧ Cond.selects md_Net_at.1.cls md_Net_at.1 md_Net_at.1 ∈ WA := ⟨wa_2 (List.mem_of_getElem? (i := 158) (by decide +kernel)) (by decide +kernel), wa_2 (List.mem_of_getElem? (i := 159) (by decide +kernel)) (by decide +kernel)⟩
theorem ml_LP_142 : MLk R_LP 142 md_Net_at 1 := ⟨wa_3 (List.mem_of_getElem? (i := 221) (by decide +kernel)) (by decide +kernel), wn_Net_at, wk_Net_at, by decide +kernel⟩
theorem wk_Msg_copy : Cond.code md_Msg_copy.1 md_Msg_copy.2.1 md_Msg_copy.2.2.1 md_Msg_copy.2.2.2 ∈ WA := wa_3 (List.mem_of_getElem? (i := 225) (by decide +kernel)) (by decide +kernel)
theorem wn_Msg_copy : Cond.initialized md_Msg_copy.1.cls ∈ WA := wa_1 (List.mem_of_getElem? (i := 7) (by decide +kernel)) (by decide +kernel)
theorem mv_Msg_copy : Cond.instanceMethod md_Msg_copy.1 ∈ WA ∧ Cond.selects md_Msg_copy.1.cls md_Msg_copy.1 md_Msg_copy.1 ∈ WA := ⟨wa_3 (List.mem_of_getElem? (i := 223) (by decide +kernel)) (by decide +kernel), wa_3 (List.mem_of_getElem? (i := 224) (by decide +kernel)) (by decide +kernel)⟩
theorem ml_LP_146 : MLk R_LP 146 md_Msg_copy 1 := ⟨wa_3 (List.mem_of_getElem? (i := 222) (by decide +kernel)) (by decide +kernel), wn_Msg_copy, wk_Msg_copy, by decide +kernel⟩
theorem wk_LP_deliver : Cond.code md_LP_deliver.1 md_LP_deliver.2.1 md_LP_deliver.2.2.1 md_LP_deliver.2.2.2 ∈ WA := wa_2 (List.mem_of_getElem? (i := 65) (by decide +kernel)) (by decide +kernel)
theorem wn_LP_deliver : Cond.initialized md_LP_deliver.1.cls ∈ WA := wa_1 (List.mem_of_getElem? (i := 1) (by decide +kernel)) (by decide +kernel)
theorem mv_LP_deliver : Cond.instanceMethod md_LP_deliver.1 ∈ WA ∧ Cond.selects md_LP_deliver.1.cls md_LP_deliver.1 md_LP_deliver.1 ∈ WA := ⟨wa_2 (List.mem_of_getElem? (i := 64) (by decide +kernel)) (by decide +kernel), wa_0 (List.mem_of_getElem? (i := 0) (by decide +kernel)) (by decide +kernel)⟩
theorem ml_LP_150 : MLk R_LP 150 md_LP_deliver 1 := ⟨wa_2 (List.mem_of_getElem? (i := 62) (by decide +kernel)) (by decide +kernel), wn_LP_deliver, wk_LP_deliver, by decide +kernel⟩
theorem wk_Net_takeAll : Cond.code md_Net_takeAll.1 md_Net_takeAll.2.1 md_Net_takeAll.2.2.1 md_Net_takeAll.2.2.2 ∈ WA := wa_2 (List.mem_of_getElem? (i := 57) (by decide +kernel)) (by decide +kernel)
theorem wn_Net_takeAll : Cond.initialized md_Net_takeAll.1.cls ∈ WA := wa_1 (List.mem_of_getElem? (i := 6) (by decide +kernel)) (by decide +kernel)
theorem mv_Net_takeAll : Cond.instanceMethod md_Net_takeAll.1 ∈ WA ∧ Cond.selects md_Net_takeAll.1.cls md_Net_takeAll.1 md_Net_takeAll.1 ∈ WA := ⟨wa_2 (List.mem_of_getElem? (i := 55) (by decide +kernel)) (by decide +kernel), wa_2 (List.mem_of_getElem? (i := 56) (by decide +kernel)) (by decide +kernel)⟩
theorem ml_LP_154 : MLk R_LP 154 md_Net_takeAll 0 := ⟨wa_2 (List.mem_of_getElem? (i := 54) (by decide +kernel)) (by decide +kernel), wn_Net_takeAll, wk_Net_takeAll, by decide +kernel⟩
theorem wk_Net_takenAt : Cond.code md_Net_takenAt.1 md_Net_takenAt.2.1 md_Net_takenAt.2.2.1 md_Net_takenAt.2.2.2 ∈ WA := wa_2 (List.mem_of_getElem? (i := 61) (by decide +kernel)) (by decide +kernel)
theorem wn_Net_takenAt : Cond.initialized md_Net_takenAt.1.cls ∈ WA := wa_1 (List.mem_of_getElem? (i := 6) (by decide +kernel)) (by decide +kernel)
theorem mv_Net_takenAt : Cond.instanceMethod md_Net_takenAt.1 ∈ WA ∧ Cond.selects md_Net_takenAt.1.cls md_Net_takenAt.1 md_Net_takenAt.1 ∈ WA := ⟨wa_2 (List.mem_of_getElem? (i := 59) (by decide +kernel)) (by decide +kernel), wa_2 (List.mem_of_getElem? (i := 60) (by decide +kernel)) (by decide +kernel)⟩
theorem ml_LP_158 : MLk R_LP 158 md_Net_takenAt 1 := ⟨wa_2 (List.mem_of_getElem? (i := 58) (by decide +kernel)) (by decide +kernel), wn_Net_takenAt, wk_Net_takenAt, by decide +kernel⟩
theorem wk_Net_remove : Cond.code md_Net_remove.1 md_Net_remove.2.1 md_Net_remove.2.2.1 md_Net_remove.2.2.2 ∈ WA := wa_3 (List.mem_of_getElem? (i := 236) (by decide +kernel)) (by decide +kernel)
theorem wn_Net_remove : Cond.initialized md_Net_remove.1.cls ∈ WA := wa_1 (List.mem_of_getElem? (i := 6) (by decide +kernel)) (by decide +kernel)
theorem mv_Net_remove : Cond.instanceMethod md_Net_remove.1 ∈ WA ∧ Cond.selects md_Net_remove.1.cls md_Net_remove.1 md_Net_remove.1 ∈ WA := ⟨wa_3 (List.mem_of_getElem? (i := 234) (by decide +kernel)) (by decide +kernel), wa_3 (List.mem_of_getElem? (i := 235) (by decide +kernel)) (by decide +kernel)⟩
theorem ml_LP_161 : MLk R_LP 161 md_Net_remove 1 := ⟨wa_3 (List.mem_of_getElem? (i := 233) (by decide +kernel)) (by decide +kernel), wn_Net_remove, wk_Net_remove, by decide +kernel⟩
theorem wk_Msg_tell : Cond.code md_Msg_tell.1 md_Msg_tell.2.1 md_Msg_tell.2.2.1 md_Msg_tell.2.2.2 ∈ WA := wa_4 (List.mem_of_getElem? (i := 7) (by decide +kernel)) (by decide +kernel)
theorem wn_Msg_tell : Cond.initialized md_Msg_tell.1.cls ∈ WA := wa_1 (List.mem_of_getElem? (i := 7) (by decide +kernel)) (by decide +kernel)
theorem mv_Msg_tell : Cond.instanceMethod md_Msg_tell.1 ∈ WA ∧ Cond.selects md_Msg_tell.1.cls md_Msg_tell.1 md_Msg_tell.1 ∈ WA := ⟨wa_4 (List.mem_of_getElem? (i := 5) (by decide +kernel)) (by decide +kernel), wa_4 (List.mem_of_getElem? (i := 6) (by decide +kernel)) (by decide +kernel)⟩
theorem ml_LP_167 : MLk R_LP 167 md_Msg_tell 1 := ⟨wa_4 (List.mem_of_getElem? (i := 4) (by decide +kernel)) (by decide +kernel), wn_Msg_tell, wk_Msg_tell, by decide +kernel⟩
theorem wk_Cli_holds : Cond.code md_Cli_holds.1 md_Cli_holds.2.1 md_Cli_holds.2.2.1 md_Cli_holds.2.2.2 ∈ WA := wa_2 (List.mem_of_getElem? (i := 85) (by decide +kernel)) (by decide +kernel)
theorem wn_Cli_holds : Cond.initialized md_Cli_holds.1.cls ∈ WA := wa_1 (List.mem_of_getElem? (i := 5) (by decide +kernel)) (by decide +kernel)
theorem mv_Cli_holds : Cond.instanceMethod md_Cli_holds.1 ∈ WA ∧ Cond.selects md_Cli_holds.1.cls md_Cli_holds.1 md_Cli_holds.1 ∈ WA := ⟨wa_2 (List.mem_of_getElem? (i := 83) (by decide +kernel)) (by decide +kernel), wa_2 (List.mem_of_getElem? (i := 84) (by decide +kernel)) (by decide +kernel)⟩
theorem ml_LP_170 : MLk R_LP 170 md_Cli_holds 2 := ⟨wa_2 (List.mem_of_getElem? (i := 82) (by decide +kernel)) (by decide +kernel), wn_Cli_holds, wk_Cli_holds, by decide +kernel⟩
theorem wk_Rec_tell : Cond.code md_Rec_tell.1 md_Rec_tell.2.1 md_Rec_tell.2.2.1 md_Rec_tell.2.2.2 ∈ WA := wa_4 (List.mem_of_getElem? (i := 25) (by decide +kernel)) (by decide +kernel)
theorem wn_Rec_tell : Cond.initialized md_Rec_tell.1.cls ∈ WA := wa_1 (List.mem_of_getElem? (i := 4) (by decide +kernel)) (by decide +kernel)
theorem mv_Rec_tell : Cond.instanceMethod md_Rec_tell.1 ∈ WA ∧ Cond.selects md_Rec_tell.1.cls md_Rec_tell.1 md_Rec_tell.1 ∈ WA := ⟨wa_4 (List.mem_of_getElem? (i := 23) (by decide +kernel)) (by decide +kernel), wa_4 (List.mem_of_getElem? (i := 24) (by decide +kernel)) (by decide +kernel)⟩
theorem ml_LP_182 : MLk R_LP 182 md_Rec_tell 1 := ⟨wa_4 (List.mem_of_getElem? (i := 22) (by decide +kernel)) (by decide +kernel), wn_Rec_tell, wk_Rec_tell, by decide +kernel⟩
theorem wk_Srv_tell : Cond.code md_Srv_tell.1 md_Srv_tell.2.1 md_Srv_tell.2.2.1 md_Srv_tell.2.2.2 ∈ WA := wa_4 (List.mem_of_getElem? (i := 36) (by decide +kernel)) (by decide +kernel)
theorem wn_Srv_tell : Cond.initialized md_Srv_tell.1.cls ∈ WA := wa_1 (List.mem_of_getElem? (i := 3) (by decide +kernel)) (by decide +kernel)
theorem mv_Srv_tell : Cond.instanceMethod md_Srv_tell.1 ∈ WA ∧ Cond.selects md_Srv_tell.1.cls md_Srv_tell.1 md_Srv_tell.1 ∈ WA := ⟨wa_4 (List.mem_of_getElem? (i := 34) (by decide +kernel)) (by decide +kernel), wa_4 (List.mem_of_getElem? (i := 35) (by decide +kernel)) (by decide +kernel)⟩
theorem ml_LP_185 : MLk R_LP 185 md_Srv_tell 2 := ⟨wa_4 (List.mem_of_getElem? (i := 33) (by decide +kernel)) (by decide +kernel), wn_Srv_tell, wk_Srv_tell, by decide +kernel⟩
theorem wk_LP_deliverAnswer : Cond.code md_LP_deliverAnswer.1 md_LP_deliverAnswer.2.1 md_LP_deliverAnswer.2.2.1 md_LP_deliverAnswer.2.2.2 ∈ WA := wa_2 (List.mem_of_getElem? (i := 69) (by decide +kernel)) (by decide +kernel)
theorem wn_LP_deliverAnswer : Cond.initialized md_LP_deliverAnswer.1.cls ∈ WA := wa_1 (List.mem_of_getElem? (i := 1) (by decide +kernel)) (by decide +kernel)
theorem mv_LP_deliverAnswer : Cond.instanceMethod md_LP_deliverAnswer.1 ∈ WA ∧ Cond.selects md_LP_deliverAnswer.1.cls md_LP_deliverAnswer.1 md_LP_deliverAnswer.1 ∈ WA := ⟨wa_2 (List.mem_of_getElem? (i := 68) (by decide +kernel)) (by decide +kernel), wa_0 (List.mem_of_getElem? (i := 1) (by decide +kernel)) (by decide +kernel)⟩
theorem ml_LP_205 : MLk R_LP 205 md_LP_deliverAnswer 1 := ⟨wa_2 (List.mem_of_getElem? (i := 66) (by decide +kernel)) (by decide +kernel), wn_LP_deliverAnswer, wk_LP_deliverAnswer, by decide +kernel⟩
theorem wk_Srv_hears : Cond.code md_Srv_hears.1 md_Srv_hears.2.1 md_Srv_hears.2.2.1 md_Srv_hears.2.2.2 ∈ WA := wa_2 (List.mem_of_getElem? (i := 89) (by decide +kernel)) (by decide +kernel)
theorem wn_Srv_hears : Cond.initialized md_Srv_hears.1.cls ∈ WA := wa_1 (List.mem_of_getElem? (i := 3) (by decide +kernel)) (by decide +kernel)
theorem mv_Srv_hears : Cond.instanceMethod md_Srv_hears.1 ∈ WA ∧ Cond.selects md_Srv_hears.1.cls md_Srv_hears.1 md_Srv_hears.1 ∈ WA := ⟨wa_2 (List.mem_of_getElem? (i := 87) (by decide +kernel)) (by decide +kernel), wa_2 (List.mem_of_getElem? (i := 88) (by decide +kernel)) (by decide +kernel)⟩
theorem ml_LP_211 : MLk R_LP 211 md_Srv_hears 1 := ⟨wa_2 (List.mem_of_getElem? (i := 86) (by decide +kernel)) (by decide +kernel), wn_Srv_hears, wk_Srv_hears, by decide +kernel⟩
theorem wk_Srv_hearRequest : Cond.code md_Srv_hearRequest.1 md_Srv_hearRequest.2.1 md_Srv_hearRequest.2.2.1 md_Srv_hearRequest.2.2.2 ∈ WA := wa_2 (List.mem_of_getElem? (i := 101) (by decide +kernel)) (by decide +kernel)
theorem wn_Srv_hearRequest : Cond.initialized md_Srv_hearRequest.1.cls ∈ WA := wa_1 (List.mem_of_getElem? (i := 3) (by decide +kernel)) (by decide +kernel)
theorem mv_Srv_hearRequest : Cond.instanceMethod md_Srv_hearRequest.1 ∈ WA ∧ Cond.selects md_Srv_hearRequest.1.cls md_Srv_hearRequest.1 md_Srv_hearRequest.1 ∈ WA := ⟨wa_2 (List.mem_of_getElem? (i := 99) (by decide +kernel)) (by decide +kernel), wa_2 (List.mem_of_getElem? (i := 100) (by decide +kernel)) (by decide +kernel)⟩
theorem ml_LP_214 : MLk R_LP 214 md_Srv_hearRequest 3 := ⟨wa_2 (List.mem_of_getElem? (i := 98) (by decide +kernel)) (by decide +kernel), wn_Srv_hearRequest, wk_Srv_hearRequest, by decide +kernel⟩
theorem wk_Srv_hearHello : Cond.code md_Srv_hearHello.1 md_Srv_hearHello.2.1 md_Srv_hearHello.2.2.1 md_Srv_hearHello.2.2.2 ∈ WA := wa_2 (List.mem_of_getElem? (i := 168) (by decide +kernel)) (by decide +kernel)
theorem wn_Srv_hearHello : Cond.initialized md_Srv_hearHello.1.cls ∈ WA := wa_1 (List.mem_of_getElem? (i := 3) (by decide +kernel)) (by decide +kernel)
theorem mv_Srv_hearHello : Cond.instanceMethod md_Srv_hearHello.1 ∈ WA ∧ Cond.selects md_Srv_hearHello.1.cls md_Srv_hearHello.1 md_Srv_hearHello.1 ∈ WA := ⟨wa_2 (List.mem_of_getElem? (i := 166) (by decide +kernel)) (by decide +kernel), wa_2 (List.mem_of_getElem? (i := 167) (by decide +kernel)) (by decide +kernel)⟩
theorem ml_LP_218 : MLk R_LP 218 md_Srv_hearHello 2 := ⟨wa_2 (List.mem_of_getElem? (i := 165) (by decide +kernel)) (by decide +kernel), wn_Srv_hearHello, wk_Srv_hearHello, by decide +kernel⟩
theorem wk_Srv_hearUpdate : Cond.code md_Srv_hearUpdate.1 md_Srv_hearUpdate.2.1 md_Srv_hearUpdate.2.2.1 md_Srv_hearUpdate.2.2.2 ∈ WA := wa_2 (List.mem_of_getElem? (i := 184) (by decide +kernel)) (by decide +kernel)
theorem wn_Srv_hearUpdate : Cond.initialized md_Srv_hearUpdate.1.cls ∈ WA := wa_1 (List.mem_of_getElem? (i := 3) (by decide +kernel)) (by decide +kernel)
theorem mv_Srv_hearUpdate : Cond.instanceMethod md_Srv_hearUpdate.1 ∈ WA ∧ Cond.selects md_Srv_hearUpdate.1.cls md_Srv_hearUpdate.1 md_Srv_hearUpdate.1 ∈ WA := ⟨wa_2 (List.mem_of_getElem? (i := 182) (by decide +kernel)) (by decide +kernel), wa_2 (List.mem_of_getElem? (i := 183) (by decide +kernel)) (by decide +kernel)⟩
theorem ml_LP_222 : MLk R_LP 222 md_Srv_hearUpdate 3 := ⟨wa_2 (List.mem_of_getElem? (i := 181) (by decide +kernel)) (by decide +kernel), wn_Srv_hearUpdate, wk_Srv_hearUpdate, by decide +kernel⟩
theorem wk_Srv_hearAck : Cond.code md_Srv_hearAck.1 md_Srv_hearAck.2.1 md_Srv_hearAck.2.2.1 md_Srv_hearAck.2.2.2 ∈ WA := wa_2 (List.mem_of_getElem? (i := 232) (by decide +kernel)) (by decide +kernel)
theorem wn_Srv_hearAck : Cond.initialized md_Srv_hearAck.1.cls ∈ WA := wa_1 (List.mem_of_getElem? (i := 3) (by decide +kernel)) (by decide +kernel)
theorem mv_Srv_hearAck : Cond.instanceMethod md_Srv_hearAck.1 ∈ WA ∧ Cond.selects md_Srv_hearAck.1.cls md_Srv_hearAck.1 md_Srv_hearAck.1 ∈ WA := ⟨wa_2 (List.mem_of_getElem? (i := 230) (by decide +kernel)) (by decide +kernel), wa_2 (List.mem_of_getElem? (i := 231) (by decide +kernel)) (by decide +kernel)⟩
theorem ml_LP_225 : MLk R_LP 225 md_Srv_hearAck 1 := ⟨wa_2 (List.mem_of_getElem? (i := 229) (by decide +kernel)) (by decide +kernel), wn_Srv_hearAck, wk_Srv_hearAck, by decide +kernel⟩
theorem wk_Cli_awaits : Cond.code md_Cli_awaits.1 md_Cli_awaits.2.1 md_Cli_awaits.2.2.1 md_Cli_awaits.2.2.2 ∈ WA := wa_2 (List.mem_of_getElem? (i := 73) (by decide +kernel)) (by decide +kernel)
theorem wn_Cli_awaits : Cond.initialized md_Cli_awaits.1.cls ∈ WA := wa_1 (List.mem_of_getElem? (i := 5) (by decide +kernel)) (by decide +kernel)
theorem mv_Cli_awaits : Cond.instanceMethod md_Cli_awaits.1 ∈ WA ∧ Cond.selects md_Cli_awaits.1.cls md_Cli_awaits.1 md_Cli_awaits.1 ∈ WA := ⟨wa_2 (List.mem_of_getElem? (i := 71) (by decide +kernel)) (by decide +kernel), wa_2 (List.mem_of_getElem? (i := 72) (by decide +kernel)) (by decide +kernel)⟩
theorem ml_LP_228 : MLk R_LP 228 md_Cli_awaits 1 := ⟨wa_2 (List.mem_of_getElem? (i := 70) (by decide +kernel)) (by decide +kernel), wn_Cli_awaits, wk_Cli_awaits, by decide +kernel⟩
theorem wk_Cli_takeLease : Cond.code md_Cli_takeLease.1 md_Cli_takeLease.2.1 md_Cli_takeLease.2.2.1 md_Cli_takeLease.2.2.2 ∈ WA := wa_2 (List.mem_of_getElem? (i := 77) (by decide +kernel)) (by decide +kernel)
theorem wn_Cli_takeLease : Cond.initialized md_Cli_takeLease.1.cls ∈ WA := wa_1 (List.mem_of_getElem? (i := 5) (by decide +kernel)) (by decide +kernel)
theorem mv_Cli_takeLease : Cond.instanceMethod md_Cli_takeLease.1 ∈ WA ∧ Cond.selects md_Cli_takeLease.1.cls md_Cli_takeLease.1 md_Cli_takeLease.1 ∈ WA := ⟨wa_2 (List.mem_of_getElem? (i := 75) (by decide +kernel)) (by decide +kernel), wa_2 (List.mem_of_getElem? (i := 76) (by decide +kernel)) (by decide +kernel)⟩
theorem ml_LP_231 : MLk R_LP 231 md_Cli_takeLease 2 := ⟨wa_2 (List.mem_of_getElem? (i := 74) (by decide +kernel)) (by decide +kernel), wn_Cli_takeLease, wk_Cli_takeLease, by decide +kernel⟩
theorem wk_LP_countHolders : Cond.code md_LP_countHolders.1 md_LP_countHolders.2.1 md_LP_countHolders.2.2.1 md_LP_countHolders.2.2.2 ∈ WA := wa_2 (List.mem_of_getElem? (i := 81) (by decide +kernel)) (by decide +kernel)
theorem wn_LP_countHolders : Cond.initialized md_LP_countHolders.1.cls ∈ WA := wa_1 (List.mem_of_getElem? (i := 1) (by decide +kernel)) (by decide +kernel)
theorem mv_LP_countHolders : Cond.instanceMethod md_LP_countHolders.1 ∈ WA ∧ Cond.selects md_LP_countHolders.1.cls md_LP_countHolders.1 md_LP_countHolders.1 ∈ WA := ⟨wa_2 (List.mem_of_getElem? (i := 80) (by decide +kernel)) (by decide +kernel), wa_0 (List.mem_of_getElem? (i := 2) (by decide +kernel)) (by decide +kernel)⟩
theorem ml_LP_235 : MLk R_LP 235 md_LP_countHolders 1 := ⟨wa_2 (List.mem_of_getElem? (i := 78) (by decide +kernel)) (by decide +kernel), wn_LP_countHolders, wk_LP_countHolders, by decide +kernel⟩
theorem ml_Cli_21 : MLk R_Cli 21 md_Cli_takeLease 2 := ⟨wa_3 (List.mem_of_getElem? (i := 156) (by decide +kernel)) (by decide +kernel), wn_Cli_takeLease, wk_Cli_takeLease, by decide +kernel⟩
theorem wk_Rec_change : Cond.code md_Rec_change.1 md_Rec_change.2.1 md_Rec_change.2.2.1 md_Rec_change.2.2.2 ∈ WA := wa_2 (List.mem_of_getElem? (i := 117) (by decide +kernel)) (by decide +kernel)
theorem wn_Rec_change : Cond.initialized md_Rec_change.1.cls ∈ WA := wa_1 (List.mem_of_getElem? (i := 4) (by decide +kernel)) (by decide +kernel)
theorem mv_Rec_change : Cond.instanceMethod md_Rec_change.1 ∈ WA ∧ Cond.selects md_Rec_change.1.cls md_Rec_change.1 md_Rec_change.1 ∈ WA := ⟨wa_2 (List.mem_of_getElem? (i := 115) (by decide +kernel)) (by decide +kernel), wa_2 (List.mem_of_getElem? (i := 116) (by decide +kernel)) (by decide +kernel)⟩
theorem ml_Rec_25 : MLk R_Rec 25 md_Rec_change 0 := ⟨wa_2 (List.mem_of_getElem? (i := 114) (by decide +kernel)) (by decide +kernel), wn_Rec_change, wk_Rec_change, by decide +kernel⟩
theorem wk_Rec_bind : Cond.code md_Rec_bind.1 md_Rec_bind.2.1 md_Rec_bind.2.2.1 md_Rec_bind.2.2.2 ∈ WA := wa_2 (List.mem_of_getElem? (i := 143) (by decide +kernel)) (by decide +kernel)
theorem wn_Rec_bind : Cond.initialized md_Rec_bind.1.cls ∈ WA := wa_1 (List.mem_of_getElem? (i := 4) (by decide +kernel)) (by decide +kernel)
theorem mv_Rec_bind : Cond.instanceMethod md_Rec_bind.1 ∈ WA ∧ Cond.selects md_Rec_bind.1.cls md_Rec_bind.1 md_Rec_bind.1 ∈ WA := ⟨wa_2 (List.mem_of_getElem? (i := 141) (by decide +kernel)) (by decide +kernel), wa_2 (List.mem_of_getElem? (i := 142) (by decide +kernel)) (by decide +kernel)⟩
theorem ml_Rec_50 : MLk R_Rec 50 md_Rec_bind 4 := ⟨wa_2 (List.mem_of_getElem? (i := 201) (by decide +kernel)) (by decide +kernel), wn_Rec_bind, wk_Rec_bind, by decide +kernel⟩
theorem wk_Rec_changeTo : Cond.code md_Rec_changeTo.1 md_Rec_changeTo.2.1 md_Rec_changeTo.2.2.1 md_Rec_changeTo.2.2.2 ∈ WA := wa_2 (List.mem_of_getElem? (i := 113) (by decide +kernel)) (by decide +kernel)
theorem wn_Rec_changeTo : Cond.initialized md_Rec_changeTo.1.cls ∈ WA := wa_1 (List.mem_of_getElem? (i := 4) (by decide +kernel)) (by decide +kernel)
theorem mv_Rec_changeTo : Cond.instanceMethod md_Rec_changeTo.1 ∈ WA ∧ Cond.selects md_Rec_changeTo.1.cls md_Rec_changeTo.1 md_Rec_changeTo.1 ∈ WA := ⟨wa_2 (List.mem_of_getElem? (i := 111) (by decide +kernel)) (by decide +kernel), wa_2 (List.mem_of_getElem? (i := 112) (by decide +kernel)) (by decide +kernel)⟩
theorem ml_Rec_60 : MLk R_Rec 60 md_Rec_changeTo 1 := ⟨wa_2 (List.mem_of_getElem? (i := 203) (by decide +kernel)) (by decide +kernel), wn_Rec_changeTo, wk_Rec_changeTo, by decide +kernel⟩
theorem wk_Rec_mayEnd : Cond.code md_Rec_mayEnd.1 md_Rec_mayEnd.2.1 md_Rec_mayEnd.2.2.1 md_Rec_mayEnd.2.2.2 ∈ WA := wa_2 (List.mem_of_getElem? (i := 211) (by decide +kernel)) (by decide +kernel)
theorem wn_Rec_mayEnd : Cond.initialized md_Rec_mayEnd.1.cls ∈ WA := wa_1 (List.mem_of_getElem? (i := 4) (by decide +kernel)) (by decide +kernel)
theorem mv_Rec_mayEnd : Cond.instanceMethod md_Rec_mayEnd.1 ∈ WA ∧ Cond.selects md_Rec_mayEnd.1.cls md_Rec_mayEnd.1 md_Rec_mayEnd.1 ∈ WA := ⟨wa_2 (List.mem_of_getElem? (i := 209) (by decide +kernel)) (by decide +kernel), wa_2 (List.mem_of_getElem? (i := 210) (by decide +kernel)) (by decide +kernel)⟩
theorem ml_Rec_64 : MLk R_Rec 64 md_Rec_mayEnd 3 := ⟨wa_2 (List.mem_of_getElem? (i := 208) (by decide +kernel)) (by decide +kernel), wn_Rec_mayEnd, wk_Rec_mayEnd, by decide +kernel⟩
theorem wk_Rec_settle : Cond.code md_Rec_settle.1 md_Rec_settle.2.1 md_Rec_settle.2.2.1 md_Rec_settle.2.2.2 ∈ WA := wa_2 (List.mem_of_getElem? (i := 196) (by decide +kernel)) (by decide +kernel)
theorem wn_Rec_settle : Cond.initialized md_Rec_settle.1.cls ∈ WA := wa_1 (List.mem_of_getElem? (i := 4) (by decide +kernel)) (by decide +kernel)
theorem mv_Rec_settle : Cond.instanceMethod md_Rec_settle.1 ∈ WA ∧ Cond.selects md_Rec_settle.1.cls md_Rec_settle.1 md_Rec_settle.1 ∈ WA := ⟨wa_2 (List.mem_of_getElem? (i := 194) (by decide +kernel)) (by decide +kernel), wa_2 (List.mem_of_getElem? (i := 195) (by decide +kernel)) (by decide +kernel)⟩
theorem ml_Rec_68 : MLk R_Rec 68 md_Rec_settle 1 := ⟨wa_2 (List.mem_of_getElem? (i := 212) (by decide +kernel)) (by decide +kernel), wn_Rec_settle, wk_Rec_settle, by decide +kernel⟩
theorem ml_Net_35 : MLk R_Net 35 md_Net_at 1 := ⟨wa_2 (List.mem_of_getElem? (i := 157) (by decide +kernel)) (by decide +kernel), wn_Net_at, wk_Net_at, by decide +kernel⟩
theorem wk_Msg_begin : Cond.code md_Msg_begin.1 md_Msg_begin.2.1 md_Msg_begin.2.2.1 md_Msg_begin.2.2.2 ∈ WA := wa_2 (List.mem_of_getElem? (i := 164) (by decide +kernel)) (by decide +kernel)
theorem wn_Msg_begin : Cond.initialized md_Msg_begin.1.cls ∈ WA := wa_1 (List.mem_of_getElem? (i := 7) (by decide +kernel)) (by decide +kernel)
theorem mv_Msg_begin : Cond.instanceMethod md_Msg_begin.1 ∈ WA ∧ Cond.selects md_Msg_begin.1.cls md_Msg_begin.1 md_Msg_begin.1 ∈ WA := ⟨wa_2 (List.mem_of_getElem? (i := 162) (by decide +kernel)) (by decide +kernel), wa_2 (List.mem_of_getElem? (i := 163) (by decide +kernel)) (by decide +kernel)⟩
theorem ml_Net_39 : MLk R_Net 39 md_Msg_begin 3 := ⟨wa_2 (List.mem_of_getElem? (i := 161) (by decide +kernel)) (by decide +kernel), wn_Msg_begin, wk_Msg_begin, by decide +kernel⟩
theorem wk_Rec_init : Cond.code md_Rec_init.1 md_Rec_init.2.1 md_Rec_init.2.2.1 md_Rec_init.2.2.2 ∈ WA := wa_1 (List.mem_of_getElem? (i := 42) (by decide +kernel)) (by decide +kernel)
theorem wn_Rec_init : Cond.initialized md_Rec_init.1.cls ∈ WA := wa_1 (List.mem_of_getElem? (i := 4) (by decide +kernel)) (by decide +kernel)
theorem mo_Rec_init : Cond.instanceMethod md_Rec_init.1 ∈ WA := wa_1 (List.mem_of_getElem? (i := 41) (by decide +kernel)) (by decide +kernel)
theorem ml_Srv_30 : MLk R_Srv 30 md_Rec_init 1 := ⟨wa_1 (List.mem_of_getElem? (i := 40) (by decide +kernel)) (by decide +kernel), wn_Rec_init, wk_Rec_init, by decide +kernel⟩
theorem ml_Srv_45 : MLk R_Srv 45 md_Srv_serves 0 := ⟨wa_2 (List.mem_of_getElem? (i := 90) (by decide +kernel)) (by decide +kernel), wn_Srv_serves, wk_Srv_serves, by decide +kernel⟩
theorem ml_Srv_55 : MLk R_Srv 55 md_Srv_die 0 := ⟨wa_2 (List.mem_of_getElem? (i := 122) (by decide +kernel)) (by decide +kernel), wn_Srv_die, wk_Srv_die, by decide +kernel⟩
theorem wk_Srv_write : Cond.code md_Srv_write.1 md_Srv_write.2.1 md_Srv_write.2.2.1 md_Srv_write.2.2.2 ∈ WA := wa_2 (List.mem_of_getElem? (i := 121) (by decide +kernel)) (by decide +kernel)
theorem wn_Srv_write : Cond.initialized md_Srv_write.1.cls ∈ WA := wa_1 (List.mem_of_getElem? (i := 3) (by decide +kernel)) (by decide +kernel)
theorem mv_Srv_write : Cond.instanceMethod md_Srv_write.1 ∈ WA ∧ Cond.selects md_Srv_write.1.cls md_Srv_write.1 md_Srv_write.1 ∈ WA := ⟨wa_2 (List.mem_of_getElem? (i := 119) (by decide +kernel)) (by decide +kernel), wa_2 (List.mem_of_getElem? (i := 120) (by decide +kernel)) (by decide +kernel)⟩
theorem ml_Srv_65 : MLk R_Srv 65 md_Srv_write 0 := ⟨wa_2 (List.mem_of_getElem? (i := 118) (by decide +kernel)) (by decide +kernel), wn_Srv_write, wk_Srv_write, by decide +kernel⟩
theorem wk_Srv_release : Cond.code md_Srv_release.1 md_Srv_release.2.1 md_Srv_release.2.2.1 md_Srv_release.2.2.2 ∈ WA := wa_2 (List.mem_of_getElem? (i := 105) (by decide +kernel)) (by decide +kernel)
theorem wn_Srv_release : Cond.initialized md_Srv_release.1.cls ∈ WA := wa_1 (List.mem_of_getElem? (i := 3) (by decide +kernel)) (by decide +kernel)
theorem mv_Srv_release : Cond.instanceMethod md_Srv_release.1 ∈ WA ∧ Cond.selects md_Srv_release.1.cls md_Srv_release.1 md_Srv_release.1 ∈ WA := ⟨wa_2 (List.mem_of_getElem? (i := 103) (by decide +kernel)) (by decide +kernel), wa_2 (List.mem_of_getElem? (i := 104) (by decide +kernel)) (by decide +kernel)⟩
theorem ml_Srv_77 : MLk R_Srv 77 md_Srv_release 1 := ⟨wa_2 (List.mem_of_getElem? (i := 102) (by decide +kernel)) (by decide +kernel), wn_Srv_release, wk_Srv_release, by decide +kernel⟩
theorem wk_Srv_leasedTo : Cond.code md_Srv_leasedTo.1 md_Srv_leasedTo.2.1 md_Srv_leasedTo.2.2.1 md_Srv_leasedTo.2.2.2 ∈ WA := wa_2 (List.mem_of_getElem? (i := 129) (by decide +kernel)) (by decide +kernel)
theorem wn_Srv_leasedTo : Cond.initialized md_Srv_leasedTo.1.cls ∈ WA := wa_1 (List.mem_of_getElem? (i := 3) (by decide +kernel)) (by decide +kernel)
theorem mv_Srv_leasedTo : Cond.instanceMethod md_Srv_leasedTo.1 ∈ WA ∧ Cond.selects md_Srv_leasedTo.1.cls md_Srv_leasedTo.1 md_Srv_leasedTo.1 ∈ WA := ⟨wa_2 (List.mem_of_getElem? (i := 127) (by decide +kernel)) (by decide +kernel), wa_2 (List.mem_of_getElem? (i := 128) (by decide +kernel)) (by decide +kernel)⟩
theorem ml_Srv_87 : MLk R_Srv 87 md_Srv_leasedTo 2 := ⟨wa_2 (List.mem_of_getElem? (i := 126) (by decide +kernel)) (by decide +kernel), wn_Srv_leasedTo, wk_Srv_leasedTo, by decide +kernel⟩
theorem wk_Srv_leaseNew : Cond.code md_Srv_leaseNew.1 md_Srv_leaseNew.2.1 md_Srv_leaseNew.2.2.1 md_Srv_leaseNew.2.2.2 ∈ WA := wa_2 (List.mem_of_getElem? (i := 133) (by decide +kernel)) (by decide +kernel)
theorem wn_Srv_leaseNew : Cond.initialized md_Srv_leaseNew.1.cls ∈ WA := wa_1 (List.mem_of_getElem? (i := 3) (by decide +kernel)) (by decide +kernel)
theorem mv_Srv_leaseNew : Cond.instanceMethod md_Srv_leaseNew.1 ∈ WA ∧ Cond.selects md_Srv_leaseNew.1.cls md_Srv_leaseNew.1 md_Srv_leaseNew.1 ∈ WA := ⟨wa_2 (List.mem_of_getElem? (i := 131) (by decide +kernel)) (by decide +kernel), wa_2 (List.mem_of_getElem? (i := 132) (by decide +kernel)) (by decide +kernel)⟩
theorem ml_Srv_91 : MLk R_Srv 91 md_Srv_leaseNew 2 := ⟨wa_2 (List.mem_of_getElem? (i := 130) (by decide +kernel)) (by decide +kernel), wn_Srv_leaseNew, wk_Srv_leaseNew, by decide +kernel⟩
theorem wk_Srv_renew : Cond.code md_Srv_renew.1 md_Srv_renew.2.1 md_Srv_renew.2.2.1 md_Srv_renew.2.2.2 ∈ WA := wa_2 (List.mem_of_getElem? (i := 147) (by decide +kernel)) (by decide +kernel)
theorem wn_Srv_renew : Cond.initialized md_Srv_renew.1.cls ∈ WA := wa_1 (List.mem_of_getElem? (i := 3) (by decide +kernel)) (by decide +kernel)
theorem mv_Srv_renew : Cond.instanceMethod md_Srv_renew.1 ∈ WA ∧ Cond.selects md_Srv_renew.1.cls md_Srv_renew.1 md_Srv_renew.1 ∈ WA := ⟨wa_2 (List.mem_of_getElem? (i := 145) (by decide +kernel)) (by decide +kernel), wa_2 (List.mem_of_getElem? (i := 146) (by decide +kernel)) (by decide +kernel)⟩
theorem ml_Srv_95 : MLk R_Srv 95 md_Srv_renew 3 := ⟨wa_2 (List.mem_of_getElem? (i := 144) (by decide +kernel)) (by decide +kernel), wn_Srv_renew, wk_Srv_renew, by decide +kernel⟩
theorem wk_Srv_answer : Cond.code md_Srv_answer.1 md_Srv_answer.2.1 md_Srv_answer.2.2.1 md_Srv_answer.2.2.2 ∈ WA := wa_2 (List.mem_of_getElem? (i := 152) (by decide +kernel)) (by decide +kernel)
theorem wn_Srv_answer : Cond.initialized md_Srv_answer.1.cls ∈ WA := wa_1 (List.mem_of_getElem? (i := 3) (by decide +kernel)) (by decide +kernel)
theorem mv_Srv_answer : Cond.instanceMethod md_Srv_answer.1 ∈ WA ∧ Cond.selects md_Srv_answer.1.cls md_Srv_answer.1 md_Srv_answer.1 ∈ WA := ⟨wa_2 (List.mem_of_getElem? (i := 150) (by decide +kernel)) (by decide +kernel), wa_2 (List.mem_of_getElem? (i := 151) (by decide +kernel)) (by decide +kernel)⟩
theorem ml_Srv_99 : MLk R_Srv 99 md_Srv_answer 3 := ⟨wa_2 (List.mem_of_getElem? (i := 149) (by decide +kernel)) (by decide +kernel), wn_Srv_answer, wk_Srv_answer, by decide +kernel⟩
theorem wk_Rec_isBoundTo : Cond.code md_Rec_isBoundTo.1 md_Rec_isBoundTo.2.1 md_Rec_isBoundTo.2.2.1 md_Rec_isBoundTo.2.2.2 ∈ WA := wa_2 (List.mem_of_getElem? (i := 109) (by decide +kernel)) (by decide +kernel)
theorem wn_Rec_isBoundTo : Cond.initialized md_Rec_isBoundTo.1.cls ∈ WA := wa_1 (List.mem_of_getElem? (i := 4) (by decide +kernel)) (by decide +kernel)
theorem mv_Rec_isBoundTo : Cond.instanceMethod md_Rec_isBoundTo.1 ∈ WA ∧ Cond.selects md_Rec_isBoundTo.1.cls md_Rec_isBoundTo.1 md_Rec_isBoundTo.1 ∈ WA := ⟨wa_2 (List.mem_of_getElem? (i := 107) (by decide +kernel)) (by decide +kernel), wa_2 (List.mem_of_getElem? (i := 108) (by decide +kernel)) (by decide +kernel)⟩
theorem ml_Srv_103 : MLk R_Srv 103 md_Rec_isBoundTo 1 := ⟨wa_2 (List.mem_of_getElem? (i := 106) (by decide +kernel)) (by decide +kernel), wn_Rec_isBoundTo, wk_Rec_isBoundTo, by decide +kernel⟩
theorem wk_Srv_leastOwn : Cond.code md_Srv_leastOwn.1 md_Srv_leastOwn.2.1 md_Srv_leastOwn.2.2.1 md_Srv_leastOwn.2.2.2 ∈ WA := wa_2 (List.mem_of_getElem? (i := 137) (by decide +kernel)) (by decide +kernel)
theorem wn_Srv_leastOwn : Cond.initialized md_Srv_leastOwn.1.cls ∈ WA := wa_1 (List.mem_of_getElem? (i := 3) (by decide +kernel)) (by decide +kernel)
theorem mv_Srv_leastOwn : Cond.instanceMethod md_Srv_leastOwn.1 ∈ WA ∧ Cond.selects md_Srv_leastOwn.1.cls md_Srv_leastOwn.1 md_Srv_leastOwn.1 ∈ WA := ⟨wa_2 (List.mem_of_getElem? (i := 135) (by decide +kernel)) (by decide +kernel), wa_2 (List.mem_of_getElem? (i := 136) (by decide +kernel)) (by decide +kernel)⟩
theorem ml_Srv_110 : MLk R_Srv 110 md_Srv_leastOwn 0 := ⟨wa_2 (List.mem_of_getElem? (i := 134) (by decide +kernel)) (by decide +kernel), wn_Srv_leastOwn, wk_Srv_leastOwn, by decide +kernel⟩
theorem ml_Srv_122 : MLk R_Srv 122 md_Rec_change 0 := ⟨wa_2 (List.mem_of_getElem? (i := 139) (by decide +kernel)) (by decide +kernel), wn_Rec_change, wk_Rec_change, by decide +kernel⟩
theorem ml_Srv_129 : MLk R_Srv 129 md_Rec_bind 4 := ⟨wa_2 (List.mem_of_getElem? (i := 140) (by decide +kernel)) (by decide +kernel), wn_Rec_bind, wk_Rec_bind, by decide +kernel⟩
theorem ml_Srv_142 : MLk R_Srv 142 md_Net_add 3 := ⟨wa_2 (List.mem_of_getElem? (i := 153) (by decide +kernel)) (by decide +kernel), wn_Net_add, wk_Net_add, by decide +kernel⟩
theorem ml_Srv_151 : MLk R_Srv 151 md_Rec_changeTo 1 := ⟨wa_2 (List.mem_of_getElem? (i := 110) (by decide +kernel)) (by decide +kernel), wn_Rec_changeTo, wk_Rec_changeTo, by decide +kernel⟩
theorem wk_Srv_rejoin : Cond.code md_Srv_rejoin.1 md_Srv_rejoin.2.1 md_Srv_rejoin.2.2.1 md_Srv_rejoin.2.2.2 ∈ WA := wa_2 (List.mem_of_getElem? (i := 172) (by decide +kernel)) (by decide +kernel)
theorem wn_Srv_rejoin : Cond.initialized md_Srv_rejoin.1.cls ∈ WA := wa_1 (List.mem_of_getElem? (i := 3) (by decide +kernel)) (by decide +kernel)
theorem mv_Srv_rejoin : Cond.instanceMethod md_Srv_rejoin.1 ∈ WA ∧ Cond.selects md_Srv_rejoin.1.cls md_Srv_rejoin.1 md_Srv_rejoin.1 ∈ WA := ⟨wa_2 (List.mem_of_getElem? (i := 170) (by decide +kernel)) (by decide +kernel), wa_2 (List.mem_of_getElem? (i := 171) (by decide +kernel)) (by decide +kernel)⟩
theorem ml_Srv_154 : MLk R_Srv 154 md_Srv_rejoin 0 := ⟨wa_2 (List.mem_of_getElem? (i := 169) (by decide +kernel)) (by decide +kernel), wn_Srv_rejoin, wk_Srv_rejoin, by decide +kernel⟩
theorem wk_Srv_sendAll : Cond.code md_Srv_sendAll.1 md_Srv_sendAll.2.1 md_Srv_sendAll.2.2.1 md_Srv_sendAll.2.2.2 ∈ WA := wa_2 (List.mem_of_getElem? (i := 176) (by decide +kernel)) (by decide +kernel)
theorem wn_Srv_sendAll : Cond.initialized md_Srv_sendAll.1.cls ∈ WA := wa_1 (List.mem_of_getElem? (i := 3) (by decide +kernel)) (by decide +kernel)
theorem mv_Srv_sendAll : Cond.instanceMethod md_Srv_sendAll.1 ∈ WA ∧ Cond.selects md_Srv_sendAll.1.cls md_Srv_sendAll.1 md_Srv_sendAll.1 ∈ WA := ⟨wa_2 (List.mem_of_getElem? (i := 174) (by decide +kernel)) (by decide +kernel), wa_2 (List.mem_of_getElem? (i := 175) (by decide +kernel)) (by decide +kernel)⟩
theorem ml_Srv_157 : MLk R_Srv 157 md_Srv_sendAll 1 := ⟨wa_2 (List.mem_of_getElem? (i := 173) (by decide +kernel)) (by decide +kernel), wn_Srv_sendAll, wk_Srv_sendAll, by decide +kernel⟩
theorem wk_Srv_takeIn : Cond.code md_Srv_takeIn.1 md_Srv_takeIn.2.1 md_Srv_takeIn.2.2.1 md_Srv_takeIn.2.2.2 ∈ WA := wa_2 (List.mem_of_getElem? (i := 188) (by decide +kernel)) (by decide +kernel)
theorem wn_Srv_takeIn : Cond.initialized md_Srv_takeIn.1.cls ∈ WA := wa_1 (List.mem_of_getElem? (i := 3) (by decide +kernel)) (by decide +kernel)
theorem mv_Srv_takeIn : Cond.instanceMethod md_Srv_takeIn.1 ∈ WA ∧ Cond.selects md_Srv_takeIn.1.cls md_Srv_takeIn.1 md_Srv_takeIn.1 ∈ WA := ⟨wa_2 (List.mem_of_getElem? (i := 186) (by decide +kernel)) (by decide +kernel), wa_2 (List.mem_of_getElem? (i := 187) (by decide +kernel)) (by decide +kernel)⟩
theorem ml_Srv_169 : MLk R_Srv 169 md_Srv_takeIn 3 := ⟨wa_2 (List.mem_of_getElem? (i := 185) (by decide +kernel)) (by decide +kernel), wn_Srv_takeIn, wk_Srv_takeIn, by decide +kernel⟩
theorem wk_Srv_recover : Cond.code md_Srv_recover.1 md_Srv_recover.2.1 md_Srv_recover.2.2.1 md_Srv_recover.2.2.2 ∈ WA := wa_2 (List.mem_of_getElem? (i := 220) (by decide +kernel)) (by decide +kernel)
theorem wn_Srv_recover : Cond.initialized md_Srv_recover.1.cls ∈ WA := wa_1 (List.mem_of_getElem? (i := 3) (by decide +kernel)) (by decide +kernel)
theorem mv_Srv_recover : Cond.instanceMethod md_Srv_recover.1 ∈ WA ∧ Cond.selects md_Srv_recover.1.cls md_Srv_recover.1 md_Srv_recover.1 ∈ WA := ⟨wa_2 (List.mem_of_getElem? (i := 218) (by decide +kernel)) (by decide +kernel), wa_2 (List.mem_of_getElem? (i := 219) (by decide +kernel)) (by decide +kernel)⟩
theorem ml_Srv_173 : MLk R_Srv 173 md_Srv_recover 0 := ⟨wa_2 (List.mem_of_getElem? (i := 217) (by decide +kernel)) (by decide +kernel), wn_Srv_recover, wk_Srv_recover, by decide +kernel⟩
theorem wk_Srv_acknowledge : Cond.code md_Srv_acknowledge.1 md_Srv_acknowledge.2.1 md_Srv_acknowledge.2.2.1 md_Srv_acknowledge.2.2.2 ∈ WA := wa_2 (List.mem_of_getElem? (i := 228) (by decide +kernel)) (by decide +kernel)
theorem wn_Srv_acknowledge : Cond.initialized md_Srv_acknowledge.1.cls ∈ WA := wa_1 (List.mem_of_getElem? (i := 3) (by decide +kernel)) (by decide +kernel)
theorem mv_Srv_acknowledge : Cond.instanceMethod md_Srv_acknowledge.1 ∈ WA ∧ Cond.selects md_Srv_acknowledge.1.cls md_Srv_acknowledge.1 md_Srv_acknowledge.1 ∈ WA := ⟨wa_2 (List.mem_of_getElem? (i := 226) (by decide +kernel)) (by decide +kernel), wa_2 (List.mem_of_getElem? (i := 227) (by decide +kernel)) (by decide +kernel)⟩
theorem ml_Srv_176 : MLk R_Srv 176 md_Srv_acknowledge 3 := ⟨wa_2 (List.mem_of_getElem? (i := 225) (by decide +kernel)) (by decide +kernel), wn_Srv_acknowledge, wk_Srv_acknowledge, by decide +kernel⟩
theorem wk_Srv_giveWay : Cond.code md_Srv_giveWay.1 md_Srv_giveWay.2.1 md_Srv_giveWay.2.2.1 md_Srv_giveWay.2.2.2 ∈ WA := wa_2 (List.mem_of_getElem? (i := 192) (by decide +kernel)) (by decide +kernel)
theorem wn_Srv_giveWay : Cond.initialized md_Srv_giveWay.1.cls ∈ WA := wa_1 (List.mem_of_getElem? (i := 3) (by decide +kernel)) (by decide +kernel)
theorem mv_Srv_giveWay : Cond.instanceMethod md_Srv_giveWay.1 ∈ WA ∧ Cond.selects md_Srv_giveWay.1.cls md_Srv_giveWay.1 md_Srv_giveWay.1 ∈ WA := ⟨wa_2 (List.mem_of_getElem? (i := 190) (by decide +kernel)) (by decide +kernel), wa_2 (List.mem_of_getElem? (i := 191) (by decide +kernel)) (by decide +kernel)⟩
theorem ml_Srv_180 : MLk R_Srv 180 md_Srv_giveWay 2 := ⟨wa_2 (List.mem_of_getElem? (i := 189) (by decide +kernel)) (by decide +kernel), wn_Srv_giveWay, wk_Srv_giveWay, by decide +kernel⟩
theorem wk_Rec_takeBound : Cond.code md_Rec_takeBound.1 md_Rec_takeBound.2.1 md_Rec_takeBound.2.2.1 md_Rec_takeBound.2.2.2 ∈ WA := wa_2 (List.mem_of_getElem? (i := 200) (by decide +kernel)) (by decide +kernel)
theorem wn_Rec_takeBound : Cond.initialized md_Rec_takeBound.1.cls ∈ WA := wa_1 (List.mem_of_getElem? (i := 4) (by decide +kernel)) (by decide +kernel)
theorem mv_Rec_takeBound : Cond.instanceMethod md_Rec_takeBound.1 ∈ WA ∧ Cond.selects md_Rec_takeBound.1.cls md_Rec_takeBound.1 md_Rec_takeBound.1 ∈ WA := ⟨wa_2 (List.mem_of_getElem? (i := 198) (by decide +kernel)) (by decide +kernel), wa_2 (List.mem_of_getElem? (i := 199) (by decide +kernel)) (by decide +kernel)⟩
theorem ml_Srv_184 : MLk R_Srv 184 md_Rec_takeBound 1 := ⟨wa_2 (List.mem_of_getElem? (i := 197) (by decide +kernel)) (by decide +kernel), wn_Rec_takeBound, wk_Rec_takeBound, by decide +kernel⟩
theorem wk_Rec_takeEnding : Cond.code md_Rec_takeEnding.1 md_Rec_takeEnding.2.1 md_Rec_takeEnding.2.2.1 md_Rec_takeEnding.2.2.2 ∈ WA := wa_2 (List.mem_of_getElem? (i := 207) (by decide +kernel)) (by decide +kernel)
theorem wn_Rec_takeEnding : Cond.initialized md_Rec_takeEnding.1.cls ∈ WA := wa_1 (List.mem_of_getElem? (i := 4) (by decide +kernel)) (by decide +kernel)
theorem mv_Rec_takeEnding : Cond.instanceMethod md_Rec_takeEnding.1 ∈ WA ∧ Cond.selects md_Rec_takeEnding.1.cls md_Rec_takeEnding.1 md_Rec_takeEnding.1 ∈ WA := ⟨wa_2 (List.mem_of_getElem? (i := 205) (by decide +kernel)) (by decide +kernel), wa_2 (List.mem_of_getElem? (i := 206) (by decide +kernel)) (by decide +kernel)⟩
theorem ml_Srv_188 : MLk R_Srv 188 md_Rec_takeEnding 3 := ⟨wa_2 (List.mem_of_getElem? (i := 204) (by decide +kernel)) (by decide +kernel), wn_Rec_takeEnding, wk_Rec_takeEnding, by decide +kernel⟩
theorem wk_Rec_takeGiven : Cond.code md_Rec_takeGiven.1 md_Rec_takeGiven.2.1 md_Rec_takeGiven.2.2.1 md_Rec_takeGiven.2.2.2 ∈ WA := wa_2 (List.mem_of_getElem? (i := 216) (by decide +kernel)) (by decide +kernel)
theorem wn_Rec_takeGiven : Cond.initialized md_Rec_takeGiven.1.cls ∈ WA := wa_1 (List.mem_of_getElem? (i := 4) (by decide +kernel)) (by decide +kernel)
theorem mv_Rec_takeGiven : Cond.instanceMethod md_Rec_takeGiven.1 ∈ WA ∧ Cond.selects md_Rec_takeGiven.1.cls md_Rec_takeGiven.1 md_Rec_takeGiven.1 ∈ WA := ⟨wa_2 (List.mem_of_getElem? (i := 214) (by decide +kernel)) (by decide +kernel), wa_2 (List.mem_of_getElem? (i := 215) (by decide +kernel)) (by decide +kernel)⟩
theorem ml_Srv_192 : MLk R_Srv 192 md_Rec_takeGiven 0 := ⟨wa_2 (List.mem_of_getElem? (i := 213) (by decide +kernel)) (by decide +kernel), wn_Rec_takeGiven, wk_Rec_takeGiven, by decide +kernel⟩
theorem ml_Srv_197 : MLk R_Srv 197 md_Rec_settle 1 := ⟨wa_2 (List.mem_of_getElem? (i := 193) (by decide +kernel)) (by decide +kernel), wn_Rec_settle, wk_Rec_settle, by decide +kernel⟩
theorem wk_Srv_allFresh : Cond.code md_Srv_allFresh.1 md_Srv_allFresh.2.1 md_Srv_allFresh.2.2.1 md_Srv_allFresh.2.2.2 ∈ WA := wa_2 (List.mem_of_getElem? (i := 224) (by decide +kernel)) (by decide +kernel)
theorem wn_Srv_allFresh : Cond.initialized md_Srv_allFresh.1.cls ∈ WA := wa_1 (List.mem_of_getElem? (i := 3) (by decide +kernel)) (by decide +kernel)
theorem mv_Srv_allFresh : Cond.instanceMethod md_Srv_allFresh.1 ∈ WA ∧ Cond.selects md_Srv_allFresh.1.cls md_Srv_allFresh.1 md_Srv_allFresh.1 ∈ WA := ⟨wa_2 (List.mem_of_getElem? (i := 222) (by decide +kernel)) (by decide +kernel), wa_2 (List.mem_of_getElem? (i := 223) (by decide +kernel)) (by decide +kernel)⟩
theorem ml_Srv_200 : MLk R_Srv 200 md_Srv_allFresh 0 := ⟨wa_2 (List.mem_of_getElem? (i := 221) (by decide +kernel)) (by decide +kernel), wn_Srv_allFresh, wk_Srv_allFresh, by decide +kernel⟩
theorem wk_Rec_learnKnown : Cond.code md_Rec_learnKnown.1 md_Rec_learnKnown.2.1 md_Rec_learnKnown.2.2.1 md_Rec_learnKnown.2.2.2 ∈ WA := wa_2 (List.mem_of_getElem? (i := 236) (by decide +kernel)) (by decide +kernel)
theorem wn_Rec_learnKnown : Cond.initialized md_Rec_learnKnown.1.cls ∈ WA := wa_1 (List.mem_of_getElem? (i := 4) (by decide +kernel)) (by decide +kernel)
theorem mv_Rec_learnKnown : Cond.instanceMethod md_Rec_learnKnown.1 ∈ WA ∧ Cond.selects md_Rec_learnKnown.1.cls md_Rec_learnKnown.1 md_Rec_learnKnown.1 ∈ WA := ⟨wa_2 (List.mem_of_getElem? (i := 234) (by decide +kernel)) (by decide +kernel), wa_2 (List.mem_of_getElem? (i := 235) (by decide +kernel)) (by decide +kernel)⟩
theorem ml_Srv_206 : MLk R_Srv 206 md_Rec_learnKnown 1 := ⟨wa_2 (List.mem_of_getElem? (i := 233) (by decide +kernel)) (by decide +kernel), wn_Rec_learnKnown, wk_Rec_learnKnown, by decide +kernel⟩
theorem wk_Rec_learnAcknowledged : Cond.code md_Rec_learnAcknowledged.1 md_Rec_learnAcknowledged.2.1 md_Rec_learnAcknowledged.2.2.1 md_Rec_learnAcknowledged.2.2.2 ∈ WA := wa_3 (List.mem_of_getElem? (i := 0) (by decide +kernel)) (by decide +kernel)
theorem wn_Rec_learnAcknowledged : Cond.initialized md_Rec_learnAcknowledged.1.cls ∈ WA := wa_1 (List.mem_of_getElem? (i := 4) (by decide +kernel)) (by decide +kernel)
theorem mv_Rec_learnAcknowledged : Cond.instanceMethod md_Rec_learnAcknowledged.1 ∈ WA ∧ Cond.selects md_Rec_learnAcknowledged.1.cls md_Rec_learnAcknowledged.1 md_Rec_learnAcknowledged.1 ∈ WA := ⟨wa_2 (List.mem_of_getElem? (i := 238) (by decide +kernel)) (by decide +kernel), wa_2 (List.mem_of_getElem? (i := 239) (by decide +kernel)) (by decide +kernel)⟩
theorem ml_Srv_209 : MLk R_Srv 209 md_Rec_learnAcknowledged 1 := ⟨wa_2 (List.mem_of_getElem? (i := 237) (by decide +kernel)) (by decide +kernel), wn_Rec_learnAcknowledged, wk_Rec_learnAcknowledged, by decide +kernel⟩
theorem wk_Srv_sendUpdate : Cond.code md_Srv_sendUpdate.1 md_Srv_sendUpdate.2.1 md_Srv_sendUpdate.2.2.1 md_Srv_sendUpdate.2.2.2 ∈ WA := wa_2 (List.mem_of_getElem? (i := 180) (by decide +kernel)) (by decide +kernel)
theorem wn_Srv_sendUpdate : Cond.initialized md_Srv_sendUpdate.1.cls ∈ WA := wa_1 (List.mem_of_getElem? (i := 3) (by decide +kernel)) (by decide +kernel)
theorem mv_Srv_sendUpdate : Cond.instanceMethod md_Srv_sendUpdate.1 ∈ WA ∧ Cond.selects md_Srv_sendUpdate.1.cls md_Srv_sendUpdate.1 md_Srv_sendUpdate.1 ∈ WA := ⟨wa_2 (List.mem_of_getElem? (i := 178) (by decide +kernel)) (by decide +kernel), wa_2 (List.mem_of_getElem? (i := 179) (by decide +kernel)) (by decide +kernel)⟩
theorem ml_Srv_218 : MLk R_Srv 218 md_Srv_sendUpdate 2 := ⟨wa_2 (List.mem_of_getElem? (i := 177) (by decide +kernel)) (by decide +kernel), wn_Srv_sendUpdate, wk_Srv_sendUpdate, by decide +kernel⟩
theorem ml_Srv_222 : MLk R_Srv 222 md_Srv_sendHello 1 := ⟨wa_3 (List.mem_of_getElem? (i := 169) (by decide +kernel)) (by decide +kernel), wn_Srv_sendHello, wk_Srv_sendHello, by decide +kernel⟩
theorem wk_Srv_endTogether : Cond.code md_Srv_endTogether.1 md_Srv_endTogether.2.1 md_Srv_endTogether.2.2.1 md_Srv_endTogether.2.2.2 ∈ WA := wa_3 (List.mem_of_getElem? (i := 185) (by decide +kernel)) (by decide +kernel)
theorem wn_Srv_endTogether : Cond.initialized md_Srv_endTogether.1.cls ∈ WA := wa_1 (List.mem_of_getElem? (i := 3) (by decide +kernel)) (by decide +kernel)
theorem mv_Srv_endTogether : Cond.instanceMethod md_Srv_endTogether.1 ∈ WA ∧ Cond.selects md_Srv_endTogether.1.cls md_Srv_endTogether.1 md_Srv_endTogether.1 ∈ WA := ⟨wa_3 (List.mem_of_getElem? (i := 183) (by decide +kernel)) (by decide +kernel), wa_3 (List.mem_of_getElem? (i := 184) (by decide +kernel)) (by decide +kernel)⟩
theorem ml_Srv_228 : MLk R_Srv 228 md_Srv_endTogether 2 := ⟨wa_3 (List.mem_of_getElem? (i := 182) (by decide +kernel)) (by decide +kernel), wn_Srv_endTogether, wk_Srv_endTogether, by decide +kernel⟩
theorem wk_Srv_endAlone : Cond.code md_Srv_endAlone.1 md_Srv_endAlone.2.1 md_Srv_endAlone.2.2.1 md_Srv_endAlone.2.2.2 ∈ WA := wa_3 (List.mem_of_getElem? (i := 189) (by decide +kernel)) (by decide +kernel)
theorem wn_Srv_endAlone : Cond.initialized md_Srv_endAlone.1.cls ∈ WA := wa_1 (List.mem_of_getElem? (i := 3) (by decide +kernel)) (by decide +kernel)
theorem mv_Srv_endAlone : Cond.instanceMethod md_Srv_endAlone.1 ∈ WA ∧ Cond.selects md_Srv_endAlone.1.cls md_Srv_endAlone.1 md_Srv_endAlone.1 ∈ WA := ⟨wa_3 (List.mem_of_getElem? (i := 187) (by decide +kernel)) (by decide +kernel), wa_3 (List.mem_of_getElem? (i := 188) (by decide +kernel)) (by decide +kernel)⟩
theorem ml_Srv_232 : MLk R_Srv 232 md_Srv_endAlone 2 := ⟨wa_3 (List.mem_of_getElem? (i := 186) (by decide +kernel)) (by decide +kernel), wn_Srv_endAlone, wk_Srv_endAlone, by decide +kernel⟩
theorem wk_Srv_endSole : Cond.code md_Srv_endSole.1 md_Srv_endSole.2.1 md_Srv_endSole.2.2.1 md_Srv_endSole.2.2.2 ∈ WA := wa_3 (List.mem_of_getElem? (i := 193) (by decide +kernel)) (by decide +kernel)
theorem wn_Srv_endSole : Cond.initialized md_Srv_endSole.1.cls ∈ WA := wa_1 (List.mem_of_getElem? (i := 3) (by decide +kernel)) (by decide +kernel)
theorem mv_Srv_endSole : Cond.instanceMethod md_Srv_endSole.1 ∈ WA ∧ Cond.selects md_Srv_endSole.1.cls md_Srv_endSole.1 md_Srv_endSole.1 ∈ WA := ⟨wa_3 (List.mem_of_getElem? (i := 191) (by decide +kernel)) (by decide +kernel), wa_3 (List.mem_of_getElem? (i := 192) (by decide +kernel)) (by decide +kernel)⟩
theorem ml_Srv_235 : MLk R_Srv 235 md_Srv_endSole 2 := ⟨wa_3 (List.mem_of_getElem? (i := 190) (by decide +kernel)) (by decide +kernel), wn_Srv_endSole, wk_Srv_endSole, by decide +kernel⟩
theorem wk_Srv_takeOver : Cond.code md_Srv_takeOver.1 md_Srv_takeOver.2.1 md_Srv_takeOver.2.2.1 md_Srv_takeOver.2.2.2 ∈ WA := wa_3 (List.mem_of_getElem? (i := 197) (by decide +kernel)) (by decide +kernel)
theorem wn_Srv_takeOver : Cond.initialized md_Srv_takeOver.1.cls ∈ WA := wa_1 (List.mem_of_getElem? (i := 3) (by decide +kernel)) (by decide +kernel)
theorem mv_Srv_takeOver : Cond.instanceMethod md_Srv_takeOver.1 ∈ WA ∧ Cond.selects md_Srv_takeOver.1.cls md_Srv_takeOver.1 md_Srv_takeOver.1 ∈ WA := ⟨wa_3 (List.mem_of_getElem? (i := 195) (by decide +kernel)) (by decide +kernel), wa_3 (List.mem_of_getElem? (i := 196) (by decide +kernel)) (by decide +kernel)⟩
theorem ml_Srv_238 : MLk R_Srv 238 md_Srv_takeOver 2 := ⟨wa_3 (List.mem_of_getElem? (i := 194) (by decide +kernel)) (by decide +kernel), wn_Srv_takeOver, wk_Srv_takeOver, by decide +kernel⟩
theorem wk_Srv_countOwn : Cond.code md_Srv_countOwn.1 md_Srv_countOwn.2.1 md_Srv_countOwn.2.2.1 md_Srv_countOwn.2.2.2 ∈ WA := wa_4 (List.mem_of_getElem? (i := 40) (by decide +kernel)) (by decide +kernel)
theorem wn_Srv_countOwn : Cond.initialized md_Srv_countOwn.1.cls ∈ WA := wa_1 (List.mem_of_getElem? (i := 3) (by decide +kernel)) (by decide +kernel)
theorem mv_Srv_countOwn : Cond.instanceMethod md_Srv_countOwn.1 ∈ WA ∧ Cond.selects md_Srv_countOwn.1.cls md_Srv_countOwn.1 md_Srv_countOwn.1 ∈ WA := ⟨wa_4 (List.mem_of_getElem? (i := 38) (by decide +kernel)) (by decide +kernel), wa_4 (List.mem_of_getElem? (i := 39) (by decide +kernel)) (by decide +kernel)⟩
theorem ml_Srv_241 : MLk R_Srv 241 md_Srv_countOwn 0 := ⟨wa_4 (List.mem_of_getElem? (i := 37) (by decide +kernel)) (by decide +kernel), wn_Srv_countOwn, wk_Srv_countOwn, by decide +kernel⟩
theorem wk_Srv_countPending : Cond.code md_Srv_countPending.1 md_Srv_countPending.2.1 md_Srv_countPending.2.2.1 md_Srv_countPending.2.2.2 ∈ WA := wa_4 (List.mem_of_getElem? (i := 44) (by decide +kernel)) (by decide +kernel)
theorem wn_Srv_countPending : Cond.initialized md_Srv_countPending.1.cls ∈ WA := wa_1 (List.mem_of_getElem? (i := 3) (by decide +kernel)) (by decide +kernel)
theorem mv_Srv_countPending : Cond.instanceMethod md_Srv_countPending.1 ∈ WA ∧ Cond.selects md_Srv_countPending.1.cls md_Srv_countPending.1 md_Srv_countPending.1 ∈ WA := ⟨wa_4 (List.mem_of_getElem? (i := 42) (by decide +kernel)) (by decide +kernel), wa_4 (List.mem_of_getElem? (i := 43) (by decide +kernel)) (by decide +kernel)⟩
theorem ml_Srv_244 : MLk R_Srv 244 md_Srv_countPending 0 := ⟨wa_4 (List.mem_of_getElem? (i := 41) (by decide +kernel)) (by decide +kernel), wn_Srv_countPending, wk_Srv_countPending, by decide +kernel⟩
theorem wk_LP_seconds : Cond.code md_LP_seconds.1 md_LP_seconds.2.1 md_LP_seconds.2.2.1 md_LP_seconds.2.2.2 ∈ WA := wa_3 (List.mem_of_getElem? (i := 19) (by decide +kernel)) (by decide +kernel)
theorem wn_LP_seconds : Cond.initialized md_LP_seconds.1.cls ∈ WA := wa_1 (List.mem_of_getElem? (i := 1) (by decide +kernel)) (by decide +kernel)
theorem mv_LP_seconds : Cond.instanceMethod md_LP_seconds.1 ∈ WA ∧ Cond.selects md_LP_seconds.1.cls md_LP_seconds.1 md_LP_seconds.1 ∈ WA := ⟨wa_3 (List.mem_of_getElem? (i := 17) (by decide +kernel)) (by decide +kernel), wa_3 (List.mem_of_getElem? (i := 18) (by decide +kernel)) (by decide +kernel)⟩
theorem ml_Law_7 : MLk R_Law 7 md_LP_seconds 1 := ⟨wa_3 (List.mem_of_getElem? (i := 16) (by decide +kernel)) (by decide +kernel), wn_LP_seconds, wk_LP_seconds, by decide +kernel⟩
theorem wk_LP_skew : Cond.code md_LP_skew.1 md_LP_skew.2.1 md_LP_skew.2.2.1 md_LP_skew.2.2.2 ∈ WA := wa_3 (List.mem_of_getElem? (i := 95) (by decide +kernel)) (by decide +kernel)
theorem wn_LP_skew : Cond.initialized md_LP_skew.1.cls ∈ WA := wa_1 (List.mem_of_getElem? (i := 1) (by decide +kernel)) (by decide +kernel)
theorem mv_LP_skew : Cond.instanceMethod md_LP_skew.1 ∈ WA ∧ Cond.selects md_LP_skew.1.cls md_LP_skew.1 md_LP_skew.1 ∈ WA := ⟨wa_3 (List.mem_of_getElem? (i := 93) (by decide +kernel)) (by decide +kernel), wa_3 (List.mem_of_getElem? (i := 94) (by decide +kernel)) (by decide +kernel)⟩
theorem ml_Law_15 : MLk R_Law 15 md_LP_skew 2 := ⟨wa_3 (List.mem_of_getElem? (i := 92) (by decide +kernel)) (by decide +kernel), wn_LP_skew, wk_LP_skew, by decide +kernel⟩
theorem wk_LP_kill : Cond.code md_LP_kill.1 md_LP_kill.2.1 md_LP_kill.2.2.1 md_LP_kill.2.2.2 ∈ WA := wa_3 (List.mem_of_getElem? (i := 106) (by decide +kernel)) (by decide +kernel)
theorem wn_LP_kill : Cond.initialized md_LP_kill.1.cls ∈ WA := wa_1 (List.mem_of_getElem? (i := 1) (by decide +kernel)) (by decide +kernel)
theorem mv_LP_kill : Cond.instanceMethod md_LP_kill.1 ∈ WA ∧ Cond.selects md_LP_kill.1.cls md_LP_kill.1 md_LP_kill.1 ∈ WA := ⟨wa_3 (List.mem_of_getElem? (i := 104) (by decide +kernel)) (by decide +kernel), wa_3 (List.mem_of_getElem? (i := 105) (by decide +kernel)) (by decide +kernel)⟩
theorem ml_Law_19 : MLk R_Law 19 md_LP_kill 1 := ⟨wa_3 (List.mem_of_getElem? (i := 103) (by decide +kernel)) (by decide +kernel), wn_LP_kill, wk_LP_kill, by decide +kernel⟩
theorem wk_LP_fuse : Cond.code md_LP_fuse.1 md_LP_fuse.2.1 md_LP_fuse.2.2.1 md_LP_fuse.2.2.2 ∈ WA := wa_3 (List.mem_of_getElem? (i := 114) (by decide +kernel)) (by decide +kernel)
theorem wn_LP_fuse : Cond.initialized md_LP_fuse.1.cls ∈ WA := wa_1 (List.mem_of_getElem? (i := 1) (by decide +kernel)) (by decide +kernel)
theorem mv_LP_fuse : Cond.instanceMethod md_LP_fuse.1 ∈ WA ∧ Cond.selects md_LP_fuse.1.cls md_LP_fuse.1 md_LP_fuse.1 ∈ WA := ⟨wa_3 (List.mem_of_getElem? (i := 112) (by decide +kernel)) (by decide +kernel), wa_3 (List.mem_of_getElem? (i := 113) (by decide +kernel)) (by decide +kernel)⟩
theorem ml_Law_23 : MLk R_Law 23 md_LP_fuse 2 := ⟨wa_3 (List.mem_of_getElem? (i := 111) (by decide +kernel)) (by decide +kernel), wn_LP_fuse, wk_LP_fuse, by decide +kernel⟩
theorem wk_LP_start : Cond.code md_LP_start.1 md_LP_start.2.1 md_LP_start.2.2.1 md_LP_start.2.2.2 ∈ WA := wa_3 (List.mem_of_getElem? (i := 121) (by decide +kernel)) (by decide +kernel)
theorem wn_LP_start : Cond.initialized md_LP_start.1.cls ∈ WA := wa_1 (List.mem_of_getElem? (i := 1) (by decide +kernel)) (by decide +kernel)
theorem mv_LP_start : Cond.instanceMethod md_LP_start.1 ∈ WA ∧ Cond.selects md_LP_start.1.cls md_LP_start.1 md_LP_start.1 ∈ WA := ⟨wa_3 (List.mem_of_getElem? (i := 119) (by decide +kernel)) (by decide +kernel), wa_3 (List.mem_of_getElem? (i := 120) (by decide +kernel)) (by decide +kernel)⟩
theorem ml_Law_27 : MLk R_Law 27 md_LP_start 1 := ⟨wa_3 (List.mem_of_getElem? (i := 118) (by decide +kernel)) (by decide +kernel), wn_LP_start, wk_LP_start, by decide +kernel⟩
theorem wk_LP_partnerDown : Cond.code md_LP_partnerDown.1 md_LP_partnerDown.2.1 md_LP_partnerDown.2.2.1 md_LP_partnerDown.2.2.2 ∈ WA := wa_3 (List.mem_of_getElem? (i := 136) (by decide +kernel)) (by decide +kernel)
theorem wn_LP_partnerDown : Cond.initialized md_LP_partnerDown.1.cls ∈ WA := wa_1 (List.mem_of_getElem? (i := 1) (by decide +kernel)) (by decide +kernel)
theorem mv_LP_partnerDown : Cond.instanceMethod md_LP_partnerDown.1 ∈ WA ∧ Cond.selects md_LP_partnerDown.1.cls md_LP_partnerDown.1 md_LP_partnerDown.1 ∈ WA := ⟨wa_3 (List.mem_of_getElem? (i := 134) (by decide +kernel)) (by decide +kernel), wa_3 (List.mem_of_getElem? (i := 135) (by decide +kernel)) (by decide +kernel)⟩
theorem ml_Law_30 : MLk R_Law 30 md_LP_partnerDown 1 := ⟨wa_3 (List.mem_of_getElem? (i := 133) (by decide +kernel)) (by decide +kernel), wn_LP_partnerDown, wk_LP_partnerDown, by decide +kernel⟩
theorem wk_LP_ask : Cond.code md_LP_ask.1 md_LP_ask.2.1 md_LP_ask.2.2.1 md_LP_ask.2.2.2 ∈ WA := wa_3 (List.mem_of_getElem? (i := 147) (by decide +kernel)) (by decide +kernel)
theorem wn_LP_ask : Cond.initialized md_LP_ask.1.cls ∈ WA := wa_1 (List.mem_of_getElem? (i := 1) (by decide +kernel)) (by decide +kernel)
theorem mv_LP_ask : Cond.instanceMethod md_LP_ask.1 ∈ WA ∧ Cond.selects md_LP_ask.1.cls md_LP_ask.1 md_LP_ask.1 ∈ WA := ⟨wa_3 (List.mem_of_getElem? (i := 145) (by decide +kernel)) (by decide +kernel), wa_3 (List.mem_of_getElem? (i := 146) (by decide +kernel)) (by decide +kernel)⟩
theorem ml_Law_33 : MLk R_Law 33 md_LP_ask 5 := ⟨wa_3 (List.mem_of_getElem? (i := 144) (by decide +kernel)) (by decide +kernel), wn_LP_ask, wk_LP_ask, by decide +kernel⟩
theorem wk_LP_send : Cond.code md_LP_send.1 md_LP_send.2.1 md_LP_send.2.2.1 md_LP_send.2.2.2 ∈ WA := wa_3 (List.mem_of_getElem? (i := 164) (by decide +kernel)) (by decide +kernel)
theorem wn_LP_send : Cond.initialized md_LP_send.1.cls ∈ WA := wa_1 (List.mem_of_getElem? (i := 1) (by decide +kernel)) (by decide +kernel)
theorem mv_LP_send : Cond.instanceMethod md_LP_send.1 ∈ WA ∧ Cond.selects md_LP_send.1.cls md_LP_send.1 md_LP_send.1 ∈ WA := ⟨wa_3 (List.mem_of_getElem? (i := 162) (by decide +kernel)) (by decide +kernel), wa_3 (List.mem_of_getElem? (i := 163) (by decide +kernel)) (by decide +kernel)⟩
theorem ml_Law_37 : MLk R_Law 37 md_LP_send 1 := ⟨wa_3 (List.mem_of_getElem? (i := 161) (by decide +kernel)) (by decide +kernel), wn_LP_send, wk_LP_send, by decide +kernel⟩
theorem wk_LP_tidy : Cond.code md_LP_tidy.1 md_LP_tidy.2.1 md_LP_tidy.2.2.1 md_LP_tidy.2.2.2 ∈ WA := wa_3 (List.mem_of_getElem? (i := 176) (by decide +kernel)) (by decide +kernel)
theorem wn_LP_tidy : Cond.initialized md_LP_tidy.1.cls ∈ WA := wa_1 (List.mem_of_getElem? (i := 1) (by decide +kernel)) (by decide +kernel)
theorem mv_LP_tidy : Cond.instanceMethod md_LP_tidy.1 ∈ WA ∧ Cond.selects md_LP_tidy.1.cls md_LP_tidy.1 md_LP_tidy.1 ∈ WA := ⟨wa_3 (List.mem_of_getElem? (i := 174) (by decide +kernel)) (by decide +kernel), wa_3 (List.mem_of_getElem? (i := 175) (by decide +kernel)) (by decide +kernel)⟩
theorem ml_Law_40 : MLk R_Law 40 md_LP_tidy 1 := ⟨wa_3 (List.mem_of_getElem? (i := 173) (by decide +kernel)) (by decide +kernel), wn_LP_tidy, wk_LP_tidy, by decide +kernel⟩
theorem wk_LP_give : Cond.code md_LP_give.1 md_LP_give.2.1 md_LP_give.2.2.1 md_LP_give.2.2.2 ∈ WA := wa_3 (List.mem_of_getElem? (i := 204) (by decide +kernel)) (by decide +kernel)
theorem wn_LP_give : Cond.initialized md_LP_give.1.cls ∈ WA := wa_1 (List.mem_of_getElem? (i := 1) (by decide +kernel)) (by decide +kernel)
theorem mv_LP_give : Cond.instanceMethod md_LP_give.1 ∈ WA ∧ Cond.selects md_LP_give.1.cls md_LP_give.1 md_LP_give.1 ∈ WA := ⟨wa_3 (List.mem_of_getElem? (i := 202) (by decide +kernel)) (by decide +kernel), wa_3 (List.mem_of_getElem? (i := 203) (by decide +kernel)) (by decide +kernel)⟩
theorem ml_Law_43 : MLk R_Law 43 md_LP_give 2 := ⟨wa_3 (List.mem_of_getElem? (i := 201) (by decide +kernel)) (by decide +kernel), wn_LP_give, wk_LP_give, by decide +kernel⟩
theorem wk_LP_carry : Cond.code md_LP_carry.1 md_LP_carry.2.1 md_LP_carry.2.2.1 md_LP_carry.2.2.2 ∈ WA := wa_3 (List.mem_of_getElem? (i := 215) (by decide +kernel)) (by decide +kernel)
theorem wn_LP_carry : Cond.initialized md_LP_carry.1.cls ∈ WA := wa_1 (List.mem_of_getElem? (i := 1) (by decide +kernel)) (by decide +kernel)
theorem mv_LP_carry : Cond.instanceMethod md_LP_carry.1 ∈ WA ∧ Cond.selects md_LP_carry.1.cls md_LP_carry.1 md_LP_carry.1 ∈ WA := ⟨wa_3 (List.mem_of_getElem? (i := 213) (by decide +kernel)) (by decide +kernel), wa_3 (List.mem_of_getElem? (i := 214) (by decide +kernel)) (by decide +kernel)⟩
theorem ml_Law_46 : MLk R_Law 46 md_LP_carry 1 := ⟨wa_3 (List.mem_of_getElem? (i := 212) (by decide +kernel)) (by decide +kernel), wn_LP_carry, wk_LP_carry, by decide +kernel⟩
theorem wk_LP_drop : Cond.code md_LP_drop.1 md_LP_drop.2.1 md_LP_drop.2.2.1 md_LP_drop.2.2.2 ∈ WA := wa_3 (List.mem_of_getElem? (i := 232) (by decide +kernel)) (by decide +kernel)
theorem wn_LP_drop : Cond.initialized md_LP_drop.1.cls ∈ WA := wa_1 (List.mem_of_getElem? (i := 1) (by decide +kernel)) (by decide +kernel)
theorem mv_LP_drop : Cond.instanceMethod md_LP_drop.1 ∈ WA ∧ Cond.selects md_LP_drop.1.cls md_LP_drop.1 md_LP_drop.1 ∈ WA := ⟨wa_3 (List.mem_of_getElem? (i := 230) (by decide +kernel)) (by decide +kernel), wa_3 (List.mem_of_getElem? (i := 231) (by decide +kernel)) (by decide +kernel)⟩
theorem ml_Law_49 : MLk R_Law 49 md_LP_drop 1 := ⟨wa_3 (List.mem_of_getElem? (i := 229) (by decide +kernel)) (by decide +kernel), wn_LP_drop, wk_LP_drop, by decide +kernel⟩
theorem wk_LP_message : Cond.code md_LP_message.1 md_LP_message.2.1 md_LP_message.2.2.1 md_LP_message.2.2.2 ∈ WA := wa_4 (List.mem_of_getElem? (i := 3) (by decide +kernel)) (by decide +kernel)
theorem wn_LP_message : Cond.initialized md_LP_message.1.cls ∈ WA := wa_1 (List.mem_of_getElem? (i := 1) (by decide +kernel)) (by decide +kernel)
theorem mv_LP_message : Cond.instanceMethod md_LP_message.1 ∈ WA ∧ Cond.selects md_LP_message.1.cls md_LP_message.1 md_LP_message.1 ∈ WA := ⟨wa_4 (List.mem_of_getElem? (i := 1) (by decide +kernel)) (by decide +kernel), wa_4 (List.mem_of_getElem? (i := 2) (by decide +kernel)) (by decide +kernel)⟩
theorem ml_Law_52 : MLk R_Law 52 md_LP_message 2 := ⟨wa_4 (List.mem_of_getElem? (i := 0) (by decide +kernel)) (by decide +kernel), wn_LP_message, wk_LP_message, by decide +kernel⟩
theorem wk_LP_client : Cond.code md_LP_client.1 md_LP_client.2.1 md_LP_client.2.2.1 md_LP_client.2.2.2 ∈ WA := wa_4 (List.mem_of_getElem? (i := 14) (by decide +kernel)) (by decide +kernel)
theorem wn_LP_client : Cond.initialized md_LP_client.1.cls ∈ WA := wa_1 (List.mem_of_getElem? (i := 1) (by decide +kernel)) (by decide +kernel)
theorem mv_LP_client : Cond.instanceMethod md_LP_client.1 ∈ WA ∧ Cond.selects md_LP_client.1.cls md_LP_client.1 md_LP_client.1 ∈ WA := ⟨wa_4 (List.mem_of_getElem? (i := 12) (by decide +kernel)) (by decide +kernel), wa_4 (List.mem_of_getElem? (i := 13) (by decide +kernel)) (by decide +kernel)⟩
theorem ml_Law_55 : MLk R_Law 55 md_LP_client 2 := ⟨wa_4 (List.mem_of_getElem? (i := 11) (by decide +kernel)) (by decide +kernel), wn_LP_client, wk_LP_client, by decide +kernel⟩
theorem wk_LP_record : Cond.code md_LP_record.1 md_LP_record.2.1 md_LP_record.2.2.1 md_LP_record.2.2.2 ∈ WA := wa_4 (List.mem_of_getElem? (i := 21) (by decide +kernel)) (by decide +kernel)
theorem wn_LP_record : Cond.initialized md_LP_record.1.cls ∈ WA := wa_1 (List.mem_of_getElem? (i := 1) (by decide +kernel)) (by decide +kernel)
theorem mv_LP_record : Cond.instanceMethod md_LP_record.1 ∈ WA ∧ Cond.selects md_LP_record.1.cls md_LP_record.1 md_LP_record.1 ∈ WA := ⟨wa_4 (List.mem_of_getElem? (i := 19) (by decide +kernel)) (by decide +kernel), wa_4 (List.mem_of_getElem? (i := 20) (by decide +kernel)) (by decide +kernel)⟩
theorem ml_Law_58 : MLk R_Law 58 md_LP_record 3 := ⟨wa_4 (List.mem_of_getElem? (i := 18) (by decide +kernel)) (by decide +kernel), wn_LP_record, wk_LP_record, by decide +kernel⟩
theorem wk_LP_server : Cond.code md_LP_server.1 md_LP_server.2.1 md_LP_server.2.2.1 md_LP_server.2.2.2 ∈ WA := wa_4 (List.mem_of_getElem? (i := 32) (by decide +kernel)) (by decide +kernel)
theorem wn_LP_server : Cond.initialized md_LP_server.1.cls ∈ WA := wa_1 (List.mem_of_getElem? (i := 1) (by decide +kernel)) (by decide +kernel)
theorem mv_LP_server : Cond.instanceMethod md_LP_server.1 ∈ WA ∧ Cond.selects md_LP_server.1.cls md_LP_server.1 md_LP_server.1 ∈ WA := ⟨wa_4 (List.mem_of_getElem? (i := 30) (by decide +kernel)) (by decide +kernel), wa_4 (List.mem_of_getElem? (i := 31) (by decide +kernel)) (by decide +kernel)⟩
theorem ml_Law_62 : MLk R_Law 62 md_LP_server 2 := ⟨wa_4 (List.mem_of_getElem? (i := 29) (by decide +kernel)) (by decide +kernel), wn_LP_server, wk_LP_server, by decide +kernel⟩
theorem wk_Law_cell : Cond.code md_Law_cell.1 md_Law_cell.2.1 md_Law_cell.2.2.1 md_Law_cell.2.2.2 ∈ WA := wa_3 (List.mem_of_getElem? (i := 11) (by decide +kernel)) (by decide +kernel)
theorem wn_Law_cell : Cond.initialized md_Law_cell.1.cls ∈ WA := wa_1 (List.mem_of_getElem? (i := 0) (by decide +kernel)) (by decide +kernel)
theorem ms_Law_cell : Cond.static md_Law_cell.1 ∈ WA := wa_3 (List.mem_of_getElem? (i := 10) (by decide +kernel)) (by decide +kernel)
theorem ml_Law_65 : MLk R_Law 65 md_Law_cell 2 := ⟨wa_3 (List.mem_of_getElem? (i := 9) (by decide +kernel)) (by decide +kernel), wn_Law_cell, wk_Law_cell, by decide +kernel⟩
theorem wk_LP_init : Cond.code md_LP_init.1 md_LP_init.2.1 md_LP_init.2.2.1 md_LP_init.2.2.2 ∈ WA := wa_1 (List.mem_of_getElem? (i := 17) (by decide +kernel)) (by decide +kernel)
theorem wn_LP_init : Cond.initialized md_LP_init.1.cls ∈ WA := wa_1 (List.mem_of_getElem? (i := 1) (by decide +kernel)) (by decide +kernel)
theorem mo_LP_init : Cond.instanceMethod md_LP_init.1 ∈ WA := wa_1 (List.mem_of_getElem? (i := 16) (by decide +kernel)) (by decide +kernel)
theorem ml_Law_71 : MLk R_Law 71 md_LP_init 3 := ⟨wa_1 (List.mem_of_getElem? (i := 15) (by decide +kernel)) (by decide +kernel), wn_LP_init, wk_LP_init, by decide +kernel⟩
theorem wk_Mod_init : Cond.code md_Mod_init.1 md_Mod_init.2.1 md_Mod_init.2.2.1 md_Mod_init.2.2.2 ∈ WA := wa_4 (List.mem_of_getElem? (i := 49) (by decide +kernel)) (by decide +kernel)
theorem wn_Mod_init : Cond.initialized md_Mod_init.1.cls ∈ WA := wa_1 (List.mem_of_getElem? (i := 8) (by decide +kernel)) (by decide +kernel)
theorem mo_Mod_init : Cond.instanceMethod md_Mod_init.1 ∈ WA := wa_4 (List.mem_of_getElem? (i := 48) (by decide +kernel)) (by decide +kernel)
theorem ml_Law_76 : MLk R_Law 76 md_Mod_init 3 := ⟨wa_4 (List.mem_of_getElem? (i := 47) (by decide +kernel)) (by decide +kernel), wn_Mod_init, wk_Mod_init, by decide +kernel⟩
theorem wk_Mod_seconds : Cond.code md_Mod_seconds.1 md_Mod_seconds.2.1 md_Mod_seconds.2.2.1 md_Mod_seconds.2.2.2 ∈ WA := wa_4 (List.mem_of_getElem? (i := 169) (by decide +kernel)) (by decide +kernel)
theorem wn_Mod_seconds : Cond.initialized md_Mod_seconds.1.cls ∈ WA := wa_1 (List.mem_of_getElem? (i := 8) (by decide +kernel)) (by decide +kernel)
theorem mv_Mod_seconds : Cond.instanceMethod md_Mod_seconds.1 ∈ WA ∧ Cond.selects md_Mod_seconds.1.cls md_Mod_seconds.1 md_Mod_seconds.1 ∈ WA := ⟨wa_4 (List.mem_of_getElem? (i := 167) (by decide +kernel)) (by decide +kernel), wa_4 (List.mem_of_getElem? (i := 168) (by decide +kernel)) (by decide +kernel)⟩
theorem ml_Law_80 : MLk R_Law 80 md_Mod_seconds 1 := ⟨wa_4 (List.mem_of_getElem? (i := 166) (by decide +kernel)) (by decide +kernel), wn_Mod_seconds, wk_Mod_seconds, by decide +kernel⟩
theorem wk_Mod_thrown : Cond.code md_Mod_thrown.1 md_Mod_thrown.2.1 md_Mod_thrown.2.2.1 md_Mod_thrown.2.2.2 ∈ WA := wa_4 (List.mem_of_getElem? (i := 165) (by decide +kernel)) (by decide +kernel)
theorem wn_Mod_thrown : Cond.initialized md_Mod_thrown.1.cls ∈ WA := wa_1 (List.mem_of_getElem? (i := 8) (by decide +kernel)) (by decide +kernel)
theorem mv_Mod_thrown : Cond.instanceMethod md_Mod_thrown.1 ∈ WA ∧ Cond.selects md_Mod_thrown.1.cls md_Mod_thrown.1 md_Mod_thrown.1 ∈ WA := ⟨wa_4 (List.mem_of_getElem? (i := 163) (by decide +kernel)) (by decide +kernel), wa_4 (List.mem_of_getElem? (i := 164) (by decide +kernel)) (by decide +kernel)⟩
theorem ml_Law_81 : MLk R_Law 81 md_Mod_thrown 0 := ⟨wa_4 (List.mem_of_getElem? (i := 162) (by decide +kernel)) (by decide +kernel), wn_Mod_thrown, wk_Mod_thrown, by decide +kernel⟩
theorem wk_Mod_skew : Cond.code md_Mod_skew.1 md_Mod_skew.2.1 md_Mod_skew.2.2.1 md_Mod_skew.2.2.2 ∈ WA := wa_4 (List.mem_of_getElem? (i := 179) (by decide +kernel)) (by decide +kernel)
theorem wn_Mod_skew : Cond.initialized md_Mod_skew.1.cls ∈ WA := wa_1 (List.mem_of_getElem? (i := 8) (by decide +kernel)) (by decide +kernel)
theorem mv_Mod_skew : Cond.instanceMethod md_Mod_skew.1 ∈ WA ∧ Cond.selects md_Mod_skew.1.cls md_Mod_skew.1 md_Mod_skew.1 ∈ WA := ⟨wa_4 (List.mem_of_getElem? (i := 177) (by decide +kernel)) (by decide +kernel), wa_4 (List.mem_of_getElem? (i := 178) (by decide +kernel)) (by decide +kernel)⟩
theorem ml_Law_88 : MLk R_Law 88 md_Mod_skew 2 := ⟨wa_4 (List.mem_of_getElem? (i := 176) (by decide +kernel)) (by decide +kernel), wn_Mod_skew, wk_Mod_skew, by decide +kernel⟩
theorem wk_Mod_kill : Cond.code md_Mod_kill.1 md_Mod_kill.2.1 md_Mod_kill.2.2.1 md_Mod_kill.2.2.2 ∈ WA := wa_4 (List.mem_of_getElem? (i := 187) (by decide +kernel)) (by decide +kernel)
theorem wn_Mod_kill : Cond.initialized md_Mod_kill.1.cls ∈ WA := wa_1 (List.mem_of_getElem? (i := 8) (by decide +kernel)) (by decide +kernel)
theorem mv_Mod_kill : Cond.instanceMethod md_Mod_kill.1 ∈ WA ∧ Cond.selects md_Mod_kill.1.cls md_Mod_kill.1 md_Mod_kill.1 ∈ WA := ⟨wa_4 (List.mem_of_getElem? (i := 185) (by decide +kernel)) (by decide +kernel), wa_4 (List.mem_of_getElem? (i := 186) (by decide +kernel)) (by decide +kernel)⟩
theorem ml_Law_91 : MLk R_Law 91 md_Mod_kill 1 := ⟨wa_4 (List.mem_of_getElem? (i := 184) (by decide +kernel)) (by decide +kernel), wn_Mod_kill, wk_Mod_kill, by decide +kernel⟩
theorem wk_Mod_fuse : Cond.code md_Mod_fuse.1 md_Mod_fuse.2.1 md_Mod_fuse.2.2.1 md_Mod_fuse.2.2.2 ∈ WA := wa_4 (List.mem_of_getElem? (i := 191) (by decide +kernel)) (by decide +kernel)
theorem wn_Mod_fuse : Cond.initialized md_Mod_fuse.1.cls ∈ WA := wa_1 (List.mem_of_getElem? (i := 8) (by decide +kernel)) (by decide +kernel)
theorem mv_Mod_fuse : Cond.instanceMethod md_Mod_fuse.1 ∈ WA ∧ Cond.selects md_Mod_fuse.1.cls md_Mod_fuse.1 md_Mod_fuse.1 ∈ WA := ⟨wa_4 (List.mem_of_getElem? (i := 189) (by decide +kernel)) (by decide +kernel), wa_4 (List.mem_of_getElem? (i := 190) (by decide +kernel)) (by decide +kernel)⟩
theorem ml_Law_95 : MLk R_Law 95 md_Mod_fuse 2 := ⟨wa_4 (List.mem_of_getElem? (i := 188) (by decide +kernel)) (by decide +kernel), wn_Mod_fuse, wk_Mod_fuse, by decide +kernel⟩
theorem wk_Mod_start : Cond.code md_Mod_start.1 md_Mod_start.2.1 md_Mod_start.2.2.1 md_Mod_start.2.2.2 ∈ WA := wa_4 (List.mem_of_getElem? (i := 195) (by decide +kernel)) (by decide +kernel)
theorem wn_Mod_start : Cond.initialized md_Mod_start.1.cls ∈ WA := wa_1 (List.mem_of_getElem? (i := 8) (by decide +kernel)) (by decide +kernel)
theorem mv_Mod_start : Cond.instanceMethod md_Mod_start.1 ∈ WA ∧ Cond.selects md_Mod_start.1.cls md_Mod_start.1 md_Mod_start.1 ∈ WA := ⟨wa_4 (List.mem_of_getElem? (i := 193) (by decide +kernel)) (by decide +kernel), wa_4 (List.mem_of_getElem? (i := 194) (by decide +kernel)) (by decide +kernel)⟩
theorem ml_Law_98 : MLk R_Law 98 md_Mod_start 1 := ⟨wa_4 (List.mem_of_getElem? (i := 192) (by decide +kernel)) (by decide +kernel), wn_Mod_start, wk_Mod_start, by decide +kernel⟩
theorem wk_Mod_partnerDown : Cond.code md_Mod_partnerDown.1 md_Mod_partnerDown.2.1 md_Mod_partnerDown.2.2.1 md_Mod_partnerDown.2.2.2 ∈ WA := wa_4 (List.mem_of_getElem? (i := 219) (by decide +kernel)) (by decide +kernel)
theorem wn_Mod_partnerDown : Cond.initialized md_Mod_partnerDown.1.cls ∈ WA := wa_1 (List.mem_of_getElem? (i := 8) (by decide +kernel)) (by decide +kernel)
theorem mv_Mod_partnerDown : Cond.instanceMethod md_Mod_partnerDown.1 ∈ WA ∧ Cond.selects md_Mod_partnerDown.1.cls md_Mod_partnerDown.1 md_Mod_partnerDown.1 ∈ WA := ⟨wa_4 (List.mem_of_getElem? (i := 217) (by decide +kernel)) (by decide +kernel), wa_4 (List.mem_of_getElem? (i := 218) (by decide +kernel)) (by decide +kernel)⟩
theorem ml_Law_101 : MLk R_Law 101 md_Mod_partnerDown 1 := ⟨wa_4 (List.mem_of_getElem? (i := 216) (by decide +kernel)) (by decide +kernel), wn_Mod_partnerDown, wk_Mod_partnerDown, by decide +kernel⟩
theorem wk_Mod_ask : Cond.code md_Mod_ask.1 md_Mod_ask.2.1 md_Mod_ask.2.2.1 md_Mod_ask.2.2.2 ∈ WA := wa_4 (List.mem_of_getElem? (i := 227) (by decide +kernel)) (by decide +kernel)
theorem wn_Mod_ask : Cond.initialized md_Mod_ask.1.cls ∈ WA := wa_1 (List.mem_of_getElem? (i := 8) (by decide +kernel)) (by decide +kernel)
theorem mv_Mod_ask : Cond.instanceMethod md_Mod_ask.1 ∈ WA ∧ Cond.selects md_Mod_ask.1.cls md_Mod_ask.1 md_Mod_ask.1 ∈ WA := ⟨wa_4 (List.mem_of_getElem? (i := 225) (by decide +kernel)) (by decide +kernel), wa_4 (List.mem_of_getElem? (i := 226) (by decide +kernel)) (by decide +kernel)⟩
theorem ml_Law_105 : MLk R_Law 105 md_Mod_ask 5 := ⟨wa_4 (List.mem_of_getElem? (i := 224) (by decide +kernel)) (by decide +kernel), wn_Mod_ask, wk_Mod_ask, by decide +kernel⟩
theorem wk_Mod_send : Cond.code md_Mod_send.1 md_Mod_send.2.1 md_Mod_send.2.2.1 md_Mod_send.2.2.2 ∈ WA := wa_4 (List.mem_of_getElem? (i := 231) (by decide +kernel)) (by decide +kernel)
theorem wn_Mod_send : Cond.initialized md_Mod_send.1.cls ∈ WA := wa_1 (List.mem_of_getElem? (i := 8) (by decide +kernel)) (by decide +kernel)
theorem mv_Mod_send : Cond.instanceMethod md_Mod_send.1 ∈ WA ∧ Cond.selects md_Mod_send.1.cls md_Mod_send.1 md_Mod_send.1 ∈ WA := ⟨wa_4 (List.mem_of_getElem? (i := 229) (by decide +kernel)) (by decide +kernel), wa_4 (List.mem_of_getElem? (i := 230) (by decide +kernel)) (by decide +kernel)⟩
theorem ml_Law_108 : MLk R_Law 108 md_Mod_send 1 := ⟨wa_4 (List.mem_of_getElem? (i := 228) (by decide +kernel)) (by decide +kernel), wn_Mod_send, wk_Mod_send, by decide +kernel⟩
theorem wk_Mod_tidy : Cond.code md_Mod_tidy.1 md_Mod_tidy.2.1 md_Mod_tidy.2.2.1 md_Mod_tidy.2.2.2 ∈ WA := wa_4 (List.mem_of_getElem? (i := 239) (by decide +kernel)) (by decide +kernel)
theorem wn_Mod_tidy : Cond.initialized md_Mod_tidy.1.cls ∈ WA := wa_1 (List.mem_of_getElem? (i := 8) (by decide +kernel)) (by decide +kernel)
theorem mv_Mod_tidy : Cond.instanceMethod md_Mod_tidy.1 ∈ WA ∧ Cond.selects md_Mod_tidy.1.cls md_Mod_tidy.1 md_Mod_tidy.1 ∈ WA := ⟨wa_4 (List.mem_of_getElem? (i := 237) (by decide +kernel)) (by decide +kernel), wa_4 (List.mem_of_getElem? (i := 238) (by decide +kernel)) (by decide +kernel)⟩
theorem ml_Law_111 : MLk R_Law 111 md_Mod_tidy 1 := ⟨wa_4 (List.mem_of_getElem? (i := 236) (by decide +kernel)) (by decide +kernel), wn_Mod_tidy, wk_Mod_tidy, by decide +kernel⟩
theorem wk_Mod_give : Cond.code md_Mod_give.1 md_Mod_give.2.1 md_Mod_give.2.2.1 md_Mod_give.2.2.2 ∈ WA := wa_5 (List.mem_of_getElem? (i := 14) (by decide +kernel)) (by decide +kernel)
theorem wn_Mod_give : Cond.initialized md_Mod_give.1.cls ∈ WA := wa_1 (List.mem_of_getElem? (i := 8) (by decide +kernel)) (by decide +kernel)
theorem mv_Mod_give : Cond.instanceMethod md_Mod_give.1 ∈ WA ∧ Cond.selects md_Mod_give.1.cls md_Mod_give.1 md_Mod_give.1 ∈ WA := ⟨wa_5 (List.mem_of_getElem? (i := 12) (by decide +kernel)) (by decide +kernel), wa_5 (List.mem_of_getElem? (i := 13) (by decide +kernel)) (by decide +kernel)⟩
theorem ml_Law_114 : MLk R_Law 114 md_Mod_give 2 := ⟨wa_5 (List.mem_of_getElem? (i := 11) (by decide +kernel)) (by decide +kernel), wn_Mod_give, wk_Mod_give, by decide +kernel⟩
theorem wk_Mod_carry : Cond.code md_Mod_carry.1 md_Mod_carry.2.1 md_Mod_carry.2.2.1 md_Mod_carry.2.2.2 ∈ WA := wa_5 (List.mem_of_getElem? (i := 18) (by decide +kernel)) (by decide +kernel)
theorem wn_Mod_carry : Cond.initialized md_Mod_carry.1.cls ∈ WA := wa_1 (List.mem_of_getElem? (i := 8) (by decide +kernel)) (by decide +kernel)
theorem mv_Mod_carry : Cond.instanceMethod md_Mod_carry.1 ∈ WA ∧ Cond.selects md_Mod_carry.1.cls md_Mod_carry.1 md_Mod_carry.1 ∈ WA := ⟨wa_5 (List.mem_of_getElem? (i := 16) (by decide +kernel)) (by decide +kernel), wa_5 (List.mem_of_getElem? (i := 17) (by decide +kernel)) (by decide +kernel)⟩
theorem ml_Law_117 : MLk R_Law 117 md_Mod_carry 1 := ⟨wa_5 (List.mem_of_getElem? (i := 15) (by decide +kernel)) (by decide +kernel), wn_Mod_carry, wk_Mod_carry, by decide +kernel⟩
theorem wk_LP_carryAll : Cond.code md_LP_carryAll.1 md_LP_carryAll.2.1 md_LP_carryAll.2.2.1 md_LP_carryAll.2.2.2 ∈ WA := wa_2 (List.mem_of_getElem? (i := 53) (by decide +kernel)) (by decide +kernel)
theorem wn_LP_carryAll : Cond.initialized md_LP_carryAll.1.cls ∈ WA := wa_1 (List.mem_of_getElem? (i := 1) (by decide +kernel)) (by decide +kernel)
theorem mv_LP_carryAll : Cond.instanceMethod md_LP_carryAll.1 ∈ WA ∧ Cond.selects md_LP_carryAll.1.cls md_LP_carryAll.1 md_LP_carryAll.1 ∈ WA := ⟨wa_2 (List.mem_of_getElem? (i := 51) (by decide +kernel)) (by decide +kernel), wa_2 (List.mem_of_getElem? (i := 52) (by decide +kernel)) (by decide +kernel)⟩
theorem ml_Law_118 : MLk R_Law 118 md_LP_carryAll 0 := ⟨wa_2 (List.mem_of_getElem? (i := 50) (by decide +kernel)) (by decide +kernel), wn_LP_carryAll, wk_LP_carryAll, by decide +kernel⟩
theorem wk_Mod_carryAll : Cond.code md_Mod_carryAll.1 md_Mod_carryAll.2.1 md_Mod_carryAll.2.2.1 md_Mod_carryAll.2.2.2 ∈ WA := wa_5 (List.mem_of_getElem? (i := 90) (by decide +kernel)) (by decide +kernel)
theorem wn_Mod_carryAll : Cond.initialized md_Mod_carryAll.1.cls ∈ WA := wa_1 (List.mem_of_getElem? (i := 8) (by decide +kernel)) (by decide +kernel)
theorem mv_Mod_carryAll : Cond.instanceMethod md_Mod_carryAll.1 ∈ WA ∧ Cond.selects md_Mod_carryAll.1.cls md_Mod_carryAll.1 md_Mod_carryAll.1 ∈ WA := ⟨wa_5 (List.mem_of_getElem? (i := 88) (by decide +kernel)) (by decide +kernel), wa_5 (List.mem_of_getElem? (i := 89) (by decide +kernel)) (by decide +kernel)⟩
theorem ml_Law_121 : MLk R_Law 121 md_Mod_carryAll 0 := ⟨wa_5 (List.mem_of_getElem? (i := 87) (by decide +kernel)) (by decide +kernel), wn_Mod_carryAll, wk_Mod_carryAll, by decide +kernel⟩
theorem wk_Mod_drop : Cond.code md_Mod_drop.1 md_Mod_drop.2.1 md_Mod_drop.2.2.1 md_Mod_drop.2.2.2 ∈ WA := wa_5 (List.mem_of_getElem? (i := 94) (by decide +kernel)) (by decide +kernel)
theorem wn_Mod_drop : Cond.initialized md_Mod_drop.1.cls ∈ WA := wa_1 (List.mem_of_getElem? (i := 8) (by decide +kernel)) (by decide +kernel)
theorem mv_Mod_drop : Cond.instanceMethod md_Mod_drop.1 ∈ WA ∧ Cond.selects md_Mod_drop.1.cls md_Mod_drop.1 md_Mod_drop.1 ∈ WA := ⟨wa_5 (List.mem_of_getElem? (i := 92) (by decide +kernel)) (by decide +kernel), wa_5 (List.mem_of_getElem? (i := 93) (by decide +kernel)) (by decide +kernel)⟩
theorem ml_Law_124 : MLk R_Law 124 md_Mod_drop 1 := ⟨wa_5 (List.mem_of_getElem? (i := 91) (by decide +kernel)) (by decide +kernel), wn_Mod_drop, wk_Mod_drop, by decide +kernel⟩
theorem wk_LP_messages : Cond.code md_LP_messages.1 md_LP_messages.2.1 md_LP_messages.2.2.1 md_LP_messages.2.2.2 ∈ WA := wa_3 (List.mem_of_getElem? (i := 4) (by decide +kernel)) (by decide +kernel)
theorem wn_LP_messages : Cond.initialized md_LP_messages.1.cls ∈ WA := wa_1 (List.mem_of_getElem? (i := 1) (by decide +kernel)) (by decide +kernel)
theorem mv_LP_messages : Cond.instanceMethod md_LP_messages.1 ∈ WA ∧ Cond.selects md_LP_messages.1.cls md_LP_messages.1 md_LP_messages.1 ∈ WA := ⟨wa_3 (List.mem_of_getElem? (i := 2) (by decide +kernel)) (by decide +kernel), wa_3 (List.mem_of_getElem? (i := 3) (by decide +kernel)) (by decide +kernel)⟩
theorem ml_Law_125 : MLk R_Law 125 md_LP_messages 0 := ⟨wa_3 (List.mem_of_getElem? (i := 1) (by decide +kernel)) (by decide +kernel), wn_LP_messages, wk_LP_messages, by decide +kernel⟩
theorem wk_Mod_messages : Cond.code md_Mod_messages.1 md_Mod_messages.2.1 md_Mod_messages.2.2.1 md_Mod_messages.2.2.2 ∈ WA := wa_5 (List.mem_of_getElem? (i := 98) (by decide +kernel)) (by decide +kernel)
theorem wn_Mod_messages : Cond.initialized md_Mod_messages.1.cls ∈ WA := wa_1 (List.mem_of_getElem? (i := 8) (by decide +kernel)) (by decide +kernel)
theorem mv_Mod_messages : Cond.instanceMethod md_Mod_messages.1 ∈ WA ∧ Cond.selects md_Mod_messages.1.cls md_Mod_messages.1 md_Mod_messages.1 ∈ WA := ⟨wa_5 (List.mem_of_getElem? (i := 96) (by decide +kernel)) (by decide +kernel), wa_5 (List.mem_of_getElem? (i := 97) (by decide +kernel)) (by decide +kernel)⟩
theorem ml_Law_128 : MLk R_Law 128 md_Mod_messages 0 := ⟨wa_5 (List.mem_of_getElem? (i := 95) (by decide +kernel)) (by decide +kernel), wn_Mod_messages, wk_Mod_messages, by decide +kernel⟩
theorem wk_Mod_message : Cond.code md_Mod_message.1 md_Mod_message.2.1 md_Mod_message.2.2.1 md_Mod_message.2.2.2 ∈ WA := wa_5 (List.mem_of_getElem? (i := 102) (by decide +kernel)) (by decide +kernel)
theorem wn_Mod_message : Cond.initialized md_Mod_message.1.cls ∈ WA := wa_1 (List.mem_of_getElem? (i := 8) (by decide +kernel)) (by decide +kernel)
theorem mv_Mod_message : Cond.instanceMethod md_Mod_message.1 ∈ WA ∧ Cond.selects md_Mod_message.1.cls md_Mod_message.1 md_Mod_message.1 ∈ WA := ⟨wa_5 (List.mem_of_getElem? (i := 100) (by decide +kernel)) (by decide +kernel), wa_5 (List.mem_of_getElem? (i := 101) (by decide +kernel)) (by decide +kernel)⟩
theorem ml_Law_131 : MLk R_Law 131 md_Mod_message 2 := ⟨wa_5 (List.mem_of_getElem? (i := 99) (by decide +kernel)) (by decide +kernel), wn_Mod_message, wk_Mod_message, by decide +kernel⟩
theorem wk_Mod_client : Cond.code md_Mod_client.1 md_Mod_client.2.1 md_Mod_client.2.2.1 md_Mod_client.2.2.2 ∈ WA := wa_5 (List.mem_of_getElem? (i := 106) (by decide +kernel)) (by decide +kernel)
theorem wn_Mod_client : Cond.initialized md_Mod_client.1.cls ∈ WA := wa_1 (List.mem_of_getElem? (i := 8) (by decide +kernel)) (by decide +kernel)
theorem mv_Mod_client : Cond.instanceMethod md_Mod_client.1 ∈ WA ∧ Cond.selects md_Mod_client.1.cls md_Mod_client.1 md_Mod_client.1 ∈ WA := ⟨wa_5 (List.mem_of_getElem? (i := 104) (by decide +kernel)) (by decide +kernel), wa_5 (List.mem_of_getElem? (i := 105) (by decide +kernel)) (by decide +kernel)⟩
theorem ml_Law_134 : MLk R_Law 134 md_Mod_client 2 := ⟨wa_5 (List.mem_of_getElem? (i := 103) (by decide +kernel)) (by decide +kernel), wn_Mod_client, wk_Mod_client, by decide +kernel⟩
theorem wk_Mod_record : Cond.code md_Mod_record.1 md_Mod_record.2.1 md_Mod_record.2.2.1 md_Mod_record.2.2.2 ∈ WA := wa_5 (List.mem_of_getElem? (i := 110) (by decide +kernel)) (by decide +kernel)
theorem wn_Mod_record : Cond.initialized md_Mod_record.1.cls ∈ WA := wa_1 (List.mem_of_getElem? (i := 8) (by decide +kernel)) (by decide +kernel)
theorem mv_Mod_record : Cond.instanceMethod md_Mod_record.1 ∈ WA ∧ Cond.selects md_Mod_record.1.cls md_Mod_record.1 md_Mod_record.1 ∈ WA := ⟨wa_5 (List.mem_of_getElem? (i := 108) (by decide +kernel)) (by decide +kernel), wa_5 (List.mem_of_getElem? (i := 109) (by decide +kernel)) (by decide +kernel)⟩
theorem ml_Law_138 : MLk R_Law 138 md_Mod_record 3 := ⟨wa_5 (List.mem_of_getElem? (i := 107) (by decide +kernel)) (by decide +kernel), wn_Mod_record, wk_Mod_record, by decide +kernel⟩
theorem wk_Mod_server : Cond.code md_Mod_server.1 md_Mod_server.2.1 md_Mod_server.2.2.1 md_Mod_server.2.2.2 ∈ WA := wa_5 (List.mem_of_getElem? (i := 114) (by decide +kernel)) (by decide +kernel)
theorem wn_Mod_server : Cond.initialized md_Mod_server.1.cls ∈ WA := wa_1 (List.mem_of_getElem? (i := 8) (by decide +kernel)) (by decide +kernel)
theorem mv_Mod_server : Cond.instanceMethod md_Mod_server.1 ∈ WA ∧ Cond.selects md_Mod_server.1.cls md_Mod_server.1 md_Mod_server.1 ∈ WA := ⟨wa_5 (List.mem_of_getElem? (i := 112) (by decide +kernel)) (by decide +kernel), wa_5 (List.mem_of_getElem? (i := 113) (by decide +kernel)) (by decide +kernel)⟩
theorem ml_Law_141 : MLk R_Law 141 md_Mod_server 2 := ⟨wa_5 (List.mem_of_getElem? (i := 111) (by decide +kernel)) (by decide +kernel), wn_Mod_server, wk_Mod_server, by decide +kernel⟩
theorem wk_LP_most : Cond.code md_LP_most.1 md_LP_most.2.1 md_LP_most.2.2.1 md_LP_most.2.2.2 ∈ WA := wa_3 (List.mem_of_getElem? (i := 8) (by decide +kernel)) (by decide +kernel)
theorem wn_LP_most : Cond.initialized md_LP_most.1.cls ∈ WA := wa_1 (List.mem_of_getElem? (i := 1) (by decide +kernel)) (by decide +kernel)
theorem mv_LP_most : Cond.instanceMethod md_LP_most.1 ∈ WA ∧ Cond.selects md_LP_most.1.cls md_LP_most.1 md_LP_most.1 ∈ WA := ⟨wa_3 (List.mem_of_getElem? (i := 6) (by decide +kernel)) (by decide +kernel), wa_3 (List.mem_of_getElem? (i := 7) (by decide +kernel)) (by decide +kernel)⟩
theorem ml_Law_142 : MLk R_Law 142 md_LP_most 0 := ⟨wa_3 (List.mem_of_getElem? (i := 5) (by decide +kernel)) (by decide +kernel), wn_LP_most, wk_LP_most, by decide +kernel⟩
theorem wk_Mod_most : Cond.code md_Mod_most.1 md_Mod_most.2.1 md_Mod_most.2.2.1 md_Mod_most.2.2.2 ∈ WA := wa_5 (List.mem_of_getElem? (i := 118) (by decide +kernel)) (by decide +kernel)
theorem wn_Mod_most : Cond.initialized md_Mod_most.1.cls ∈ WA := wa_1 (List.mem_of_getElem? (i := 8) (by decide +kernel)) (by decide +kernel)
theorem mv_Mod_most : Cond.instanceMethod md_Mod_most.1 ∈ WA ∧ Cond.selects md_Mod_most.1.cls md_Mod_most.1 md_Mod_most.1 ∈ WA := ⟨wa_5 (List.mem_of_getElem? (i := 116) (by decide +kernel)) (by decide +kernel), wa_5 (List.mem_of_getElem? (i := 117) (by decide +kernel)) (by decide +kernel)⟩
theorem ml_Law_145 : MLk R_Law 145 md_Mod_most 0 := ⟨wa_5 (List.mem_of_getElem? (i := 115) (by decide +kernel)) (by decide +kernel), wn_Mod_most, wk_Mod_most, by decide +kernel⟩
theorem wk_Mod_remove : Cond.code md_Mod_remove.1 md_Mod_remove.2.1 md_Mod_remove.2.2.1 md_Mod_remove.2.2.2 ∈ WA := wa_4 (List.mem_of_getElem? (i := 215) (by decide +kernel)) (by decide +kernel)
theorem wn_Mod_remove : Cond.initialized md_Mod_remove.1.cls ∈ WA := wa_1 (List.mem_of_getElem? (i := 8) (by decide +kernel)) (by decide +kernel)
theorem mv_Mod_remove : Cond.instanceMethod md_Mod_remove.1 ∈ WA ∧ Cond.selects md_Mod_remove.1.cls md_Mod_remove.1 md_Mod_remove.1 ∈ WA := ⟨wa_4 (List.mem_of_getElem? (i := 214) (by decide +kernel)) (by decide +kernel), wa_0 (List.mem_of_getElem? (i := 13) (by decide +kernel)) (by decide +kernel)⟩
theorem ml_Mod_117 : MLk R_Mod 117 md_Mod_remove 1 := ⟨wa_4 (List.mem_of_getElem? (i := 212) (by decide +kernel)) (by decide +kernel), wn_Mod_remove, wk_Mod_remove, by decide +kernel⟩
theorem wk_Mod_say : Cond.code md_Mod_say.1 md_Mod_say.2.1 md_Mod_say.2.2.1 md_Mod_say.2.2.2 ∈ WA := wa_4 (List.mem_of_getElem? (i := 207) (by decide +kernel)) (by decide +kernel)
theorem wn_Mod_say : Cond.initialized md_Mod_say.1.cls ∈ WA := wa_1 (List.mem_of_getElem? (i := 8) (by decide +kernel)) (by decide +kernel)
theorem mv_Mod_say : Cond.instanceMethod md_Mod_say.1 ∈ WA ∧ Cond.selects md_Mod_say.1.cls md_Mod_say.1 md_Mod_say.1 ∈ WA := ⟨wa_4 (List.mem_of_getElem? (i := 206) (by decide +kernel)) (by decide +kernel), wa_0 (List.mem_of_getElem? (i := 11) (by decide +kernel)) (by decide +kernel)⟩
theorem ml_Mod_121 : MLk R_Mod 121 md_Mod_say 7 := ⟨wa_4 (List.mem_of_getElem? (i := 204) (by decide +kernel)) (by decide +kernel), wn_Mod_say, wk_Mod_say, by decide +kernel⟩
theorem wk_Mod_put : Cond.code md_Mod_put.1 md_Mod_put.2.1 md_Mod_put.2.2.1 md_Mod_put.2.2.2 ∈ WA := wa_4 (List.mem_of_getElem? (i := 211) (by decide +kernel)) (by decide +kernel)
theorem wn_Mod_put : Cond.initialized md_Mod_put.1.cls ∈ WA := wa_1 (List.mem_of_getElem? (i := 8) (by decide +kernel)) (by decide +kernel)
theorem mv_Mod_put : Cond.instanceMethod md_Mod_put.1 ∈ WA ∧ Cond.selects md_Mod_put.1.cls md_Mod_put.1 md_Mod_put.1 ∈ WA := ⟨wa_4 (List.mem_of_getElem? (i := 210) (by decide +kernel)) (by decide +kernel), wa_0 (List.mem_of_getElem? (i := 12) (by decide +kernel)) (by decide +kernel)⟩
theorem ml_Mod_125 : MLk R_Mod 125 md_Mod_put 0 := ⟨wa_4 (List.mem_of_getElem? (i := 208) (by decide +kernel)) (by decide +kernel), wn_Mod_put, wk_Mod_put, by decide +kernel⟩
theorem wk_Mod_clock : Cond.code md_Mod_clock.1 md_Mod_clock.2.1 md_Mod_clock.2.2.1 md_Mod_clock.2.2.2 ∈ WA := wa_4 (List.mem_of_getElem? (i := 223) (by decide +kernel)) (by decide +kernel)
theorem wn_Mod_clock : Cond.initialized md_Mod_clock.1.cls ∈ WA := wa_1 (List.mem_of_getElem? (i := 8) (by decide +kernel)) (by decide +kernel)
theorem mv_Mod_clock : Cond.instanceMethod md_Mod_clock.1 ∈ WA ∧ Cond.selects md_Mod_clock.1.cls md_Mod_clock.1 md_Mod_clock.1 ∈ WA := ⟨wa_4 (List.mem_of_getElem? (i := 222) (by decide +kernel)) (by decide +kernel), wa_0 (List.mem_of_getElem? (i := 14) (by decide +kernel)) (by decide +kernel)⟩
theorem ml_Mod_128 : MLk R_Mod 128 md_Mod_clock 1 := ⟨wa_4 (List.mem_of_getElem? (i := 220) (by decide +kernel)) (by decide +kernel), wn_Mod_clock, wk_Mod_clock, by decide +kernel⟩
theorem wk_Mod_hearRenew : Cond.code md_Mod_hearRenew.1 md_Mod_hearRenew.2.1 md_Mod_hearRenew.2.2.1 md_Mod_hearRenew.2.2.2 ∈ WA := wa_5 (List.mem_of_getElem? (i := 78) (by decide +kernel)) (by decide +kernel)
theorem wn_Mod_hearRenew : Cond.initialized md_Mod_hearRenew.1.cls ∈ WA := wa_1 (List.mem_of_getElem? (i := 8) (by decide +kernel)) (by decide +kernel)
theorem mv_Mod_hearRenew : Cond.instanceMethod md_Mod_hearRenew.1 ∈ WA ∧ Cond.selects md_Mod_hearRenew.1.cls md_Mod_hearRenew.1 md_Mod_hearRenew.1 ∈ WA := ⟨wa_5 (List.mem_of_getElem? (i := 77) (by decide +kernel)) (by decide +kernel), wa_0 (List.mem_of_getElem? (i := 32) (by decide +kernel)) (by decide +kernel)⟩
theorem ml_Mod_132 : MLk R_Mod 132 md_Mod_hearRenew 5 := ⟨wa_5 (List.mem_of_getElem? (i := 75) (by decide +kernel)) (by decide +kernel), wn_Mod_hearRenew, wk_Mod_hearRenew, by decide +kernel⟩
theorem wk_Mod_answer : Cond.code md_Mod_answer.1 md_Mod_answer.2.1 md_Mod_answer.2.2.1 md_Mod_answer.2.2.2 ∈ WA := wa_5 (List.mem_of_getElem? (i := 82) (by decide +kernel)) (by decide +kernel)
theorem wn_Mod_answer : Cond.initialized md_Mod_answer.1.cls ∈ WA := wa_1 (List.mem_of_getElem? (i := 8) (by decide +kernel)) (by decide +kernel)
theorem mv_Mod_answer : Cond.instanceMethod md_Mod_answer.1 ∈ WA ∧ Cond.selects md_Mod_answer.1.cls md_Mod_answer.1 md_Mod_answer.1 ∈ WA := ⟨wa_5 (List.mem_of_getElem? (i := 81) (by decide +kernel)) (by decide +kernel), wa_0 (List.mem_of_getElem? (i := 33) (by decide +kernel)) (by decide +kernel)⟩
theorem ml_Mod_136 : MLk R_Mod 136 md_Mod_answer 6 := ⟨wa_5 (List.mem_of_getElem? (i := 79) (by decide +kernel)) (by decide +kernel), wn_Mod_answer, wk_Mod_answer, by decide +kernel⟩
theorem wk_Mod_change : Cond.code md_Mod_change.1 md_Mod_change.2.1 md_Mod_change.2.2.1 md_Mod_change.2.2.2 ∈ WA := wa_5 (List.mem_of_getElem? (i := 10) (by decide +kernel)) (by decide +kernel)
theorem wn_Mod_change : Cond.initialized md_Mod_change.1.cls ∈ WA := wa_1 (List.mem_of_getElem? (i := 8) (by decide +kernel)) (by decide +kernel)
theorem mv_Mod_change : Cond.instanceMethod md_Mod_change.1 ∈ WA ∧ Cond.selects md_Mod_change.1.cls md_Mod_change.1 md_Mod_change.1 ∈ WA := ⟨wa_5 (List.mem_of_getElem? (i := 9) (by decide +kernel)) (by decide +kernel), wa_0 (List.mem_of_getElem? (i := 17) (by decide +kernel)) (by decide +kernel)⟩
theorem ml_Mod_140 : MLk R_Mod 140 md_Mod_change 1 := ⟨wa_5 (List.mem_of_getElem? (i := 7) (by decide +kernel)) (by decide +kernel), wn_Mod_change, wk_Mod_change, by decide +kernel⟩
theorem wk_Mod_bind : Cond.code md_Mod_bind.1 md_Mod_bind.2.1 md_Mod_bind.2.2.1 md_Mod_bind.2.2.2 ∈ WA := wa_5 (List.mem_of_getElem? (i := 58) (by decide +kernel)) (by decide +kernel)
theorem wn_Mod_bind : Cond.initialized md_Mod_bind.1.cls ∈ WA := wa_1 (List.mem_of_getElem? (i := 8) (by decide +kernel)) (by decide +kernel)
theorem mv_Mod_bind : Cond.instanceMethod md_Mod_bind.1 ∈ WA ∧ Cond.selects md_Mod_bind.1.cls md_Mod_bind.1 md_Mod_bind.1 ∈ WA := ⟨wa_5 (List.mem_of_getElem? (i := 57) (by decide +kernel)) (by decide +kernel), wa_0 (List.mem_of_getElem? (i := 27) (by decide +kernel)) (by decide +kernel)⟩
theorem ml_Mod_143 : MLk R_Mod 143 md_Mod_bind 4 := ⟨wa_5 (List.mem_of_getElem? (i := 55) (by decide +kernel)) (by decide +kernel), wn_Mod_bind, wk_Mod_bind, by decide +kernel⟩
theorem wk_Mod_writes : Cond.code md_Mod_writes.1 md_Mod_writes.2.1 md_Mod_writes.2.2.1 md_Mod_writes.2.2.2 ∈ WA := wa_4 (List.mem_of_getElem? (i := 199) (by decide +kernel)) (by decide +kernel)
theorem wn_Mod_writes : Cond.initialized md_Mod_writes.1.cls ∈ WA := wa_1 (List.mem_of_getElem? (i := 8) (by decide +kernel)) (by decide +kernel)
theorem mv_Mod_writes : Cond.instanceMethod md_Mod_writes.1 ∈ WA ∧ Cond.selects md_Mod_writes.1.cls md_Mod_writes.1 md_Mod_writes.1 ∈ WA := ⟨wa_4 (List.mem_of_getElem? (i := 198) (by decide +kernel)) (by decide +kernel), wa_0 (List.mem_of_getElem? (i := 9) (by decide +kernel)) (by decide +kernel)⟩
theorem ml_Mod_147 : MLk R_Mod 147 md_Mod_writes 1 := ⟨wa_4 (List.mem_of_getElem? (i := 196) (by decide +kernel)) (by decide +kernel), wn_Mod_writes, wk_Mod_writes, by decide +kernel⟩
theorem wk_Mod_greater : Cond.code md_Mod_greater.1 md_Mod_greater.2.1 md_Mod_greater.2.2.1 md_Mod_greater.2.2.2 ∈ WA := wa_5 (List.mem_of_getElem? (i := 6) (by decide +kernel)) (by decide +kernel)
theorem wn_Mod_greater : Cond.initialized md_Mod_greater.1.cls ∈ WA := wa_1 (List.mem_of_getElem? (i := 8) (by decide +kernel)) (by decide +kernel)
theorem ms_Mod_greater : Cond.static md_Mod_greater.1 ∈ WA := wa_5 (List.mem_of_getElem? (i := 5) (by decide +kernel)) (by decide +kernel)
theorem ml_Mod_150 : MLk R_Mod 150 md_Mod_greater 2 := ⟨wa_5 (List.mem_of_getElem? (i := 4) (by decide +kernel)) (by decide +kernel), wn_Mod_greater, wk_Mod_greater, by decide +kernel⟩
theorem wk_Mod_sendUpdate : Cond.code md_Mod_sendUpdate.1 md_Mod_sendUpdate.2.1 md_Mod_sendUpdate.2.2.1 md_Mod_sendUpdate.2.2.2 ∈ WA := wa_4 (List.mem_of_getElem? (i := 235) (by decide +kernel)) (by decide +kernel)
theorem wn_Mod_sendUpdate : Cond.initialized md_Mod_sendUpdate.1.cls ∈ WA := wa_1 (List.mem_of_getElem? (i := 8) (by decide +kernel)) (by decide +kernel)
theorem mv_Mod_sendUpdate : Cond.instanceMethod md_Mod_sendUpdate.1 ∈ WA ∧ Cond.selects md_Mod_sendUpdate.1.cls md_Mod_sendUpdate.1 md_Mod_sendUpdate.1 ∈ WA := ⟨wa_4 (List.mem_of_getElem? (i := 234) (by decide +kernel)) (by decide +kernel), wa_0 (List.mem_of_getElem? (i := 15) (by decide +kernel)) (by decide +kernel)⟩
theorem ml_Mod_154 : MLk R_Mod 154 md_Mod_sendUpdate 2 := ⟨wa_4 (List.mem_of_getElem? (i := 232) (by decide +kernel)) (by decide +kernel), wn_Mod_sendUpdate, wk_Mod_sendUpdate, by decide +kernel⟩
theorem wk_Mod_turns : Cond.code md_Mod_turns.1 md_Mod_turns.2.1 md_Mod_turns.2.2.1 md_Mod_turns.2.2.2 ∈ WA := wa_5 (List.mem_of_getElem? (i := 50) (by decide +kernel)) (by decide +kernel)
theorem wn_Mod_turns : Cond.initialized md_Mod_turns.1.cls ∈ WA := wa_1 (List.mem_of_getElem? (i := 8) (by decide +kernel)) (by decide +kernel)
theorem mv_Mod_turns : Cond.instanceMethod md_Mod_turns.1 ∈ WA ∧ Cond.selects md_Mod_turns.1.cls md_Mod_turns.1 md_Mod_turns.1 ∈ WA := ⟨wa_5 (List.mem_of_getElem? (i := 49) (by decide +kernel)) (by decide +kernel), wa_0 (List.mem_of_getElem? (i := 25) (by decide +kernel)) (by decide +kernel)⟩
theorem ml_Mod_158 : MLk R_Mod 158 md_Mod_turns 2 := ⟨wa_5 (List.mem_of_getElem? (i := 47) (by decide +kernel)) (by decide +kernel), wn_Mod_turns, wk_Mod_turns, by decide +kernel⟩
theorem wk_Mod_takesBound : Cond.code md_Mod_takesBound.1 md_Mod_takesBound.2.1 md_Mod_takesBound.2.2.1 md_Mod_takesBound.2.2.2 ∈ WA := wa_5 (List.mem_of_getElem? (i := 54) (by decide +kernel)) (by decide +kernel)
theorem wn_Mod_takesBound : Cond.initialized md_Mod_takesBound.1.cls ∈ WA := wa_1 (List.mem_of_getElem? (i := 8) (by decide +kernel)) (by decide +kernel)
theorem mv_Mod_takesBound : Cond.instanceMethod md_Mod_takesBound.1 ∈ WA ∧ Cond.selects md_Mod_takesBound.1.cls md_Mod_takesBound.1 md_Mod_takesBound.1 ∈ WA := ⟨wa_5 (List.mem_of_getElem? (i := 53) (by decide +kernel)) (by decide +kernel), wa_0 (List.mem_of_getElem? (i := 26) (by decide +kernel)) (by decide +kernel)⟩
theorem ml_Mod_161 : MLk R_Mod 161 md_Mod_takesBound 3 := ⟨wa_5 (List.mem_of_getElem? (i := 51) (by decide +kernel)) (by decide +kernel), wn_Mod_takesBound, wk_Mod_takesBound, by decide +kernel⟩
theorem wk_Mod_takes : Cond.code md_Mod_takes.1 md_Mod_takes.2.1 md_Mod_takes.2.2.1 md_Mod_takes.2.2.2 ∈ WA := wa_5 (List.mem_of_getElem? (i := 46) (by decide +kernel)) (by decide +kernel)
theorem wn_Mod_takes : Cond.initialized md_Mod_takes.1.cls ∈ WA := wa_1 (List.mem_of_getElem? (i := 8) (by decide +kernel)) (by decide +kernel)
theorem mv_Mod_takes : Cond.instanceMethod md_Mod_takes.1 ∈ WA ∧ Cond.selects md_Mod_takes.1.cls md_Mod_takes.1 md_Mod_takes.1 ∈ WA := ⟨wa_5 (List.mem_of_getElem? (i := 45) (by decide +kernel)) (by decide +kernel), wa_0 (List.mem_of_getElem? (i := 24) (by decide +kernel)) (by decide +kernel)⟩
theorem ml_Mod_165 : MLk R_Mod 165 md_Mod_takes 3 := ⟨wa_5 (List.mem_of_getElem? (i := 43) (by decide +kernel)) (by decide +kernel), wn_Mod_takes, wk_Mod_takes, by decide +kernel⟩
theorem wk_Mod_areFresh : Cond.code md_Mod_areFresh.1 md_Mod_areFresh.2.1 md_Mod_areFresh.2.2.1 md_Mod_areFresh.2.2.2 ∈ WA := wa_5 (List.mem_of_getElem? (i := 62) (by decide +kernel)) (by decide +kernel)
theorem wn_Mod_areFresh : Cond.initialized md_Mod_areFresh.1.cls ∈ WA := wa_1 (List.mem_of_getElem? (i := 8) (by decide +kernel)) (by decide +kernel)
theorem mv_Mod_areFresh : Cond.instanceMethod md_Mod_areFresh.1 ∈ WA ∧ Cond.selects md_Mod_areFresh.1.cls md_Mod_areFresh.1 md_Mod_areFresh.1 ∈ WA := ⟨wa_5 (List.mem_of_getElem? (i := 61) (by decide +kernel)) (by decide +kernel), wa_0 (List.mem_of_getElem? (i := 28) (by decide +kernel)) (by decide +kernel)⟩
theorem ml_Mod_169 : MLk R_Mod 169 md_Mod_areFresh 1 := ⟨wa_5 (List.mem_of_getElem? (i := 59) (by decide +kernel)) (by decide +kernel), wn_Mod_areFresh, wk_Mod_areFresh, by decide +kernel⟩
theorem wk_Mod_sendAck : Cond.code md_Mod_sendAck.1 md_Mod_sendAck.2.1 md_Mod_sendAck.2.2.1 md_Mod_sendAck.2.2.2 ∈ WA := wa_5 (List.mem_of_getElem? (i := 66) (by decide +kernel)) (by decide +kernel)
theorem wn_Mod_sendAck : Cond.initialized md_Mod_sendAck.1.cls ∈ WA := wa_1 (List.mem_of_getElem? (i := 8) (by decide +kernel)) (by decide +kernel)
theorem mv_Mod_sendAck : Cond.instanceMethod md_Mod_sendAck.1 ∈ WA ∧ Cond.selects md_Mod_sendAck.1.cls md_Mod_sendAck.1 md_Mod_sendAck.1 ∈ WA := ⟨wa_5 (List.mem_of_getElem? (i := 65) (by decide +kernel)) (by decide +kernel), wa_0 (List.mem_of_getElem? (i := 29) (by decide +kernel)) (by decide +kernel)⟩
theorem ml_Mod_172 : MLk R_Mod 172 md_Mod_sendAck 4 := ⟨wa_5 (List.mem_of_getElem? (i := 63) (by decide +kernel)) (by decide +kernel), wn_Mod_sendAck, wk_Mod_sendAck, by decide +kernel⟩
theorem wk_Mod_count : Cond.code md_Mod_count.1 md_Mod_count.2.1 md_Mod_count.2.2.1 md_Mod_count.2.2.2 ∈ WA := wa_5 (List.mem_of_getElem? (i := 30) (by decide +kernel)) (by decide +kernel)
theorem wn_Mod_count : Cond.initialized md_Mod_count.1.cls ∈ WA := wa_1 (List.mem_of_getElem? (i := 8) (by decide +kernel)) (by decide +kernel)
theorem mv_Mod_count : Cond.instanceMethod md_Mod_count.1 ∈ WA ∧ Cond.selects md_Mod_count.1.cls md_Mod_count.1 md_Mod_count.1 ∈ WA := ⟨wa_5 (List.mem_of_getElem? (i := 29) (by decide +kernel)) (by decide +kernel), wa_0 (List.mem_of_getElem? (i := 20) (by decide +kernel)) (by decide +kernel)⟩
theorem ml_Mod_175 : MLk R_Mod 175 md_Mod_count 1 := ⟨wa_5 (List.mem_of_getElem? (i := 27) (by decide +kernel)) (by decide +kernel), wn_Mod_count, wk_Mod_count, by decide +kernel⟩
theorem wk_Mod_hearHello : Cond.code md_Mod_hearHello.1 md_Mod_hearHello.2.1 md_Mod_hearHello.2.2.1 md_Mod_hearHello.2.2.2 ∈ WA := wa_5 (List.mem_of_getElem? (i := 38) (by decide +kernel)) (by decide +kernel)
theorem wn_Mod_hearHello : Cond.initialized md_Mod_hearHello.1.cls ∈ WA := wa_1 (List.mem_of_getElem? (i := 8) (by decide +kernel)) (by decide +kernel)
theorem mv_Mod_hearHello : Cond.instanceMethod md_Mod_hearHello.1 ∈ WA ∧ Cond.selects md_Mod_hearHello.1.cls md_Mod_hearHello.1 md_Mod_hearHello.1 ∈ WA := ⟨wa_5 (List.mem_of_getElem? (i := 37) (by decide +kernel)) (by decide +kernel), wa_0 (List.mem_of_getElem? (i := 22) (by decide +kernel)) (by decide +kernel)⟩
theorem ml_Mod_178 : MLk R_Mod 178 md_Mod_hearHello 2 := ⟨wa_5 (List.mem_of_getElem? (i := 35) (by decide +kernel)) (by decide +kernel), wn_Mod_hearHello, wk_Mod_hearHello, by decide +kernel⟩
theorem wk_Mod_hearUpdate : Cond.code md_Mod_hearUpdate.1 md_Mod_hearUpdate.2.1 md_Mod_hearUpdate.2.2.1 md_Mod_hearUpdate.2.2.2 ∈ WA := wa_5 (List.mem_of_getElem? (i := 42) (by decide +kernel)) (by decide +kernel)
theorem wn_Mod_hearUpdate : Cond.initialized md_Mod_hearUpdate.1.cls ∈ WA := wa_1 (List.mem_of_getElem? (i := 8) (by decide +kernel)) (by decide +kernel)
theorem mv_Mod_hearUpdate : Cond.instanceMethod md_Mod_hearUpdate.1 ∈ WA ∧ Cond.selects md_Mod_hearUpdate.1.cls md_Mod_hearUpdate.1 md_Mod_hearUpdate.1 ∈ WA := ⟨wa_5 (List.mem_of_getElem? (i := 41) (by decide +kernel)) (by decide +kernel), wa_0 (List.mem_of_getElem? (i := 23) (by decide +kernel)) (by decide +kernel)⟩
theorem ml_Mod_181 : MLk R_Mod 181 md_Mod_hearUpdate 2 := ⟨wa_5 (List.mem_of_getElem? (i := 39) (by decide +kernel)) (by decide +kernel), wn_Mod_hearUpdate, wk_Mod_hearUpdate, by decide +kernel⟩
theorem wk_Mod_hearAck : Cond.code md_Mod_hearAck.1 md_Mod_hearAck.2.1 md_Mod_hearAck.2.2.1 md_Mod_hearAck.2.2.2 ∈ WA := wa_5 (List.mem_of_getElem? (i := 70) (by decide +kernel)) (by decide +kernel)
theorem wn_Mod_hearAck : Cond.initialized md_Mod_hearAck.1.cls ∈ WA := wa_1 (List.mem_of_getElem? (i := 8) (by decide +kernel)) (by decide +kernel)
theorem mv_Mod_hearAck : Cond.instanceMethod md_Mod_hearAck.1 ∈ WA ∧ Cond.selects md_Mod_hearAck.1.cls md_Mod_hearAck.1 md_Mod_hearAck.1 ∈ WA := ⟨wa_5 (List.mem_of_getElem? (i := 69) (by decide +kernel)) (by decide +kernel), wa_0 (List.mem_of_getElem? (i := 30) (by decide +kernel)) (by decide +kernel)⟩
theorem ml_Mod_185 : MLk R_Mod 185 md_Mod_hearAck 2 := ⟨wa_5 (List.mem_of_getElem? (i := 67) (by decide +kernel)) (by decide +kernel), wn_Mod_hearAck, wk_Mod_hearAck, by decide +kernel⟩
theorem wk_Mod_hearNew : Cond.code md_Mod_hearNew.1 md_Mod_hearNew.2.1 md_Mod_hearNew.2.2.1 md_Mod_hearNew.2.2.2 ∈ WA := wa_5 (List.mem_of_getElem? (i := 74) (by decide +kernel)) (by decide +kernel)
theorem wn_Mod_hearNew : Cond.initialized md_Mod_hearNew.1.cls ∈ WA := wa_1 (List.mem_of_getElem? (i := 8) (by decide +kernel)) (by decide +kernel)
theorem mv_Mod_hearNew : Cond.instanceMethod md_Mod_hearNew.1 ∈ WA ∧ Cond.selects md_Mod_hearNew.1.cls md_Mod_hearNew.1 md_Mod_hearNew.1 ∈ WA := ⟨wa_5 (List.mem_of_getElem? (i := 73) (by decide +kernel)) (by decide +kernel), wa_0 (List.mem_of_getElem? (i := 31) (by decide +kernel)) (by decide +kernel)⟩
theorem ml_Mod_188 : MLk R_Mod 188 md_Mod_hearNew 4 := ⟨wa_5 (List.mem_of_getElem? (i := 71) (by decide +kernel)) (by decide +kernel), wn_Mod_hearNew, wk_Mod_hearNew, by decide +kernel⟩
theorem wk_Mod_hearRelease : Cond.code md_Mod_hearRelease.1 md_Mod_hearRelease.2.1 md_Mod_hearRelease.2.2.1 md_Mod_hearRelease.2.2.2 ∈ WA := wa_5 (List.mem_of_getElem? (i := 86) (by decide +kernel)) (by decide +kernel)
theorem wn_Mod_hearRelease : Cond.initialized md_Mod_hearRelease.1.cls ∈ WA := wa_1 (List.mem_of_getElem? (i := 8) (by decide +kernel)) (by decide +kernel)
theorem mv_Mod_hearRelease : Cond.instanceMethod md_Mod_hearRelease.1 ∈ WA ∧ Cond.selects md_Mod_hearRelease.1.cls md_Mod_hearRelease.1 md_Mod_hearRelease.1 ∈ WA := ⟨wa_5 (List.mem_of_getElem? (i := 85) (by decide +kernel)) (by decide +kernel), wa_0 (List.mem_of_getElem? (i := 34) (by decide +kernel)) (by decide +kernel)⟩
theorem ml_Mod_191 : MLk R_Mod 191 md_Mod_hearRelease 4 := ⟨wa_5 (List.mem_of_getElem? (i := 83) (by decide +kernel)) (by decide +kernel), wn_Mod_hearRelease, wk_Mod_hearRelease, by decide +kernel⟩
theorem wk_Mod_holds : Cond.code md_Mod_holds.1 md_Mod_holds.2.1 md_Mod_holds.2.2.1 md_Mod_holds.2.2.2 ∈ WA := wa_5 (List.mem_of_getElem? (i := 34) (by decide +kernel)) (by decide +kernel)
theorem wn_Mod_holds : Cond.initialized md_Mod_holds.1.cls ∈ WA := wa_1 (List.mem_of_getElem? (i := 8) (by decide +kernel)) (by decide +kernel)
theorem mv_Mod_holds : Cond.instanceMethod md_Mod_holds.1 ∈ WA ∧ Cond.selects md_Mod_holds.1.cls md_Mod_holds.1 md_Mod_holds.1 ∈ WA := ⟨wa_5 (List.mem_of_getElem? (i := 33) (by decide +kernel)) (by decide +kernel), wa_0 (List.mem_of_getElem? (i := 21) (by decide +kernel)) (by decide +kernel)⟩
theorem ml_Mod_194 : MLk R_Mod 194 md_Mod_holds 1 := ⟨wa_5 (List.mem_of_getElem? (i := 31) (by decide +kernel)) (by decide +kernel), wn_Mod_holds, wk_Mod_holds, by decide +kernel⟩
theorem wk_Mod_isRight : Cond.code md_Mod_isRight.1 md_Mod_isRight.2.1 md_Mod_isRight.2.2.1 md_Mod_isRight.2.2.2 ∈ WA := wa_4 (List.mem_of_getElem? (i := 175) (by decide +kernel)) (by decide +kernel)
theorem wn_Mod_isRight : Cond.initialized md_Mod_isRight.1.cls ∈ WA := wa_1 (List.mem_of_getElem? (i := 8) (by decide +kernel)) (by decide +kernel)
theorem mv_Mod_isRight : Cond.instanceMethod md_Mod_isRight.1 ∈ WA ∧ Cond.selects md_Mod_isRight.1.cls md_Mod_isRight.1 md_Mod_isRight.1 ∈ WA := ⟨wa_4 (List.mem_of_getElem? (i := 174) (by decide +kernel)) (by decide +kernel), wa_0 (List.mem_of_getElem? (i := 7) (by decide +kernel)) (by decide +kernel)⟩
theorem ml_Mod_202 : MLk R_Mod 202 md_Mod_isRight 1 := ⟨wa_4 (List.mem_of_getElem? (i := 172) (by decide +kernel)) (by decide +kernel), wn_Mod_isRight, wk_Mod_isRight, by decide +kernel⟩
theorem wk_Mod_isServer : Cond.code md_Mod_isServer.1 md_Mod_isServer.2.1 md_Mod_isServer.2.2.1 md_Mod_isServer.2.2.2 ∈ WA := wa_4 (List.mem_of_getElem? (i := 183) (by decide +kernel)) (by decide +kernel)
theorem wn_Mod_isServer : Cond.initialized md_Mod_isServer.1.cls ∈ WA := wa_1 (List.mem_of_getElem? (i := 8) (by decide +kernel)) (by decide +kernel)
theorem mv_Mod_isServer : Cond.instanceMethod md_Mod_isServer.1 ∈ WA ∧ Cond.selects md_Mod_isServer.1.cls md_Mod_isServer.1 md_Mod_isServer.1 ∈ WA := ⟨wa_4 (List.mem_of_getElem? (i := 182) (by decide +kernel)) (by decide +kernel), wa_0 (List.mem_of_getElem? (i := 8) (by decide +kernel)) (by decide +kernel)⟩
theorem ml_Mod_206 : MLk R_Mod 206 md_Mod_isServer 1 := ⟨wa_4 (List.mem_of_getElem? (i := 180) (by decide +kernel)) (by decide +kernel), wn_Mod_isServer, wk_Mod_isServer, by decide +kernel⟩
theorem wk_Mod_sendHello : Cond.code md_Mod_sendHello.1 md_Mod_sendHello.2.1 md_Mod_sendHello.2.2.1 md_Mod_sendHello.2.2.2 ∈ WA := wa_4 (List.mem_of_getElem? (i := 203) (by decide +kernel)) (by decide +kernel)
theorem wn_Mod_sendHello : Cond.initialized md_Mod_sendHello.1.cls ∈ WA := wa_1 (List.mem_of_getElem? (i := 8) (by decide +kernel)) (by decide +kernel)
theorem mv_Mod_sendHello : Cond.instanceMethod md_Mod_sendHello.1 ∈ WA ∧ Cond.selects md_Mod_sendHello.1.cls md_Mod_sendHello.1 md_Mod_sendHello.1 ∈ WA := ⟨wa_4 (List.mem_of_getElem? (i := 202) (by decide +kernel)) (by decide +kernel), wa_0 (List.mem_of_getElem? (i := 10) (by decide +kernel)) (by decide +kernel)⟩
theorem ml_Mod_209 : MLk R_Mod 209 md_Mod_sendHello 1 := ⟨wa_4 (List.mem_of_getElem? (i := 200) (by decide +kernel)) (by decide +kernel), wn_Mod_sendHello, wk_Mod_sendHello, by decide +kernel⟩
theorem wk_Mod_ends : Cond.code md_Mod_ends.1 md_Mod_ends.2.1 md_Mod_ends.2.2.1 md_Mod_ends.2.2.2 ∈ WA := wa_5 (List.mem_of_getElem? (i := 3) (by decide +kernel)) (by decide +kernel)
theorem wn_Mod_ends : Cond.initialized md_Mod_ends.1.cls ∈ WA := wa_1 (List.mem_of_getElem? (i := 8) (by decide +kernel)) (by decide +kernel)
theorem mv_Mod_ends : Cond.instanceMethod md_Mod_ends.1 ∈ WA ∧ Cond.selects md_Mod_ends.1.cls md_Mod_ends.1 md_Mod_ends.1 ∈ WA := ⟨wa_5 (List.mem_of_getElem? (i := 2) (by decide +kernel)) (by decide +kernel), wa_0 (List.mem_of_getElem? (i := 16) (by decide +kernel)) (by decide +kernel)⟩
theorem ml_Mod_212 : MLk R_Mod 212 md_Mod_ends 2 := ⟨wa_5 (List.mem_of_getElem? (i := 0) (by decide +kernel)) (by decide +kernel), wn_Mod_ends, wk_Mod_ends, by decide +kernel⟩
theorem wk_Mod_isPlace : Cond.code md_Mod_isPlace.1 md_Mod_isPlace.2.1 md_Mod_isPlace.2.2.1 md_Mod_isPlace.2.2.2 ∈ WA := wa_5 (List.mem_of_getElem? (i := 22) (by decide +kernel)) (by decide +kernel)
theorem wn_Mod_isPlace : Cond.initialized md_Mod_isPlace.1.cls ∈ WA := wa_1 (List.mem_of_getElem? (i := 8) (by decide +kernel)) (by decide +kernel)
theorem mv_Mod_isPlace : Cond.instanceMethod md_Mod_isPlace.1 ∈ WA ∧ Cond.selects md_Mod_isPlace.1.cls md_Mod_isPlace.1 md_Mod_isPlace.1 ∈ WA := ⟨wa_5 (List.mem_of_getElem? (i := 21) (by decide +kernel)) (by decide +kernel), wa_0 (List.mem_of_getElem? (i := 18) (by decide +kernel)) (by decide +kernel)⟩
theorem ml_Mod_216 : MLk R_Mod 216 md_Mod_isPlace 1 := ⟨wa_5 (List.mem_of_getElem? (i := 19) (by decide +kernel)) (by decide +kernel), wn_Mod_isPlace, wk_Mod_isPlace, by decide +kernel⟩
theorem wk_Mod_hears : Cond.code md_Mod_hears.1 md_Mod_hears.2.1 md_Mod_hears.2.2.1 md_Mod_hears.2.2.2 ∈ WA := wa_5 (List.mem_of_getElem? (i := 26) (by decide +kernel)) (by decide +kernel)
theorem wn_Mod_hears : Cond.initialized md_Mod_hears.1.cls ∈ WA := wa_1 (List.mem_of_getElem? (i := 8) (by decide +kernel)) (by decide +kernel)
theorem mv_Mod_hears : Cond.instanceMethod md_Mod_hears.1 ∈ WA ∧ Cond.selects md_Mod_hears.1.cls md_Mod_hears.1 md_Mod_hears.1 ∈ WA := ⟨wa_5 (List.mem_of_getElem? (i := 25) (by decide +kernel)) (by decide +kernel), wa_0 (List.mem_of_getElem? (i := 19) (by decide +kernel)) (by decide +kernel)⟩
theorem ml_Mod_219 : MLk R_Mod 219 md_Mod_hears 1 := ⟨wa_5 (List.mem_of_getElem? (i := 23) (by decide +kernel)) (by decide +kernel), wn_Mod_hears, wk_Mod_hears, by decide +kernel⟩
