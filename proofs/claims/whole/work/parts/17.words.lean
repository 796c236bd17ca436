/-! the words that the walks use -/
theorem wd70 : Cond.initialized RJ3 ∈ zT := zT_in (List.mem_of_getElem? (i := 70) (by decide +kernel)) (by decide +kernel)
theorem wd417 : Cond.methodLink RJ0 1059 yJ3_checkIndex_8e157 ∈ zT := zT_in (List.mem_of_getElem? (i := 417) (by decide +kernel)) (by decide +kernel)
theorem wd418 : Cond.static yJ3_checkIndex_8e157 ∈ zT := zT_in (List.mem_of_getElem? (i := 418) (by decide +kernel)) (by decide +kernel)
theorem wd419 : Cond.code yJ3_checkIndex_8e157 cJ3_checkIndex_8e157 3 (some .int) ∈ zT := zT_in (List.mem_of_getElem? (i := 419) (by decide +kernel)) (by decide +kernel)
theorem wd580 : Cond.methodLink RJ7 343 yJ7_checkLength_df160 ∈ zT := zT_in (List.mem_of_getElem? (i := 580) (by decide +kernel)) (by decide +kernel)
theorem wd581 : Cond.static yJ7_checkLength_df160 ∈ zT := zT_in (List.mem_of_getElem? (i := 581) (by decide +kernel)) (by decide +kernel)
theorem wd582 : Cond.code yJ7_checkLength_df160 cJ7_checkLength_df160 2 none ∈ zT := zT_in (List.mem_of_getElem? (i := 582) (by decide +kernel)) (by decide +kernel)
