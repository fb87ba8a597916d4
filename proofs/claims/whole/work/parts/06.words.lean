/-- the words that stay whatever runs -/
def lw_g : List Cond := lw_tbl.filter goodWord
theorem lw_gm {w : Cond} (h : w ∈ lw_tbl) (k : goodWord w = true) : w ∈ lw_g := List.mem_filter.mpr ⟨h, k⟩
theorem lw_gt {w : Cond} (h : w ∈ lw_g) : w ∈ lw_tbl := (List.mem_filter.mp h).1
theorem lw_gg {w : Cond} (h : w ∈ lw_g) : goodWord w = true := (List.mem_filter.mp h).2
theorem lw_gs : GoodIn lw_g lw_g := fun w h => ⟨h, good_of_word (lw_gg h)⟩
theorem lw_gc {w : Cond} {ws : List Cond} (h : w ∈ lw_g) (k : GoodIn lw_g ws) : GoodIn lw_g (w :: ws) := fun v hv => (List.mem_cons.mp hv).elim (fun e => e ▸ ⟨h, good_of_word (lw_gg h)⟩) (k v)
theorem lw_gl {ws : List Cond} (k : GoodIn lw_g ws) : GoodIn lw_tbl ws := fun v hv => ⟨lw_gt (k v hv).1, (k v hv).2⟩
theorem x_inT : ∀ w ∈ u_ws RX0 TX0 9, w ∈ lw_g := fun w h => lw_gm ((by decide +kernel : ∀ w ∈ u_ws RX0 TX0 9, w ∈ lw_tbl) w h) ((by decide +kernel : ∀ w ∈ u_ws RX0 TX0 9, goodWord w = true) w h)
theorem m_inT : ∀ w ∈ u_ws RX1 TX1 19, w ∈ lw_g := fun w h => lw_gm ((by decide +kernel : ∀ w ∈ u_ws RX1 TX1 19, w ∈ lw_tbl) w h) ((by decide +kernel : ∀ w ∈ u_ws RX1 TX1 19, goodWord w = true) w h)

theorem x_l11 : Cond.fieldLink RX0 11 "StartupProbes" "orders" "[[I" ∈ lw_g := lw_gm (by decide +kernel) rfl
theorem x_l14 : Cond.fieldLink RX0 14 "StartupProbes" "numbers" "[[I" ∈ lw_g := lw_gm (by decide +kernel) rfl
theorem x_l17 : Cond.fieldLink RX0 17 "StartupProbes" "programSizes" "[I" ∈ lw_g := lw_gm (by decide +kernel) rfl
theorem x_l21 : Cond.fieldLink RX0 21 "StartupProbes" "states" "[[I" ∈ lw_g := lw_gm (by decide +kernel) rfl
theorem x_l24 : Cond.fieldLink RX0 24 "StartupProbes" "values" "[[I" ∈ lw_g := lw_gm (by decide +kernel) rfl
theorem x_l27 : Cond.fieldLink RX0 27 "StartupProbes" "lastEvents" "[[I" ∈ lw_g := lw_gm (by decide +kernel) rfl
theorem x_l30 : Cond.fieldLink RX0 30 "StartupProbes" "eventCounts" "[I" ∈ lw_g := lw_gm (by decide +kernel) rfl
theorem x_l33 : Cond.fieldLink RX0 33 "StartupProbes" "lastAnswer" "I" ∈ lw_g := lw_gm (by decide +kernel) rfl
theorem x_l37 : Cond.fieldLink RX0 37 "StartupProbes" "wrongNumber" "I" ∈ lw_g := lw_gm (by decide +kernel) rfl
theorem x_l68 : Cond.fieldLink RX0 68 "StartupProbes" "SUPERCLASS" "[I" ∈ lw_g := lw_gm (by decide +kernel) rfl
theorem x_l71 : Cond.fieldLink RX0 71 "StartupProbes" "STARTED_INTERFACE" "[I" ∈ lw_g := lw_gm (by decide +kernel) rfl
theorem x_c_initialize : Cond.code yX0_initialize cX0_initialize 5 (some .int) ∈ lw_g := lw_gm (List.mem_of_getElem? (i := 102) rfl) rfl
theorem x_c_isMannerFor : Cond.code yX0_isMannerFor cX0_isMannerFor 2 (some .boolean) ∈ lw_g := lw_gm (List.mem_of_getElem? (i := 83) rfl) rfl
theorem x_c_isType : Cond.code yX0_isType cX0_isType 1 (some .boolean) ∈ lw_g := lw_gm (List.mem_of_getElem? (i := 65) rfl) rfl
theorem x_c_isWorld : Cond.code yX0_isWorld cX0_isWorld 1 (some .boolean) ∈ lw_g := lw_gm (List.mem_of_getElem? (i := 76) rfl) rfl
theorem x_c_note : Cond.code yX0_note cX0_note 3 none ∈ lw_g := lw_gm (List.mem_of_getElem? (i := 106) rfl) rfl
theorem x_c_noteGuards : Cond.code yX0_noteGuards cX0_noteGuards 5 none ∈ lw_g := lw_gm (List.mem_of_getElem? (i := 126) rfl) rfl
theorem x_c_noteIfWrong : Cond.code yX0_noteIfWrong cX0_noteIfWrong 3 none ∈ lw_g := lw_gm (List.mem_of_getElem? (i := 122) rfl) rfl
theorem x_c_obey : Cond.code yX0_obey cX0_obey 5 (some .int) ∈ lw_g := lw_gm (List.mem_of_getElem? (i := 114) rfl) rfl
theorem x_c_readAndNote : Cond.code yX0_readAndNote cX0_readAndNote 5 (some .int) ∈ lw_g := lw_gm (List.mem_of_getElem? (i := 118) rfl) rfl
theorem x_c_runProgram : Cond.code yX0_runProgram cX0_runProgram 6 (some .int) ∈ lw_g := lw_gm (List.mem_of_getElem? (i := 110) rfl) rfl
theorem x_c_start : Cond.code yX0_start cX0_start 5 (some .int) ∈ lw_g := lw_gm (List.mem_of_getElem? (i := 90) rfl) rfl
theorem x_c_startAbove : Cond.code yX0_startAbove cX0_startAbove 5 (some .int) ∈ lw_g := lw_gm (List.mem_of_getElem? (i := 94) rfl) rfl
theorem x_c_typeStartedBy : Cond.code yX0_typeStartedBy cX0_typeStartedBy 2 (some .int) ∈ lw_g := lw_gm (List.mem_of_getElem? (i := 86) rfl) rfl
theorem x_c_useStarted : Cond.code yX0_useStarted cX0_useStarted 4 (some .int) ∈ lw_g := lw_gm (List.mem_of_getElem? (i := 130) rfl) rfl
theorem x_ini : Cond.initialized RX0 ∈ lw_g := lw_gm (by decide +kernel) rfl
theorem gVX0_55 : GoodIn lw_g (wsV RX0 55 RX0 yX0_start (.code yX0_start cX0_start 5 (some .int) :: lw_g)) := lw_gc (lw_gm (by decide +kernel) rfl) (lw_gc (lw_gm (by decide +kernel) rfl) (lw_gc (lw_gm (by decide +kernel) rfl) (lw_gc x_ini (lw_gc x_c_start lw_gs))))
theorem gVX0_59 : GoodIn lw_g (wsV RX0 59 RX0 yX0_useStarted (.code yX0_useStarted cX0_useStarted 4 (some .int) :: lw_g)) := lw_gc (lw_gm (by decide +kernel) rfl) (lw_gc (lw_gm (by decide +kernel) rfl) (lw_gc (lw_gm (by decide +kernel) rfl) (lw_gc x_ini (lw_gc x_c_useStarted lw_gs))))
theorem gVX0_62 : GoodIn lw_g (wsV RX0 62 RX0 yX0_startAbove (.code yX0_startAbove cX0_startAbove 5 (some .int) :: lw_g)) := lw_gc (lw_gm (by decide +kernel) rfl) (lw_gc (lw_gm (by decide +kernel) rfl) (lw_gc (lw_gm (by decide +kernel) rfl) (lw_gc x_ini (lw_gc x_c_startAbove lw_gs))))
theorem gVX0_65 : GoodIn lw_g (wsV RX0 65 RX0 yX0_initialize (.code yX0_initialize cX0_initialize 5 (some .int) :: lw_g)) := lw_gc (lw_gm (by decide +kernel) rfl) (lw_gc (lw_gm (by decide +kernel) rfl) (lw_gc (lw_gm (by decide +kernel) rfl) (lw_gc x_ini (lw_gc x_c_initialize lw_gs))))
theorem gVX0_74 : GoodIn lw_g (wsV RX0 74 RX0 yX0_note (.code yX0_note cX0_note 3 none :: lw_g)) := lw_gc (lw_gm (by decide +kernel) rfl) (lw_gc (lw_gm (by decide +kernel) rfl) (lw_gc (lw_gm (by decide +kernel) rfl) (lw_gc x_ini (lw_gc x_c_note lw_gs))))
theorem gVX0_78 : GoodIn lw_g (wsV RX0 78 RX0 yX0_runProgram (.code yX0_runProgram cX0_runProgram 6 (some .int) :: lw_g)) := lw_gc (lw_gm (by decide +kernel) rfl) (lw_gc (lw_gm (by decide +kernel) rfl) (lw_gc (lw_gm (by decide +kernel) rfl) (lw_gc x_ini (lw_gc x_c_runProgram lw_gs))))
theorem gVX0_81 : GoodIn lw_g (wsV RX0 81 RX0 yX0_obey (.code yX0_obey cX0_obey 5 (some .int) :: lw_g)) := lw_gc (lw_gm (by decide +kernel) rfl) (lw_gc (lw_gm (by decide +kernel) rfl) (lw_gc (lw_gm (by decide +kernel) rfl) (lw_gc x_ini (lw_gc x_c_obey lw_gs))))
theorem gVX0_85 : GoodIn lw_g (wsV RX0 85 RX0 yX0_noteGuards (.code yX0_noteGuards cX0_noteGuards 5 none :: lw_g)) := lw_gc (lw_gm (by decide +kernel) rfl) (lw_gc (lw_gm (by decide +kernel) rfl) (lw_gc (lw_gm (by decide +kernel) rfl) (lw_gc x_ini (lw_gc x_c_noteGuards lw_gs))))
theorem gVX0_89 : GoodIn lw_g (wsV RX0 89 RX0 yX0_readAndNote (.code yX0_readAndNote cX0_readAndNote 5 (some .int) :: lw_g)) := lw_gc (lw_gm (by decide +kernel) rfl) (lw_gc (lw_gm (by decide +kernel) rfl) (lw_gc (lw_gm (by decide +kernel) rfl) (lw_gc x_ini (lw_gc x_c_readAndNote lw_gs))))
theorem gVX0_92 : GoodIn lw_g (wsV RX0 92 RX0 yX0_noteIfWrong (.code yX0_noteIfWrong cX0_noteIfWrong 3 none :: lw_g)) := lw_gc (lw_gm (by decide +kernel) rfl) (lw_gc (lw_gm (by decide +kernel) rfl) (lw_gc (lw_gm (by decide +kernel) rfl) (lw_gc x_ini (lw_gc x_c_noteIfWrong lw_gs))))
theorem gSX0_40 : GoodIn lw_g (wsS RX0 40 yX0_isType (.code yX0_isType cX0_isType 1 (some .boolean) :: lw_g)) := lw_gc (lw_gm (by decide +kernel) rfl) (lw_gc (lw_gm (by decide +kernel) rfl) (lw_gc x_ini (lw_gc x_c_isType lw_gs)))
theorem gSX0_44 : GoodIn lw_g (wsS RX0 44 yX0_isWorld (.code yX0_isWorld cX0_isWorld 1 (some .boolean) :: lw_g)) := lw_gc (lw_gm (by decide +kernel) rfl) (lw_gc (lw_gm (by decide +kernel) rfl) (lw_gc x_ini (lw_gc x_c_isWorld lw_gs)))
theorem gSX0_47 : GoodIn lw_g (wsS RX0 47 yX0_isMannerFor (.code yX0_isMannerFor cX0_isMannerFor 2 (some .boolean) :: lw_g)) := lw_gc (lw_gm (by decide +kernel) rfl) (lw_gc (lw_gm (by decide +kernel) rfl) (lw_gc x_ini (lw_gc x_c_isMannerFor lw_gs)))
theorem gSX0_51 : GoodIn lw_g (wsS RX0 51 yX0_typeStartedBy (.code yX0_typeStartedBy cX0_typeStartedBy 2 (some .int) :: lw_g)) := lw_gc (lw_gm (by decide +kernel) rfl) (lw_gc (lw_gm (by decide +kernel) rfl) (lw_gc x_ini (lw_gc x_c_typeStartedBy lw_gs)))
theorem m_l7 : Cond.fieldLink RX1 7 "StartupProbesModel" "order" "[I" ∈ lw_g := lw_gm (by decide +kernel) rfl
theorem m_l13 : Cond.fieldLink RX1 13 "StartupProbesModel" "number" "[I" ∈ lw_g := lw_gm (by decide +kernel) rfl
theorem m_l16 : Cond.fieldLink RX1 16 "StartupProbesModel" "size" "[I" ∈ lw_g := lw_gm (by decide +kernel) rfl
theorem m_l19 : Cond.fieldLink RX1 19 "StartupProbesModel" "state" "[I" ∈ lw_g := lw_gm (by decide +kernel) rfl
theorem m_l22 : Cond.fieldLink RX1 22 "StartupProbesModel" "value" "[I" ∈ lw_g := lw_gm (by decide +kernel) rfl
theorem m_l25 : Cond.fieldLink RX1 25 "StartupProbesModel" "event" "[I" ∈ lw_g := lw_gm (by decide +kernel) rfl
theorem m_l28 : Cond.fieldLink RX1 28 "StartupProbesModel" "events" "[I" ∈ lw_g := lw_gm (by decide +kernel) rfl
theorem m_l31 : Cond.fieldLink RX1 31 "StartupProbesModel" "before" "[I" ∈ lw_g := lw_gm (by decide +kernel) rfl
theorem m_l34 : Cond.fieldLink RX1 34 "StartupProbesModel" "at" "[I" ∈ lw_g := lw_gm (by decide +kernel) rfl
theorem m_l37 : Cond.fieldLink RX1 37 "StartupProbesModel" "phase" "[I" ∈ lw_g := lw_gm (by decide +kernel) rfl
theorem m_l40 : Cond.fieldLink RX1 40 "StartupProbesModel" "next" "[I" ∈ lw_g := lw_gm (by decide +kernel) rfl
theorem m_l43 : Cond.fieldLink RX1 43 "StartupProbesModel" "guards" "[I" ∈ lw_g := lw_gm (by decide +kernel) rfl
theorem m_l46 : Cond.fieldLink RX1 46 "StartupProbesModel" "guard" "[I" ∈ lw_g := lw_gm (by decide +kernel) rfl
theorem m_l53 : Cond.fieldLink RX1 53 "StartupProbesModel" "world" "I" ∈ lw_g := lw_gm (by decide +kernel) rfl
theorem m_l57 : Cond.fieldLink RX1 57 "StartupProbesModel" "kind" "I" ∈ lw_g := lw_gm (by decide +kernel) rfl
theorem m_l60 : Cond.fieldLink RX1 60 "StartupProbesModel" "told" "I" ∈ lw_g := lw_gm (by decide +kernel) rfl
theorem m_l63 : Cond.fieldLink RX1 63 "StartupProbesModel" "depth" "I" ∈ lw_g := lw_gm (by decide +kernel) rfl
theorem m_l89 : Cond.fieldLink RX1 89 "StartupProbesModel" "wrong" "I" ∈ lw_g := lw_gm (by decide +kernel) rfl
theorem m_l92 : Cond.fieldLink RX1 92 "StartupProbesModel" "answer" "I" ∈ lw_g := lw_gm (by decide +kernel) rfl
theorem m_c_answered : Cond.code yX1_answered cX1_answered 3 none ∈ lw_g := lw_gm (List.mem_of_getElem? (i := 257) rfl) rfl
theorem m_c_begin : Cond.code yX1_begin cX1_begin 3 none ∈ lw_g := lw_gm (List.mem_of_getElem? (i := 233) rfl) rfl
theorem m_c_end : Cond.code yX1_end cX1_end 5 none ∈ lw_g := lw_gm (List.mem_of_getElem? (i := 245) rfl) rfl
theorem m_c_first : Cond.code yX1_first cX1_first 3 none ∈ lw_g := lw_gm (List.mem_of_getElem? (i := 241) rfl) rfl
theorem m_c_in : Cond.code yX1_in cX1_in 3 (some .boolean) ∈ lw_g := lw_gm (List.mem_of_getElem? (i := 217) rfl) rfl
theorem m_c_note : Cond.code yX1_note cX1_note 3 none ∈ lw_g := lw_gm (List.mem_of_getElem? (i := 249) rfl) rfl
theorem m_c_run : Cond.code yX1_run cX1_run 2 none ∈ lw_g := lw_gm (List.mem_of_getElem? (i := 237) rfl) rfl
theorem m_c_work : Cond.code yX1_work cX1_work 4 none ∈ lw_g := lw_gm (List.mem_of_getElem? (i := 253) rfl) rfl
theorem m_ini : Cond.initialized RX1 ∈ lw_g := lw_gm (by decide +kernel) rfl
theorem gVX1_66 : GoodIn lw_g (wsV RX1 66 RX1 yX1_note (.code yX1_note cX1_note 3 none :: lw_g)) := lw_gc (lw_gm (by decide +kernel) rfl) (lw_gc (lw_gm (by decide +kernel) rfl) (lw_gc (lw_gm (by decide +kernel) rfl) (lw_gc m_ini (lw_gc m_c_note lw_gs))))
theorem gVX1_70 : GoodIn lw_g (wsV RX1 70 RX1 yX1_first (.code yX1_first cX1_first 3 none :: lw_g)) := lw_gc (lw_gm (by decide +kernel) rfl) (lw_gc (lw_gm (by decide +kernel) rfl) (lw_gc (lw_gm (by decide +kernel) rfl) (lw_gc m_ini (lw_gc m_c_first lw_gs))))
theorem gVX1_73 : GoodIn lw_g (wsV RX1 73 RX1 yX1_work (.code yX1_work cX1_work 4 none :: lw_g)) := lw_gc (lw_gm (by decide +kernel) rfl) (lw_gc (lw_gm (by decide +kernel) rfl) (lw_gc (lw_gm (by decide +kernel) rfl) (lw_gc m_ini (lw_gc m_c_work lw_gs))))
theorem gVX1_76 : GoodIn lw_g (wsV RX1 76 RX1 yX1_answered (.code yX1_answered cX1_answered 3 none :: lw_g)) := lw_gc (lw_gm (by decide +kernel) rfl) (lw_gc (lw_gm (by decide +kernel) rfl) (lw_gc (lw_gm (by decide +kernel) rfl) (lw_gc m_ini (lw_gc m_c_answered lw_gs))))
theorem gVX1_79 : GoodIn lw_g (wsV RX1 79 RX1 yX1_end (.code yX1_end cX1_end 5 none :: lw_g)) := lw_gc (lw_gm (by decide +kernel) rfl) (lw_gc (lw_gm (by decide +kernel) rfl) (lw_gc (lw_gm (by decide +kernel) rfl) (lw_gc m_ini (lw_gc m_c_end lw_gs))))
theorem gVX1_83 : GoodIn lw_g (wsV RX1 83 RX1 yX1_begin (.code yX1_begin cX1_begin 3 none :: lw_g)) := lw_gc (lw_gm (by decide +kernel) rfl) (lw_gc (lw_gm (by decide +kernel) rfl) (lw_gc (lw_gm (by decide +kernel) rfl) (lw_gc m_ini (lw_gc m_c_begin lw_gs))))
theorem gVX1_86 : GoodIn lw_g (wsV RX1 86 RX1 yX1_run (.code yX1_run cX1_run 2 none :: lw_g)) := lw_gc (lw_gm (by decide +kernel) rfl) (lw_gc (lw_gm (by decide +kernel) rfl) (lw_gc (lw_gm (by decide +kernel) rfl) (lw_gc m_ini (lw_gc m_c_run lw_gs))))
theorem gSX1_49 : GoodIn lw_g (wsS RX1 49 yX1_in (.code yX1_in cX1_in 3 (some .boolean) :: lw_g)) := lw_gc (lw_gm (by decide +kernel) rfl) (lw_gc (lw_gm (by decide +kernel) rfl) (lw_gc m_ini (lw_gc m_c_in lw_gs)))
theorem x_tyT : ∀ k, k < 9 → parseFieldDescriptor (TX0 k).2.2.1 = some (tyX0 k) := tyX0_ok
theorem x_nmT : ∀ a, a < 9 → ∀ b, b < 9 → a ≠ b → (TX0 a).2.1 ≠ (TX0 b).2.1 := nmX0
theorem m_tyT : ∀ k, k < 19 → parseFieldDescriptor (TX1 k).2.2.1 = some (tyX1 k) := tyX1_ok
theorem m_nmT : ∀ a, a < 19 → ∀ b, b < 19 → a ≠ b → (TX1 a).2.1 ≠ (TX1 b).2.1 := nmX1
