theorem zt_good {w : Cond} (h : w ∈ zt_tbl) : (w.onTables && w.keeps) = true ∨ ∃ ty, w = .arrayClass ty := good_of_word (List.mem_filter.mp h).2
theorem zt_V {own C : String} {idx : Nat} {y : MethodName} {c : Cond} (h1 : Cond.methodLink own idx y ∈ zt_tbl) (h2 : Cond.instanceMethod y ∈ zt_tbl) (h3 : Cond.selects C y y ∈ zt_tbl) (h4 : Cond.initialized C ∈ zt_tbl) (h5 : c ∈ zt_tbl) : GoodIn zt_tbl (wsV own idx C y (c :: zt_tbl)) := by
  intro w hw
  have hm : w ∈ zt_tbl := by
    simp only [wsV, List.mem_append, List.mem_cons, List.not_mem_nil, or_false] at hw
    rcases hw with (rfl | rfl | rfl | rfl) | rfl | hw <;> assumption
  exact ⟨hm, zt_good hm⟩
theorem zt_S {own : String} {idx : Nat} {y : MethodName} {c : Cond} (h1 : Cond.methodLink own idx y ∈ zt_tbl) (h2 : Cond.static y ∈ zt_tbl) (h4 : Cond.initialized own ∈ zt_tbl) (h5 : c ∈ zt_tbl) : GoodIn zt_tbl (wsS own idx y (c :: zt_tbl)) := by
  intro w hw
  have hm : w ∈ zt_tbl := by
    simp only [wsS, List.mem_append, List.mem_cons, List.not_mem_nil, or_false] at hw
    rcases hw with (rfl | rfl | rfl) | rfl | hw <;> assumption
  exact ⟨hm, zt_good hm⟩
theorem zt_C {c : Cond} (h5 : c ∈ zt_tbl) : GoodIn zt_tbl (c :: zt_tbl) := by
  intro w hw
  have hm : w ∈ zt_tbl := by
    rcases List.mem_cons.mp hw with rfl | hw <;> assumption
  exact ⟨hm, zt_good hm⟩
def ws_T_init : List Cond := Cond.code mn_T_init bc_T_init 2 none :: zt_tbl
theorem hd_T_init : mn_T_init.cls ≠ "java/lang/invoke/MethodHandle" ∧ mn_T_init.cls ≠ "java/lang/invoke/VarHandle" ∧ (parseMethodDescriptor mn_T_init.desc).map (fun d => d.parameters.length) = some 0 := by decide +kernel
theorem pn_T_init : plainName mn_T_init.cls = true := by decide +kernel
def ws_U_init : List Cond := Cond.code mn_U_init bc_U_init 1 none :: zt_tbl
theorem hd_U_init : mn_U_init.cls ≠ "java/lang/invoke/MethodHandle" ∧ mn_U_init.cls ≠ "java/lang/invoke/VarHandle" ∧ (parseMethodDescriptor mn_U_init.desc).map (fun d => d.parameters.length) = some 0 := by decide +kernel
theorem pn_U_init : plainName mn_U_init.cls = true := by decide +kernel
def ws_N_init : List Cond := Cond.code mn_N_init bc_N_init 2 none :: zt_tbl
theorem hd_N_init : mn_N_init.cls ≠ "java/lang/invoke/MethodHandle" ∧ mn_N_init.cls ≠ "java/lang/invoke/VarHandle" ∧ (parseMethodDescriptor mn_N_init.desc).map (fun d => d.parameters.length) = some 1 := by decide +kernel
theorem pn_N_init : plainName mn_N_init.cls = true := by decide +kernel
def ws_F_init : List Cond := Cond.code mn_F_init bc_F_init 2 none :: zt_tbl
theorem hd_F_init : mn_F_init.cls ≠ "java/lang/invoke/MethodHandle" ∧ mn_F_init.cls ≠ "java/lang/invoke/VarHandle" ∧ (parseMethodDescriptor mn_F_init.desc).map (fun d => d.parameters.length) = some 0 := by decide +kernel
theorem pn_F_init : plainName mn_F_init.cls = true := by decide +kernel
def ws_P_init : List Cond := Cond.code mn_P_init bc_P_init 1 none :: zt_tbl
theorem hd_P_init : mn_P_init.cls ≠ "java/lang/invoke/MethodHandle" ∧ mn_P_init.cls ≠ "java/lang/invoke/VarHandle" ∧ (parseMethodDescriptor mn_P_init.desc).map (fun d => d.parameters.length) = some 0 := by decide +kernel
theorem pn_P_init : plainName mn_P_init.cls = true := by decide +kernel
def ws_R_init : List Cond := Cond.code mn_R_init bc_R_init 1 none :: zt_tbl
theorem hd_R_init : mn_R_init.cls ≠ "java/lang/invoke/MethodHandle" ∧ mn_R_init.cls ≠ "java/lang/invoke/VarHandle" ∧ (parseMethodDescriptor mn_R_init.desc).map (fun d => d.parameters.length) = some 0 := by decide +kernel
theorem pn_R_init : plainName mn_R_init.cls = true := by decide +kernel
def ws_W_init : List Cond := Cond.code mn_W_init bc_W_init 1 none :: zt_tbl
theorem hd_W_init : mn_W_init.cls ≠ "java/lang/invoke/MethodHandle" ∧ mn_W_init.cls ≠ "java/lang/invoke/VarHandle" ∧ (parseMethodDescriptor mn_W_init.desc).map (fun d => d.parameters.length) = some 0 := by decide +kernel
theorem pn_W_init : plainName mn_W_init.cls = true := by decide +kernel
def ws_T_forget : List Cond := Cond.code mn_T_forget bc_T_forget 1 none :: zt_tbl
def rm_T_forget : Room := { frames := 1, cells := 0, slots := 0, locals := 20 }
theorem hd_T_forget : mn_T_forget.cls = cn_T ∧ mn_T_forget.cls ≠ "java/lang/invoke/MethodHandle" ∧ mn_T_forget.cls ≠ "java/lang/invoke/VarHandle" ∧ (parseMethodDescriptor mn_T_forget.desc).map (fun d => d.parameters.length) = some 0 := by decide +kernel
theorem pn_T_forget : plainName mn_T_forget.cls = true := by decide +kernel
def ws_N_clear : List Cond := Cond.code mn_N_clear bc_N_clear 1 none :: zt_tbl
def rm_N_clear : Room := { frames := 0, cells := 0, slots := 0, locals := 0 }
theorem hd_N_clear : mn_N_clear.cls = cn_N ∧ mn_N_clear.cls ≠ "java/lang/invoke/MethodHandle" ∧ mn_N_clear.cls ≠ "java/lang/invoke/VarHandle" ∧ (parseMethodDescriptor mn_N_clear.desc).map (fun d => d.parameters.length) = some 0 := by decide +kernel
theorem pn_N_clear : plainName mn_N_clear.cls = true := by decide +kernel
def ws_T_tune : List Cond := Cond.code mn_T_tune bc_T_tune 2 none :: zt_tbl
def rm_T_tune : Room := { frames := 6, cells := 1, slots := 6, locals := 89 }
theorem hd_T_tune : mn_T_tune.cls = cn_T ∧ mn_T_tune.cls ≠ "java/lang/invoke/MethodHandle" ∧ mn_T_tune.cls ≠ "java/lang/invoke/VarHandle" ∧ (parseMethodDescriptor mn_T_tune.desc).map (fun d => d.parameters.length) = some 1 := by decide +kernel
theorem pn_T_tune : plainName mn_T_tune.cls = true := by decide +kernel
def ws_U_begin : List Cond := Cond.code mn_U_begin bc_U_begin 1 none :: zt_tbl
def rm_U_begin : Room := { frames := 1, cells := 0, slots := 0, locals := 20 }
theorem hd_U_begin : mn_U_begin.cls = cn_U ∧ mn_U_begin.cls ≠ "java/lang/invoke/MethodHandle" ∧ mn_U_begin.cls ≠ "java/lang/invoke/VarHandle" ∧ (parseMethodDescriptor mn_U_begin.desc).map (fun d => d.parameters.length) = some 0 := by decide +kernel
theorem pn_U_begin : plainName mn_U_begin.cls = true := by decide +kernel
def ws_T_drop : List Cond := Cond.code mn_T_drop bc_T_drop 2 none :: zt_tbl
def rm_T_drop : Room := { frames := 7, cells := 1, slots := 6, locals := 110 }
theorem hd_T_drop : mn_T_drop.cls = cn_T ∧ mn_T_drop.cls ≠ "java/lang/invoke/MethodHandle" ∧ mn_T_drop.cls ≠ "java/lang/invoke/VarHandle" ∧ (parseMethodDescriptor mn_T_drop.desc).map (fun d => d.parameters.length) = some 1 := by decide +kernel
theorem pn_T_drop : plainName mn_T_drop.cls = true := by decide +kernel
def ws_T_existing : List Cond := Cond.code mn_T_existing bc_T_existing 2 ((some (.object "TuneFinder$Tune"))) :: zt_tbl
def rm_T_existing : Room := { frames := 6, cells := 1, slots := 6, locals := 89 }
theorem hd_T_existing : mn_T_existing.cls = cn_T ∧ mn_T_existing.cls ≠ "java/lang/invoke/MethodHandle" ∧ mn_T_existing.cls ≠ "java/lang/invoke/VarHandle" ∧ (parseMethodDescriptor mn_T_existing.desc).map (fun d => d.parameters.length) = some 1 := by decide +kernel
theorem pn_T_existing : plainName mn_T_existing.cls = true := by decide +kernel
def ws_U_end : List Cond := Cond.code mn_U_end bc_U_end 1 none :: zt_tbl
def rm_U_end : Room := { frames := 0, cells := 0, slots := 0, locals := 0 }
theorem hd_U_end : mn_U_end.cls = cn_U ∧ mn_U_end.cls ≠ "java/lang/invoke/MethodHandle" ∧ mn_U_end.cls ≠ "java/lang/invoke/VarHandle" ∧ (parseMethodDescriptor mn_U_end.desc).map (fun d => d.parameters.length) = some 0 := by decide +kernel
theorem pn_U_end : plainName mn_U_end.cls = true := by decide +kernel
def ws_T_note : List Cond := Cond.code mn_T_note bc_T_note 5 ((some .int)) :: zt_tbl
def rm_T_note : Room := { frames := 7, cells := 3, slots := 18, locals := 110 }
theorem hd_T_note : mn_T_note.cls = cn_T ∧ mn_T_note.cls ≠ "java/lang/invoke/MethodHandle" ∧ mn_T_note.cls ≠ "java/lang/invoke/VarHandle" ∧ (parseMethodDescriptor mn_T_note.desc).map (fun d => d.parameters.length) = some 3 := by decide +kernel
theorem pn_T_note : plainName mn_T_note.cls = true := by decide +kernel
def ws_T_refuseUnlessNote : List Cond := Cond.code mn_T_refuseUnlessNote bc_T_refuseUnlessNote 2 none :: zt_tbl
def rm_T_refuseUnlessNote : Room := { frames := 6, cells := 1, slots := 6, locals := 89 }
theorem hd_T_refuseUnlessNote : mn_T_refuseUnlessNote.cls = cn_T ∧ mn_T_refuseUnlessNote.cls ≠ "java/lang/invoke/MethodHandle" ∧ mn_T_refuseUnlessNote.cls ≠ "java/lang/invoke/VarHandle" ∧ (parseMethodDescriptor mn_T_refuseUnlessNote.desc).map (fun d => d.parameters.length) = some 2 := by decide +kernel
theorem pn_T_refuseUnlessNote : plainName mn_T_refuseUnlessNote.cls = true := by decide +kernel
def ws_N_append : List Cond := Cond.code mn_N_append bc_N_append 3 ((some .int)) :: zt_tbl
def rm_N_append : Room := { frames := 1, cells := 0, slots := 0, locals := 23 }
theorem hd_N_append : mn_N_append.cls = cn_N ∧ mn_N_append.cls ≠ "java/lang/invoke/MethodHandle" ∧ mn_N_append.cls ≠ "java/lang/invoke/VarHandle" ∧ (parseMethodDescriptor mn_N_append.desc).map (fun d => d.parameters.length) = some 2 := by decide +kernel
theorem pn_N_append : plainName mn_N_append.cls = true := by decide +kernel
def ws_N_put : List Cond := Cond.code mn_N_put bc_N_put 4 none :: zt_tbl
def rm_N_put : Room := { frames := 0, cells := 0, slots := 0, locals := 0 }
theorem hd_N_put : mn_N_put.cls = cn_N ∧ mn_N_put.cls ≠ "java/lang/invoke/MethodHandle" ∧ mn_N_put.cls ≠ "java/lang/invoke/VarHandle" ∧ (parseMethodDescriptor mn_N_put.desc).map (fun d => d.parameters.length) = some 3 := by decide +kernel
theorem pn_N_put : plainName mn_N_put.cls = true := by decide +kernel
def ws_T_show : List Cond := Cond.code mn_T_show bc_T_show 4 none :: zt_tbl
def rm_T_show : Room := { frames := 7, cells := 2, slots := 12, locals := 110 }
theorem hd_T_show : mn_T_show.cls = cn_T ∧ mn_T_show.cls ≠ "java/lang/invoke/MethodHandle" ∧ mn_T_show.cls ≠ "java/lang/invoke/VarHandle" ∧ (parseMethodDescriptor mn_T_show.desc).map (fun d => d.parameters.length) = some 2 := by decide +kernel
theorem pn_T_show : plainName mn_T_show.cls = true := by decide +kernel
def ws_T_correct : List Cond := Cond.code mn_T_correct bc_T_correct 6 ((some .int)) :: zt_tbl
def rm_T_correct : Room := { frames := 7, cells := 4, slots := 24, locals := 110 }
theorem hd_T_correct : mn_T_correct.cls = cn_T ∧ mn_T_correct.cls ≠ "java/lang/invoke/MethodHandle" ∧ mn_T_correct.cls ≠ "java/lang/invoke/VarHandle" ∧ (parseMethodDescriptor mn_T_correct.desc).map (fun d => d.parameters.length) = some 4 := by decide +kernel
theorem pn_T_correct : plainName mn_T_correct.cls = true := by decide +kernel
def ws_T_refuseUnlessPlace : List Cond := Cond.code mn_T_refuseUnlessPlace bc_T_refuseUnlessPlace 2 none :: zt_tbl
def rm_T_refuseUnlessPlace : Room := { frames := 6, cells := 1, slots := 6, locals := 89 }
theorem hd_T_refuseUnlessPlace : mn_T_refuseUnlessPlace.cls = cn_T ∧ mn_T_refuseUnlessPlace.cls ≠ "java/lang/invoke/MethodHandle" ∧ mn_T_refuseUnlessPlace.cls ≠ "java/lang/invoke/VarHandle" ∧ (parseMethodDescriptor mn_T_refuseUnlessPlace.desc).map (fun d => d.parameters.length) = some 2 := by decide +kernel
theorem pn_T_refuseUnlessPlace : plainName mn_T_refuseUnlessPlace.cls = true := by decide +kernel
def ws_U_replace : List Cond := Cond.code mn_U_replace bc_U_replace 4 ((some .int)) :: zt_tbl
def rm_U_replace : Room := { frames := 1, cells := 0, slots := 0, locals := 23 }
theorem hd_U_replace : mn_U_replace.cls = cn_U ∧ mn_U_replace.cls ≠ "java/lang/invoke/MethodHandle" ∧ mn_U_replace.cls ≠ "java/lang/invoke/VarHandle" ∧ (parseMethodDescriptor mn_U_replace.desc).map (fun d => d.parameters.length) = some 3 := by decide +kernel
theorem pn_U_replace : plainName mn_U_replace.cls = true := by decide +kernel
def ws_T_restore : List Cond := Cond.code mn_T_restore bc_T_restore 4 none :: zt_tbl
def rm_T_restore : Room := { frames := 7, cells := 2, slots := 12, locals := 110 }
theorem hd_T_restore : mn_T_restore.cls = cn_T ∧ mn_T_restore.cls ≠ "java/lang/invoke/MethodHandle" ∧ mn_T_restore.cls ≠ "java/lang/invoke/VarHandle" ∧ (parseMethodDescriptor mn_T_restore.desc).map (fun d => d.parameters.length) = some 2 := by decide +kernel
theorem pn_T_restore : plainName mn_T_restore.cls = true := by decide +kernel
def ws_T_refuseUnlessReading : List Cond := Cond.code mn_T_refuseUnlessReading bc_T_refuseUnlessReading 2 none :: zt_tbl
def rm_T_refuseUnlessReading : Room := { frames := 6, cells := 1, slots := 6, locals := 89 }
theorem hd_T_refuseUnlessReading : mn_T_refuseUnlessReading.cls = cn_T ∧ mn_T_refuseUnlessReading.cls ≠ "java/lang/invoke/MethodHandle" ∧ mn_T_refuseUnlessReading.cls ≠ "java/lang/invoke/VarHandle" ∧ (parseMethodDescriptor mn_T_refuseUnlessReading.desc).map (fun d => d.parameters.length) = some 2 := by decide +kernel
theorem pn_T_refuseUnlessReading : plainName mn_T_refuseUnlessReading.cls = true := by decide +kernel
def ws_U_goBack : List Cond := Cond.code mn_U_goBack bc_U_goBack 3 none :: zt_tbl
def rm_U_goBack : Room := { frames := 1, cells := 0, slots := 0, locals := 23 }
theorem hd_U_goBack : mn_U_goBack.cls = cn_U ∧ mn_U_goBack.cls ≠ "java/lang/invoke/MethodHandle" ∧ mn_U_goBack.cls ≠ "java/lang/invoke/VarHandle" ∧ (parseMethodDescriptor mn_U_goBack.desc).map (fun d => d.parameters.length) = some 1 := by decide +kernel
theorem pn_U_goBack : plainName mn_U_goBack.cls = true := by decide +kernel
def ws_T_at : List Cond := Cond.code mn_T_at bc_T_at 7 ((some .int)) :: zt_tbl
def rm_T_at : Room := { frames := 7, cells := 4, slots := 24, locals := 110 }
theorem hd_T_at : mn_T_at.cls = cn_T ∧ mn_T_at.cls ≠ "java/lang/invoke/MethodHandle" ∧ mn_T_at.cls ≠ "java/lang/invoke/VarHandle" ∧ (parseMethodDescriptor mn_T_at.desc).map (fun d => d.parameters.length) = some 4 := by decide +kernel
theorem pn_T_at : plainName mn_T_at.cls = true := by decide +kernel
def ws_U_pitchIn : List Cond := Cond.code mn_U_pitchIn bc_U_pitchIn 4 ((some .int)) :: zt_tbl
def rm_U_pitchIn : Room := { frames := 1, cells := 0, slots := 0, locals := 23 }
theorem hd_U_pitchIn : mn_U_pitchIn.cls = cn_U ∧ mn_U_pitchIn.cls ≠ "java/lang/invoke/MethodHandle" ∧ mn_U_pitchIn.cls ≠ "java/lang/invoke/VarHandle" ∧ (parseMethodDescriptor mn_U_pitchIn.desc).map (fun d => d.parameters.length) = some 2 := by decide +kernel
theorem pn_U_pitchIn : plainName mn_U_pitchIn.cls = true := by decide +kernel
def ws_U_replacedAfter : List Cond := Cond.code mn_U_replacedAfter bc_U_replacedAfter 4 ((some .int)) :: zt_tbl
def rm_U_replacedAfter : Room := { frames := 0, cells := 0, slots := 0, locals := 0 }
theorem hd_U_replacedAfter : mn_U_replacedAfter.cls = cn_U ∧ mn_U_replacedAfter.cls ≠ "java/lang/invoke/MethodHandle" ∧ mn_U_replacedAfter.cls ≠ "java/lang/invoke/VarHandle" ∧ (parseMethodDescriptor mn_U_replacedAfter.desc).map (fun d => d.parameters.length) = some 2 := by decide +kernel
theorem pn_U_replacedAfter : plainName mn_U_replacedAfter.cls = true := by decide +kernel
def ws_U_lengthIn : List Cond := Cond.code mn_U_lengthIn bc_U_lengthIn 4 ((some .int)) :: zt_tbl
def rm_U_lengthIn : Room := { frames := 1, cells := 0, slots := 0, locals := 23 }
theorem hd_U_lengthIn : mn_U_lengthIn.cls = cn_U ∧ mn_U_lengthIn.cls ≠ "java/lang/invoke/MethodHandle" ∧ mn_U_lengthIn.cls ≠ "java/lang/invoke/VarHandle" ∧ (parseMethodDescriptor mn_U_lengthIn.desc).map (fun d => d.parameters.length) = some 2 := by decide +kernel
theorem pn_U_lengthIn : plainName mn_U_lengthIn.cls = true := by decide +kernel
def ws_U_stepIn : List Cond := Cond.code mn_U_stepIn bc_U_stepIn 3 ((some .int)) :: zt_tbl
def rm_U_stepIn : Room := { frames := 2, cells := 0, slots := 0, locals := 46 }
theorem hd_U_stepIn : mn_U_stepIn.cls = cn_U ∧ mn_U_stepIn.cls ≠ "java/lang/invoke/MethodHandle" ∧ mn_U_stepIn.cls ≠ "java/lang/invoke/VarHandle" ∧ (parseMethodDescriptor mn_U_stepIn.desc).map (fun d => d.parameters.length) = some 2 := by decide +kernel
theorem pn_U_stepIn : plainName mn_U_stepIn.cls = true := by decide +kernel
def ws_T_about : List Cond := Cond.code mn_T_about bc_T_about 4 ((some .int)) :: zt_tbl
def rm_T_about : Room := { frames := 7, cells := 2, slots := 12, locals := 110 }
theorem hd_T_about : mn_T_about.cls = cn_T ∧ mn_T_about.cls ≠ "java/lang/invoke/MethodHandle" ∧ mn_T_about.cls ≠ "java/lang/invoke/VarHandle" ∧ (parseMethodDescriptor mn_T_about.desc).map (fun d => d.parameters.length) = some 2 := by decide +kernel
theorem pn_T_about : plainName mn_T_about.cls = true := by decide +kernel
def ws_T_contour : List Cond := Cond.code mn_T_contour bc_T_contour 5 ((some .int)) :: zt_tbl
def rm_T_contour : Room := { frames := 7, cells := 1, slots := 6, locals := 110 }
theorem hd_T_contour : mn_T_contour.cls = cn_T ∧ mn_T_contour.cls ≠ "java/lang/invoke/MethodHandle" ∧ mn_T_contour.cls ≠ "java/lang/invoke/VarHandle" ∧ (parseMethodDescriptor mn_T_contour.desc).map (fun d => d.parameters.length) = some 2 := by decide +kernel
theorem pn_T_contour : plainName mn_T_contour.cls = true := by decide +kernel
def ws_N_steps : List Cond := Cond.code mn_N_steps bc_N_steps 1 ((some .int)) :: zt_tbl
def rm_N_steps : Room := { frames := 1, cells := 0, slots := 0, locals := 21 }
theorem hd_N_steps : mn_N_steps.cls = cn_N ∧ mn_N_steps.cls ≠ "java/lang/invoke/MethodHandle" ∧ mn_N_steps.cls ≠ "java/lang/invoke/VarHandle" ∧ (parseMethodDescriptor mn_N_steps.desc).map (fun d => d.parameters.length) = some 0 := by decide +kernel
theorem pn_N_steps : plainName mn_N_steps.cls = true := by decide +kernel
def ws_N_stepBehind : List Cond := Cond.code mn_N_stepBehind bc_N_stepBehind 2 ((some .int)) :: zt_tbl
def rm_N_stepBehind : Room := { frames := 0, cells := 0, slots := 0, locals := 0 }
theorem hd_N_stepBehind : mn_N_stepBehind.cls = cn_N ∧ mn_N_stepBehind.cls ≠ "java/lang/invoke/MethodHandle" ∧ mn_N_stepBehind.cls ≠ "java/lang/invoke/VarHandle" ∧ (parseMethodDescriptor mn_N_stepBehind.desc).map (fun d => d.parameters.length) = some 1 := by decide +kernel
theorem pn_N_stepBehind : plainName mn_N_stepBehind.cls = true := by decide +kernel
def ws_T_ask : List Cond := Cond.code mn_T_ask bc_T_ask 3 ((some .int)) :: zt_tbl
def rm_T_ask : Room := { frames := 7, cells := 2, slots := 12, locals := 110 }
theorem hd_T_ask : mn_T_ask.cls = cn_T ∧ mn_T_ask.cls ≠ "java/lang/invoke/MethodHandle" ∧ mn_T_ask.cls ≠ "java/lang/invoke/VarHandle" ∧ (parseMethodDescriptor mn_T_ask.desc).map (fun d => d.parameters.length) = some 2 := by decide +kernel
theorem pn_T_ask : plainName mn_T_ask.cls = true := by decide +kernel
def ws_T_search : List Cond := Cond.code mn_T_search bc_T_search 4 ((some .int)) :: zt_tbl
def rm_T_search : Room := { frames := 7, cells := 1, slots := 6, locals := 164 }
theorem hd_T_search : mn_T_search.cls = cn_T ∧ mn_T_search.cls ≠ "java/lang/invoke/MethodHandle" ∧ mn_T_search.cls ≠ "java/lang/invoke/VarHandle" ∧ (parseMethodDescriptor mn_T_search.desc).map (fun d => d.parameters.length) = some 2 := by decide +kernel
theorem pn_T_search : plainName mn_T_search.cls = true := by decide +kernel
def ws_F_begin : List Cond := Cond.code mn_F_begin bc_F_begin 2 none :: zt_tbl
def rm_F_begin : Room := { frames := 0, cells := 0, slots := 0, locals := 0 }
theorem hd_F_begin : mn_F_begin.cls = cn_F ∧ mn_F_begin.cls ≠ "java/lang/invoke/MethodHandle" ∧ mn_F_begin.cls ≠ "java/lang/invoke/VarHandle" ∧ (parseMethodDescriptor mn_F_begin.desc).map (fun d => d.parameters.length) = some 1 := by decide +kernel
theorem pn_F_begin : plainName mn_F_begin.cls = true := by decide +kernel
def ws_T_searchTune : List Cond := Cond.code mn_T_searchTune bc_T_searchTune 4 none :: zt_tbl
def rm_T_searchTune : Room := { frames := 6, cells := 0, slots := 0, locals := 141 }
theorem hd_T_searchTune : mn_T_searchTune.cls = cn_T ∧ mn_T_searchTune.cls ≠ "java/lang/invoke/MethodHandle" ∧ mn_T_searchTune.cls ≠ "java/lang/invoke/VarHandle" ∧ (parseMethodDescriptor mn_T_searchTune.desc).map (fun d => d.parameters.length) = some 3 := by decide +kernel
theorem pn_T_searchTune : plainName mn_T_searchTune.cls = true := by decide +kernel
def ws_T_searchOutline : List Cond := Cond.code mn_T_searchOutline bc_T_searchOutline 7 none :: zt_tbl
def rm_T_searchOutline : Room := { frames := 4, cells := 0, slots := 0, locals := 97 }
theorem hd_T_searchOutline : mn_T_searchOutline.cls = cn_T ∧ mn_T_searchOutline.cls ≠ "java/lang/invoke/MethodHandle" ∧ mn_T_searchOutline.cls ≠ "java/lang/invoke/VarHandle" ∧ (parseMethodDescriptor mn_T_searchOutline.desc).map (fun d => d.parameters.length) = some 2 := by decide +kernel
theorem pn_T_searchOutline : plainName mn_T_searchOutline.cls = true := by decide +kernel
def ws_T_outlineEnds : List Cond := Cond.code mn_T_outlineEnds bc_T_outlineEnds 9 ((some .int)) :: zt_tbl
def rm_T_outlineEnds : Room := { frames := 1, cells := 0, slots := 0, locals := 23 }
theorem hd_T_outlineEnds : mn_T_outlineEnds.cls = cn_T ∧ mn_T_outlineEnds.cls ≠ "java/lang/invoke/MethodHandle" ∧ mn_T_outlineEnds.cls ≠ "java/lang/invoke/VarHandle" ∧ (parseMethodDescriptor mn_T_outlineEnds.desc).map (fun d => d.parameters.length) = some 3 := by decide +kernel
theorem pn_T_outlineEnds : plainName mn_T_outlineEnds.cls = true := by decide +kernel
def ws_N_placesOfPitch : List Cond := Cond.code mn_N_placesOfPitch bc_N_placesOfPitch 4 ((some .int)) :: zt_tbl
def rm_N_placesOfPitch : Room := { frames := 0, cells := 0, slots := 0, locals := 0 }
theorem hd_N_placesOfPitch : mn_N_placesOfPitch.cls = cn_N ∧ mn_N_placesOfPitch.cls ≠ "java/lang/invoke/MethodHandle" ∧ mn_N_placesOfPitch.cls ≠ "java/lang/invoke/VarHandle" ∧ (parseMethodDescriptor mn_N_placesOfPitch.desc).map (fun d => d.parameters.length) = some 1 := by decide +kernel
theorem pn_N_placesOfPitch : plainName mn_N_placesOfPitch.cls = true := by decide +kernel
def ws_T_offer : List Cond := Cond.code mn_T_offer bc_T_offer 6 none :: zt_tbl
def rm_T_offer : Room := { frames := 3, cells := 0, slots := 0, locals := 72 }
theorem hd_T_offer : mn_T_offer.cls = cn_T ∧ mn_T_offer.cls ≠ "java/lang/invoke/MethodHandle" ∧ mn_T_offer.cls ≠ "java/lang/invoke/VarHandle" ∧ (parseMethodDescriptor mn_T_offer.desc).map (fun d => d.parameters.length) = some 4 := by decide +kernel
theorem pn_T_offer : plainName mn_T_offer.cls = true := by decide +kernel
def ws_F_add : List Cond := Cond.code mn_F_add bc_F_add 8 none :: zt_tbl
def rm_F_add : Room := { frames := 2, cells := 0, slots := 0, locals := 45 }
theorem hd_F_add : mn_F_add.cls = cn_F ∧ mn_F_add.cls ≠ "java/lang/invoke/MethodHandle" ∧ mn_F_add.cls ≠ "java/lang/invoke/VarHandle" ∧ (parseMethodDescriptor mn_F_add.desc).map (fun d => d.parameters.length) = some 5 := by decide +kernel
theorem pn_F_add : plainName mn_F_add.cls = true := by decide +kernel
def ws_F_rankOf : List Cond := Cond.code mn_F_rankOf bc_F_rankOf 5 ((some .int)) :: zt_tbl
def rm_F_rankOf : Room := { frames := 0, cells := 0, slots := 0, locals := 0 }
theorem hd_F_rankOf : mn_F_rankOf.cls = cn_F ∧ mn_F_rankOf.cls ≠ "java/lang/invoke/MethodHandle" ∧ mn_F_rankOf.cls ≠ "java/lang/invoke/VarHandle" ∧ (parseMethodDescriptor mn_F_rankOf.desc).map (fun d => d.parameters.length) = some 2 := by decide +kernel
theorem pn_F_rankOf : plainName mn_F_rankOf.cls = true := by decide +kernel
def ws_F_makeRoom : List Cond := Cond.code mn_F_makeRoom bc_F_makeRoom 5 ((some (.object "TuneFinder$Passage"))) :: zt_tbl
def rm_F_makeRoom : Room := { frames := 1, cells := 0, slots := 0, locals := 21 }
theorem hd_F_makeRoom : mn_F_makeRoom.cls = cn_F ∧ mn_F_makeRoom.cls ≠ "java/lang/invoke/MethodHandle" ∧ mn_F_makeRoom.cls ≠ "java/lang/invoke/VarHandle" ∧ (parseMethodDescriptor mn_F_makeRoom.desc).map (fun d => d.parameters.length) = some 1 := by decide +kernel
theorem pn_F_makeRoom : plainName mn_F_makeRoom.cls = true := by decide +kernel
def ws_T_searchNear : List Cond := Cond.code mn_T_searchNear bc_T_searchNear 6 none :: zt_tbl
def rm_T_searchNear : Room := { frames := 5, cells := 0, slots := 0, locals := 116 }
theorem hd_T_searchNear : mn_T_searchNear.cls = cn_T ∧ mn_T_searchNear.cls ≠ "java/lang/invoke/MethodHandle" ∧ mn_T_searchNear.cls ≠ "java/lang/invoke/VarHandle" ∧ (parseMethodDescriptor mn_T_searchNear.desc).map (fun d => d.parameters.length) = some 2 := by decide +kernel
theorem pn_T_searchNear : plainName mn_T_searchNear.cls = true := by decide +kernel
def ws_R_begin : List Cond := Cond.code mn_R_begin bc_R_begin 4 none :: zt_tbl
def rm_R_begin : Room := { frames := 4, cells := 0, slots := 0, locals := 92 }
theorem hd_R_begin : mn_R_begin.cls = cn_R ∧ mn_R_begin.cls ≠ "java/lang/invoke/MethodHandle" ∧ mn_R_begin.cls ≠ "java/lang/invoke/VarHandle" ∧ (parseMethodDescriptor mn_R_begin.desc).map (fun d => d.parameters.length) = some 3 := by decide +kernel
theorem pn_R_begin : plainName mn_R_begin.cls = true := by decide +kernel
def ws_R_measure : List Cond := Cond.code mn_R_measure bc_R_measure 5 none :: zt_tbl
def rm_R_measure : Room := { frames := 3, cells := 0, slots := 0, locals := 68 }
theorem hd_R_measure : mn_R_measure.cls = cn_R ∧ mn_R_measure.cls ≠ "java/lang/invoke/MethodHandle" ∧ mn_R_measure.cls ≠ "java/lang/invoke/VarHandle" ∧ (parseMethodDescriptor mn_R_measure.desc).map (fun d => d.parameters.length) = some 3 := by decide +kernel
theorem pn_R_measure : plainName mn_R_measure.cls = true := by decide +kernel
def ws_R_takeIn : List Cond := Cond.code mn_R_takeIn bc_R_takeIn 8 none :: zt_tbl
def rm_R_takeIn : Room := { frames := 2, cells := 0, slots := 0, locals := 41 }
theorem hd_R_takeIn : mn_R_takeIn.cls = cn_R ∧ mn_R_takeIn.cls ≠ "java/lang/invoke/MethodHandle" ∧ mn_R_takeIn.cls ≠ "java/lang/invoke/VarHandle" ∧ (parseMethodDescriptor mn_R_takeIn.desc).map (fun d => d.parameters.length) = some 2 := by decide +kernel
theorem pn_R_takeIn : plainName mn_R_takeIn.cls = true := by decide +kernel
def ws_R_goOn : List Cond := Cond.code mn_R_goOn bc_R_goOn 5 none :: zt_tbl
def rm_R_goOn : Room := { frames := 4, cells := 0, slots := 0, locals := 92 }
theorem hd_R_goOn : mn_R_goOn.cls = cn_R ∧ mn_R_goOn.cls ≠ "java/lang/invoke/MethodHandle" ∧ mn_R_goOn.cls ≠ "java/lang/invoke/VarHandle" ∧ (parseMethodDescriptor mn_R_goOn.desc).map (fun d => d.parameters.length) = some 3 := by decide +kernel
theorem pn_R_goOn : plainName mn_R_goOn.cls = true := by decide +kernel
def ws_R_holds : List Cond := Cond.code mn_R_holds bc_R_holds 2 ((some .boolean)) :: zt_tbl
def rm_R_holds : Room := { frames := 0, cells := 0, slots := 0, locals := 0 }
theorem hd_R_holds : mn_R_holds.cls = cn_R ∧ mn_R_holds.cls ≠ "java/lang/invoke/MethodHandle" ∧ mn_R_holds.cls ≠ "java/lang/invoke/VarHandle" ∧ (parseMethodDescriptor mn_R_holds.desc).map (fun d => d.parameters.length) = some 1 := by decide +kernel
theorem pn_R_holds : plainName mn_R_holds.cls = true := by decide +kernel
def ws_R_staying : List Cond := Cond.code mn_R_staying bc_R_staying 3 ((some .int)) :: zt_tbl
def rm_R_staying : Room := { frames := 0, cells := 0, slots := 0, locals := 0 }
theorem hd_R_staying : mn_R_staying.cls = cn_R ∧ mn_R_staying.cls ≠ "java/lang/invoke/MethodHandle" ∧ mn_R_staying.cls ≠ "java/lang/invoke/VarHandle" ∧ (parseMethodDescriptor mn_R_staying.desc).map (fun d => d.parameters.length) = some 1 := by decide +kernel
theorem pn_R_staying : plainName mn_R_staying.cls = true := by decide +kernel
def ws_T_searchNoteByNote : List Cond := Cond.code mn_T_searchNoteByNote bc_T_searchNoteByNote 5 none :: zt_tbl
def rm_T_searchNoteByNote : Room := { frames := 4, cells := 0, slots := 0, locals := 97 }
theorem hd_T_searchNoteByNote : mn_T_searchNoteByNote.cls = cn_T ∧ mn_T_searchNoteByNote.cls ≠ "java/lang/invoke/MethodHandle" ∧ mn_T_searchNoteByNote.cls ≠ "java/lang/invoke/VarHandle" ∧ (parseMethodDescriptor mn_T_searchNoteByNote.desc).map (fun d => d.parameters.length) = some 2 := by decide +kernel
theorem pn_T_searchNoteByNote : plainName mn_T_searchNoteByNote.cls = true := by decide +kernel
def ws_T_fits : List Cond := Cond.code mn_T_fits bc_T_fits 4 ((some .boolean)) :: zt_tbl
def rm_T_fits : Room := { frames := 3, cells := 0, slots := 0, locals := 64 }
theorem hd_T_fits : mn_T_fits.cls = cn_T ∧ mn_T_fits.cls ≠ "java/lang/invoke/MethodHandle" ∧ mn_T_fits.cls ≠ "java/lang/invoke/VarHandle" ∧ (parseMethodDescriptor mn_T_fits.desc).map (fun d => d.parameters.length) = some 3 := by decide +kernel
theorem pn_T_fits : plainName mn_T_fits.cls = true := by decide +kernel
def ws_T_sameSteps : List Cond := Cond.code mn_T_sameSteps bc_T_sameSteps 5 ((some .boolean)) :: zt_tbl
def rm_T_sameSteps : Room := { frames := 1, cells := 0, slots := 0, locals := 21 }
theorem hd_T_sameSteps : mn_T_sameSteps.cls = cn_T ∧ mn_T_sameSteps.cls ≠ "java/lang/invoke/MethodHandle" ∧ mn_T_sameSteps.cls ≠ "java/lang/invoke/VarHandle" ∧ (parseMethodDescriptor mn_T_sameSteps.desc).map (fun d => d.parameters.length) = some 4 := by decide +kernel
theorem pn_T_sameSteps : plainName mn_T_sameSteps.cls = true := by decide +kernel
def ws_T_sameRatio : List Cond := Cond.code mn_T_sameRatio bc_T_sameRatio 4 ((some .boolean)) :: zt_tbl
def rm_T_sameRatio : Room := { frames := 0, cells := 0, slots := 0, locals := 0 }
theorem hd_T_sameRatio : mn_T_sameRatio.cls = cn_T ∧ mn_T_sameRatio.cls ≠ "java/lang/invoke/MethodHandle" ∧ mn_T_sameRatio.cls ≠ "java/lang/invoke/VarHandle" ∧ (parseMethodDescriptor mn_T_sameRatio.desc).map (fun d => d.parameters.length) = some 3 := by decide +kernel
theorem pn_T_sameRatio : plainName mn_T_sameRatio.cls = true := by decide +kernel
def ws_T_sameContour : List Cond := Cond.code mn_T_sameContour bc_T_sameContour 4 ((some .boolean)) :: zt_tbl
def rm_T_sameContour : Room := { frames := 2, cells := 0, slots := 0, locals := 41 }
theorem hd_T_sameContour : mn_T_sameContour.cls = cn_T ∧ mn_T_sameContour.cls ≠ "java/lang/invoke/MethodHandle" ∧ mn_T_sameContour.cls ≠ "java/lang/invoke/VarHandle" ∧ (parseMethodDescriptor mn_T_sameContour.desc).map (fun d => d.parameters.length) = some 3 := by decide +kernel
theorem pn_T_sameContour : plainName mn_T_sameContour.cls = true := by decide +kernel
def ws_G_signum : List Cond := Cond.code mn_G_signum bc_G_signum 1 ((some .int)) :: zt_tbl
def rm_G_signum : Room := { frames := 0, cells := 0, slots := 0, locals := 0 }
theorem hd_G_signum : mn_G_signum.cls = cn_G ∧ mn_G_signum.cls ≠ "java/lang/invoke/MethodHandle" ∧ mn_G_signum.cls ≠ "java/lang/invoke/VarHandle" ∧ (parseMethodDescriptor mn_G_signum.desc).map (fun d => d.parameters.length) = some 1 := by decide +kernel
theorem pn_G_signum : plainName mn_G_signum.cls = true := by decide +kernel
def ws_T_match : List Cond := Cond.code mn_T_match bc_T_match 4 ((some .int)) :: zt_tbl
def rm_T_match : Room := { frames := 6, cells := 1, slots := 6, locals := 89 }
theorem hd_T_match : mn_T_match.cls = cn_T ∧ mn_T_match.cls ≠ "java/lang/invoke/MethodHandle" ∧ mn_T_match.cls ≠ "java/lang/invoke/VarHandle" ∧ (parseMethodDescriptor mn_T_match.desc).map (fun d => d.parameters.length) = some 2 := by decide +kernel
theorem pn_T_match : plainName mn_T_match.cls = true := by decide +kernel
def ws_F_upperOfScore : List Cond := Cond.code mn_F_upperOfScore bc_F_upperOfScore 2 ((some .int)) :: zt_tbl
def rm_F_upperOfScore : Room := { frames := 1, cells := 0, slots := 0, locals := 22 }
theorem hd_F_upperOfScore : mn_F_upperOfScore.cls = cn_F ∧ mn_F_upperOfScore.cls ≠ "java/lang/invoke/MethodHandle" ∧ mn_F_upperOfScore.cls ≠ "java/lang/invoke/VarHandle" ∧ (parseMethodDescriptor mn_F_upperOfScore.desc).map (fun d => d.parameters.length) = some 1 := by decide +kernel
theorem pn_F_upperOfScore : plainName mn_F_upperOfScore.cls = true := by decide +kernel
def ws_F_leastTerm : List Cond := Cond.code mn_F_leastTerm bc_F_leastTerm 3 ((some .int)) :: zt_tbl
def rm_F_leastTerm : Room := { frames := 0, cells := 0, slots := 0, locals := 0 }
theorem hd_F_leastTerm : mn_F_leastTerm.cls = cn_F ∧ mn_F_leastTerm.cls ≠ "java/lang/invoke/MethodHandle" ∧ mn_F_leastTerm.cls ≠ "java/lang/invoke/VarHandle" ∧ (parseMethodDescriptor mn_F_leastTerm.desc).map (fun d => d.parameters.length) = some 2 := by decide +kernel
theorem pn_F_leastTerm : plainName mn_F_leastTerm.cls = true := by decide +kernel
def ws_F_lowerOfScore : List Cond := Cond.code mn_F_lowerOfScore bc_F_lowerOfScore 2 ((some .int)) :: zt_tbl
def rm_F_lowerOfScore : Room := { frames := 1, cells := 0, slots := 0, locals := 22 }
theorem hd_F_lowerOfScore : mn_F_lowerOfScore.cls = cn_F ∧ mn_F_lowerOfScore.cls ≠ "java/lang/invoke/MethodHandle" ∧ mn_F_lowerOfScore.cls ≠ "java/lang/invoke/VarHandle" ∧ (parseMethodDescriptor mn_F_lowerOfScore.desc).map (fun d => d.parameters.length) = some 1 := by decide +kernel
theorem pn_F_lowerOfScore : plainName mn_F_lowerOfScore.cls = true := by decide +kernel
def ws_T_repeats : List Cond := Cond.code mn_T_repeats bc_T_repeats 4 ((some .int)) :: zt_tbl
def rm_T_repeats : Room := { frames := 7, cells := 2, slots := 12, locals := 110 }
theorem hd_T_repeats : mn_T_repeats.cls = cn_T ∧ mn_T_repeats.cls ≠ "java/lang/invoke/MethodHandle" ∧ mn_T_repeats.cls ≠ "java/lang/invoke/VarHandle" ∧ (parseMethodDescriptor mn_T_repeats.desc).map (fun d => d.parameters.length) = some 2 := by decide +kernel
theorem pn_T_repeats : plainName mn_T_repeats.cls = true := by decide +kernel
def ws_T_refuseUnlessLeast : List Cond := Cond.code mn_T_refuseUnlessLeast bc_T_refuseUnlessLeast 1 none :: zt_tbl
def rm_T_refuseUnlessLeast : Room := { frames := 6, cells := 1, slots := 6, locals := 89 }
theorem hd_T_refuseUnlessLeast : mn_T_refuseUnlessLeast.cls = cn_T ∧ mn_T_refuseUnlessLeast.cls ≠ "java/lang/invoke/MethodHandle" ∧ mn_T_refuseUnlessLeast.cls ≠ "java/lang/invoke/VarHandle" ∧ (parseMethodDescriptor mn_T_refuseUnlessLeast.desc).map (fun d => d.parameters.length) = some 1 := by decide +kernel
theorem pn_T_refuseUnlessLeast : plainName mn_T_refuseUnlessLeast.cls = true := by decide +kernel
def ws_W_walk : List Cond := Cond.code mn_W_walk bc_W_walk 8 ((some .int)) :: zt_tbl
def rm_W_walk : Room := { frames := 3, cells := 0, slots := 0, locals := 68 }
theorem hd_W_walk : mn_W_walk.cls = cn_W ∧ mn_W_walk.cls ≠ "java/lang/invoke/MethodHandle" ∧ mn_W_walk.cls ≠ "java/lang/invoke/VarHandle" ∧ (parseMethodDescriptor mn_W_walk.desc).map (fun d => d.parameters.length) = some 3 := by decide +kernel
theorem pn_W_walk : plainName mn_W_walk.cls = true := by decide +kernel
def ws_W_compare : List Cond := Cond.code mn_W_compare bc_W_compare 6 none :: zt_tbl
def rm_W_compare : Room := { frames := 2, cells := 0, slots := 0, locals := 41 }
theorem hd_W_compare : mn_W_compare.cls = cn_W ∧ mn_W_compare.cls ≠ "java/lang/invoke/MethodHandle" ∧ mn_W_compare.cls ≠ "java/lang/invoke/VarHandle" ∧ (parseMethodDescriptor mn_W_compare.desc).map (fun d => d.parameters.length) = some 2 := by decide +kernel
theorem pn_W_compare : plainName mn_W_compare.cls = true := by decide +kernel
def ws_W_placesOfRepeat : List Cond := Cond.code mn_W_placesOfRepeat bc_W_placesOfRepeat 8 ((some .int)) :: zt_tbl
def rm_W_placesOfRepeat : Room := { frames := 2, cells := 0, slots := 0, locals := 41 }
theorem hd_W_placesOfRepeat : mn_W_placesOfRepeat.cls = cn_W ∧ mn_W_placesOfRepeat.cls ≠ "java/lang/invoke/MethodHandle" ∧ mn_W_placesOfRepeat.cls ≠ "java/lang/invoke/VarHandle" ∧ (parseMethodDescriptor mn_W_placesOfRepeat.desc).map (fun d => d.parameters.length) = some 3 := by decide +kernel
theorem pn_W_placesOfRepeat : plainName mn_W_placesOfRepeat.cls = true := by decide +kernel
def ws_T_repeat : List Cond := Cond.code mn_T_repeat bc_T_repeat 6 ((some .int)) :: zt_tbl
def rm_T_repeat : Room := { frames := 7, cells := 3, slots := 18, locals := 110 }
theorem hd_T_repeat : mn_T_repeat.cls = cn_T ∧ mn_T_repeat.cls ≠ "java/lang/invoke/MethodHandle" ∧ mn_T_repeat.cls ≠ "java/lang/invoke/VarHandle" ∧ (parseMethodDescriptor mn_T_repeat.desc).map (fun d => d.parameters.length) = some 4 := by decide +kernel
theorem pn_T_repeat : plainName mn_T_repeat.cls = true := by decide +kernel
def ws_T_canon : List Cond := Cond.code mn_T_canon bc_T_canon 7 ((some .int)) :: zt_tbl
def rm_T_canon : Room := { frames := 7, cells := 3, slots := 18, locals := 110 }
theorem hd_T_canon : mn_T_canon.cls = cn_T ∧ mn_T_canon.cls ≠ "java/lang/invoke/MethodHandle" ∧ mn_T_canon.cls ≠ "java/lang/invoke/VarHandle" ∧ (parseMethodDescriptor mn_T_canon.desc).map (fun d => d.parameters.length) = some 3 := by decide +kernel
theorem pn_T_canon : plainName mn_T_canon.cls = true := by decide +kernel
def ws_T_sameLengths : List Cond := Cond.code mn_T_sameLengths bc_T_sameLengths 5 ((some .boolean)) :: zt_tbl
def rm_T_sameLengths : Room := { frames := 0, cells := 0, slots := 0, locals := 0 }
theorem hd_T_sameLengths : mn_T_sameLengths.cls = cn_T ∧ mn_T_sameLengths.cls ≠ "java/lang/invoke/MethodHandle" ∧ mn_T_sameLengths.cls ≠ "java/lang/invoke/VarHandle" ∧ (parseMethodDescriptor mn_T_sameLengths.desc).map (fun d => d.parameters.length) = some 4 := by decide +kernel
theorem pn_T_sameLengths : plainName mn_T_sameLengths.cls = true := by decide +kernel
def ws_T_opening : List Cond := Cond.code mn_T_opening bc_T_opening 7 ((some .int)) :: zt_tbl
def rm_T_opening : Room := { frames := 7, cells := 1, slots := 6, locals := 110 }
theorem hd_T_opening : mn_T_opening.cls = cn_T ∧ mn_T_opening.cls ≠ "java/lang/invoke/MethodHandle" ∧ mn_T_opening.cls ≠ "java/lang/invoke/VarHandle" ∧ (parseMethodDescriptor mn_T_opening.desc).map (fun d => d.parameters.length) = some 2 := by decide +kernel
theorem pn_T_opening : plainName mn_T_opening.cls = true := by decide +kernel
def ws_T_stepsSharedAtFirst : List Cond := Cond.code mn_T_stepsSharedAtFirst bc_T_stepsSharedAtFirst 4 ((some .int)) :: zt_tbl
def rm_T_stepsSharedAtFirst : Room := { frames := 2, cells := 0, slots := 0, locals := 41 }
theorem hd_T_stepsSharedAtFirst : mn_T_stepsSharedAtFirst.cls = cn_T ∧ mn_T_stepsSharedAtFirst.cls ≠ "java/lang/invoke/MethodHandle" ∧ mn_T_stepsSharedAtFirst.cls ≠ "java/lang/invoke/VarHandle" ∧ (parseMethodDescriptor mn_T_stepsSharedAtFirst.desc).map (fun d => d.parameters.length) = some 2 := by decide +kernel
theorem pn_T_stepsSharedAtFirst : plainName mn_T_stepsSharedAtFirst.cls = true := by decide +kernel
def ws_M_init : List Cond := Cond.code mn_M_init bc_M_init 1 none :: zt_tbl
theorem hd_M_init : mn_M_init.cls ≠ "java/lang/invoke/MethodHandle" ∧ mn_M_init.cls ≠ "java/lang/invoke/VarHandle" ∧ (parseMethodDescriptor mn_M_init.desc).map (fun d => d.parameters.length) = some 0 := by decide +kernel
theorem pn_M_init : plainName mn_M_init.cls = true := by decide +kernel
def ws_M_thrown : List Cond := Cond.code mn_M_thrown bc_M_thrown 1 ((some .int)) :: zt_tbl
def rm_M_thrown : Room := { frames := 0, cells := 0, slots := 0, locals := 0 }
theorem hd_M_thrown : mn_M_thrown.cls = cn_M ∧ mn_M_thrown.cls ≠ "java/lang/invoke/MethodHandle" ∧ mn_M_thrown.cls ≠ "java/lang/invoke/VarHandle" ∧ (parseMethodDescriptor mn_M_thrown.desc).map (fun d => d.parameters.length) = some 0 := by decide +kernel
theorem pn_M_thrown : plainName mn_M_thrown.cls = true := by decide +kernel
def ws_M_tune : List Cond := Cond.code mn_M_tune bc_M_tune 2 none :: zt_tbl
def rm_M_tune : Room := { frames := 0, cells := 0, slots := 0, locals := 0 }
theorem hd_M_tune : mn_M_tune.cls = cn_M ∧ mn_M_tune.cls ≠ "java/lang/invoke/MethodHandle" ∧ mn_M_tune.cls ≠ "java/lang/invoke/VarHandle" ∧ (parseMethodDescriptor mn_M_tune.desc).map (fun d => d.parameters.length) = some 1 := by decide +kernel
theorem pn_M_tune : plainName mn_M_tune.cls = true := by decide +kernel
def ws_M_drop : List Cond := Cond.code mn_M_drop bc_M_drop 2 none :: zt_tbl
def rm_M_drop : Room := { frames := 1, cells := 0, slots := 0, locals := 21 }
theorem hd_M_drop : mn_M_drop.cls = cn_M ∧ mn_M_drop.cls ≠ "java/lang/invoke/MethodHandle" ∧ mn_M_drop.cls ≠ "java/lang/invoke/VarHandle" ∧ (parseMethodDescriptor mn_M_drop.desc).map (fun d => d.parameters.length) = some 1 := by decide +kernel
theorem pn_M_drop : plainName mn_M_drop.cls = true := by decide +kernel
def ws_M_noTune : List Cond := Cond.code mn_M_noTune bc_M_noTune 2 ((some .boolean)) :: zt_tbl
def rm_M_noTune : Room := { frames := 0, cells := 0, slots := 0, locals := 0 }
theorem hd_M_noTune : mn_M_noTune.cls = cn_M ∧ mn_M_noTune.cls ≠ "java/lang/invoke/MethodHandle" ∧ mn_M_noTune.cls ≠ "java/lang/invoke/VarHandle" ∧ (parseMethodDescriptor mn_M_noTune.desc).map (fun d => d.parameters.length) = some 1 := by decide +kernel
theorem pn_M_noTune : plainName mn_M_noTune.cls = true := by decide +kernel
def ws_M_note : List Cond := Cond.code mn_M_note bc_M_note 4 ((some .int)) :: zt_tbl
def rm_M_note : Room := { frames := 1, cells := 0, slots := 0, locals := 23 }
theorem hd_M_note : mn_M_note.cls = cn_M ∧ mn_M_note.cls ≠ "java/lang/invoke/MethodHandle" ∧ mn_M_note.cls ≠ "java/lang/invoke/VarHandle" ∧ (parseMethodDescriptor mn_M_note.desc).map (fun d => d.parameters.length) = some 3 := by decide +kernel
theorem pn_M_note : plainName mn_M_note.cls = true := by decide +kernel
def ws_M_noNote : List Cond := Cond.code mn_M_noNote bc_M_noNote 2 ((some .boolean)) :: zt_tbl
def rm_M_noNote : Room := { frames := 0, cells := 0, slots := 0, locals := 0 }
theorem hd_M_noNote : mn_M_noNote.cls = cn_M ∧ mn_M_noNote.cls ≠ "java/lang/invoke/MethodHandle" ∧ mn_M_noNote.cls ≠ "java/lang/invoke/VarHandle" ∧ (parseMethodDescriptor mn_M_noNote.desc).map (fun d => d.parameters.length) = some 2 := by decide +kernel
theorem pn_M_noNote : plainName mn_M_noNote.cls = true := by decide +kernel
def ws_M_spot : List Cond := Cond.code mn_M_spot bc_M_spot 4 ((some .int)) :: zt_tbl
def rm_M_spot : Room := { frames := 0, cells := 0, slots := 0, locals := 0 }
theorem hd_M_spot : mn_M_spot.cls = cn_M ∧ mn_M_spot.cls ≠ "java/lang/invoke/MethodHandle" ∧ mn_M_spot.cls ≠ "java/lang/invoke/VarHandle" ∧ (parseMethodDescriptor mn_M_spot.desc).map (fun d => d.parameters.length) = some 3 := by decide +kernel
theorem pn_M_spot : plainName mn_M_spot.cls = true := by decide +kernel
def ws_M_show : List Cond := Cond.code mn_M_show bc_M_show 3 none :: zt_tbl
def rm_M_show : Room := { frames := 1, cells := 0, slots := 0, locals := 21 }
theorem hd_M_show : mn_M_show.cls = cn_M ∧ mn_M_show.cls ≠ "java/lang/invoke/MethodHandle" ∧ mn_M_show.cls ≠ "java/lang/invoke/VarHandle" ∧ (parseMethodDescriptor mn_M_show.desc).map (fun d => d.parameters.length) = some 2 := by decide +kernel
theorem pn_M_show : plainName mn_M_show.cls = true := by decide +kernel
def ws_M_correct : List Cond := Cond.code mn_M_correct bc_M_correct 7 ((some .int)) :: zt_tbl
def rm_M_correct : Room := { frames := 1, cells := 0, slots := 0, locals := 23 }
theorem hd_M_correct : mn_M_correct.cls = cn_M ∧ mn_M_correct.cls ≠ "java/lang/invoke/MethodHandle" ∧ mn_M_correct.cls ≠ "java/lang/invoke/VarHandle" ∧ (parseMethodDescriptor mn_M_correct.desc).map (fun d => d.parameters.length) = some 4 := by decide +kernel
theorem pn_M_correct : plainName mn_M_correct.cls = true := by decide +kernel
def ws_M_restore : List Cond := Cond.code mn_M_restore bc_M_restore 3 none :: zt_tbl
def rm_M_restore : Room := { frames := 1, cells := 0, slots := 0, locals := 21 }
theorem hd_M_restore : mn_M_restore.cls = cn_M ∧ mn_M_restore.cls ≠ "java/lang/invoke/MethodHandle" ∧ mn_M_restore.cls ≠ "java/lang/invoke/VarHandle" ∧ (parseMethodDescriptor mn_M_restore.desc).map (fun d => d.parameters.length) = some 2 := by decide +kernel
theorem pn_M_restore : plainName mn_M_restore.cls = true := by decide +kernel
def ws_M_at : List Cond := Cond.code mn_M_at bc_M_at 7 ((some .int)) :: zt_tbl
def rm_M_at : Room := { frames := 1, cells := 0, slots := 0, locals := 23 }
theorem hd_M_at : mn_M_at.cls = cn_M ∧ mn_M_at.cls ≠ "java/lang/invoke/MethodHandle" ∧ mn_M_at.cls ≠ "java/lang/invoke/VarHandle" ∧ (parseMethodDescriptor mn_M_at.desc).map (fun d => d.parameters.length) = some 4 := by decide +kernel
theorem pn_M_at : plainName mn_M_at.cls = true := by decide +kernel
def ws_M_about : List Cond := Cond.code mn_M_about bc_M_about 3 ((some .int)) :: zt_tbl
def rm_M_about : Room := { frames := 1, cells := 0, slots := 0, locals := 21 }
theorem hd_M_about : mn_M_about.cls = cn_M ∧ mn_M_about.cls ≠ "java/lang/invoke/MethodHandle" ∧ mn_M_about.cls ≠ "java/lang/invoke/VarHandle" ∧ (parseMethodDescriptor mn_M_about.desc).map (fun d => d.parameters.length) = some 2 := by decide +kernel
theorem pn_M_about : plainName mn_M_about.cls = true := by decide +kernel
def ws_M_contour : List Cond := Cond.code mn_M_contour bc_M_contour 4 ((some .int)) :: zt_tbl
def rm_M_contour : Room := { frames := 3, cells := 0, slots := 0, locals := 67 }
theorem hd_M_contour : mn_M_contour.cls = cn_M ∧ mn_M_contour.cls ≠ "java/lang/invoke/MethodHandle" ∧ mn_M_contour.cls ≠ "java/lang/invoke/VarHandle" ∧ (parseMethodDescriptor mn_M_contour.desc).map (fun d => d.parameters.length) = some 2 := by decide +kernel
theorem pn_M_contour : plainName mn_M_contour.cls = true := by decide +kernel
def ws_M_step : List Cond := Cond.code mn_M_step bc_M_step 3 ((some .int)) :: zt_tbl
def rm_M_step : Room := { frames := 2, cells := 0, slots := 0, locals := 45 }
theorem hd_M_step : mn_M_step.cls = cn_M ∧ mn_M_step.cls ≠ "java/lang/invoke/MethodHandle" ∧ mn_M_step.cls ≠ "java/lang/invoke/VarHandle" ∧ (parseMethodDescriptor mn_M_step.desc).map (fun d => d.parameters.length) = some 2 := by decide +kernel
theorem pn_M_step : plainName mn_M_step.cls = true := by decide +kernel
def ws_M_pitch : List Cond := Cond.code mn_M_pitch bc_M_pitch 3 ((some .int)) :: zt_tbl
def rm_M_pitch : Room := { frames := 1, cells := 0, slots := 0, locals := 23 }
theorem hd_M_pitch : mn_M_pitch.cls = cn_M ∧ mn_M_pitch.cls ≠ "java/lang/invoke/MethodHandle" ∧ mn_M_pitch.cls ≠ "java/lang/invoke/VarHandle" ∧ (parseMethodDescriptor mn_M_pitch.desc).map (fun d => d.parameters.length) = some 2 := by decide +kernel
theorem pn_M_pitch : plainName mn_M_pitch.cls = true := by decide +kernel
def ws_M_sign : List Cond := Cond.code mn_M_sign bc_M_sign 1 ((some .int)) :: zt_tbl
def rm_M_sign : Room := { frames := 0, cells := 0, slots := 0, locals := 0 }
theorem hd_M_sign : mn_M_sign.cls = cn_M ∧ mn_M_sign.cls ≠ "java/lang/invoke/MethodHandle" ∧ mn_M_sign.cls ≠ "java/lang/invoke/VarHandle" ∧ (parseMethodDescriptor mn_M_sign.desc).map (fun d => d.parameters.length) = some 1 := by decide +kernel
theorem pn_M_sign : plainName mn_M_sign.cls = true := by decide +kernel
def ws_M_ask : List Cond := Cond.code mn_M_ask bc_M_ask 3 ((some .int)) :: zt_tbl
def rm_M_ask : Room := { frames := 1, cells := 0, slots := 0, locals := 21 }
theorem hd_M_ask : mn_M_ask.cls = cn_M ∧ mn_M_ask.cls ≠ "java/lang/invoke/MethodHandle" ∧ mn_M_ask.cls ≠ "java/lang/invoke/VarHandle" ∧ (parseMethodDescriptor mn_M_ask.desc).map (fun d => d.parameters.length) = some 2 := by decide +kernel
theorem pn_M_ask : plainName mn_M_ask.cls = true := by decide +kernel
def ws_M_forget : List Cond := Cond.code mn_M_forget bc_M_forget 1 none :: zt_tbl
def rm_M_forget : Room := { frames := 0, cells := 0, slots := 0, locals := 0 }
theorem hd_M_forget : mn_M_forget.cls = cn_M ∧ mn_M_forget.cls ≠ "java/lang/invoke/MethodHandle" ∧ mn_M_forget.cls ≠ "java/lang/invoke/VarHandle" ∧ (parseMethodDescriptor mn_M_forget.desc).map (fun d => d.parameters.length) = some 0 := by decide +kernel
theorem pn_M_forget : plainName mn_M_forget.cls = true := by decide +kernel
def ws_M_search : List Cond := Cond.code mn_M_search bc_M_search 7 ((some .int)) :: zt_tbl
def rm_M_search : Room := { frames := 6, cells := 0, slots := 0, locals := 148 }
theorem hd_M_search : mn_M_search.cls = cn_M ∧ mn_M_search.cls ≠ "java/lang/invoke/MethodHandle" ∧ mn_M_search.cls ≠ "java/lang/invoke/VarHandle" ∧ (parseMethodDescriptor mn_M_search.desc).map (fun d => d.parameters.length) = some 2 := by decide +kernel
theorem pn_M_search : plainName mn_M_search.cls = true := by decide +kernel
def ws_M_part : List Cond := Cond.code mn_M_part bc_M_part 7 ((some .int)) :: zt_tbl
def rm_M_part : Room := { frames := 5, cells := 0, slots := 0, locals := 122 }
theorem hd_M_part : mn_M_part.cls = cn_M ∧ mn_M_part.cls ≠ "java/lang/invoke/MethodHandle" ∧ mn_M_part.cls ≠ "java/lang/invoke/VarHandle" ∧ (parseMethodDescriptor mn_M_part.desc).map (fun d => d.parameters.length) = some 5 := by decide +kernel
theorem pn_M_part : plainName mn_M_part.cls = true := by decide +kernel
def ws_M_plain : List Cond := Cond.code mn_M_plain bc_M_plain 10 ((some .boolean)) :: zt_tbl
def rm_M_plain : Room := { frames := 3, cells := 0, slots := 0, locals := 67 }
theorem hd_M_plain : mn_M_plain.cls = cn_M ∧ mn_M_plain.cls ≠ "java/lang/invoke/MethodHandle" ∧ mn_M_plain.cls ≠ "java/lang/invoke/VarHandle" ∧ (parseMethodDescriptor mn_M_plain.desc).map (fun d => d.parameters.length) = some 3 := by decide +kernel
theorem pn_M_plain : plainName mn_M_plain.cls = true := by decide +kernel
def ws_M_askedStep : List Cond := Cond.code mn_M_askedStep bc_M_askedStep 2 ((some .int)) :: zt_tbl
def rm_M_askedStep : Room := { frames := 0, cells := 0, slots := 0, locals := 0 }
theorem hd_M_askedStep : mn_M_askedStep.cls = cn_M ∧ mn_M_askedStep.cls ≠ "java/lang/invoke/MethodHandle" ∧ mn_M_askedStep.cls ≠ "java/lang/invoke/VarHandle" ∧ (parseMethodDescriptor mn_M_askedStep.desc).map (fun d => d.parameters.length) = some 1 := by decide +kernel
theorem pn_M_askedStep : plainName mn_M_askedStep.cls = true := by decide +kernel
def ws_M_lengthOf : List Cond := Cond.code mn_M_lengthOf bc_M_lengthOf 3 ((some .int)) :: zt_tbl
def rm_M_lengthOf : Room := { frames := 1, cells := 0, slots := 0, locals := 23 }
theorem hd_M_lengthOf : mn_M_lengthOf.cls = cn_M ∧ mn_M_lengthOf.cls ≠ "java/lang/invoke/MethodHandle" ∧ mn_M_lengthOf.cls ≠ "java/lang/invoke/VarHandle" ∧ (parseMethodDescriptor mn_M_lengthOf.desc).map (fun d => d.parameters.length) = some 2 := by decide +kernel
theorem pn_M_lengthOf : plainName mn_M_lengthOf.cls = true := by decide +kernel
def ws_M_outlines : List Cond := Cond.code mn_M_outlines bc_M_outlines 10 ((some .boolean)) :: zt_tbl
def rm_M_outlines : Room := { frames := 2, cells := 0, slots := 0, locals := 45 }
theorem hd_M_outlines : mn_M_outlines.cls = cn_M ∧ mn_M_outlines.cls ≠ "java/lang/invoke/MethodHandle" ∧ mn_M_outlines.cls ≠ "java/lang/invoke/VarHandle" ∧ (parseMethodDescriptor mn_M_outlines.desc).map (fun d => d.parameters.length) = some 4 := by decide +kernel
theorem pn_M_outlines : plainName mn_M_outlines.cls = true := by decide +kernel
def ws_M_near : List Cond := Cond.code mn_M_near bc_M_near 5 ((some .boolean)) :: zt_tbl
def rm_M_near : Room := { frames := 4, cells := 0, slots := 0, locals := 98 }
theorem hd_M_near : mn_M_near.cls = cn_M ∧ mn_M_near.cls ≠ "java/lang/invoke/MethodHandle" ∧ mn_M_near.cls ≠ "java/lang/invoke/VarHandle" ∧ (parseMethodDescriptor mn_M_near.desc).map (fun d => d.parameters.length) = some 4 := by decide +kernel
theorem pn_M_near : plainName mn_M_near.cls = true := by decide +kernel
def ws_M_distance : List Cond := Cond.code mn_M_distance bc_M_distance 12 ((some .int)) :: zt_tbl
def rm_M_distance : Room := { frames := 3, cells := 0, slots := 0, locals := 67 }
theorem hd_M_distance : mn_M_distance.cls = cn_M ∧ mn_M_distance.cls ≠ "java/lang/invoke/MethodHandle" ∧ mn_M_distance.cls ≠ "java/lang/invoke/VarHandle" ∧ (parseMethodDescriptor mn_M_distance.desc).map (fun d => d.parameters.length) = some 3 := by decide +kernel
theorem pn_M_distance : plainName mn_M_distance.cls = true := by decide +kernel
def ws_M_leads : List Cond := Cond.code mn_M_leads bc_M_leads 5 ((some .boolean)) :: zt_tbl
def rm_M_leads : Room := { frames := 0, cells := 0, slots := 0, locals := 0 }
theorem hd_M_leads : mn_M_leads.cls = cn_M ∧ mn_M_leads.cls ≠ "java/lang/invoke/MethodHandle" ∧ mn_M_leads.cls ≠ "java/lang/invoke/VarHandle" ∧ (parseMethodDescriptor mn_M_leads.desc).map (fun d => d.parameters.length) = some 2 := by decide +kernel
theorem pn_M_leads : plainName mn_M_leads.cls = true := by decide +kernel
def ws_M_divisor : List Cond := Cond.code mn_M_divisor bc_M_divisor 3 ((some .int)) :: zt_tbl
def rm_M_divisor : Room := { frames := 0, cells := 0, slots := 0, locals := 0 }
theorem hd_M_divisor : mn_M_divisor.cls = cn_M ∧ mn_M_divisor.cls ≠ "java/lang/invoke/MethodHandle" ∧ mn_M_divisor.cls ≠ "java/lang/invoke/VarHandle" ∧ (parseMethodDescriptor mn_M_divisor.desc).map (fun d => d.parameters.length) = some 2 := by decide +kernel
theorem pn_M_divisor : plainName mn_M_divisor.cls = true := by decide +kernel
def ws_M_match : List Cond := Cond.code mn_M_match bc_M_match 3 ((some .int)) :: zt_tbl
def rm_M_match : Room := { frames := 0, cells := 0, slots := 0, locals := 0 }
theorem hd_M_match : mn_M_match.cls = cn_M ∧ mn_M_match.cls ≠ "java/lang/invoke/MethodHandle" ∧ mn_M_match.cls ≠ "java/lang/invoke/VarHandle" ∧ (parseMethodDescriptor mn_M_match.desc).map (fun d => d.parameters.length) = some 2 := by decide +kernel
theorem pn_M_match : plainName mn_M_match.cls = true := by decide +kernel
def ws_M_repeats : List Cond := Cond.code mn_M_repeats bc_M_repeats 6 ((some .int)) :: zt_tbl
def rm_M_repeats : Room := { frames := 5, cells := 0, slots := 0, locals := 120 }
theorem hd_M_repeats : mn_M_repeats.cls = cn_M ∧ mn_M_repeats.cls ≠ "java/lang/invoke/MethodHandle" ∧ mn_M_repeats.cls ≠ "java/lang/invoke/VarHandle" ∧ (parseMethodDescriptor mn_M_repeats.desc).map (fun d => d.parameters.length) = some 2 := by decide +kernel
theorem pn_M_repeats : plainName mn_M_repeats.cls = true := by decide +kernel
def ws_M_places : List Cond := Cond.code mn_M_places bc_M_places 8 ((some .int)) :: zt_tbl
def rm_M_places : Room := { frames := 4, cells := 0, slots := 0, locals := 93 }
theorem hd_M_places : mn_M_places.cls = cn_M ∧ mn_M_places.cls ≠ "java/lang/invoke/MethodHandle" ∧ mn_M_places.cls ≠ "java/lang/invoke/VarHandle" ∧ (parseMethodDescriptor mn_M_places.desc).map (fun d => d.parameters.length) = some 3 := by decide +kernel
theorem pn_M_places : plainName mn_M_places.cls = true := by decide +kernel
def ws_M_sameSteps : List Cond := Cond.code mn_M_sameSteps bc_M_sameSteps 7 ((some .boolean)) :: zt_tbl
def rm_M_sameSteps : Room := { frames := 3, cells := 0, slots := 0, locals := 67 }
theorem hd_M_sameSteps : mn_M_sameSteps.cls = cn_M ∧ mn_M_sameSteps.cls ≠ "java/lang/invoke/MethodHandle" ∧ mn_M_sameSteps.cls ≠ "java/lang/invoke/VarHandle" ∧ (parseMethodDescriptor mn_M_sameSteps.desc).map (fun d => d.parameters.length) = some 4 := by decide +kernel
theorem pn_M_sameSteps : plainName mn_M_sameSteps.cls = true := by decide +kernel
def ws_M_hasStep : List Cond := Cond.code mn_M_hasStep bc_M_hasStep 3 ((some .boolean)) :: zt_tbl
def rm_M_hasStep : Room := { frames := 0, cells := 0, slots := 0, locals := 0 }
theorem hd_M_hasStep : mn_M_hasStep.cls = cn_M ∧ mn_M_hasStep.cls ≠ "java/lang/invoke/MethodHandle" ∧ mn_M_hasStep.cls ≠ "java/lang/invoke/VarHandle" ∧ (parseMethodDescriptor mn_M_hasStep.desc).map (fun d => d.parameters.length) = some 2 := by decide +kernel
theorem pn_M_hasStep : plainName mn_M_hasStep.cls = true := by decide +kernel
def ws_M_repeat : List Cond := Cond.code mn_M_repeat bc_M_repeat 9 ((some .int)) :: zt_tbl
def rm_M_repeat : Room := { frames := 5, cells := 0, slots := 0, locals := 120 }
theorem hd_M_repeat : mn_M_repeat.cls = cn_M ∧ mn_M_repeat.cls ≠ "java/lang/invoke/MethodHandle" ∧ mn_M_repeat.cls ≠ "java/lang/invoke/VarHandle" ∧ (parseMethodDescriptor mn_M_repeat.desc).map (fun d => d.parameters.length) = some 4 := by decide +kernel
theorem pn_M_repeat : plainName mn_M_repeat.cls = true := by decide +kernel
def ws_M_canon : List Cond := Cond.code mn_M_canon bc_M_canon 7 ((some .int)) :: zt_tbl
def rm_M_canon : Room := { frames := 2, cells := 0, slots := 0, locals := 45 }
theorem hd_M_canon : mn_M_canon.cls = cn_M ∧ mn_M_canon.cls ≠ "java/lang/invoke/MethodHandle" ∧ mn_M_canon.cls ≠ "java/lang/invoke/VarHandle" ∧ (parseMethodDescriptor mn_M_canon.desc).map (fun d => d.parameters.length) = some 3 := by decide +kernel
theorem pn_M_canon : plainName mn_M_canon.cls = true := by decide +kernel
def ws_M_opening : List Cond := Cond.code mn_M_opening bc_M_opening 9 ((some .int)) :: zt_tbl
def rm_M_opening : Room := { frames := 4, cells := 0, slots := 0, locals := 90 }
theorem hd_M_opening : mn_M_opening.cls = cn_M ∧ mn_M_opening.cls ≠ "java/lang/invoke/MethodHandle" ∧ mn_M_opening.cls ≠ "java/lang/invoke/VarHandle" ∧ (parseMethodDescriptor mn_M_opening.desc).map (fun d => d.parameters.length) = some 2 := by decide +kernel
theorem pn_M_opening : plainName mn_M_opening.cls = true := by decide +kernel
def ws_M_sharing : List Cond := Cond.code mn_M_sharing bc_M_sharing 4 ((some .int)) :: zt_tbl
def rm_M_sharing : Room := { frames := 3, cells := 0, slots := 0, locals := 67 }
theorem hd_M_sharing : mn_M_sharing.cls = cn_M ∧ mn_M_sharing.cls ≠ "java/lang/invoke/MethodHandle" ∧ mn_M_sharing.cls ≠ "java/lang/invoke/VarHandle" ∧ (parseMethodDescriptor mn_M_sharing.desc).map (fun d => d.parameters.length) = some 2 := by decide +kernel
theorem pn_M_sharing : plainName mn_M_sharing.cls = true := by decide +kernel
theorem gv_T_125 : GoodIn zt_tbl (wsV cn_T 125 cn_N mn_N_clear ws_N_clear) := zt_V ml_T_125 im_N_clear se_N_clear ini_N wk_N_clear
theorem gv_L_7 : GoodIn zt_tbl (wsV cn_L 7 cn_T mn_T_tune ws_T_tune) := zt_V ml_L_7 im_T_tune se_T_tune ini_T wk_T_tune
theorem gv_T_60 : GoodIn zt_tbl (wsV cn_T 60 cn_U mn_U_begin ws_U_begin) := zt_V ml_T_60 im_U_begin se_U_begin ini_U wk_U_begin
theorem gv_U_27 : GoodIn zt_tbl (wsV cn_U 27 cn_N mn_N_clear ws_N_clear) := zt_V ml_U_27 im_N_clear se_N_clear ini_N wk_N_clear
theorem gv_L_17 : GoodIn zt_tbl (wsV cn_L 17 cn_T mn_T_drop ws_T_drop) := zt_V ml_L_17 im_T_drop se_T_drop ini_T wk_T_drop
theorem gv_T_63 : GoodIn zt_tbl (wsV cn_T 63 cn_T mn_T_existing ws_T_existing) := zt_V ml_T_63 im_T_existing se_T_existing ini_T wk_T_existing
theorem gv_T_67 : GoodIn zt_tbl (wsV cn_T 67 cn_U mn_U_end ws_U_end) := zt_V ml_T_67 im_U_end se_U_end ini_U wk_U_end
theorem gv_L_20 : GoodIn zt_tbl (wsV cn_L 20 cn_T mn_T_note ws_T_note) := zt_V ml_L_20 im_T_note se_T_note ini_T wk_T_note
theorem gv_T_70 : GoodIn zt_tbl (wsS cn_T 70 mn_T_refuseUnlessNote ws_T_refuseUnlessNote) := zt_S ml_T_70 sm_T_refuseUnlessNote ini_T wk_T_refuseUnlessNote
theorem gv_T_87 : GoodIn zt_tbl (wsV cn_T 87 cn_N mn_N_append ws_N_append) := zt_V ml_T_87 im_N_append se_N_append ini_N wk_N_append
theorem gv_N_20 : GoodIn zt_tbl (wsV cn_N 20 cn_N mn_N_put ws_N_put) := zt_V ml_N_20 im_N_put se_N_put ini_N wk_N_put
theorem gv_L_26 : GoodIn zt_tbl (wsV cn_L 26 cn_T mn_T_show ws_T_show) := zt_V ml_L_26 im_T_show se_T_show ini_T wk_T_show
theorem gv_L_30 : GoodIn zt_tbl (wsV cn_L 30 cn_T mn_T_correct ws_T_correct) := zt_V ml_L_30 im_T_correct se_T_correct ini_T wk_T_correct
theorem gv_T_91 : GoodIn zt_tbl (wsS cn_T 91 mn_T_refuseUnlessPlace ws_T_refuseUnlessPlace) := zt_S ml_T_91 sm_T_refuseUnlessPlace ini_T wk_T_refuseUnlessPlace
theorem gv_T_95 : GoodIn zt_tbl (wsV cn_T 95 cn_U mn_U_replace ws_U_replace) := zt_V ml_T_95 im_U_replace se_U_replace ini_U wk_U_replace
theorem gv_U_47 : GoodIn zt_tbl (wsV cn_U 47 cn_N mn_N_put ws_N_put) := zt_V ml_U_47 im_N_put se_N_put ini_N wk_N_put
theorem gv_L_34 : GoodIn zt_tbl (wsV cn_L 34 cn_T mn_T_restore ws_T_restore) := zt_V ml_L_34 im_T_restore se_T_restore ini_T wk_T_restore
theorem gv_T_99 : GoodIn zt_tbl (wsS cn_T 99 mn_T_refuseUnlessReading ws_T_refuseUnlessReading) := zt_S ml_T_99 sm_T_refuseUnlessReading ini_T wk_T_refuseUnlessReading
theorem gv_T_102 : GoodIn zt_tbl (wsV cn_T 102 cn_U mn_U_goBack ws_U_goBack) := zt_V ml_T_102 im_U_goBack se_U_goBack ini_U wk_U_goBack
theorem gv_L_38 : GoodIn zt_tbl (wsV cn_L 38 cn_T mn_T_at ws_T_at) := zt_V ml_L_38 im_T_at se_T_at ini_T wk_T_at
theorem gv_T_105 : GoodIn zt_tbl (wsV cn_T 105 cn_U mn_U_pitchIn ws_U_pitchIn) := zt_V ml_T_105 im_U_pitchIn se_U_pitchIn ini_U wk_U_pitchIn
theorem gv_T_108 : GoodIn zt_tbl (wsV cn_T 108 cn_U mn_U_lengthIn ws_U_lengthIn) := zt_V ml_T_108 im_U_lengthIn se_U_lengthIn ini_U wk_U_lengthIn
theorem gv_T_111 : GoodIn zt_tbl (wsV cn_T 111 cn_U mn_U_stepIn ws_U_stepIn) := zt_V ml_T_111 im_U_stepIn se_U_stepIn ini_U wk_U_stepIn
theorem gv_U_51 : GoodIn zt_tbl (wsV cn_U 51 cn_U mn_U_replacedAfter ws_U_replacedAfter) := zt_V ml_U_51 im_U_replacedAfter se_U_replacedAfter ini_U wk_U_replacedAfter
theorem gv_U_58 : GoodIn zt_tbl (wsV cn_U 58 cn_U mn_U_pitchIn ws_U_pitchIn) := zt_V ml_U_58 im_U_pitchIn se_U_pitchIn ini_U wk_U_pitchIn
theorem gv_L_41 : GoodIn zt_tbl (wsV cn_L 41 cn_T mn_T_about ws_T_about) := zt_V ml_L_41 im_T_about se_T_about ini_T wk_T_about
theorem gv_L_45 : GoodIn zt_tbl (wsV cn_L 45 cn_T mn_T_contour ws_T_contour) := zt_V ml_L_45 im_T_contour se_T_contour ini_T wk_T_contour
theorem gv_T_117 : GoodIn zt_tbl (wsV cn_T 117 cn_N mn_N_steps ws_N_steps) := zt_V ml_T_117 im_N_steps se_N_steps ini_N wk_N_steps
theorem gv_T_121 : GoodIn zt_tbl (wsV cn_T 121 cn_N mn_N_stepBehind ws_N_stepBehind) := zt_V ml_T_121 im_N_stepBehind se_N_stepBehind ini_N wk_N_stepBehind
theorem gv_L_48 : GoodIn zt_tbl (wsV cn_L 48 cn_T mn_T_ask ws_T_ask) := zt_V ml_L_48 im_T_ask se_T_ask ini_T wk_T_ask
theorem gv_L_51 : GoodIn zt_tbl (wsV cn_L 51 cn_T mn_T_search ws_T_search) := zt_V ml_L_51 im_T_search se_T_search ini_T wk_T_search
theorem gv_T_128 : GoodIn zt_tbl (wsV cn_T 128 cn_F mn_F_begin ws_F_begin) := zt_V ml_T_128 im_F_begin se_F_begin ini_F wk_F_begin
theorem gv_T_130 : GoodIn zt_tbl (wsV cn_T 130 cn_T mn_T_searchTune ws_T_searchTune) := zt_V ml_T_130 im_T_searchTune se_T_searchTune ini_T wk_T_searchTune
theorem gv_T_192 : GoodIn zt_tbl (wsV cn_T 192 cn_T mn_T_searchOutline ws_T_searchOutline) := zt_V ml_T_192 im_T_searchOutline se_T_searchOutline ini_T wk_T_searchOutline
theorem gv_T_195 : GoodIn zt_tbl (wsV cn_T 195 cn_T mn_T_searchNear ws_T_searchNear) := zt_V ml_T_195 im_T_searchNear se_T_searchNear ini_T wk_T_searchNear
theorem gv_T_198 : GoodIn zt_tbl (wsV cn_T 198 cn_T mn_T_searchNoteByNote ws_T_searchNoteByNote) := zt_V ml_T_198 im_T_searchNoteByNote se_T_searchNoteByNote ini_T wk_T_searchNoteByNote
theorem gv_T_216 : GoodIn zt_tbl (wsV cn_T 216 cn_T mn_T_outlineEnds ws_T_outlineEnds) := zt_V ml_T_216 im_T_outlineEnds se_T_outlineEnds ini_T wk_T_outlineEnds
theorem gv_T_205 : GoodIn zt_tbl (wsV cn_T 205 cn_T mn_T_offer ws_T_offer) := zt_V ml_T_205 im_T_offer se_T_offer ini_T wk_T_offer
theorem gv_T_222 : GoodIn zt_tbl (wsV cn_T 222 cn_N mn_N_placesOfPitch ws_N_placesOfPitch) := zt_V ml_T_222 im_N_placesOfPitch se_N_placesOfPitch ini_N wk_N_placesOfPitch
theorem gv_T_241 : GoodIn zt_tbl (wsV cn_T 241 cn_F mn_F_add ws_F_add) := zt_V ml_T_241 im_F_add se_F_add ini_F wk_F_add
theorem gv_F_28 : GoodIn zt_tbl (wsV cn_F 28 cn_F mn_F_rankOf ws_F_rankOf) := zt_V ml_F_28 im_F_rankOf se_F_rankOf ini_F wk_F_rankOf
theorem gv_F_32 : GoodIn zt_tbl (wsV cn_F 32 cn_F mn_F_makeRoom ws_F_makeRoom) := zt_V ml_F_32 im_F_makeRoom se_F_makeRoom ini_F wk_F_makeRoom
theorem gv_T_225 : GoodIn zt_tbl (wsV cn_T 225 cn_R mn_R_begin ws_R_begin) := zt_V ml_T_225 im_R_begin se_R_begin ini_R wk_R_begin
theorem gv_T_228 : GoodIn zt_tbl (wsV cn_T 228 cn_R mn_R_goOn ws_R_goOn) := zt_V ml_T_228 im_R_goOn se_R_goOn ini_R wk_R_goOn
theorem gv_T_234 : GoodIn zt_tbl (wsV cn_T 234 cn_R mn_R_holds ws_R_holds) := zt_V ml_T_234 im_R_holds se_R_holds ini_R wk_R_holds
theorem gv_T_238 : GoodIn zt_tbl (wsV cn_T 238 cn_R mn_R_staying ws_R_staying) := zt_V ml_T_238 im_R_staying se_R_staying ini_R wk_R_staying
theorem gv_R_33 : GoodIn zt_tbl (wsV cn_R 33 cn_R mn_R_measure ws_R_measure) := zt_V ml_R_33 im_R_measure se_R_measure ini_R wk_R_measure
theorem gv_R_37 : GoodIn zt_tbl (wsV cn_R 37 cn_N mn_N_steps ws_N_steps) := zt_V ml_R_37 im_N_steps se_N_steps ini_N wk_N_steps
theorem gv_R_41 : GoodIn zt_tbl (wsV cn_R 41 cn_N mn_N_stepBehind ws_N_stepBehind) := zt_V ml_R_41 im_N_stepBehind se_N_stepBehind ini_N wk_N_stepBehind
theorem gv_R_45 : GoodIn zt_tbl (wsV cn_R 45 cn_R mn_R_takeIn ws_R_takeIn) := zt_V ml_R_45 im_R_takeIn se_R_takeIn ini_R wk_R_takeIn
theorem gv_T_201 : GoodIn zt_tbl (wsV cn_T 201 cn_T mn_T_fits ws_T_fits) := zt_V ml_T_201 im_T_fits se_T_fits ini_T wk_T_fits
theorem gv_T_181 : GoodIn zt_tbl (wsS cn_T 181 mn_T_sameSteps ws_T_sameSteps) := zt_S ml_T_181 sm_T_sameSteps ini_T wk_T_sameSteps
theorem gv_T_209 : GoodIn zt_tbl (wsS cn_T 209 mn_T_sameRatio ws_T_sameRatio) := zt_S ml_T_209 sm_T_sameRatio ini_T wk_T_sameRatio
theorem gv_T_213 : GoodIn zt_tbl (wsS cn_T 213 mn_T_sameContour ws_T_sameContour) := zt_S ml_T_213 sm_T_sameContour ini_T wk_T_sameContour
theorem gv_L_54 : GoodIn zt_tbl (wsV cn_L 54 cn_T mn_T_match ws_T_match) := zt_V ml_L_54 im_T_match se_T_match ini_T wk_T_match
theorem gv_T_158 : GoodIn zt_tbl (wsV cn_T 158 cn_F mn_F_upperOfScore ws_F_upperOfScore) := zt_V ml_T_158 im_F_upperOfScore se_F_upperOfScore ini_F wk_F_upperOfScore
theorem gv_T_162 : GoodIn zt_tbl (wsV cn_T 162 cn_F mn_F_lowerOfScore ws_F_lowerOfScore) := zt_V ml_T_162 im_F_lowerOfScore se_F_lowerOfScore ini_F wk_F_lowerOfScore
theorem gv_F_56 : GoodIn zt_tbl (wsS cn_F 56 mn_F_leastTerm ws_F_leastTerm) := zt_S ml_F_56 sm_F_leastTerm ini_F wk_F_leastTerm
theorem gv_L_57 : GoodIn zt_tbl (wsV cn_L 57 cn_T mn_T_repeats ws_T_repeats) := zt_V ml_L_57 im_T_repeats se_T_repeats ini_T wk_T_repeats
theorem gv_T_165 : GoodIn zt_tbl (wsS cn_T 165 mn_T_refuseUnlessLeast ws_T_refuseUnlessLeast) := zt_S ml_T_165 sm_T_refuseUnlessLeast ini_T wk_T_refuseUnlessLeast
theorem gv_T_168 : GoodIn zt_tbl (wsV cn_T 168 cn_W mn_W_walk ws_W_walk) := zt_V ml_T_168 im_W_walk se_W_walk ini_W wk_W_walk
theorem gv_W_15 : GoodIn zt_tbl (wsV cn_W 15 cn_N mn_N_steps ws_N_steps) := zt_V ml_W_15 im_N_steps se_N_steps ini_N wk_N_steps
theorem gv_W_21 : GoodIn zt_tbl (wsV cn_W 21 cn_W mn_W_compare ws_W_compare) := zt_V ml_W_21 im_W_compare se_W_compare ini_W wk_W_compare
theorem gv_W_25 : GoodIn zt_tbl (wsV cn_W 25 cn_W mn_W_placesOfRepeat ws_W_placesOfRepeat) := zt_V ml_W_25 im_W_placesOfRepeat se_W_placesOfRepeat ini_W wk_W_placesOfRepeat
theorem gv_W_45 : GoodIn zt_tbl (wsV cn_W 45 cn_N mn_N_stepBehind ws_N_stepBehind) := zt_V ml_W_45 im_N_stepBehind se_N_stepBehind ini_N wk_N_stepBehind
theorem gv_L_60 : GoodIn zt_tbl (wsV cn_L 60 cn_T mn_T_repeat ws_T_repeat) := zt_V ml_L_60 im_T_repeat se_T_repeat ini_T wk_T_repeat
theorem gv_L_63 : GoodIn zt_tbl (wsV cn_L 63 cn_T mn_T_canon ws_T_canon) := zt_V ml_L_63 im_T_canon se_T_canon ini_T wk_T_canon
theorem gv_T_185 : GoodIn zt_tbl (wsS cn_T 185 mn_T_sameLengths ws_T_sameLengths) := zt_S ml_T_185 sm_T_sameLengths ini_T wk_T_sameLengths
theorem gv_L_66 : GoodIn zt_tbl (wsV cn_L 66 cn_T mn_T_opening ws_T_opening) := zt_V ml_L_66 im_T_opening se_T_opening ini_T wk_T_opening
theorem gv_T_188 : GoodIn zt_tbl (wsS cn_T 188 mn_T_stepsSharedAtFirst ws_T_stepsSharedAtFirst) := zt_S ml_T_188 sm_T_stepsSharedAtFirst ini_T wk_T_stepsSharedAtFirst
theorem gv_M_74 : GoodIn zt_tbl (wsV cn_M 74 cn_M mn_M_noTune ws_M_noTune) := zt_V ml_M_74 im_M_noTune se_M_noTune ini_M wk_M_noTune
theorem gv_M_78 : GoodIn zt_tbl (wsS cn_M 78 mn_M_noNote ws_M_noNote) := zt_S ml_M_78 sm_M_noNote ini_M wk_M_noNote
theorem gv_M_66 : GoodIn zt_tbl (wsV cn_M 66 cn_M mn_M_spot ws_M_spot) := zt_V ml_M_66 im_M_spot se_M_spot ini_M wk_M_spot
theorem gv_M_82 : GoodIn zt_tbl (wsV cn_M 82 cn_M mn_M_step ws_M_step) := zt_V ml_M_82 im_M_step se_M_step ini_M wk_M_step
theorem gv_M_85 : GoodIn zt_tbl (wsS cn_M 85 mn_M_sign ws_M_sign) := zt_S ml_M_85 sm_M_sign ini_M wk_M_sign
theorem gv_M_70 : GoodIn zt_tbl (wsV cn_M 70 cn_M mn_M_pitch ws_M_pitch) := zt_V ml_M_70 im_M_pitch se_M_pitch ini_M wk_M_pitch
theorem gv_M_115 : GoodIn zt_tbl (wsV cn_M 115 cn_M mn_M_part ws_M_part) := zt_V ml_M_115 im_M_part se_M_part ini_M wk_M_part
theorem gv_M_122 : GoodIn zt_tbl (wsV cn_M 122 cn_M mn_M_leads ws_M_leads) := zt_V ml_M_122 im_M_leads se_M_leads ini_M wk_M_leads
theorem gv_M_125 : GoodIn zt_tbl (wsS cn_M 125 mn_M_divisor ws_M_divisor) := zt_S ml_M_125 sm_M_divisor ini_M wk_M_divisor
theorem gv_M_101 : GoodIn zt_tbl (wsV cn_M 101 cn_M mn_M_plain ws_M_plain) := zt_V ml_M_101 im_M_plain se_M_plain ini_M wk_M_plain
theorem gv_M_105 : GoodIn zt_tbl (wsV cn_M 105 cn_M mn_M_outlines ws_M_outlines) := zt_V ml_M_105 im_M_outlines se_M_outlines ini_M wk_M_outlines
theorem gv_M_109 : GoodIn zt_tbl (wsV cn_M 109 cn_M mn_M_near ws_M_near) := zt_V ml_M_109 im_M_near se_M_near ini_M wk_M_near
theorem gv_M_98 : GoodIn zt_tbl (wsV cn_M 98 cn_M mn_M_distance ws_M_distance) := zt_V ml_M_98 im_M_distance se_M_distance ini_M wk_M_distance
theorem gv_M_92 : GoodIn zt_tbl (wsV cn_M 92 cn_M mn_M_askedStep ws_M_askedStep) := zt_V ml_M_92 im_M_askedStep se_M_askedStep ini_M wk_M_askedStep
theorem gv_M_95 : GoodIn zt_tbl (wsV cn_M 95 cn_M mn_M_lengthOf ws_M_lengthOf) := zt_V ml_M_95 im_M_lengthOf se_M_lengthOf ini_M wk_M_lengthOf
theorem gv_M_134 : GoodIn zt_tbl (wsV cn_M 134 cn_M mn_M_places ws_M_places) := zt_V ml_M_134 im_M_places se_M_places ini_M wk_M_places
theorem gv_M_128 : GoodIn zt_tbl (wsV cn_M 128 cn_M mn_M_sameSteps ws_M_sameSteps) := zt_V ml_M_128 im_M_sameSteps se_M_sameSteps ini_M wk_M_sameSteps
theorem gv_M_131 : GoodIn zt_tbl (wsV cn_M 131 cn_M mn_M_hasStep ws_M_hasStep) := zt_V ml_M_131 im_M_hasStep se_M_hasStep ini_M wk_M_hasStep
theorem gv_M_137 : GoodIn zt_tbl (wsV cn_M 137 cn_M mn_M_sharing ws_M_sharing) := zt_V ml_M_137 im_M_sharing se_M_sharing ini_M wk_M_sharing
