theorem TBi {w : Cond} (h : w ∈ lw_tbl) (hg : goodWord w = true) : w ∈ TB := List.mem_filter.mpr ⟨h, hg⟩
theorem tzp {w : Cond} (i : Nat) (h : (k2_sels lw_privs)[i]? = some w) (hg : goodWord w = true) : w ∈ TB := TBi (List.mem_append_left _ (List.mem_of_getElem? h)) hg
theorem tz1m {w : Cond} (i : Nat) (h : tables_1_1[i]? = some w) : w ∈ lw_tbl := List.mem_append_right _ (List.mem_append_left _ (List.mem_of_getElem? h))
theorem tz1 {w : Cond} (i : Nat) (h : tables_1_1[i]? = some w) (hg : goodWord w = true) : w ∈ TB := TBi (tz1m i h) hg
theorem tz2m {w : Cond} (i : Nat) (h : tables_1_2[i]? = some w) : w ∈ lw_tbl := List.mem_append_right _ (List.mem_append_right _ (List.mem_append_left _ (List.mem_of_getElem? h)))
theorem tz2 {w : Cond} (i : Nat) (h : tables_1_2[i]? = some w) (hg : goodWord w = true) : w ∈ TB := TBi (tz2m i h) hg
theorem tz3m {w : Cond} (i : Nat) (h : tables_1_3[i]? = some w) : w ∈ lw_tbl := List.mem_append_right _ (List.mem_append_right _ (List.mem_append_right _ (List.mem_append_left _ (List.mem_of_getElem? h))))
theorem tz3 {w : Cond} (i : Nat) (h : tables_1_3[i]? = some w) (hg : goodWord w = true) : w ∈ TB := TBi (tz3m i h) hg
theorem tz4m {w : Cond} (i : Nat) (h : tables_1_4[i]? = some w) : w ∈ lw_tbl := List.mem_append_right _ (List.mem_append_right _ (List.mem_append_right _ (List.mem_append_right _ (List.mem_append_left _ (List.mem_of_getElem? h)))))
theorem tz4 {w : Cond} (i : Nat) (h : tables_1_4[i]? = some w) (hg : goodWord w = true) : w ∈ TB := TBi (tz4m i h) hg
theorem tz5m {w : Cond} (i : Nat) (h : tables_1_5[i]? = some w) : w ∈ lw_tbl := List.mem_append_right _ (List.mem_append_right _ (List.mem_append_right _ (List.mem_append_right _ (List.mem_append_right _ (List.mem_append_left _ (List.mem_of_getElem? h))))))
theorem tz5 {w : Cond} (i : Nat) (h : tables_1_5[i]? = some w) (hg : goodWord w = true) : w ∈ TB := TBi (tz5m i h) hg
theorem tz6m {w : Cond} (i : Nat) (h : tables_1_6[i]? = some w) : w ∈ lw_tbl := List.mem_append_right _ (List.mem_append_right _ (List.mem_append_right _ (List.mem_append_right _ (List.mem_append_right _ (List.mem_append_right _ (List.mem_append_left _ (List.mem_of_getElem? h)))))))
theorem tz6 {w : Cond} (i : Nat) (h : tables_1_6[i]? = some w) (hg : goodWord w = true) : w ∈ TB := TBi (tz6m i h) hg
theorem tz7m {w : Cond} (i : Nat) (h : tables_1_7[i]? = some w) : w ∈ lw_tbl := List.mem_append_right _ (List.mem_append_right _ (List.mem_append_right _ (List.mem_append_right _ (List.mem_append_right _ (List.mem_append_right _ (List.mem_append_right _ (List.mem_append_left _ (List.mem_of_getElem? h))))))))
theorem tz7 {w : Cond} (i : Nat) (h : tables_1_7[i]? = some w) (hg : goodWord w = true) : w ∈ TB := TBi (tz7m i h) hg
theorem tz8m {w : Cond} (i : Nat) (h : tables_1_8[i]? = some w) : w ∈ lw_tbl := List.mem_append_right _ (List.mem_append_right _ (List.mem_append_right _ (List.mem_append_right _ (List.mem_append_right _ (List.mem_append_right _ (List.mem_append_right _ (List.mem_append_right _ (List.mem_append_left _ (List.mem_of_getElem? h)))))))))
theorem tz8 {w : Cond} (i : Nat) (h : tables_1_8[i]? = some w) (hg : goodWord w = true) : w ∈ TB := TBi (tz8m i h) hg
theorem tz9m {w : Cond} (i : Nat) (h : tables_1_9[i]? = some w) : w ∈ lw_tbl := List.mem_append_right _ (List.mem_append_right _ (List.mem_append_right _ (List.mem_append_right _ (List.mem_append_right _ (List.mem_append_right _ (List.mem_append_right _ (List.mem_append_right _ (List.mem_append_right _ (List.mem_of_getElem? h)))))))))
theorem tz9 {w : Cond} (i : Nat) (h : tables_1_9[i]? = some w) (hg : goodWord w = true) : w ∈ TB := TBi (tz9m i h) hg
theorem w_0 : Jvm.Cond.selects "DarkestDay" ({ cls := "DarkestDay", name := "readsAs", desc := "(I)Z" } : Jvm.MethodName) ({ cls := "DarkestDay", name := "readsAs", desc := "(I)Z" } : Jvm.MethodName) ∈ TB := tzp 0 rfl rfl
theorem w_1 : Jvm.Cond.selects "DarkestDay" ({ cls := "DarkestDay", name := "lawAt", desc := "(I)LDarkestDay$Law;" } : Jvm.MethodName) ({ cls := "DarkestDay", name := "lawAt", desc := "(I)LDarkestDay$Law;" } : Jvm.MethodName) ∈ TB := tzp 1 rfl rfl
theorem w_2 : Jvm.Cond.selects "DarkestDay$LawReader" ({ cls := "DarkestDay$LawReader", name := "begin", desc := "()V" } : Jvm.MethodName) ({ cls := "DarkestDay$LawReader", name := "begin", desc := "()V" } : Jvm.MethodName) ∈ TB := tzp 2 rfl rfl
theorem w_3 : Jvm.Cond.selects "DarkestDay$LawReader" ({ cls := "DarkestDay$LawReader", name := "takes", desc := "(ILDarkestDay$Tape;LDarkestDay$Law;)Z" } : Jvm.MethodName) ({ cls := "DarkestDay$LawReader", name := "takes", desc := "(ILDarkestDay$Tape;LDarkestDay$Law;)Z" } : Jvm.MethodName) ∈ TB := tzp 3 rfl rfl
theorem w_4 : Jvm.Cond.selects "DarkestDay$LawReader" ({ cls := "DarkestDay$LawReader", name := "takesIf", desc := "(ZILDarkestDay$Tape;)Z" } : Jvm.MethodName) ({ cls := "DarkestDay$LawReader", name := "takesIf", desc := "(ZILDarkestDay$Tape;)Z" } : Jvm.MethodName) ∈ TB := tzp 4 rfl rfl
theorem w_5 : Jvm.Cond.selects "DarkestDay$LawReader" ({ cls := "DarkestDay$LawReader", name := "opens", desc := "(ILDarkestDay$Tape;)Z" } : Jvm.MethodName) ({ cls := "DarkestDay$LawReader", name := "opens", desc := "(ILDarkestDay$Tape;)Z" } : Jvm.MethodName) ∈ TB := tzp 5 rfl rfl
theorem w_6 : Jvm.Cond.selects "DarkestDay$LawReader" ({ cls := "DarkestDay$LawReader", name := "await", desc := "(I)V" } : Jvm.MethodName) ({ cls := "DarkestDay$LawReader", name := "await", desc := "(I)V" } : Jvm.MethodName) ∈ TB := tzp 6 rfl rfl
theorem w_7 : Jvm.Cond.selects "DarkestDay$LawReader" ({ cls := "DarkestDay$LawReader", name := "takesAtom", desc := "(ILDarkestDay$Tape;LDarkestDay$Law;)Z" } : Jvm.MethodName) ({ cls := "DarkestDay$LawReader", name := "takesAtom", desc := "(ILDarkestDay$Tape;LDarkestDay$Law;)Z" } : Jvm.MethodName) ∈ TB := tzp 7 rfl rfl
theorem w_8 : Jvm.Cond.selects "DarkestDay$Tape" ({ cls := "DarkestDay$Tape", name := "signAt", desc := "(I)I" } : Jvm.MethodName) ({ cls := "DarkestDay$Tape", name := "signAt", desc := "(I)I" } : Jvm.MethodName) ∈ TB := tzp 8 rfl rfl
theorem w_9 : Jvm.Cond.selects "DarkestDay$LawReader" ({ cls := "DarkestDay$LawReader", name := "fitsBehind", desc := "(I)Z" } : Jvm.MethodName) ({ cls := "DarkestDay$LawReader", name := "fitsBehind", desc := "(I)Z" } : Jvm.MethodName) ∈ TB := tzp 9 rfl rfl
theorem w_10 : Jvm.Cond.selects "DarkestDay$LawReader" ({ cls := "DarkestDay$LawReader", name := "mayEnd", desc := "()Z" } : Jvm.MethodName) ({ cls := "DarkestDay$LawReader", name := "mayEnd", desc := "()Z" } : Jvm.MethodName) ∈ TB := tzp 10 rfl rfl
theorem w_11 : Jvm.Cond.selects "DarkestDay$LawReader" ({ cls := "DarkestDay$LawReader", name := "goOnBehind", desc := "(ILDarkestDay$Law;)V" } : Jvm.MethodName) ({ cls := "DarkestDay$LawReader", name := "goOnBehind", desc := "(ILDarkestDay$Law;)V" } : Jvm.MethodName) ∈ TB := tzp 11 rfl rfl
theorem w_12 : Jvm.Cond.selects "DarkestDay$LawReader" ({ cls := "DarkestDay$LawReader", name := "release", desc := "(ILDarkestDay$Law;)V" } : Jvm.MethodName) ({ cls := "DarkestDay$LawReader", name := "release", desc := "(ILDarkestDay$Law;)V" } : Jvm.MethodName) ∈ TB := tzp 12 rfl rfl
theorem w_13 : Jvm.Cond.selects "DarkestDay$LawReader" ({ cls := "DarkestDay$LawReader", name := "closeBracket", desc := "()V" } : Jvm.MethodName) ({ cls := "DarkestDay$LawReader", name := "closeBracket", desc := "()V" } : Jvm.MethodName) ∈ TB := tzp 13 rfl rfl
theorem w_14 : Jvm.Cond.selects "DarkestDay" ({ cls := "DarkestDay", name := "calendarAt", desc := "(I)LDarkestDay$Calendar;" } : Jvm.MethodName) ({ cls := "DarkestDay", name := "calendarAt", desc := "(I)LDarkestDay$Calendar;" } : Jvm.MethodName) ∈ TB := tzp 14 rfl rfl
theorem w_15 : Jvm.Cond.selects "DarkestDay$Calendar" ({ cls := "DarkestDay$Calendar", name := "readsStep", desc := "(LDarkestDay$Tape;)Z" } : Jvm.MethodName) ({ cls := "DarkestDay$Calendar", name := "readsStep", desc := "(LDarkestDay$Tape;)Z" } : Jvm.MethodName) ∈ TB := tzp 15 rfl rfl
theorem w_16 : Jvm.Cond.selects "DarkestDay$Port" ({ cls := "DarkestDay$Port", name := "fillUsual", desc := "()V" } : Jvm.MethodName) ({ cls := "DarkestDay$Port", name := "fillUsual", desc := "()V" } : Jvm.MethodName) ∈ TB := tzp 16 rfl rfl
theorem w_17 : Jvm.Cond.selects "DarkestDay$Port" ({ cls := "DarkestDay$Port", name := "readsClause", desc := "(LDarkestDay$Tape;)Z" } : Jvm.MethodName) ({ cls := "DarkestDay$Port", name := "readsClause", desc := "(LDarkestDay$Tape;)Z" } : Jvm.MethodName) ∈ TB := tzp 17 rfl rfl
theorem w_18 : Jvm.Cond.selects "DarkestDay$Port" ({ cls := "DarkestDay$Port", name := "readsItems", desc := "(LDarkestDay$Tape;II)Z" } : Jvm.MethodName) ({ cls := "DarkestDay$Port", name := "readsItems", desc := "(LDarkestDay$Tape;II)Z" } : Jvm.MethodName) ∈ TB := tzp 18 rfl rfl
theorem w_19 : Jvm.Cond.selects "DarkestDay$Port" ({ cls := "DarkestDay$Port", name := "isWhole", desc := "()Z" } : Jvm.MethodName) ({ cls := "DarkestDay$Port", name := "isWhole", desc := "()Z" } : Jvm.MethodName) ∈ TB := tzp 19 rfl rfl
theorem w_20 : Jvm.Cond.selects "DarkestDay" ({ cls := "DarkestDay", name := "hasPlaceFor", desc := "(I)Z" } : Jvm.MethodName) ({ cls := "DarkestDay", name := "hasPlaceFor", desc := "(I)Z" } : Jvm.MethodName) ∈ TB := tzp 20 rfl rfl
theorem w_21 : Jvm.Cond.selects "DarkestDay" ({ cls := "DarkestDay", name := "openPort", desc := "()V" } : Jvm.MethodName) ({ cls := "DarkestDay", name := "openPort", desc := "()V" } : Jvm.MethodName) ∈ TB := tzp 21 rfl rfl
theorem w_22 : Jvm.Cond.selects "DarkestDay" ({ cls := "DarkestDay", name := "acted", desc := "(III)Z" } : Jvm.MethodName) ({ cls := "DarkestDay", name := "acted", desc := "(III)Z" } : Jvm.MethodName) ∈ TB := tzp 22 rfl rfl
theorem w_23 : Jvm.Cond.selects "DarkestDay$Course" ({ cls := "DarkestDay$Course", name := "whyNoHabit", desc := "(LDarkestDay$State;II)I" } : Jvm.MethodName) ({ cls := "DarkestDay$Course", name := "whyNoHabit", desc := "(LDarkestDay$State;II)I" } : Jvm.MethodName) ∈ TB := tzp 23 rfl rfl
theorem w_24 : Jvm.Cond.selects "DarkestDay$History" ({ cls := "DarkestDay$History", name := "stateAt", desc := "(I)LDarkestDay$State;" } : Jvm.MethodName) ({ cls := "DarkestDay$History", name := "stateAt", desc := "(I)LDarkestDay$State;" } : Jvm.MethodName) ∈ TB := tzp 24 rfl rfl
theorem w_25 : Jvm.Cond.selects "DarkestDay$Course" ({ cls := "DarkestDay$Course", name := "bringIn", desc := "(LDarkestDay$State;II)V" } : Jvm.MethodName) ({ cls := "DarkestDay$Course", name := "bringIn", desc := "(LDarkestDay$State;II)V" } : Jvm.MethodName) ∈ TB := tzp 25 rfl rfl
theorem w_26 : Jvm.Cond.selects "DarkestDay$Course" ({ cls := "DarkestDay$Course", name := "endYear", desc := "(LDarkestDay$State;)V" } : Jvm.MethodName) ({ cls := "DarkestDay$Course", name := "endYear", desc := "(LDarkestDay$State;)V" } : Jvm.MethodName) ∈ TB := tzp 26 rfl rfl
theorem w_27 : Jvm.Cond.selects "DarkestDay$Course" ({ cls := "DarkestDay$Course", name := "turnYear", desc := "(LDarkestDay$State;I)V" } : Jvm.MethodName) ({ cls := "DarkestDay$Course", name := "turnYear", desc := "(LDarkestDay$State;I)V" } : Jvm.MethodName) ∈ TB := tzp 27 rfl rfl
theorem w_28 : Jvm.Cond.selects "DarkestDay$Course" ({ cls := "DarkestDay$Course", name := "spend", desc := "(LDarkestDay$State;I)V" } : Jvm.MethodName) ({ cls := "DarkestDay$Course", name := "spend", desc := "(LDarkestDay$State;I)V" } : Jvm.MethodName) ∈ TB := tzp 28 rfl rfl
theorem w_29 : Jvm.Cond.selects "DarkestDay" ({ cls := "DarkestDay", name := "isPort", desc := "()Z" } : Jvm.MethodName) ({ cls := "DarkestDay", name := "isPort", desc := "()Z" } : Jvm.MethodName) ∈ TB := tzp 29 rfl rfl
theorem w_30 : Jvm.Cond.selects "DarkestDay$Course" ({ cls := "DarkestDay$Course", name := "draw", desc := "(I)I" } : Jvm.MethodName) ({ cls := "DarkestDay$Course", name := "draw", desc := "(I)I" } : Jvm.MethodName) ∈ TB := tzp 30 rfl rfl
theorem w_31 : Jvm.Cond.selects "DarkestDay" ({ cls := "DarkestDay", name := "isCalendar", desc := "(I)Z" } : Jvm.MethodName) ({ cls := "DarkestDay", name := "isCalendar", desc := "(I)Z" } : Jvm.MethodName) ∈ TB := tzp 31 rfl rfl
theorem w_32 : Jvm.Cond.selects "DarkestDay$Outlook" ({ cls := "DarkestDay$Outlook", name := "packed", desc := "(II)I" } : Jvm.MethodName) ({ cls := "DarkestDay$Outlook", name := "packed", desc := "(II)I" } : Jvm.MethodName) ∈ TB := tzp 32 rfl rfl
theorem w_33 : Jvm.Cond.selects "DarkestDay$Witness" ({ cls := "DarkestDay$Witness", name := "followAll", desc := "(II)I" } : Jvm.MethodName) ({ cls := "DarkestDay$Witness", name := "followAll", desc := "(II)I" } : Jvm.MethodName) ∈ TB := tzp 33 rfl rfl
theorem w_34 : Jvm.Cond.selects "DarkestDay$Witness" ({ cls := "DarkestDay$Witness", name := "fits", desc := "(I)Z" } : Jvm.MethodName) ({ cls := "DarkestDay$Witness", name := "fits", desc := "(I)Z" } : Jvm.MethodName) ∈ TB := tzp 34 rfl rfl
theorem w_35 : Jvm.Cond.selects "DarkestDay$Witness" ({ cls := "DarkestDay$Witness", name := "treasuryOf", desc := "(II)I" } : Jvm.MethodName) ({ cls := "DarkestDay$Witness", name := "treasuryOf", desc := "(II)I" } : Jvm.MethodName) ∈ TB := tzp 35 rfl rfl
theorem w_36 : Jvm.Cond.selects "DarkestDay$Witness" ({ cls := "DarkestDay$Witness", name := "mostAlike", desc := "(II)I" } : Jvm.MethodName) ({ cls := "DarkestDay$Witness", name := "mostAlike", desc := "(II)I" } : Jvm.MethodName) ∈ TB := tzp 36 rfl rfl
theorem w_37 : Jvm.Cond.selects "DarkestDay" ({ cls := "DarkestDay", name := "canPlay", desc := "(II)Z" } : Jvm.MethodName) ({ cls := "DarkestDay", name := "canPlay", desc := "(II)Z" } : Jvm.MethodName) ∈ TB := tzp 37 rfl rfl
theorem w_38 : Jvm.Cond.selects "DarkestDay$Outlook" ({ cls := "DarkestDay$Outlook", name := "layOut", desc := "(LDarkestDay$State;II)V" } : Jvm.MethodName) ({ cls := "DarkestDay$Outlook", name := "layOut", desc := "(LDarkestDay$State;II)V" } : Jvm.MethodName) ∈ TB := tzp 38 rfl rfl
theorem w_39 : Jvm.Cond.selects "DarkestDay$Outlook" ({ cls := "DarkestDay$Outlook", name := "gainOf", desc := "(LDarkestDay$State;II)I" } : Jvm.MethodName) ({ cls := "DarkestDay$Outlook", name := "gainOf", desc := "(LDarkestDay$State;II)I" } : Jvm.MethodName) ∈ TB := tzp 39 rfl rfl
theorem w_40 : Jvm.Cond.selects "DarkestDay$Outlook" ({ cls := "DarkestDay$Outlook", name := "hasThen", desc := "(III)I" } : Jvm.MethodName) ({ cls := "DarkestDay$Outlook", name := "hasThen", desc := "(III)I" } : Jvm.MethodName) ∈ TB := tzp 40 rfl rfl
theorem w_41 : Jvm.Cond.selects "DarkestDay$Outlook" ({ cls := "DarkestDay$Outlook", name := "isRest", desc := "(II)Z" } : Jvm.MethodName) ({ cls := "DarkestDay$Outlook", name := "isRest", desc := "(II)Z" } : Jvm.MethodName) ∈ TB := tzp 41 rfl rfl
theorem w_42 : Jvm.Cond.selects "DarkestDay" ({ cls := "DarkestDay", name := "daysLeft", desc := "()I" } : Jvm.MethodName) ({ cls := "DarkestDay", name := "daysLeft", desc := "()I" } : Jvm.MethodName) ∈ TB := tzp 42 rfl rfl
theorem w_43 : Jvm.Cond.selects "DarkestDay$Outlook" ({ cls := "DarkestDay$Outlook", name := "rulerBy", desc := "(LDarkestDay$State;II)I" } : Jvm.MethodName) ({ cls := "DarkestDay$Outlook", name := "rulerBy", desc := "(LDarkestDay$State;II)I" } : Jvm.MethodName) ∈ TB := tzp 43 rfl rfl
theorem w_45 : Jvm.Cond.selects "DarkestDayModel" ({ cls := "DarkestDayModel", name := "put", desc := "(I)V" } : Jvm.MethodName) ({ cls := "DarkestDayModel", name := "put", desc := "(I)V" } : Jvm.MethodName) ∈ TB := tzp 45 rfl rfl
theorem w_46 : Jvm.Cond.selects "DarkestDayModel" ({ cls := "DarkestDayModel", name := "readPort", desc := "()V" } : Jvm.MethodName) ({ cls := "DarkestDayModel", name := "readPort", desc := "()V" } : Jvm.MethodName) ∈ TB := tzp 46 rfl rfl
theorem w_47 : Jvm.Cond.selects "DarkestDayModel" ({ cls := "DarkestDayModel", name := "starts", desc := "([BII)V" } : Jvm.MethodName) ({ cls := "DarkestDayModel", name := "starts", desc := "([BII)V" } : Jvm.MethodName) ∈ TB := tzp 47 rfl rfl
theorem w_48 : Jvm.Cond.selects "DarkestDayModel" ({ cls := "DarkestDayModel", name := "readClause", desc := "()V" } : Jvm.MethodName) ({ cls := "DarkestDayModel", name := "readClause", desc := "()V" } : Jvm.MethodName) ∈ TB := tzp 48 rfl rfl
theorem w_49 : Jvm.Cond.selects "DarkestDayModel" ({ cls := "DarkestDayModel", name := "look", desc := "()I" } : Jvm.MethodName) ({ cls := "DarkestDayModel", name := "look", desc := "()I" } : Jvm.MethodName) ∈ TB := tzp 49 rfl rfl
theorem w_50 : Jvm.Cond.selects "DarkestDayModel" ({ cls := "DarkestDayModel", name := "fails", desc := "()Z" } : Jvm.MethodName) ({ cls := "DarkestDayModel", name := "fails", desc := "()Z" } : Jvm.MethodName) ∈ TB := tzp 50 rfl rfl
theorem w_51 : Jvm.Cond.selects "DarkestDayModel" ({ cls := "DarkestDayModel", name := "readItems", desc := "(I[IILjava/lang/String;)V" } : Jvm.MethodName) ({ cls := "DarkestDayModel", name := "readItems", desc := "(I[IILjava/lang/String;)V" } : Jvm.MethodName) ∈ TB := tzp 51 rfl rfl
theorem w_52 : Jvm.Cond.selects "DarkestDayModel" ({ cls := "DarkestDayModel", name := "number", desc := "(II)I" } : Jvm.MethodName) ({ cls := "DarkestDayModel", name := "number", desc := "(II)I" } : Jvm.MethodName) ∈ TB := tzp 52 rfl rfl
theorem w_53 : Jvm.Cond.selects "DarkestDayModel" ({ cls := "DarkestDayModel", name := "isDigit", desc := "()Z" } : Jvm.MethodName) ({ cls := "DarkestDayModel", name := "isDigit", desc := "()Z" } : Jvm.MethodName) ∈ TB := tzp 53 rfl rfl
theorem w_54 : Jvm.Cond.selects "DarkestDayModel" ({ cls := "DarkestDayModel", name := "here", desc := "()I" } : Jvm.MethodName) ({ cls := "DarkestDayModel", name := "here", desc := "()I" } : Jvm.MethodName) ∈ TB := tzp 54 rfl rfl
theorem w_55 : Jvm.Cond.selects "DarkestDayModel" ({ cls := "DarkestDayModel", name := "isWhole", desc := "()Z" } : Jvm.MethodName) ({ cls := "DarkestDayModel", name := "isWhole", desc := "()Z" } : Jvm.MethodName) ∈ TB := tzp 55 rfl rfl
theorem w_56 : Jvm.Cond.selects "DarkestDayModel" ({ cls := "DarkestDayModel", name := "goThrough", desc := "([BII)V" } : Jvm.MethodName) ({ cls := "DarkestDayModel", name := "goThrough", desc := "([BII)V" } : Jvm.MethodName) ∈ TB := tzp 56 rfl rfl
theorem w_57 : Jvm.Cond.selects "DarkestDayModel" ({ cls := "DarkestDayModel", name := "clause", desc := "()V" } : Jvm.MethodName) ({ cls := "DarkestDayModel", name := "clause", desc := "()V" } : Jvm.MethodName) ∈ TB := tzp 57 rfl rfl
theorem w_58 : Jvm.Cond.selects "DarkestDayModel" ({ cls := "DarkestDayModel", name := "takes", desc := "(I)Z" } : Jvm.MethodName) ({ cls := "DarkestDayModel", name := "takes", desc := "(I)Z" } : Jvm.MethodName) ∈ TB := tzp 58 rfl rfl
theorem w_59 : Jvm.Cond.selects "DarkestDayModel" ({ cls := "DarkestDayModel", name := "condition", desc := "(ZI)Z" } : Jvm.MethodName) ({ cls := "DarkestDayModel", name := "condition", desc := "(ZI)Z" } : Jvm.MethodName) ∈ TB := tzp 59 rfl rfl
theorem w_60 : Jvm.Cond.selects "DarkestDayModel" ({ cls := "DarkestDayModel", name := "part", desc := "(ZI)Z" } : Jvm.MethodName) ({ cls := "DarkestDayModel", name := "part", desc := "(ZI)Z" } : Jvm.MethodName) ∈ TB := tzp 60 rfl rfl
theorem w_61 : Jvm.Cond.selects "DarkestDayModel" ({ cls := "DarkestDayModel", name := "compares", desc := "(ZI)Z" } : Jvm.MethodName) ({ cls := "DarkestDayModel", name := "compares", desc := "(ZI)Z" } : Jvm.MethodName) ∈ TB := tzp 61 rfl rfl
theorem w_62 : Jvm.Cond.selects "DarkestDayModel" ({ cls := "DarkestDayModel", name := "sum", desc := "()I" } : Jvm.MethodName) ({ cls := "DarkestDayModel", name := "sum", desc := "()I" } : Jvm.MethodName) ∈ TB := tzp 62 rfl rfl
theorem w_63 : Jvm.Cond.selects "DarkestDayModel" ({ cls := "DarkestDayModel", name := "term", desc := "()I" } : Jvm.MethodName) ({ cls := "DarkestDayModel", name := "term", desc := "()I" } : Jvm.MethodName) ∈ TB := tzp 63 rfl rfl
theorem w_64 : Jvm.Cond.selects "DarkestDayModel" ({ cls := "DarkestDayModel", name := "atom", desc := "()I" } : Jvm.MethodName) ({ cls := "DarkestDayModel", name := "atom", desc := "()I" } : Jvm.MethodName) ∈ TB := tzp 64 rfl rfl
theorem w_65 : Jvm.Cond.selects "DarkestDayModel" ({ cls := "DarkestDayModel", name := "goesIn", desc := "()Z" } : Jvm.MethodName) ({ cls := "DarkestDayModel", name := "goesIn", desc := "()Z" } : Jvm.MethodName) ∈ TB := tzp 65 rfl rfl
theorem w_66 : Jvm.Cond.selects "DarkestDayModel" ({ cls := "DarkestDayModel", name := "unit", desc := "()Z" } : Jvm.MethodName) ({ cls := "DarkestDayModel", name := "unit", desc := "()Z" } : Jvm.MethodName) ∈ TB := tzp 66 rfl rfl
theorem w_67 : Jvm.Cond.selects "DarkestDayModel" ({ cls := "DarkestDayModel", name := "readPlan", desc := "()V" } : Jvm.MethodName) ({ cls := "DarkestDayModel", name := "readPlan", desc := "()V" } : Jvm.MethodName) ∈ TB := tzp 67 rfl rfl
theorem w_68 : Jvm.Cond.selects "DarkestDayModel" ({ cls := "DarkestDayModel", name := "readStep", desc := "(I)V" } : Jvm.MethodName) ({ cls := "DarkestDayModel", name := "readStep", desc := "(I)V" } : Jvm.MethodName) ∈ TB := tzp 68 rfl rfl
theorem w_69 : Jvm.Cond.selects "DarkestDayModel" ({ cls := "DarkestDayModel", name := "digit", desc := "()I" } : Jvm.MethodName) ({ cls := "DarkestDayModel", name := "digit", desc := "()I" } : Jvm.MethodName) ∈ TB := tzp 69 rfl rfl
theorem w_70 : Jvm.Cond.selects "DarkestDayModel" ({ cls := "DarkestDayModel", name := "lays", desc := "([I)V" } : Jvm.MethodName) ({ cls := "DarkestDayModel", name := "lays", desc := "([I)V" } : Jvm.MethodName) ∈ TB := tzp 70 rfl rfl
theorem w_71 : Jvm.Cond.selects "DarkestDayModel" ({ cls := "DarkestDayModel", name := "isKind", desc := "(I)Z" } : Jvm.MethodName) ({ cls := "DarkestDayModel", name := "isKind", desc := "(I)Z" } : Jvm.MethodName) ∈ TB := tzp 71 rfl rfl
theorem w_72 : Jvm.Cond.selects "DarkestDayModel" ({ cls := "DarkestDayModel", name := "party", desc := "(I)I" } : Jvm.MethodName) ({ cls := "DarkestDayModel", name := "party", desc := "(I)I" } : Jvm.MethodName) ∈ TB := tzp 72 rfl rfl
theorem w_73 : Jvm.Cond.selects "DarkestDayModel" ({ cls := "DarkestDayModel", name := "isPerson", desc := "(I)Z" } : Jvm.MethodName) ({ cls := "DarkestDayModel", name := "isPerson", desc := "(I)Z" } : Jvm.MethodName) ∈ TB := tzp 73 rfl rfl
theorem w_74 : Jvm.Cond.selects "DarkestDayModel" ({ cls := "DarkestDayModel", name := "refused", desc := "(I)I" } : Jvm.MethodName) ({ cls := "DarkestDayModel", name := "refused", desc := "(I)I" } : Jvm.MethodName) ∈ TB := tzp 74 rfl rfl
theorem w_75 : Jvm.Cond.selects "DarkestDayModel" ({ cls := "DarkestDayModel", name := "canPass", desc := "([I)Z" } : Jvm.MethodName) ({ cls := "DarkestDayModel", name := "canPass", desc := "([I)Z" } : Jvm.MethodName) ∈ TB := tzp 75 rfl rfl
theorem w_76 : Jvm.Cond.selects "DarkestDayModel" ({ cls := "DarkestDayModel", name := "remember", desc := "()V" } : Jvm.MethodName) ({ cls := "DarkestDayModel", name := "remember", desc := "()V" } : Jvm.MethodName) ∈ TB := tzp 76 rfl rfl
theorem w_77 : Jvm.Cond.selects "DarkestDayModel" ({ cls := "DarkestDayModel", name := "goNow", desc := "()I" } : Jvm.MethodName) ({ cls := "DarkestDayModel", name := "goNow", desc := "()I" } : Jvm.MethodName) ∈ TB := tzp 77 rfl rfl
theorem w_78 : Jvm.Cond.selects "DarkestDayModel" ({ cls := "DarkestDayModel", name := "passes", desc := "([I)I" } : Jvm.MethodName) ({ cls := "DarkestDayModel", name := "passes", desc := "([I)I" } : Jvm.MethodName) ∈ TB := tzp 78 rfl rfl
theorem w_79 : Jvm.Cond.selects "DarkestDayModel" ({ cls := "DarkestDayModel", name := "lightOf", desc := "([II)I" } : Jvm.MethodName) ({ cls := "DarkestDayModel", name := "lightOf", desc := "([II)I" } : Jvm.MethodName) ∈ TB := tzp 79 rfl rfl
theorem w_80 : Jvm.Cond.selects "DarkestDayModel" ({ cls := "DarkestDayModel", name := "lightBy", desc := "([III)I" } : Jvm.MethodName) ({ cls := "DarkestDayModel", name := "lightBy", desc := "([III)I" } : Jvm.MethodName) ∈ TB := tzp 80 rfl rfl
theorem w_81 : Jvm.Cond.selects "DarkestDayModel" ({ cls := "DarkestDayModel", name := "plainLight", desc := "([III)I" } : Jvm.MethodName) ({ cls := "DarkestDayModel", name := "plainLight", desc := "([III)I" } : Jvm.MethodName) ∈ TB := tzp 81 rfl rfl
theorem w_82 : Jvm.Cond.selects "DarkestDayModel" ({ cls := "DarkestDayModel", name := "up", desc := "([I)I" } : Jvm.MethodName) ({ cls := "DarkestDayModel", name := "up", desc := "([I)I" } : Jvm.MethodName) ∈ TB := tzp 82 rfl rfl
theorem w_83 : Jvm.Cond.selects "DarkestDayModel" ({ cls := "DarkestDayModel", name := "worthOf", desc := "(IIIII)I" } : Jvm.MethodName) ({ cls := "DarkestDayModel", name := "worthOf", desc := "(IIIII)I" } : Jvm.MethodName) ∈ TB := tzp 83 rfl rfl
theorem w_84 : Jvm.Cond.selects "DarkestDayModel" ({ cls := "DarkestDayModel", name := "endsYear", desc := "([I)V" } : Jvm.MethodName) ({ cls := "DarkestDayModel", name := "endsYear", desc := "([I)V" } : Jvm.MethodName) ∈ TB := tzp 84 rfl rfl
theorem w_85 : Jvm.Cond.selects "DarkestDayModel" ({ cls := "DarkestDayModel", name := "stopsHabit", desc := "([III)I" } : Jvm.MethodName) ({ cls := "DarkestDayModel", name := "stopsHabit", desc := "([III)I" } : Jvm.MethodName) ∈ TB := tzp 85 rfl rfl
theorem w_86 : Jvm.Cond.selects "DarkestDayModel" ({ cls := "DarkestDayModel", name := "stopsFog", desc := "([II)I" } : Jvm.MethodName) ({ cls := "DarkestDayModel", name := "stopsFog", desc := "([II)I" } : Jvm.MethodName) ∈ TB := tzp 86 rfl rfl
theorem w_87 : Jvm.Cond.selects "DarkestDayModel" ({ cls := "DarkestDayModel", name := "stopsEclipse", desc := "([I)I" } : Jvm.MethodName) ({ cls := "DarkestDayModel", name := "stopsEclipse", desc := "([I)I" } : Jvm.MethodName) ∈ TB := tzp 87 rfl rfl
theorem w_88 : Jvm.Cond.selects "DarkestDayModel" ({ cls := "DarkestDayModel", name := "stopsCandles", desc := "([II)I" } : Jvm.MethodName) ({ cls := "DarkestDayModel", name := "stopsCandles", desc := "([II)I" } : Jvm.MethodName) ∈ TB := tzp 88 rfl rfl
theorem w_89 : Jvm.Cond.selects "DarkestDayModel" ({ cls := "DarkestDayModel", name := "draw", desc := "(I)I" } : Jvm.MethodName) ({ cls := "DarkestDayModel", name := "draw", desc := "(I)I" } : Jvm.MethodName) ∈ TB := tzp 89 rfl rfl
theorem w_90 : Jvm.Cond.selects "DarkestDayModel" ({ cls := "DarkestDayModel", name := "isPlan", desc := "(I)Z" } : Jvm.MethodName) ({ cls := "DarkestDayModel", name := "isPlan", desc := "(I)Z" } : Jvm.MethodName) ∈ TB := tzp 90 rfl rfl
theorem w_91 : Jvm.Cond.selects "DarkestDayModel" ({ cls := "DarkestDayModel", name := "canStep", desc := "([II)Z" } : Jvm.MethodName) ({ cls := "DarkestDayModel", name := "canStep", desc := "([II)Z" } : Jvm.MethodName) ∈ TB := tzp 91 rfl rfl
theorem w_92 : Jvm.Cond.selects "DarkestDayModel" ({ cls := "DarkestDayModel", name := "goStep", desc := "([II)V" } : Jvm.MethodName) ({ cls := "DarkestDayModel", name := "goStep", desc := "([II)V" } : Jvm.MethodName) ∈ TB := tzp 92 rfl rfl
theorem w_93 : Jvm.Cond.selects "DarkestDayModel" ({ cls := "DarkestDayModel", name := "darkest", desc := "()I" } : Jvm.MethodName) ({ cls := "DarkestDayModel", name := "darkest", desc := "()I" } : Jvm.MethodName) ∈ TB := tzp 93 rfl rfl
theorem w_94 : Jvm.Cond.selects "DarkestDayModel" ({ cls := "DarkestDayModel", name := "goYear", desc := "()V" } : Jvm.MethodName) ({ cls := "DarkestDayModel", name := "goYear", desc := "()V" } : Jvm.MethodName) ∈ TB := tzp 94 rfl rfl
theorem w_95 : Jvm.Cond.selects "DarkestDayModel" ({ cls := "DarkestDayModel", name := "soughtBy", desc := "(IIZ)I" } : Jvm.MethodName) ({ cls := "DarkestDayModel", name := "soughtBy", desc := "(IIZ)I" } : Jvm.MethodName) ∈ TB := tzp 95 rfl rfl
theorem w_96 : Jvm.Cond.selects "DarkestDayModel" ({ cls := "DarkestDayModel", name := "laysHabits", desc := "(I)I" } : Jvm.MethodName) ({ cls := "DarkestDayModel", name := "laysHabits", desc := "(I)I" } : Jvm.MethodName) ∈ TB := tzp 96 rfl rfl
theorem w_97 : Jvm.Cond.selects "DarkestDayModel" ({ cls := "DarkestDayModel", name := "canPlay", desc := "(II)Z" } : Jvm.MethodName) ({ cls := "DarkestDayModel", name := "canPlay", desc := "(II)Z" } : Jvm.MethodName) ∈ TB := tzp 97 rfl rfl
theorem w_98 : Jvm.Cond.selects "DarkestDayModel" ({ cls := "DarkestDayModel", name := "gameOf", desc := "(IIIII)I" } : Jvm.MethodName) ({ cls := "DarkestDayModel", name := "gameOf", desc := "(IIIII)I" } : Jvm.MethodName) ∈ TB := tzp 98 rfl rfl
theorem w_99 : Jvm.Cond.selects "DarkestDayModel" ({ cls := "DarkestDayModel", name := "oddsFrom", desc := "(IIII)I" } : Jvm.MethodName) ({ cls := "DarkestDayModel", name := "oddsFrom", desc := "(IIII)I" } : Jvm.MethodName) ∈ TB := tzp 99 rfl rfl
theorem w_100 : Jvm.Cond.selects "DarkestDayModel" ({ cls := "DarkestDayModel", name := "greatest", desc := "(I)I" } : Jvm.MethodName) ({ cls := "DarkestDayModel", name := "greatest", desc := "(I)I" } : Jvm.MethodName) ∈ TB := tzp 100 rfl rfl
theorem w_101 : Jvm.Cond.selects "DarkestDayModel" ({ cls := "DarkestDayModel", name := "valueOf", desc := "(II)I" } : Jvm.MethodName) ({ cls := "DarkestDayModel", name := "valueOf", desc := "(II)I" } : Jvm.MethodName) ∈ TB := tzp 101 rfl rfl
theorem w_102 : Jvm.Cond.selects "DarkestDayModel" ({ cls := "DarkestDayModel", name := "idle", desc := "()I" } : Jvm.MethodName) ({ cls := "DarkestDayModel", name := "idle", desc := "()I" } : Jvm.MethodName) ∈ TB := tzp 102 rfl rfl
theorem w_103 : Jvm.Cond.selects "DarkestDayModel" ({ cls := "DarkestDayModel", name := "dark", desc := "()I" } : Jvm.MethodName) ({ cls := "DarkestDayModel", name := "dark", desc := "()I" } : Jvm.MethodName) ∈ TB := tzp 103 rfl rfl
theorem w_104 : Jvm.Cond.selects "DarkestDayModel" ({ cls := "DarkestDayModel", name := "swayed", desc := "()I" } : Jvm.MethodName) ({ cls := "DarkestDayModel", name := "swayed", desc := "()I" } : Jvm.MethodName) ∈ TB := tzp 104 rfl rfl
theorem w_106 : (Jvm.Cond.initialized "DarkestDay") ∈ TB := tz1 1 rfl rfl
theorem w_107 : (Jvm.Cond.initialized "DarkestDay$Tape") ∈ TB := tz1 2 rfl rfl
theorem w_108 : (Jvm.Cond.initialized "DarkestDay$Row") ∈ TB := tz1 3 rfl rfl
theorem w_109 : (Jvm.Cond.initialized "DarkestDay$Port") ∈ TB := tz1 4 rfl rfl
theorem w_110 : (Jvm.Cond.initialized "DarkestDay$LawReader") ∈ TB := tz1 5 rfl rfl
theorem w_111 : (Jvm.Cond.initialized "DarkestDay$Course") ∈ TB := tz1 6 rfl rfl
theorem w_112 : (Jvm.Cond.initialized "DarkestDay$Law") ∈ TB := tz1 7 rfl rfl
theorem w_113 : (Jvm.Cond.initialized "DarkestDay$Outlook") ∈ TB := tz1 8 rfl rfl
theorem w_114 : (Jvm.Cond.initialized "DarkestDay$State") ∈ TB := tz1 9 rfl rfl
theorem w_115 : (Jvm.Cond.initialized "DarkestDay$Witness") ∈ TB := tz1 10 rfl rfl
theorem w_116 : (Jvm.Cond.initialized "DarkestDay$History") ∈ TB := tz1 11 rfl rfl
theorem w_117 : (Jvm.Cond.initialized "DarkestDay$Calendar") ∈ TB := tz1 12 rfl rfl
theorem w_118 : (Jvm.Cond.initialized "DarkestDayModel") ∈ TB := tz1 13 rfl rfl
theorem w_119 : (Jvm.Cond.initialized "java/lang/Math") ∈ TB := tz1 14 rfl rfl
theorem w_120 : (Jvm.Cond.initialized "java/lang/String") ∈ TB := tz1 15 rfl rfl
theorem w_121 : (Jvm.Cond.initialized "java/lang/StringLatin1") ∈ TB := tz1 16 rfl rfl
theorem w_122 : (Jvm.Cond.initialized "jdk/internal/util/Preconditions") ∈ TB := tz1 17 rfl rfl
theorem w_123 : (Jvm.Cond.initialized "java/lang/StringUTF16") ∈ TB := tz1 18 rfl rfl
theorem w_124 : (Jvm.Cond.initialized "java/lang/System") ∈ TB := tz1 19 rfl rfl
theorem w_129 : (Jvm.Cond.initialized "java/lang/Integer") ∈ TB := tz1 24 rfl rfl
theorem w_130 : (Jvm.Cond.classLink "DarkestDayLaw" (8 : Nat) "DarkestDay") ∈ TB := tz1 25 rfl rfl
theorem w_131 : (Jvm.Cond.instantiable "DarkestDay" (18 : Nat)) ∈ TB := tz1 26 rfl rfl
theorem w_132 : (Jvm.Cond.methodLink "DarkestDayLaw" (15 : Nat) ({ cls := "DarkestDay", name := "<init>", desc := "()V" } : Jvm.MethodName)) ∈ TB := tz1 27 rfl rfl
theorem w_133 : (Jvm.Cond.instanceMethod ({ cls := "DarkestDay", name := "<init>", desc := "()V" } : Jvm.MethodName)) ∈ TB := tz1 28 rfl rfl
theorem w_134 : (Jvm.Cond.code ({ cls := "DarkestDay", name := "<init>", desc := "()V" } : Jvm.MethodName) prog_1_method_1_code (2 : Nat) (Option.none : Option Jvm.ClassFile.FieldType)) ∈ TB := tz1 29 rfl rfl
theorem w_135 : (Jvm.Cond.methodLink "DarkestDay" (1 : Nat) ({ cls := "java/lang/Object", name := "<init>", desc := "()V" } : Jvm.MethodName)) ∈ TB := tz1 30 rfl rfl
theorem w_136 : (Jvm.Cond.instanceMethod ({ cls := "java/lang/Object", name := "<init>", desc := "()V" } : Jvm.MethodName)) ∈ TB := tz1 31 rfl rfl
theorem w_137 : (Jvm.Cond.code ({ cls := "java/lang/Object", name := "<init>", desc := "()V" } : Jvm.MethodName) object_method_1_code (1 : Nat) (Option.none : Option Jvm.ClassFile.FieldType)) ∈ TB := tz1 32 rfl rfl
theorem w_138 : (Jvm.Cond.classLink "DarkestDay" (7 : Nat) "DarkestDay$Tape") ∈ TB := tz1 33 rfl rfl
theorem w_139 : (Jvm.Cond.instantiable "DarkestDay$Tape" (4 : Nat)) ∈ TB := tz1 34 rfl rfl
theorem w_140 : (Jvm.Cond.methodLinkNest "DarkestDay" (9 : Nat) ({ cls := "DarkestDay$Tape", name := "<init>", desc := "()V" } : Jvm.MethodName) "DarkestDay") ∈ lw_tbl := tz1m 35 rfl
theorem w_141 : (Jvm.Cond.instanceMethod ({ cls := "DarkestDay$Tape", name := "<init>", desc := "()V" } : Jvm.MethodName)) ∈ TB := tz1 36 rfl rfl
theorem w_142 : (Jvm.Cond.code ({ cls := "DarkestDay$Tape", name := "<init>", desc := "()V" } : Jvm.MethodName) prog_11_method_1_code (1 : Nat) (Option.none : Option Jvm.ClassFile.FieldType)) ∈ TB := tz1 37 rfl rfl
theorem w_143 : (Jvm.Cond.methodLink "DarkestDay$Tape" (3 : Nat) ({ cls := "java/lang/Object", name := "<init>", desc := "()V" } : Jvm.MethodName)) ∈ TB := tz1 38 rfl rfl
theorem w_144 : (Jvm.Cond.fieldLink "DarkestDay$Tape" (9 : Nat) "DarkestDay$Tape" "bytes" "[I") ∈ TB := tz1 39 rfl rfl
theorem w_145 : (Jvm.Cond.fieldLink "DarkestDay$Tape" (15 : Nat) "DarkestDay$Tape" "length" "I") ∈ TB := tz1 40 rfl rfl
theorem w_146 : (Jvm.Cond.fieldLink "DarkestDay$Tape" (19 : Nat) "DarkestDay$Tape" "cursor" "I") ∈ TB := tz1 41 rfl rfl
theorem w_147 : (Jvm.Cond.fieldLink "DarkestDay$Tape" (22 : Nat) "DarkestDay$Tape" "number" "I") ∈ TB := tz1 42 rfl rfl
theorem w_157 : (Jvm.Cond.arrayClass Jvm.ClassFile.FieldType.int) ∈ TB := tz1 52 rfl rfl
theorem w_158 : (Jvm.Cond.classLink "DarkestDay" (16 : Nat) "DarkestDay$Port") ∈ TB := tz1 53 rfl rfl
theorem w_159 : (Jvm.Cond.instantiable "DarkestDay$Port" (1 : Nat)) ∈ TB := tz1 54 rfl rfl
theorem w_160 : (Jvm.Cond.methodLink "DarkestDay" (18 : Nat) ({ cls := "DarkestDay$Port", name := "<init>", desc := "()V" } : Jvm.MethodName)) ∈ TB := tz1 55 rfl rfl
theorem w_161 : (Jvm.Cond.instanceMethod ({ cls := "DarkestDay$Port", name := "<init>", desc := "()V" } : Jvm.MethodName)) ∈ TB := tz1 56 rfl rfl
theorem w_162 : (Jvm.Cond.code ({ cls := "DarkestDay$Port", name := "<init>", desc := "()V" } : Jvm.MethodName) prog_8_method_1_code (1 : Nat) (Option.none : Option Jvm.ClassFile.FieldType)) ∈ TB := tz1 57 rfl rfl
theorem w_163 : (Jvm.Cond.methodLink "DarkestDay$Port" (5 : Nat) ({ cls := "DarkestDay$Row", name := "<init>", desc := "(I)V" } : Jvm.MethodName)) ∈ TB := tz1 58 rfl rfl
theorem w_164 : (Jvm.Cond.instanceMethod ({ cls := "DarkestDay$Row", name := "<init>", desc := "(I)V" } : Jvm.MethodName)) ∈ TB := tz1 59 rfl rfl
theorem w_165 : (Jvm.Cond.code ({ cls := "DarkestDay$Row", name := "<init>", desc := "(I)V" } : Jvm.MethodName) prog_9_method_1_code (2 : Nat) (Option.none : Option Jvm.ClassFile.FieldType)) ∈ TB := tz1 60 rfl rfl
theorem w_166 : (Jvm.Cond.methodLink "DarkestDay$Row" (1 : Nat) ({ cls := "java/lang/Object", name := "<init>", desc := "()V" } : Jvm.MethodName)) ∈ TB := tz1 61 rfl rfl
theorem w_167 : (Jvm.Cond.fieldLink "DarkestDay$Row" (7 : Nat) "DarkestDay$Row" "cells" "[I") ∈ TB := tz1 62 rfl rfl
theorem w_171 : (Jvm.Cond.classLink "DarkestDay" (26 : Nat) "DarkestDay$LawReader") ∈ TB := tz1 66 rfl rfl
theorem w_172 : (Jvm.Cond.instantiable "DarkestDay$LawReader" (9 : Nat)) ∈ TB := tz1 67 rfl rfl
theorem w_173 : (Jvm.Cond.methodLinkNest "DarkestDay" (28 : Nat) ({ cls := "DarkestDay$LawReader", name := "<init>", desc := "()V" } : Jvm.MethodName) "DarkestDay") ∈ lw_tbl := tz1m 68 rfl
theorem w_174 : (Jvm.Cond.instanceMethod ({ cls := "DarkestDay$LawReader", name := "<init>", desc := "()V" } : Jvm.MethodName)) ∈ TB := tz1 69 rfl rfl
theorem w_175 : (Jvm.Cond.code ({ cls := "DarkestDay$LawReader", name := "<init>", desc := "()V" } : Jvm.MethodName) prog_6_method_1_code (1 : Nat) (Option.none : Option Jvm.ClassFile.FieldType)) ∈ TB := tz1 70 rfl rfl
theorem w_176 : (Jvm.Cond.methodLink "DarkestDay$LawReader" (3 : Nat) ({ cls := "java/lang/Object", name := "<init>", desc := "()V" } : Jvm.MethodName)) ∈ TB := tz1 71 rfl rfl
theorem w_177 : (Jvm.Cond.classLink "DarkestDay$LawReader" (9 : Nat) "DarkestDay$Row") ∈ TB := tz1 72 rfl rfl
theorem w_178 : (Jvm.Cond.instantiable "DarkestDay$Row" (1 : Nat)) ∈ TB := tz1 73 rfl rfl
theorem w_179 : (Jvm.Cond.methodLink "DarkestDay$LawReader" (13 : Nat) ({ cls := "DarkestDay$Row", name := "<init>", desc := "(I)V" } : Jvm.MethodName)) ∈ TB := tz1 74 rfl rfl
theorem w_182 : (Jvm.Cond.fieldLink "DarkestDay$LawReader" (16 : Nat) "DarkestDay$LawReader" "waiting" "LDarkestDay$Row;") ∈ TB := tz1 77 rfl rfl
theorem w_183 : (Jvm.Cond.fieldLink "DarkestDay$LawReader" (20 : Nat) "DarkestDay$LawReader" "waits" "I") ∈ TB := tz1 78 rfl rfl
theorem w_184 : (Jvm.Cond.fieldLink "DarkestDay$LawReader" (24 : Nat) "DarkestDay$LawReader" "phase" "I") ∈ TB := tz1 79 rfl rfl
theorem w_185 : (Jvm.Cond.fieldLink "DarkestDay$LawReader" (27 : Nat) "DarkestDay$LawReader" "nested" "I") ∈ TB := tz1 80 rfl rfl
theorem w_186 : (Jvm.Cond.fieldLink "DarkestDay$LawReader" (30 : Nat) "DarkestDay$LawReader" "rounds" "I") ∈ TB := tz1 81 rfl rfl
theorem w_187 : (Jvm.Cond.fieldLink "DarkestDay$LawReader" (33 : Nat) "DarkestDay$LawReader" "squares" "I") ∈ TB := tz1 82 rfl rfl
theorem w_188 : (Jvm.Cond.fieldLink "DarkestDay$LawReader" (36 : Nat) "DarkestDay$LawReader" "conditional" "Z") ∈ TB := tz1 83 rfl rfl
theorem w_189 : (Jvm.Cond.fieldLink "DarkestDay$LawReader" (40 : Nat) "DarkestDay$LawReader" "answering" "Z") ∈ TB := tz1 84 rfl rfl
theorem w_190 : (Jvm.Cond.fieldLink "DarkestDay$LawReader" (43 : Nat) "DarkestDay$LawReader" "compared" "Z") ∈ TB := tz1 85 rfl rfl
theorem w_210 : (Jvm.Cond.classLink "DarkestDay" (33 : Nat) "DarkestDay$Law") ∈ TB := tz1 105 rfl rfl
theorem w_211 : (Jvm.Cond.arrayOver (Jvm.ClassFile.FieldType.object "DarkestDay$Law")) ∈ lw_tbl := tz1m 106 rfl
theorem w_212 : (Jvm.Cond.classLink "DarkestDay" (39 : Nat) "DarkestDay$Calendar") ∈ TB := tz1 107 rfl rfl
theorem w_213 : (Jvm.Cond.arrayOver (Jvm.ClassFile.FieldType.object "DarkestDay$Calendar")) ∈ lw_tbl := tz1m 108 rfl
theorem w_214 : (Jvm.Cond.classLink "DarkestDay" (45 : Nat) "DarkestDay$Row") ∈ TB := tz1 109 rfl rfl
theorem w_215 : (Jvm.Cond.methodLink "DarkestDay" (47 : Nat) ({ cls := "DarkestDay$Row", name := "<init>", desc := "(I)V" } : Jvm.MethodName)) ∈ TB := tz1 110 rfl rfl
theorem w_216 : (Jvm.Cond.classLink "DarkestDay" (54 : Nat) "DarkestDay$Course") ∈ TB := tz1 111 rfl rfl
theorem w_217 : (Jvm.Cond.instantiable "DarkestDay$Course" (5 : Nat)) ∈ TB := tz1 112 rfl rfl
theorem w_218 : (Jvm.Cond.methodLink "DarkestDay" (56 : Nat) ({ cls := "DarkestDay$Course", name := "<init>", desc := "(LDarkestDay$Port;)V" } : Jvm.MethodName)) ∈ TB := tz1 113 rfl rfl
theorem w_219 : (Jvm.Cond.instanceMethod ({ cls := "DarkestDay$Course", name := "<init>", desc := "(LDarkestDay$Port;)V" } : Jvm.MethodName)) ∈ TB := tz1 114 rfl rfl
theorem w_220 : (Jvm.Cond.code ({ cls := "DarkestDay$Course", name := "<init>", desc := "(LDarkestDay$Port;)V" } : Jvm.MethodName) prog_3_method_1_code (2 : Nat) (Option.none : Option Jvm.ClassFile.FieldType)) ∈ TB := tz1 115 rfl rfl
theorem w_221 : (Jvm.Cond.methodLink "DarkestDay$Course" (3 : Nat) ({ cls := "java/lang/Object", name := "<init>", desc := "()V" } : Jvm.MethodName)) ∈ TB := tz1 116 rfl rfl
theorem w_222 : (Jvm.Cond.classLink "DarkestDay$Course" (9 : Nat) "DarkestDay$Row") ∈ TB := tz1 117 rfl rfl
theorem w_223 : (Jvm.Cond.fieldLink "DarkestDay$Course" (11 : Nat) "DarkestDay$Law" "LETTERS" "[C") ∈ TB := tz1 118 rfl rfl
theorem w_225 : (Jvm.Cond.methodLink "DarkestDay$Course" (17 : Nat) ({ cls := "DarkestDay$Row", name := "<init>", desc := "(I)V" } : Jvm.MethodName)) ∈ TB := tz1 120 rfl rfl
theorem w_226 : (Jvm.Cond.fieldLink "DarkestDay$Course" (37 : Nat) "DarkestDay$Course" "port" "LDarkestDay$Port;") ∈ TB := tz1 121 rfl rfl
theorem w_227 : (Jvm.Cond.fieldLink "DarkestDay$Course" (20 : Nat) "DarkestDay$Course" "letters" "LDarkestDay$Row;") ∈ TB := tz1 122 rfl rfl
theorem w_228 : (Jvm.Cond.fieldLink "DarkestDay$Course" (26 : Nat) "DarkestDay$Course" "stack" "LDarkestDay$Row;") ∈ TB := tz1 123 rfl rfl
theorem w_229 : (Jvm.Cond.fieldLink "DarkestDay$Course" (29 : Nat) "DarkestDay$Course" "law" "LDarkestDay$Law;") ∈ TB := tz1 124 rfl rfl
theorem w_230 : (Jvm.Cond.fieldLink "DarkestDay$Course" (33 : Nat) "DarkestDay$Course" "chance" "J") ∈ TB := tz1 125 rfl rfl
theorem w_242 : (Jvm.Cond.classLink "DarkestDay" (63 : Nat) "DarkestDay$Outlook") ∈ TB := tz1 137 rfl rfl
theorem w_243 : (Jvm.Cond.instantiable "DarkestDay$Outlook" (10 : Nat)) ∈ TB := tz1 138 rfl rfl
theorem w_244 : (Jvm.Cond.methodLink "DarkestDay" (65 : Nat) ({ cls := "DarkestDay$Outlook", name := "<init>", desc := "(LDarkestDay$Port;LDarkestDay$Course;)V" } : Jvm.MethodName)) ∈ TB := tz1 139 rfl rfl
theorem w_245 : (Jvm.Cond.instanceMethod ({ cls := "DarkestDay$Outlook", name := "<init>", desc := "(LDarkestDay$Port;LDarkestDay$Course;)V" } : Jvm.MethodName)) ∈ TB := tz1 140 rfl rfl
theorem w_246 : (Jvm.Cond.code ({ cls := "DarkestDay$Outlook", name := "<init>", desc := "(LDarkestDay$Port;LDarkestDay$Course;)V" } : Jvm.MethodName) prog_7_method_1_code (3 : Nat) (Option.none : Option Jvm.ClassFile.FieldType)) ∈ TB := tz1 141 rfl rfl
theorem w_247 : (Jvm.Cond.methodLink "DarkestDay$Outlook" (3 : Nat) ({ cls := "java/lang/Object", name := "<init>", desc := "()V" } : Jvm.MethodName)) ∈ TB := tz1 142 rfl rfl
theorem w_248 : (Jvm.Cond.classLink "DarkestDay$Outlook" (9 : Nat) "DarkestDay$State") ∈ TB := tz1 143 rfl rfl
theorem w_249 : (Jvm.Cond.instantiable "DarkestDay$State" (1 : Nat)) ∈ TB := tz1 144 rfl rfl
theorem w_250 : (Jvm.Cond.methodLink "DarkestDay$Outlook" (11 : Nat) ({ cls := "DarkestDay$State", name := "<init>", desc := "()V" } : Jvm.MethodName)) ∈ TB := tz1 145 rfl rfl
theorem w_251 : (Jvm.Cond.instanceMethod ({ cls := "DarkestDay$State", name := "<init>", desc := "()V" } : Jvm.MethodName)) ∈ TB := tz1 146 rfl rfl
theorem w_252 : (Jvm.Cond.code ({ cls := "DarkestDay$State", name := "<init>", desc := "()V" } : Jvm.MethodName) prog_10_method_1_code (1 : Nat) (Option.none : Option Jvm.ClassFile.FieldType)) ∈ TB := tz1 147 rfl rfl
theorem w_253 : (Jvm.Cond.methodLink "DarkestDay$State" (5 : Nat) ({ cls := "DarkestDay$Row", name := "<init>", desc := "(I)V" } : Jvm.MethodName)) ∈ TB := tz1 148 rfl rfl
theorem w_256 : (Jvm.Cond.classLink "DarkestDay$Outlook" (18 : Nat) "DarkestDay$Row") ∈ TB := tz1 151 rfl rfl
theorem w_257 : (Jvm.Cond.methodLink "DarkestDay$Outlook" (20 : Nat) ({ cls := "DarkestDay$Row", name := "<init>", desc := "(I)V" } : Jvm.MethodName)) ∈ TB := tz1 152 rfl rfl
theorem w_258 : (Jvm.Cond.fieldLink "DarkestDay$Outlook" (45 : Nat) "DarkestDay$Outlook" "port" "LDarkestDay$Port;") ∈ TB := tz1 153 rfl rfl
theorem w_259 : (Jvm.Cond.fieldLink "DarkestDay$Outlook" (49 : Nat) "DarkestDay$Outlook" "course" "LDarkestDay$Course;") ∈ TB := tz1 154 rfl rfl
theorem w_260 : (Jvm.Cond.fieldLink "DarkestDay$Outlook" (12 : Nat) "DarkestDay$Outlook" "apart" "LDarkestDay$State;") ∈ TB := tz1 155 rfl rfl
theorem w_261 : (Jvm.Cond.fieldLink "DarkestDay$Outlook" (23 : Nat) "DarkestDay$Outlook" "lights" "LDarkestDay$Row;") ∈ TB := tz1 156 rfl rfl
theorem w_262 : (Jvm.Cond.fieldLink "DarkestDay$Outlook" (27 : Nat) "DarkestDay$Outlook" "foggyLights" "LDarkestDay$Row;") ∈ TB := tz1 157 rfl rfl
theorem w_263 : (Jvm.Cond.fieldLink "DarkestDay$Outlook" (30 : Nat) "DarkestDay$Outlook" "habitsBehind" "LDarkestDay$Row;") ∈ TB := tz1 158 rfl rfl
theorem w_264 : (Jvm.Cond.fieldLink "DarkestDay$Outlook" (33 : Nat) "DarkestDay$Outlook" "voicesBehind" "LDarkestDay$Row;") ∈ TB := tz1 159 rfl rfl
theorem w_265 : (Jvm.Cond.fieldLink "DarkestDay$Outlook" (36 : Nat) "DarkestDay$Outlook" "rulers" "LDarkestDay$Row;") ∈ TB := tz1 160 rfl rfl
theorem w_266 : (Jvm.Cond.fieldLink "DarkestDay$Outlook" (39 : Nat) "DarkestDay$Outlook" "gains" "LDarkestDay$Row;") ∈ TB := tz1 161 rfl rfl
theorem w_267 : (Jvm.Cond.fieldLink "DarkestDay$Outlook" (42 : Nat) "DarkestDay$Outlook" "governors" "LDarkestDay$Row;") ∈ TB := tz1 162 rfl rfl
theorem w_289 : (Jvm.Cond.classLink "DarkestDay" (72 : Nat) "DarkestDay$Witness") ∈ TB := tz1 184 rfl rfl
theorem w_290 : (Jvm.Cond.instantiable "DarkestDay$Witness" (8 : Nat)) ∈ TB := tz1 185 rfl rfl
theorem w_291 : (Jvm.Cond.methodLink "DarkestDay" (74 : Nat) ({ cls := "DarkestDay$Witness", name := "<init>", desc := "(LDarkestDay$Port;LDarkestDay$Course;)V" } : Jvm.MethodName)) ∈ TB := tz1 186 rfl rfl
theorem w_292 : (Jvm.Cond.instanceMethod ({ cls := "DarkestDay$Witness", name := "<init>", desc := "(LDarkestDay$Port;LDarkestDay$Course;)V" } : Jvm.MethodName)) ∈ TB := tz1 187 rfl rfl
theorem w_293 : (Jvm.Cond.code ({ cls := "DarkestDay$Witness", name := "<init>", desc := "(LDarkestDay$Port;LDarkestDay$Course;)V" } : Jvm.MethodName) prog_12_method_1_code (3 : Nat) (Option.none : Option Jvm.ClassFile.FieldType)) ∈ TB := tz1 188 rfl rfl
theorem w_294 : (Jvm.Cond.methodLink "DarkestDay$Witness" (3 : Nat) ({ cls := "java/lang/Object", name := "<init>", desc := "()V" } : Jvm.MethodName)) ∈ TB := tz1 189 rfl rfl
theorem w_295 : (Jvm.Cond.classLink "DarkestDay$Witness" (9 : Nat) "DarkestDay$State") ∈ TB := tz1 190 rfl rfl
theorem w_296 : (Jvm.Cond.methodLink "DarkestDay$Witness" (11 : Nat) ({ cls := "DarkestDay$State", name := "<init>", desc := "()V" } : Jvm.MethodName)) ∈ TB := tz1 191 rfl rfl
theorem w_297 : (Jvm.Cond.classLink "DarkestDay$Witness" (18 : Nat) "DarkestDay$Row") ∈ TB := tz1 192 rfl rfl
theorem w_298 : (Jvm.Cond.methodLink "DarkestDay$Witness" (20 : Nat) ({ cls := "DarkestDay$Row", name := "<init>", desc := "(I)V" } : Jvm.MethodName)) ∈ TB := tz1 193 rfl rfl
theorem w_299 : (Jvm.Cond.fieldLink "DarkestDay$Witness" (40 : Nat) "DarkestDay$Witness" "port" "LDarkestDay$Port;") ∈ TB := tz1 194 rfl rfl
theorem w_300 : (Jvm.Cond.fieldLink "DarkestDay$Witness" (44 : Nat) "DarkestDay$Witness" "course" "LDarkestDay$Course;") ∈ TB := tz1 195 rfl rfl
theorem w_301 : (Jvm.Cond.fieldLink "DarkestDay$Witness" (12 : Nat) "DarkestDay$Witness" "apart" "LDarkestDay$State;") ∈ TB := tz1 196 rfl rfl
theorem w_302 : (Jvm.Cond.fieldLink "DarkestDay$Witness" (23 : Nat) "DarkestDay$Witness" "days" "LDarkestDay$Row;") ∈ TB := tz1 197 rfl rfl
theorem w_303 : (Jvm.Cond.fieldLink "DarkestDay$Witness" (27 : Nat) "DarkestDay$Witness" "marks" "LDarkestDay$Row;") ∈ TB := tz1 198 rfl rfl
theorem w_304 : (Jvm.Cond.fieldLink "DarkestDay$Witness" (30 : Nat) "DarkestDay$Witness" "mores" "LDarkestDay$Row;") ∈ TB := tz1 199 rfl rfl
theorem w_305 : (Jvm.Cond.fieldLink "DarkestDay$Witness" (33 : Nat) "DarkestDay$Witness" "treasuries" "LDarkestDay$Row;") ∈ TB := tz1 200 rfl rfl
theorem w_306 : (Jvm.Cond.fieldLink "DarkestDay$Witness" (36 : Nat) "DarkestDay$Witness" "size" "I") ∈ TB := tz1 201 rfl rfl
theorem w_324 : (Jvm.Cond.classLink "DarkestDay" (79 : Nat) "DarkestDay$History") ∈ TB := tz1 219 rfl rfl
theorem w_325 : (Jvm.Cond.instantiable "DarkestDay$History" (3 : Nat)) ∈ TB := tz1 220 rfl rfl
theorem w_326 : (Jvm.Cond.methodLink "DarkestDay" (81 : Nat) ({ cls := "DarkestDay$History", name := "<init>", desc := "()V" } : Jvm.MethodName)) ∈ TB := tz1 221 rfl rfl
theorem w_327 : (Jvm.Cond.instanceMethod ({ cls := "DarkestDay$History", name := "<init>", desc := "()V" } : Jvm.MethodName)) ∈ TB := tz1 222 rfl rfl
theorem w_328 : (Jvm.Cond.code ({ cls := "DarkestDay$History", name := "<init>", desc := "()V" } : Jvm.MethodName) prog_4_method_1_code (2 : Nat) (Option.none : Option Jvm.ClassFile.FieldType)) ∈ TB := tz1 223 rfl rfl
theorem w_329 : (Jvm.Cond.methodLink "DarkestDay$History" (1 : Nat) ({ cls := "java/lang/Object", name := "<init>", desc := "()V" } : Jvm.MethodName)) ∈ TB := tz1 224 rfl rfl
theorem w_330 : (Jvm.Cond.classLink "DarkestDay$History" (9 : Nat) "DarkestDay$State") ∈ TB := tz1 225 rfl rfl
theorem w_331 : (Jvm.Cond.arrayOver (Jvm.ClassFile.FieldType.object "DarkestDay$State")) ∈ lw_tbl := tz1m 226 rfl
theorem w_332 : (Jvm.Cond.methodLink "DarkestDay$History" (22 : Nat) ({ cls := "DarkestDay$State", name := "<init>", desc := "()V" } : Jvm.MethodName)) ∈ TB := tz1 227 rfl rfl
theorem w_333 : (Jvm.Cond.fieldLink "DarkestDay$History" (11 : Nat) "DarkestDay$History" "states" "[LDarkestDay$State;") ∈ TB := tz1 228 rfl rfl
theorem w_334 : (Jvm.Cond.fieldLink "DarkestDay$History" (15 : Nat) "DarkestDay$History" "size" "I") ∈ TB := tz1 229 rfl rfl
theorem w_335 : (Jvm.Cond.fieldLink "DarkestDay$History" (19 : Nat) "DarkestDay$History" "next" "I") ∈ TB := tz1 230 rfl rfl
theorem w_343 : (Jvm.Cond.classLink "DarkestDay" (86 : Nat) "DarkestDay$State") ∈ TB := tz1 238 rfl rfl
theorem w_344 : (Jvm.Cond.methodLink "DarkestDay" (88 : Nat) ({ cls := "DarkestDay$State", name := "<init>", desc := "()V" } : Jvm.MethodName)) ∈ TB := tz1 239 rfl rfl
theorem w_345 : (Jvm.Cond.instantiable "DarkestDay$Law" (2 : Nat)) ∈ TB := tz2 0 rfl rfl
theorem w_346 : (Jvm.Cond.methodLink "DarkestDay" (113 : Nat) ({ cls := "DarkestDay$Law", name := "<init>", desc := "()V" } : Jvm.MethodName)) ∈ TB := tz2 1 rfl rfl
theorem w_347 : (Jvm.Cond.instanceMethod ({ cls := "DarkestDay$Law", name := "<init>", desc := "()V" } : Jvm.MethodName)) ∈ TB := tz2 2 rfl rfl
theorem w_348 : (Jvm.Cond.code ({ cls := "DarkestDay$Law", name := "<init>", desc := "()V" } : Jvm.MethodName) prog_5_method_1_code (1 : Nat) (Option.none : Option Jvm.ClassFile.FieldType)) ∈ TB := tz2 3 rfl rfl
theorem w_349 : (Jvm.Cond.methodLink "DarkestDay$Law" (3 : Nat) ({ cls := "DarkestDay$Row", name := "<init>", desc := "(I)V" } : Jvm.MethodName)) ∈ TB := tz2 4 rfl rfl
theorem w_350 : (Jvm.Cond.fieldLink "DarkestDay$Law" (9 : Nat) "DarkestDay$Law" "length" "I") ∈ TB := tz2 5 rfl rfl
theorem w_355 : (Jvm.Cond.instantiable "DarkestDay$Calendar" (2 : Nat)) ∈ TB := tz2 10 rfl rfl
theorem w_356 : (Jvm.Cond.methodLink "DarkestDay" (114 : Nat) ({ cls := "DarkestDay$Calendar", name := "<init>", desc := "()V" } : Jvm.MethodName)) ∈ TB := tz2 11 rfl rfl
theorem w_357 : (Jvm.Cond.instanceMethod ({ cls := "DarkestDay$Calendar", name := "<init>", desc := "()V" } : Jvm.MethodName)) ∈ TB := tz2 12 rfl rfl
theorem w_358 : (Jvm.Cond.code ({ cls := "DarkestDay$Calendar", name := "<init>", desc := "()V" } : Jvm.MethodName) prog_2_method_1_code (1 : Nat) (Option.none : Option Jvm.ClassFile.FieldType)) ∈ TB := tz2 13 rfl rfl
theorem w_359 : (Jvm.Cond.methodLink "DarkestDay$Calendar" (5 : Nat) ({ cls := "DarkestDay$Row", name := "<init>", desc := "(I)V" } : Jvm.MethodName)) ∈ TB := tz2 14 rfl rfl
theorem w_360 : (Jvm.Cond.fieldLink "DarkestDay$Calendar" (11 : Nat) "DarkestDay$Calendar" "steps" "I") ∈ TB := tz2 15 rfl rfl
theorem w_365 : (Jvm.Cond.fieldLink "DarkestDay" (10 : Nat) "DarkestDay" "tape" "LDarkestDay$Tape;") ∈ TB := tz2 20 rfl rfl
theorem w_366 : (Jvm.Cond.fieldLink "DarkestDay" (19 : Nat) "DarkestDay" "port" "LDarkestDay$Port;") ∈ TB := tz2 21 rfl rfl
theorem w_367 : (Jvm.Cond.fieldLink "DarkestDay" (23 : Nat) "DarkestDay" "draft" "LDarkestDay$Port;") ∈ TB := tz2 22 rfl rfl
theorem w_368 : (Jvm.Cond.fieldLink "DarkestDay" (29 : Nat) "DarkestDay" "lawReader" "LDarkestDay$LawReader;") ∈ TB := tz2 23 rfl rfl
theorem w_369 : (Jvm.Cond.fieldLink "DarkestDay" (35 : Nat) "DarkestDay" "laws" "[LDarkestDay$Law;") ∈ TB := tz2 24 rfl rfl
theorem w_370 : (Jvm.Cond.fieldLink "DarkestDay" (41 : Nat) "DarkestDay" "calendars" "[LDarkestDay$Calendar;") ∈ TB := tz2 25 rfl rfl
theorem w_371 : (Jvm.Cond.fieldLink "DarkestDay" (50 : Nat) "DarkestDay" "refusals" "LDarkestDay$Row;") ∈ TB := tz2 26 rfl rfl
theorem w_372 : (Jvm.Cond.fieldLink "DarkestDay" (59 : Nat) "DarkestDay" "course" "LDarkestDay$Course;") ∈ TB := tz2 27 rfl rfl
theorem w_373 : (Jvm.Cond.fieldLink "DarkestDay" (68 : Nat) "DarkestDay" "outlook" "LDarkestDay$Outlook;") ∈ TB := tz2 28 rfl rfl
theorem w_374 : (Jvm.Cond.fieldLink "DarkestDay" (75 : Nat) "DarkestDay" "witness" "LDarkestDay$Witness;") ∈ TB := tz2 29 rfl rfl
theorem w_375 : (Jvm.Cond.fieldLink "DarkestDay" (82 : Nat) "DarkestDay" "history" "LDarkestDay$History;") ∈ TB := tz2 30 rfl rfl
theorem w_376 : (Jvm.Cond.fieldLink "DarkestDay" (89 : Nat) "DarkestDay" "now" "LDarkestDay$State;") ∈ TB := tz2 31 rfl rfl
theorem w_377 : (Jvm.Cond.fieldLink "DarkestDay" (93 : Nat) "DarkestDay" "picture" "LDarkestDay$State;") ∈ TB := tz2 32 rfl rfl
theorem w_378 : (Jvm.Cond.fieldLink "DarkestDay" (96 : Nat) "DarkestDay" "pictured" "Z") ∈ TB := tz2 33 rfl rfl
theorem w_379 : (Jvm.Cond.fieldLink "DarkestDay" (100 : Nat) "DarkestDay" "lawCount" "I") ∈ TB := tz2 34 rfl rfl
theorem w_380 : (Jvm.Cond.fieldLink "DarkestDay" (104 : Nat) "DarkestDay" "calendarCount" "I") ∈ TB := tz2 35 rfl rfl
theorem w_381 : (Jvm.Cond.fieldLink "DarkestDay" (107 : Nat) "DarkestDay" "lawThatHolds" "I") ∈ TB := tz2 36 rfl rfl
theorem w_382 : (Jvm.Cond.fieldLink "DarkestDay" (110 : Nat) "DarkestDay" "whimsy" "I") ∈ TB := tz2 37 rfl rfl
theorem w_420 : (Jvm.Cond.methodLink "DarkestDayLaw" (19 : Nat) ({ cls := "DarkestDay", name := "feed", desc := "(IIIII)I" } : Jvm.MethodName)) ∈ TB := tz2 75 rfl rfl
theorem w_421 : (Jvm.Cond.instanceMethod ({ cls := "DarkestDay", name := "feed", desc := "(IIIII)I" } : Jvm.MethodName)) ∈ TB := tz2 76 rfl rfl
theorem w_422 : (Jvm.Cond.selects "DarkestDay" ({ cls := "DarkestDay", name := "feed", desc := "(IIIII)I" } : Jvm.MethodName) ({ cls := "DarkestDay", name := "feed", desc := "(IIIII)I" } : Jvm.MethodName)) ∈ TB := tz2 77 rfl rfl
theorem w_423 : (Jvm.Cond.code ({ cls := "DarkestDay", name := "feed", desc := "(IIIII)I" } : Jvm.MethodName) prog_1_method_2_code (7 : Nat) (Option.some Jvm.ClassFile.FieldType.int)) ∈ TB := tz2 78 rfl rfl
theorem w_424 : (Jvm.Cond.methodLink "DarkestDay" (115 : Nat) ({ cls := "DarkestDay$Tape", name := "bytesIn", desc := "(I)I" } : Jvm.MethodName)) ∈ TB := tz2 79 rfl rfl
theorem w_425 : (Jvm.Cond.static ({ cls := "DarkestDay$Tape", name := "bytesIn", desc := "(I)I" } : Jvm.MethodName)) ∈ TB := tz2 80 rfl rfl
theorem w_426 : (Jvm.Cond.code ({ cls := "DarkestDay$Tape", name := "bytesIn", desc := "(I)I" } : Jvm.MethodName) prog_11_method_2_code (3 : Nat) (Option.some Jvm.ClassFile.FieldType.int)) ∈ TB := tz2 81 rfl rfl
theorem w_427 : (Jvm.Cond.methodLink "DarkestDay" (119 : Nat) ({ cls := "DarkestDay$Tape", name := "length", desc := "()I" } : Jvm.MethodName)) ∈ TB := tz2 82 rfl rfl
theorem w_428 : (Jvm.Cond.instanceMethod ({ cls := "DarkestDay$Tape", name := "length", desc := "()I" } : Jvm.MethodName)) ∈ TB := tz2 83 rfl rfl
theorem w_429 : (Jvm.Cond.selects "DarkestDay$Tape" ({ cls := "DarkestDay$Tape", name := "length", desc := "()I" } : Jvm.MethodName) ({ cls := "DarkestDay$Tape", name := "length", desc := "()I" } : Jvm.MethodName)) ∈ TB := tz2 84 rfl rfl
theorem w_430 : (Jvm.Cond.code ({ cls := "DarkestDay$Tape", name := "length", desc := "()I" } : Jvm.MethodName) prog_11_method_5_code (1 : Nat) (Option.some Jvm.ClassFile.FieldType.int)) ∈ TB := tz2 85 rfl rfl
theorem w_431 : (Jvm.Cond.methodLink "DarkestDay" (123 : Nat) ({ cls := "DarkestDay$Tape", name := "append", desc := "(I)V" } : Jvm.MethodName)) ∈ TB := tz2 86 rfl rfl
theorem w_432 : (Jvm.Cond.instanceMethod ({ cls := "DarkestDay$Tape", name := "append", desc := "(I)V" } : Jvm.MethodName)) ∈ TB := tz2 87 rfl rfl
theorem w_433 : (Jvm.Cond.selects "DarkestDay$Tape" ({ cls := "DarkestDay$Tape", name := "append", desc := "(I)V" } : Jvm.MethodName) ({ cls := "DarkestDay$Tape", name := "append", desc := "(I)V" } : Jvm.MethodName)) ∈ TB := tz2 88 rfl rfl
theorem w_434 : (Jvm.Cond.code ({ cls := "DarkestDay$Tape", name := "append", desc := "(I)V" } : Jvm.MethodName) prog_11_method_3_code (4 : Nat) (Option.none : Option Jvm.ClassFile.FieldType)) ∈ TB := tz2 89 rfl rfl
theorem w_435 : (Jvm.Cond.methodLink "DarkestDayLaw" (24 : Nat) ({ cls := "DarkestDay", name := "end", desc := "(I)Z" } : Jvm.MethodName)) ∈ TB := tz2 90 rfl rfl
theorem w_436 : (Jvm.Cond.instanceMethod ({ cls := "DarkestDay", name := "end", desc := "(I)Z" } : Jvm.MethodName)) ∈ TB := tz2 91 rfl rfl
theorem w_437 : (Jvm.Cond.selects "DarkestDay" ({ cls := "DarkestDay", name := "end", desc := "(I)Z" } : Jvm.MethodName) ({ cls := "DarkestDay", name := "end", desc := "(I)Z" } : Jvm.MethodName)) ∈ TB := tz2 92 rfl rfl
theorem w_438 : (Jvm.Cond.code ({ cls := "DarkestDay", name := "end", desc := "(I)Z" } : Jvm.MethodName) prog_1_method_3_code (2 : Nat) (Option.some Jvm.ClassFile.FieldType.boolean)) ∈ TB := tz2 93 rfl rfl
theorem w_439 : (Jvm.Cond.methodLink "DarkestDay" (126 : Nat) ({ cls := "DarkestDay$Tape", name := "cut", desc := "(I)V" } : Jvm.MethodName)) ∈ TB := tz2 94 rfl rfl
theorem w_440 : (Jvm.Cond.instanceMethod ({ cls := "DarkestDay$Tape", name := "cut", desc := "(I)V" } : Jvm.MethodName)) ∈ TB := tz2 95 rfl rfl
theorem w_441 : (Jvm.Cond.selects "DarkestDay$Tape" ({ cls := "DarkestDay$Tape", name := "cut", desc := "(I)V" } : Jvm.MethodName) ({ cls := "DarkestDay$Tape", name := "cut", desc := "(I)V" } : Jvm.MethodName)) ∈ TB := tz2 96 rfl rfl
theorem w_442 : (Jvm.Cond.code ({ cls := "DarkestDay$Tape", name := "cut", desc := "(I)V" } : Jvm.MethodName) prog_11_method_4_code (2 : Nat) (Option.none : Option Jvm.ClassFile.FieldType)) ∈ TB := tz2 97 rfl rfl
theorem w_443 : (Jvm.Cond.methodLink "DarkestDayLaw" (29 : Nat) ({ cls := "DarkestDay", name := "fault", desc := "(I)I" } : Jvm.MethodName)) ∈ TB := tz2 98 rfl rfl
theorem w_444 : (Jvm.Cond.instanceMethod ({ cls := "DarkestDay", name := "fault", desc := "(I)I" } : Jvm.MethodName)) ∈ TB := tz2 99 rfl rfl
theorem w_445 : (Jvm.Cond.selects "DarkestDay" ({ cls := "DarkestDay", name := "fault", desc := "(I)I" } : Jvm.MethodName) ({ cls := "DarkestDay", name := "fault", desc := "(I)I" } : Jvm.MethodName)) ∈ TB := tz2 100 rfl rfl
theorem w_446 : (Jvm.Cond.code ({ cls := "DarkestDay", name := "fault", desc := "(I)I" } : Jvm.MethodName) prog_1_method_4_code (2 : Nat) (Option.some Jvm.ClassFile.FieldType.int)) ∈ TB := tz2 101 rfl rfl
theorem w_447 : (Jvm.Cond.methodLink "DarkestDay" (129 : Nat) ({ cls := "DarkestDay", name := "readsAs", desc := "(I)Z" } : Jvm.MethodName)) ∈ TB := tz2 102 rfl rfl
theorem w_449 : (Jvm.Cond.instanceMethod ({ cls := "DarkestDay", name := "readsAs", desc := "(I)Z" } : Jvm.MethodName)) ∈ TB := tz2 104 rfl rfl
theorem w_450 : (Jvm.Cond.code ({ cls := "DarkestDay", name := "readsAs", desc := "(I)Z" } : Jvm.MethodName) prog_1_method_7_code (3 : Nat) (Option.some Jvm.ClassFile.FieldType.boolean)) ∈ TB := tz2 105 rfl rfl
theorem w_451 : (Jvm.Cond.methodLink "DarkestDay" (145 : Nat) ({ cls := "DarkestDay$Tape", name := "rewind", desc := "()V" } : Jvm.MethodName)) ∈ TB := tz2 106 rfl rfl
theorem w_452 : (Jvm.Cond.instanceMethod ({ cls := "DarkestDay$Tape", name := "rewind", desc := "()V" } : Jvm.MethodName)) ∈ TB := tz2 107 rfl rfl
theorem w_453 : (Jvm.Cond.selects "DarkestDay$Tape" ({ cls := "DarkestDay$Tape", name := "rewind", desc := "()V" } : Jvm.MethodName) ({ cls := "DarkestDay$Tape", name := "rewind", desc := "()V" } : Jvm.MethodName)) ∈ TB := tz2 108 rfl rfl
theorem w_454 : (Jvm.Cond.code ({ cls := "DarkestDay$Tape", name := "rewind", desc := "()V" } : Jvm.MethodName) prog_11_method_7_code (1 : Nat) (Option.none : Option Jvm.ClassFile.FieldType)) ∈ TB := tz2 109 rfl rfl
theorem w_455 : (Jvm.Cond.methodLink "DarkestDay" (148 : Nat) ({ cls := "DarkestDay", name := "lawAt", desc := "(I)LDarkestDay$Law;" } : Jvm.MethodName)) ∈ TB := tz2 110 rfl rfl
theorem w_457 : (Jvm.Cond.instanceMethod ({ cls := "DarkestDay", name := "lawAt", desc := "(I)LDarkestDay$Law;" } : Jvm.MethodName)) ∈ TB := tz2 112 rfl rfl
theorem w_458 : (Jvm.Cond.code ({ cls := "DarkestDay", name := "lawAt", desc := "(I)LDarkestDay$Law;" } : Jvm.MethodName) prog_1_method_9_code (2 : Nat) (Option.some (Jvm.ClassFile.FieldType.object "DarkestDay$Law"))) ∈ TB := tz2 113 rfl rfl
theorem w_459 : (Jvm.Cond.methodLink "DarkestDay" (152 : Nat) ({ cls := "DarkestDay$LawReader", name := "reads", desc := "(LDarkestDay$Tape;LDarkestDay$Law;)Z" } : Jvm.MethodName)) ∈ TB := tz2 114 rfl rfl
theorem w_460 : (Jvm.Cond.instanceMethod ({ cls := "DarkestDay$LawReader", name := "reads", desc := "(LDarkestDay$Tape;LDarkestDay$Law;)Z" } : Jvm.MethodName)) ∈ TB := tz2 115 rfl rfl
theorem w_461 : (Jvm.Cond.selects "DarkestDay$LawReader" ({ cls := "DarkestDay$LawReader", name := "reads", desc := "(LDarkestDay$Tape;LDarkestDay$Law;)Z" } : Jvm.MethodName) ({ cls := "DarkestDay$LawReader", name := "reads", desc := "(LDarkestDay$Tape;LDarkestDay$Law;)Z" } : Jvm.MethodName)) ∈ TB := tz2 116 rfl rfl
theorem w_462 : (Jvm.Cond.code ({ cls := "DarkestDay$LawReader", name := "reads", desc := "(LDarkestDay$Tape;LDarkestDay$Law;)Z" } : Jvm.MethodName) prog_6_method_2_code (5 : Nat) (Option.some Jvm.ClassFile.FieldType.boolean)) ∈ TB := tz2 117 rfl rfl
theorem w_463 : (Jvm.Cond.methodLink "DarkestDay$LawReader" (46 : Nat) ({ cls := "DarkestDay$Law", name := "clear", desc := "()V" } : Jvm.MethodName)) ∈ TB := tz2 118 rfl rfl
theorem w_464 : (Jvm.Cond.instanceMethod ({ cls := "DarkestDay$Law", name := "clear", desc := "()V" } : Jvm.MethodName)) ∈ TB := tz2 119 rfl rfl
theorem w_465 : (Jvm.Cond.selects "DarkestDay$Law" ({ cls := "DarkestDay$Law", name := "clear", desc := "()V" } : Jvm.MethodName) ({ cls := "DarkestDay$Law", name := "clear", desc := "()V" } : Jvm.MethodName)) ∈ TB := tz2 120 rfl rfl
theorem w_466 : (Jvm.Cond.code ({ cls := "DarkestDay$Law", name := "clear", desc := "()V" } : Jvm.MethodName) prog_5_method_2_code (1 : Nat) (Option.none : Option Jvm.ClassFile.FieldType)) ∈ TB := tz2 121 rfl rfl
theorem w_467 : (Jvm.Cond.methodLink "DarkestDay$LawReader" (51 : Nat) ({ cls := "DarkestDay$LawReader", name := "begin", desc := "()V" } : Jvm.MethodName)) ∈ TB := tz2 122 rfl rfl
theorem w_469 : (Jvm.Cond.instanceMethod ({ cls := "DarkestDay$LawReader", name := "begin", desc := "()V" } : Jvm.MethodName)) ∈ TB := tz2 124 rfl rfl
theorem w_470 : (Jvm.Cond.code ({ cls := "DarkestDay$LawReader", name := "begin", desc := "()V" } : Jvm.MethodName) prog_6_method_3_code (1 : Nat) (Option.none : Option Jvm.ClassFile.FieldType)) ∈ TB := tz2 125 rfl rfl
theorem w_471 : (Jvm.Cond.methodLink "DarkestDay$LawReader" (54 : Nat) ({ cls := "DarkestDay$Tape", name := "nextSign", desc := "()I" } : Jvm.MethodName)) ∈ TB := tz2 126 rfl rfl
theorem w_472 : (Jvm.Cond.instanceMethod ({ cls := "DarkestDay$Tape", name := "nextSign", desc := "()I" } : Jvm.MethodName)) ∈ TB := tz2 127 rfl rfl
theorem w_473 : (Jvm.Cond.selects "DarkestDay$Tape" ({ cls := "DarkestDay$Tape", name := "nextSign", desc := "()I" } : Jvm.MethodName) ({ cls := "DarkestDay$Tape", name := "nextSign", desc := "()I" } : Jvm.MethodName)) ∈ TB := tz2 128 rfl rfl
theorem w_474 : (Jvm.Cond.code ({ cls := "DarkestDay$Tape", name := "nextSign", desc := "()I" } : Jvm.MethodName) prog_11_method_9_code (1 : Nat) (Option.some Jvm.ClassFile.FieldType.int)) ∈ TB := tz2 129 rfl rfl
theorem w_475 : (Jvm.Cond.methodLink "DarkestDay$LawReader" (60 : Nat) ({ cls := "DarkestDay$LawReader", name := "takes", desc := "(ILDarkestDay$Tape;LDarkestDay$Law;)Z" } : Jvm.MethodName)) ∈ TB := tz2 130 rfl rfl
theorem w_477 : (Jvm.Cond.instanceMethod ({ cls := "DarkestDay$LawReader", name := "takes", desc := "(ILDarkestDay$Tape;LDarkestDay$Law;)Z" } : Jvm.MethodName)) ∈ TB := tz2 132 rfl rfl
theorem w_478 : (Jvm.Cond.code ({ cls := "DarkestDay$LawReader", name := "takes", desc := "(ILDarkestDay$Tape;LDarkestDay$Law;)Z" } : Jvm.MethodName) prog_6_method_4_code (5 : Nat) (Option.some Jvm.ClassFile.FieldType.boolean)) ∈ TB := tz2 133 rfl rfl
theorem w_479 : (Jvm.Cond.methodLink "DarkestDay$LawReader" (79 : Nat) ({ cls := "DarkestDay$LawReader", name := "takesIf", desc := "(ZILDarkestDay$Tape;)Z" } : Jvm.MethodName)) ∈ TB := tz2 134 rfl rfl
theorem w_481 : (Jvm.Cond.instanceMethod ({ cls := "DarkestDay$LawReader", name := "takesIf", desc := "(ZILDarkestDay$Tape;)Z" } : Jvm.MethodName)) ∈ TB := tz2 136 rfl rfl
theorem w_482 : (Jvm.Cond.code ({ cls := "DarkestDay$LawReader", name := "takesIf", desc := "(ZILDarkestDay$Tape;)Z" } : Jvm.MethodName) prog_6_method_5_code (4 : Nat) (Option.some Jvm.ClassFile.FieldType.boolean)) ∈ TB := tz2 137 rfl rfl
theorem w_483 : (Jvm.Cond.methodLink "DarkestDay$LawReader" (68 : Nat) ({ cls := "DarkestDay$Tape", name := "advance", desc := "()V" } : Jvm.MethodName)) ∈ TB := tz2 138 rfl rfl
theorem w_484 : (Jvm.Cond.instanceMethod ({ cls := "DarkestDay$Tape", name := "advance", desc := "()V" } : Jvm.MethodName)) ∈ TB := tz2 139 rfl rfl
theorem w_485 : (Jvm.Cond.selects "DarkestDay$Tape" ({ cls := "DarkestDay$Tape", name := "advance", desc := "()V" } : Jvm.MethodName) ({ cls := "DarkestDay$Tape", name := "advance", desc := "()V" } : Jvm.MethodName)) ∈ TB := tz2 140 rfl rfl
theorem w_486 : (Jvm.Cond.code ({ cls := "DarkestDay$Tape", name := "advance", desc := "()V" } : Jvm.MethodName) prog_11_method_8_code (1 : Nat) (Option.none : Option Jvm.ClassFile.FieldType)) ∈ TB := tz2 141 rfl rfl
theorem w_487 : (Jvm.Cond.methodLink "DarkestDay$LawReader" (83 : Nat) ({ cls := "DarkestDay$LawReader", name := "opens", desc := "(ILDarkestDay$Tape;)Z" } : Jvm.MethodName)) ∈ TB := tz2 142 rfl rfl
theorem w_489 : (Jvm.Cond.instanceMethod ({ cls := "DarkestDay$LawReader", name := "opens", desc := "(ILDarkestDay$Tape;)Z" } : Jvm.MethodName)) ∈ TB := tz2 144 rfl rfl
theorem w_490 : (Jvm.Cond.code ({ cls := "DarkestDay$LawReader", name := "opens", desc := "(ILDarkestDay$Tape;)Z" } : Jvm.MethodName) prog_6_method_6_code (3 : Nat) (Option.some Jvm.ClassFile.FieldType.boolean)) ∈ TB := tz2 145 rfl rfl
theorem w_491 : (Jvm.Cond.methodLink "DarkestDay$LawReader" (90 : Nat) ({ cls := "DarkestDay$LawReader", name := "await", desc := "(I)V" } : Jvm.MethodName)) ∈ TB := tz2 146 rfl rfl
theorem w_493 : (Jvm.Cond.instanceMethod ({ cls := "DarkestDay$LawReader", name := "await", desc := "(I)V" } : Jvm.MethodName)) ∈ TB := tz2 148 rfl rfl
theorem w_494 : (Jvm.Cond.code ({ cls := "DarkestDay$LawReader", name := "await", desc := "(I)V" } : Jvm.MethodName) prog_6_method_11_code (2 : Nat) (Option.none : Option Jvm.ClassFile.FieldType)) ∈ TB := tz2 149 rfl rfl
theorem w_495 : (Jvm.Cond.methodLink "DarkestDay$LawReader" (130 : Nat) ({ cls := "DarkestDay$Row", name := "set", desc := "(II)V" } : Jvm.MethodName)) ∈ TB := tz2 150 rfl rfl
theorem w_496 : (Jvm.Cond.instanceMethod ({ cls := "DarkestDay$Row", name := "set", desc := "(II)V" } : Jvm.MethodName)) ∈ TB := tz2 151 rfl rfl
theorem w_497 : (Jvm.Cond.selects "DarkestDay$Row" ({ cls := "DarkestDay$Row", name := "set", desc := "(II)V" } : Jvm.MethodName) ({ cls := "DarkestDay$Row", name := "set", desc := "(II)V" } : Jvm.MethodName)) ∈ TB := tz2 152 rfl rfl
theorem w_503 : (Jvm.Cond.code ({ cls := "DarkestDay$Row", name := "set", desc := "(II)V" } : Jvm.MethodName) prog_9_method_3_code (3 : Nat) (Option.none : Option Jvm.ClassFile.FieldType)) ∈ TB := tz2 158 rfl rfl
theorem w_504 : (Jvm.Cond.methodLink "DarkestDay$LawReader" (87 : Nat) ({ cls := "DarkestDay$LawReader", name := "takesAtom", desc := "(ILDarkestDay$Tape;LDarkestDay$Law;)Z" } : Jvm.MethodName)) ∈ TB := tz2 159 rfl rfl
theorem w_506 : (Jvm.Cond.instanceMethod ({ cls := "DarkestDay$LawReader", name := "takesAtom", desc := "(ILDarkestDay$Tape;LDarkestDay$Law;)Z" } : Jvm.MethodName)) ∈ TB := tz2 161 rfl rfl
theorem w_507 : (Jvm.Cond.code ({ cls := "DarkestDay$LawReader", name := "takesAtom", desc := "(ILDarkestDay$Tape;LDarkestDay$Law;)Z" } : Jvm.MethodName) prog_6_method_7_code (5 : Nat) (Option.some Jvm.ClassFile.FieldType.boolean)) ∈ TB := tz2 162 rfl rfl
theorem w_508 : (Jvm.Cond.methodLinkNest "DarkestDay$LawReader" (93 : Nat) ({ cls := "DarkestDay", name := "isDigit", desc := "(I)Z" } : Jvm.MethodName) "DarkestDay") ∈ lw_tbl := tz2m 163 rfl
theorem w_509 : (Jvm.Cond.static ({ cls := "DarkestDay", name := "isDigit", desc := "(I)Z" } : Jvm.MethodName)) ∈ TB := tz2 164 rfl rfl
theorem w_510 : (Jvm.Cond.code ({ cls := "DarkestDay", name := "isDigit", desc := "(I)Z" } : Jvm.MethodName) prog_1_method_56_code (1 : Nat) (Option.some Jvm.ClassFile.FieldType.boolean)) ∈ TB := tz2 165 rfl rfl
theorem w_511 : (Jvm.Cond.methodLink "DarkestDay$LawReader" (96 : Nat) ({ cls := "DarkestDay$Tape", name := "readsNumber", desc := "(III)Z" } : Jvm.MethodName)) ∈ TB := tz2 166 rfl rfl
theorem w_512 : (Jvm.Cond.instanceMethod ({ cls := "DarkestDay$Tape", name := "readsNumber", desc := "(III)Z" } : Jvm.MethodName)) ∈ TB := tz2 167 rfl rfl
theorem w_513 : (Jvm.Cond.selects "DarkestDay$Tape" ({ cls := "DarkestDay$Tape", name := "readsNumber", desc := "(III)Z" } : Jvm.MethodName) ({ cls := "DarkestDay$Tape", name := "readsNumber", desc := "(III)Z" } : Jvm.MethodName)) ∈ TB := tz2 168 rfl rfl
theorem w_514 : (Jvm.Cond.code ({ cls := "DarkestDay$Tape", name := "readsNumber", desc := "(III)Z" } : Jvm.MethodName) prog_11_method_11_code (5 : Nat) (Option.some Jvm.ClassFile.FieldType.boolean)) ∈ TB := tz2 169 rfl rfl
theorem w_515 : (Jvm.Cond.methodLink "DarkestDay$Tape" (25 : Nat) ({ cls := "DarkestDay$Tape", name := "nextSign", desc := "()I" } : Jvm.MethodName)) ∈ TB := tz2 170 rfl rfl
theorem w_516 : (Jvm.Cond.methodLinkNest "DarkestDay$Tape" (29 : Nat) ({ cls := "DarkestDay", name := "isDigit", desc := "(I)Z" } : Jvm.MethodName) "DarkestDay") ∈ lw_tbl := tz2m 171 rfl
theorem w_517 : (Jvm.Cond.methodLink "DarkestDay$Tape" (33 : Nat) ({ cls := "DarkestDay$Tape", name := "signAt", desc := "(I)I" } : Jvm.MethodName)) ∈ TB := tz2 172 rfl rfl
theorem w_519 : (Jvm.Cond.instanceMethod ({ cls := "DarkestDay$Tape", name := "signAt", desc := "(I)I" } : Jvm.MethodName)) ∈ TB := tz2 174 rfl rfl
theorem w_520 : (Jvm.Cond.code ({ cls := "DarkestDay$Tape", name := "signAt", desc := "(I)I" } : Jvm.MethodName) prog_11_method_10_code (2 : Nat) (Option.some Jvm.ClassFile.FieldType.int)) ∈ TB := tz2 175 rfl rfl
theorem w_521 : (Jvm.Cond.methodLink "DarkestDay$LawReader" (100 : Nat) ({ cls := "DarkestDay$Tape", name := "number", desc := "()I" } : Jvm.MethodName)) ∈ TB := tz2 176 rfl rfl
theorem w_522 : (Jvm.Cond.instanceMethod ({ cls := "DarkestDay$Tape", name := "number", desc := "()I" } : Jvm.MethodName)) ∈ TB := tz2 177 rfl rfl
theorem w_523 : (Jvm.Cond.selects "DarkestDay$Tape" ({ cls := "DarkestDay$Tape", name := "number", desc := "()I" } : Jvm.MethodName) ({ cls := "DarkestDay$Tape", name := "number", desc := "()I" } : Jvm.MethodName)) ∈ TB := tz2 178 rfl rfl
theorem w_524 : (Jvm.Cond.code ({ cls := "DarkestDay$Tape", name := "number", desc := "()I" } : Jvm.MethodName) prog_11_method_12_code (1 : Nat) (Option.some Jvm.ClassFile.FieldType.int)) ∈ TB := tz2 179 rfl rfl
theorem w_525 : (Jvm.Cond.methodLink "DarkestDay$LawReader" (103 : Nat) ({ cls := "DarkestDay$Law", name := "add", desc := "(I)V" } : Jvm.MethodName)) ∈ TB := tz2 180 rfl rfl
theorem w_526 : (Jvm.Cond.instanceMethod ({ cls := "DarkestDay$Law", name := "add", desc := "(I)V" } : Jvm.MethodName)) ∈ TB := tz2 181 rfl rfl
theorem w_527 : (Jvm.Cond.selects "DarkestDay$Law" ({ cls := "DarkestDay$Law", name := "add", desc := "(I)V" } : Jvm.MethodName) ({ cls := "DarkestDay$Law", name := "add", desc := "(I)V" } : Jvm.MethodName)) ∈ TB := tz2 182 rfl rfl
theorem w_528 : (Jvm.Cond.code ({ cls := "DarkestDay$Law", name := "add", desc := "(I)V" } : Jvm.MethodName) prog_5_method_3_code (2 : Nat) (Option.none : Option Jvm.ClassFile.FieldType)) ∈ TB := tz2 183 rfl rfl
theorem w_529 : (Jvm.Cond.methodLink "DarkestDay$Law" (15 : Nat) ({ cls := "DarkestDay$Law", name := "set", desc := "(II)V" } : Jvm.MethodName)) ∈ TB := tz2 184 rfl rfl
theorem w_530 : (Jvm.Cond.sameMethod "DarkestDay$Law" "DarkestDay$Row" "set" "(II)V") ∈ TB := tz2 185 rfl rfl
theorem w_532 : (Jvm.Cond.selects "DarkestDay$Law" ({ cls := "DarkestDay$Law", name := "set", desc := "(II)V" } : Jvm.MethodName) ({ cls := "DarkestDay$Row", name := "set", desc := "(II)V" } : Jvm.MethodName)) ∈ TB := tz2 187 rfl rfl
theorem w_533 : (Jvm.Cond.fieldLink "DarkestDay$LawReader" (106 : Nat) "DarkestDay$Law" "LETTERS" "[C") ∈ TB := tz2 188 rfl rfl
theorem w_534 : (Jvm.Cond.methodLinkNest "DarkestDay$LawReader" (110 : Nat) ({ cls := "DarkestDay", name := "placeIn", desc := "([CI)I" } : Jvm.MethodName) "DarkestDay") ∈ lw_tbl := tz2m 189 rfl
theorem w_535 : (Jvm.Cond.static ({ cls := "DarkestDay", name := "placeIn", desc := "([CI)I" } : Jvm.MethodName)) ∈ TB := tz2 190 rfl rfl
theorem w_536 : (Jvm.Cond.code ({ cls := "DarkestDay", name := "placeIn", desc := "([CI)I" } : Jvm.MethodName) prog_1_method_57_code (3 : Nat) (Option.some Jvm.ClassFile.FieldType.int)) ∈ TB := tz2 191 rfl rfl
theorem w_537 : (Jvm.Cond.methodLink "DarkestDay$LawReader" (64 : Nat) ({ cls := "DarkestDay$LawReader", name := "fitsBehind", desc := "(I)Z" } : Jvm.MethodName)) ∈ TB := tz2 192 rfl rfl
theorem w_539 : (Jvm.Cond.instanceMethod ({ cls := "DarkestDay$LawReader", name := "fitsBehind", desc := "(I)Z" } : Jvm.MethodName)) ∈ TB := tz2 194 rfl rfl
theorem w_540 : (Jvm.Cond.code ({ cls := "DarkestDay$LawReader", name := "fitsBehind", desc := "(I)Z" } : Jvm.MethodName) prog_6_method_9_code (4 : Nat) (Option.some Jvm.ClassFile.FieldType.boolean)) ∈ TB := tz2 195 rfl rfl
theorem w_541 : (Jvm.Cond.methodLink "DarkestDay$LawReader" (75 : Nat) ({ cls := "DarkestDay$LawReader", name := "mayEnd", desc := "()Z" } : Jvm.MethodName)) ∈ TB := tz2 196 rfl rfl
theorem w_543 : (Jvm.Cond.instanceMethod ({ cls := "DarkestDay$LawReader", name := "mayEnd", desc := "()Z" } : Jvm.MethodName)) ∈ TB := tz2 198 rfl rfl
theorem w_544 : (Jvm.Cond.code ({ cls := "DarkestDay$LawReader", name := "mayEnd", desc := "()Z" } : Jvm.MethodName) prog_6_method_8_code (1 : Nat) (Option.some Jvm.ClassFile.FieldType.boolean)) ∈ TB := tz2 199 rfl rfl
theorem w_545 : (Jvm.Cond.methodLink "DarkestDay$LawReader" (71 : Nat) ({ cls := "DarkestDay$LawReader", name := "goOnBehind", desc := "(ILDarkestDay$Law;)V" } : Jvm.MethodName)) ∈ TB := tz2 200 rfl rfl
theorem w_547 : (Jvm.Cond.instanceMethod ({ cls := "DarkestDay$LawReader", name := "goOnBehind", desc := "(ILDarkestDay$Law;)V" } : Jvm.MethodName)) ∈ TB := tz2 202 rfl rfl
theorem w_548 : (Jvm.Cond.code ({ cls := "DarkestDay$LawReader", name := "goOnBehind", desc := "(ILDarkestDay$Law;)V" } : Jvm.MethodName) prog_6_method_10_code (3 : Nat) (Option.none : Option Jvm.ClassFile.FieldType)) ∈ TB := tz2 203 rfl rfl
theorem w_549 : (Jvm.Cond.methodLink "DarkestDay$LawReader" (114 : Nat) ({ cls := "DarkestDay$LawReader", name := "strengthOf", desc := "(I)I" } : Jvm.MethodName)) ∈ TB := tz2 204 rfl rfl
theorem w_550 : (Jvm.Cond.static ({ cls := "DarkestDay$LawReader", name := "strengthOf", desc := "(I)I" } : Jvm.MethodName)) ∈ TB := tz2 205 rfl rfl
theorem w_551 : (Jvm.Cond.code ({ cls := "DarkestDay$LawReader", name := "strengthOf", desc := "(I)I" } : Jvm.MethodName) prog_6_method_14_code (1 : Nat) (Option.some Jvm.ClassFile.FieldType.int)) ∈ TB := tz2 206 rfl rfl
theorem w_552 : (Jvm.Cond.methodLink "DarkestDay$LawReader" (118 : Nat) ({ cls := "java/lang/Math", name := "max", desc := "(II)I" } : Jvm.MethodName)) ∈ TB := tz2 207 rfl rfl
theorem w_553 : (Jvm.Cond.static ({ cls := "java/lang/Math", name := "max", desc := "(II)I" } : Jvm.MethodName)) ∈ TB := tz2 208 rfl rfl
theorem w_554 : (Jvm.Cond.code ({ cls := "java/lang/Math", name := "max", desc := "(II)I" } : Jvm.MethodName) prog_20_method_65_code (2 : Nat) (Option.some Jvm.ClassFile.FieldType.int)) ∈ TB := tz2 209 rfl rfl
theorem w_555 : (Jvm.Cond.methodLink "DarkestDay$LawReader" (124 : Nat) ({ cls := "DarkestDay$LawReader", name := "release", desc := "(ILDarkestDay$Law;)V" } : Jvm.MethodName)) ∈ TB := tz2 210 rfl rfl
theorem w_557 : (Jvm.Cond.instanceMethod ({ cls := "DarkestDay$LawReader", name := "release", desc := "(ILDarkestDay$Law;)V" } : Jvm.MethodName)) ∈ TB := tz2 212 rfl rfl
theorem w_558 : (Jvm.Cond.code ({ cls := "DarkestDay$LawReader", name := "release", desc := "(ILDarkestDay$Law;)V" } : Jvm.MethodName) prog_6_method_12_code (3 : Nat) (Option.none : Option Jvm.ClassFile.FieldType)) ∈ TB := tz2 213 rfl rfl
theorem w_559 : (Jvm.Cond.methodLink "DarkestDay$LawReader" (134 : Nat) ({ cls := "DarkestDay$Row", name := "get", desc := "(I)I" } : Jvm.MethodName)) ∈ TB := tz2 214 rfl rfl
theorem w_560 : (Jvm.Cond.instanceMethod ({ cls := "DarkestDay$Row", name := "get", desc := "(I)I" } : Jvm.MethodName)) ∈ TB := tz2 215 rfl rfl
theorem w_561 : (Jvm.Cond.selects "DarkestDay$Row" ({ cls := "DarkestDay$Row", name := "get", desc := "(I)I" } : Jvm.MethodName) ({ cls := "DarkestDay$Row", name := "get", desc := "(I)I" } : Jvm.MethodName)) ∈ TB := tz2 216 rfl rfl
theorem w_567 : (Jvm.Cond.code ({ cls := "DarkestDay$Row", name := "get", desc := "(I)I" } : Jvm.MethodName) prog_9_method_2_code (2 : Nat) (Option.some Jvm.ClassFile.FieldType.int)) ∈ TB := tz2 222 rfl rfl
theorem w_568 : (Jvm.Cond.methodLink "DarkestDay$LawReader" (127 : Nat) ({ cls := "DarkestDay$LawReader", name := "closeBracket", desc := "()V" } : Jvm.MethodName)) ∈ TB := tz2 223 rfl rfl
theorem w_570 : (Jvm.Cond.instanceMethod ({ cls := "DarkestDay$LawReader", name := "closeBracket", desc := "()V" } : Jvm.MethodName)) ∈ TB := tz2 225 rfl rfl
theorem w_571 : (Jvm.Cond.code ({ cls := "DarkestDay$LawReader", name := "closeBracket", desc := "()V" } : Jvm.MethodName) prog_6_method_13_code (1 : Nat) (Option.none : Option Jvm.ClassFile.FieldType)) ∈ TB := tz2 226 rfl rfl
theorem w_572 : (Jvm.Cond.methodLink "DarkestDay" (156 : Nat) ({ cls := "DarkestDay", name := "calendarAt", desc := "(I)LDarkestDay$Calendar;" } : Jvm.MethodName)) ∈ TB := tz2 227 rfl rfl
theorem w_574 : (Jvm.Cond.instanceMethod ({ cls := "DarkestDay", name := "calendarAt", desc := "(I)LDarkestDay$Calendar;" } : Jvm.MethodName)) ∈ TB := tz2 229 rfl rfl
theorem w_575 : (Jvm.Cond.code ({ cls := "DarkestDay", name := "calendarAt", desc := "(I)LDarkestDay$Calendar;" } : Jvm.MethodName) prog_1_method_10_code (2 : Nat) (Option.some (Jvm.ClassFile.FieldType.object "DarkestDay$Calendar"))) ∈ TB := tz2 230 rfl rfl
theorem w_576 : (Jvm.Cond.methodLink "DarkestDay" (160 : Nat) ({ cls := "DarkestDay$Calendar", name := "reads", desc := "(LDarkestDay$Tape;)Z" } : Jvm.MethodName)) ∈ TB := tz2 231 rfl rfl
theorem w_577 : (Jvm.Cond.instanceMethod ({ cls := "DarkestDay$Calendar", name := "reads", desc := "(LDarkestDay$Tape;)Z" } : Jvm.MethodName)) ∈ TB := tz2 232 rfl rfl
theorem w_578 : (Jvm.Cond.selects "DarkestDay$Calendar" ({ cls := "DarkestDay$Calendar", name := "reads", desc := "(LDarkestDay$Tape;)Z" } : Jvm.MethodName) ({ cls := "DarkestDay$Calendar", name := "reads", desc := "(LDarkestDay$Tape;)Z" } : Jvm.MethodName)) ∈ TB := tz2 233 rfl rfl
theorem w_579 : (Jvm.Cond.code ({ cls := "DarkestDay$Calendar", name := "reads", desc := "(LDarkestDay$Tape;)Z" } : Jvm.MethodName) prog_2_method_4_code (4 : Nat) (Option.some Jvm.ClassFile.FieldType.boolean)) ∈ TB := tz2 234 rfl rfl
theorem w_580 : (Jvm.Cond.methodLink "DarkestDay$Calendar" (19 : Nat) ({ cls := "DarkestDay$Calendar", name := "readsStep", desc := "(LDarkestDay$Tape;)Z" } : Jvm.MethodName)) ∈ TB := tz2 235 rfl rfl
theorem w_582 : (Jvm.Cond.instanceMethod ({ cls := "DarkestDay$Calendar", name := "readsStep", desc := "(LDarkestDay$Tape;)Z" } : Jvm.MethodName)) ∈ TB := tz2 237 rfl rfl
theorem w_583 : (Jvm.Cond.code ({ cls := "DarkestDay$Calendar", name := "readsStep", desc := "(LDarkestDay$Tape;)Z" } : Jvm.MethodName) prog_2_method_5_code (6 : Nat) (Option.some Jvm.ClassFile.FieldType.boolean)) ∈ TB := tz2 238 rfl rfl
theorem w_584 : (Jvm.Cond.fieldLink "DarkestDay$Calendar" (33 : Nat) "DarkestDay$Calendar" "LETTERS" "[C") ∈ TB := tz2 239 rfl rfl
theorem w_586 : (Jvm.Cond.methodLink "DarkestDay$Calendar" (23 : Nat) ({ cls := "DarkestDay$Tape", name := "nextSign", desc := "()I" } : Jvm.MethodName)) ∈ TB := tz3 1 rfl rfl
theorem w_587 : (Jvm.Cond.methodLinkNest "DarkestDay$Calendar" (37 : Nat) ({ cls := "DarkestDay", name := "placeIn", desc := "([CI)I" } : Jvm.MethodName) "DarkestDay") ∈ lw_tbl := tz3m 2 rfl
theorem w_588 : (Jvm.Cond.methodLink "DarkestDay$Calendar" (29 : Nat) ({ cls := "DarkestDay$Tape", name := "advance", desc := "()V" } : Jvm.MethodName)) ∈ TB := tz3 3 rfl rfl
theorem w_589 : (Jvm.Cond.methodLink "DarkestDay$Calendar" (41 : Nat) ({ cls := "DarkestDay$Calendar", name := "set", desc := "(II)V" } : Jvm.MethodName)) ∈ TB := tz3 4 rfl rfl
theorem w_590 : (Jvm.Cond.sameMethod "DarkestDay$Calendar" "DarkestDay$Row" "set" "(II)V") ∈ TB := tz3 5 rfl rfl
theorem w_591 : (Jvm.Cond.selects "DarkestDay$Calendar" ({ cls := "DarkestDay$Calendar", name := "set", desc := "(II)V" } : Jvm.MethodName) ({ cls := "DarkestDay$Row", name := "set", desc := "(II)V" } : Jvm.MethodName)) ∈ TB := tz3 6 rfl rfl
theorem w_592 : (Jvm.Cond.fieldLink "DarkestDay$Calendar" (45 : Nat) "DarkestDay$Calendar" "DIGITS" "[I") ∈ TB := tz3 7 rfl rfl
theorem w_594 : (Jvm.Cond.methodLinkNest "DarkestDay$Calendar" (49 : Nat) ({ cls := "DarkestDay", name := "entry", desc := "([II)I" } : Jvm.MethodName) "DarkestDay") ∈ lw_tbl := tz3m 9 rfl
theorem w_595 : (Jvm.Cond.static ({ cls := "DarkestDay", name := "entry", desc := "([II)I" } : Jvm.MethodName)) ∈ TB := tz3 10 rfl rfl
theorem w_596 : (Jvm.Cond.code ({ cls := "DarkestDay", name := "entry", desc := "([II)I" } : Jvm.MethodName) prog_1_method_58_code (2 : Nat) (Option.some Jvm.ClassFile.FieldType.int)) ∈ TB := tz3 11 rfl rfl
theorem w_597 : (Jvm.Cond.methodLinkNest "DarkestDay$Calendar" (53 : Nat) ({ cls := "DarkestDay", name := "isDigit", desc := "(I)Z" } : Jvm.MethodName) "DarkestDay") ∈ lw_tbl := tz3m 12 rfl
theorem w_598 : (Jvm.Cond.methodLink "DarkestDay" (163 : Nat) ({ cls := "DarkestDay$Port", name := "reads", desc := "(LDarkestDay$Tape;)Z" } : Jvm.MethodName)) ∈ TB := tz3 13 rfl rfl
theorem w_599 : (Jvm.Cond.instanceMethod ({ cls := "DarkestDay$Port", name := "reads", desc := "(LDarkestDay$Tape;)Z" } : Jvm.MethodName)) ∈ TB := tz3 14 rfl rfl
theorem w_600 : (Jvm.Cond.selects "DarkestDay$Port" ({ cls := "DarkestDay$Port", name := "reads", desc := "(LDarkestDay$Tape;)Z" } : Jvm.MethodName) ({ cls := "DarkestDay$Port", name := "reads", desc := "(LDarkestDay$Tape;)Z" } : Jvm.MethodName)) ∈ TB := tz3 15 rfl rfl
theorem w_601 : (Jvm.Cond.code ({ cls := "DarkestDay$Port", name := "reads", desc := "(LDarkestDay$Tape;)Z" } : Jvm.MethodName) prog_8_method_7_code (4 : Nat) (Option.some Jvm.ClassFile.FieldType.boolean)) ∈ TB := tz3 16 rfl rfl
theorem w_602 : (Jvm.Cond.methodLink "DarkestDay$Port" (15 : Nat) ({ cls := "DarkestDay$Port", name := "fillUsual", desc := "()V" } : Jvm.MethodName)) ∈ TB := tz3 17 rfl rfl
theorem w_604 : (Jvm.Cond.instanceMethod ({ cls := "DarkestDay$Port", name := "fillUsual", desc := "()V" } : Jvm.MethodName)) ∈ TB := tz3 19 rfl rfl
theorem w_605 : (Jvm.Cond.code ({ cls := "DarkestDay$Port", name := "fillUsual", desc := "()V" } : Jvm.MethodName) prog_8_method_8_code (4 : Nat) (Option.none : Option Jvm.ClassFile.FieldType)) ∈ TB := tz3 20 rfl rfl
theorem w_606 : (Jvm.Cond.methodLink "DarkestDay$Port" (36 : Nat) ({ cls := "DarkestDay$Port", name := "fill", desc := "(I)V" } : Jvm.MethodName)) ∈ TB := tz3 21 rfl rfl
theorem w_607 : (Jvm.Cond.sameMethod "DarkestDay$Port" "DarkestDay$Row" "fill" "(I)V") ∈ TB := tz3 22 rfl rfl
theorem w_609 : (Jvm.Cond.selects "DarkestDay$Port" ({ cls := "DarkestDay$Port", name := "fill", desc := "(I)V" } : Jvm.MethodName) ({ cls := "DarkestDay$Row", name := "fill", desc := "(I)V" } : Jvm.MethodName)) ∈ TB := tz3 24 rfl rfl
theorem w_610 : (Jvm.Cond.instanceMethod ({ cls := "DarkestDay$Row", name := "fill", desc := "(I)V" } : Jvm.MethodName)) ∈ TB := tz3 25 rfl rfl
theorem w_611 : (Jvm.Cond.code ({ cls := "DarkestDay$Row", name := "fill", desc := "(I)V" } : Jvm.MethodName) prog_9_method_4_code (3 : Nat) (Option.none : Option Jvm.ClassFile.FieldType)) ∈ TB := tz3 26 rfl rfl
theorem w_612 : (Jvm.Cond.fieldLink "DarkestDay$Port" (39 : Nat) "DarkestDay$Port" "CELLS" "[I") ∈ TB := tz3 27 rfl rfl
theorem w_614 : (Jvm.Cond.methodLinkNest "DarkestDay$Port" (43 : Nat) ({ cls := "DarkestDay", name := "entry", desc := "([II)I" } : Jvm.MethodName) "DarkestDay") ∈ lw_tbl := tz3m 29 rfl
theorem w_615 : (Jvm.Cond.fieldLink "DarkestDay$Port" (47 : Nat) "DarkestDay$Port" "USUAL" "[I") ∈ TB := tz3 30 rfl rfl
theorem w_617 : (Jvm.Cond.methodLink "DarkestDay$Port" (50 : Nat) ({ cls := "DarkestDay$Port", name := "set", desc := "(II)V" } : Jvm.MethodName)) ∈ TB := tz3 32 rfl rfl
theorem w_618 : (Jvm.Cond.sameMethod "DarkestDay$Port" "DarkestDay$Row" "set" "(II)V") ∈ TB := tz3 33 rfl rfl
theorem w_619 : (Jvm.Cond.selects "DarkestDay$Port" ({ cls := "DarkestDay$Port", name := "set", desc := "(II)V" } : Jvm.MethodName) ({ cls := "DarkestDay$Row", name := "set", desc := "(II)V" } : Jvm.MethodName)) ∈ TB := tz3 34 rfl rfl
theorem w_620 : (Jvm.Cond.methodLink "DarkestDay$Port" (19 : Nat) ({ cls := "DarkestDay$Port", name := "readsClause", desc := "(LDarkestDay$Tape;)Z" } : Jvm.MethodName)) ∈ TB := tz3 35 rfl rfl
theorem w_622 : (Jvm.Cond.instanceMethod ({ cls := "DarkestDay$Port", name := "readsClause", desc := "(LDarkestDay$Tape;)Z" } : Jvm.MethodName)) ∈ TB := tz3 37 rfl rfl
theorem w_623 : (Jvm.Cond.code ({ cls := "DarkestDay$Port", name := "readsClause", desc := "(LDarkestDay$Tape;)Z" } : Jvm.MethodName) prog_8_method_10_code (6 : Nat) (Option.some Jvm.ClassFile.FieldType.boolean)) ∈ TB := tz3 38 rfl rfl
theorem w_624 : (Jvm.Cond.methodLink "DarkestDay$Port" (23 : Nat) ({ cls := "DarkestDay$Tape", name := "nextSign", desc := "()I" } : Jvm.MethodName)) ∈ TB := tz3 39 rfl rfl
theorem w_625 : (Jvm.Cond.methodLink "DarkestDay$Port" (11 : Nat) ({ cls := "DarkestDay$Port", name := "get", desc := "(I)I" } : Jvm.MethodName)) ∈ TB := tz3 40 rfl rfl
theorem w_626 : (Jvm.Cond.sameMethod "DarkestDay$Port" "DarkestDay$Row" "get" "(I)I") ∈ TB := tz3 41 rfl rfl
theorem w_628 : (Jvm.Cond.selects "DarkestDay$Port" ({ cls := "DarkestDay$Port", name := "get", desc := "(I)I" } : Jvm.MethodName) ({ cls := "DarkestDay$Row", name := "get", desc := "(I)I" } : Jvm.MethodName)) ∈ TB := tz3 43 rfl rfl
theorem w_629 : (Jvm.Cond.methodLink "DarkestDay$Port" (33 : Nat) ({ cls := "DarkestDay$Tape", name := "advance", desc := "()V" } : Jvm.MethodName)) ∈ TB := tz3 44 rfl rfl
theorem w_630 : (Jvm.Cond.methodLink "DarkestDay$Port" (64 : Nat) ({ cls := "DarkestDay$Port", name := "readsItems", desc := "(LDarkestDay$Tape;II)Z" } : Jvm.MethodName)) ∈ TB := tz3 45 rfl rfl
theorem w_632 : (Jvm.Cond.instanceMethod ({ cls := "DarkestDay$Port", name := "readsItems", desc := "(LDarkestDay$Tape;II)Z" } : Jvm.MethodName)) ∈ TB := tz3 47 rfl rfl
theorem w_633 : (Jvm.Cond.code ({ cls := "DarkestDay$Port", name := "readsItems", desc := "(LDarkestDay$Tape;II)Z" } : Jvm.MethodName) prog_8_method_11_code (7 : Nat) (Option.some Jvm.ClassFile.FieldType.boolean)) ∈ TB := tz3 48 rfl rfl
theorem w_634 : (Jvm.Cond.fieldLink "DarkestDay$Port" (68 : Nat) "DarkestDay$Port" "LETTERS" "[C") ∈ TB := tz3 49 rfl rfl
theorem w_636 : (Jvm.Cond.methodLinkNest "DarkestDay$Port" (72 : Nat) ({ cls := "DarkestDay", name := "placeIn", desc := "([CI)I" } : Jvm.MethodName) "DarkestDay") ∈ lw_tbl := tz3m 51 rfl
theorem w_637 : (Jvm.Cond.fieldLink "DarkestDay$Port" (76 : Nat) "DarkestDay$Port" "CLAUSES" "[C") ∈ TB := tz3 52 rfl rfl
theorem w_639 : (Jvm.Cond.methodLinkNest "DarkestDay$Port" (79 : Nat) ({ cls := "DarkestDay", name := "hasBit", desc := "(II)Z" } : Jvm.MethodName) "DarkestDay") ∈ lw_tbl := tz3m 54 rfl
theorem w_640 : (Jvm.Cond.static ({ cls := "DarkestDay", name := "hasBit", desc := "(II)Z" } : Jvm.MethodName)) ∈ TB := tz3 55 rfl rfl
theorem w_641 : (Jvm.Cond.code ({ cls := "DarkestDay", name := "hasBit", desc := "(II)Z" } : Jvm.MethodName) prog_1_method_55_code (2 : Nat) (Option.some Jvm.ClassFile.FieldType.boolean)) ∈ TB := tz3 56 rfl rfl
theorem w_642 : (Jvm.Cond.fieldLink "DarkestDay$Port" (83 : Nat) "DarkestDay$Port" "LEAST" "[I") ∈ TB := tz3 57 rfl rfl
theorem w_644 : (Jvm.Cond.fieldLink "DarkestDay$Port" (86 : Nat) "DarkestDay$Port" "MOST" "[I") ∈ TB := tz3 59 rfl rfl
theorem w_646 : (Jvm.Cond.methodLink "DarkestDay$Port" (89 : Nat) ({ cls := "DarkestDay$Tape", name := "readsNumber", desc := "(III)Z" } : Jvm.MethodName)) ∈ TB := tz3 61 rfl rfl
theorem w_647 : (Jvm.Cond.methodLink "DarkestDay$Port" (93 : Nat) ({ cls := "DarkestDay$Tape", name := "number", desc := "()I" } : Jvm.MethodName)) ∈ TB := tz3 62 rfl rfl
theorem w_648 : (Jvm.Cond.methodLink "DarkestDay$Port" (29 : Nat) ({ cls := "DarkestDay$Port", name := "isWhole", desc := "()Z" } : Jvm.MethodName)) ∈ TB := tz3 63 rfl rfl
theorem w_650 : (Jvm.Cond.instanceMethod ({ cls := "DarkestDay$Port", name := "isWhole", desc := "()Z" } : Jvm.MethodName)) ∈ TB := tz3 65 rfl rfl
theorem w_651 : (Jvm.Cond.code ({ cls := "DarkestDay$Port", name := "isWhole", desc := "()Z" } : Jvm.MethodName) prog_8_method_9_code (2 : Nat) (Option.some Jvm.ClassFile.FieldType.boolean)) ∈ TB := tz3 66 rfl rfl
theorem w_652 : (Jvm.Cond.methodLink "DarkestDay$Port" (54 : Nat) ({ cls := "DarkestDay$Port", name := "kinds", desc := "()I" } : Jvm.MethodName)) ∈ TB := tz3 67 rfl rfl
theorem w_653 : (Jvm.Cond.instanceMethod ({ cls := "DarkestDay$Port", name := "kinds", desc := "()I" } : Jvm.MethodName)) ∈ TB := tz3 68 rfl rfl
theorem w_654 : (Jvm.Cond.selects "DarkestDay$Port" ({ cls := "DarkestDay$Port", name := "kinds", desc := "()I" } : Jvm.MethodName) ({ cls := "DarkestDay$Port", name := "kinds", desc := "()I" } : Jvm.MethodName)) ∈ TB := tz3 69 rfl rfl
theorem w_655 : (Jvm.Cond.code ({ cls := "DarkestDay$Port", name := "kinds", desc := "()I" } : Jvm.MethodName) prog_8_method_3_code (1 : Nat) (Option.some Jvm.ClassFile.FieldType.int)) ∈ TB := tz3 70 rfl rfl
theorem w_656 : (Jvm.Cond.methodLink "DarkestDay$Port" (57 : Nat) ({ cls := "DarkestDay$Port", name := "persons", desc := "()I" } : Jvm.MethodName)) ∈ TB := tz3 71 rfl rfl
theorem w_657 : (Jvm.Cond.instanceMethod ({ cls := "DarkestDay$Port", name := "persons", desc := "()I" } : Jvm.MethodName)) ∈ TB := tz3 72 rfl rfl
theorem w_658 : (Jvm.Cond.selects "DarkestDay$Port" ({ cls := "DarkestDay$Port", name := "persons", desc := "()I" } : Jvm.MethodName) ({ cls := "DarkestDay$Port", name := "persons", desc := "()I" } : Jvm.MethodName)) ∈ TB := tz3 73 rfl rfl
theorem w_659 : (Jvm.Cond.code ({ cls := "DarkestDay$Port", name := "persons", desc := "()I" } : Jvm.MethodName) prog_8_method_2_code (1 : Nat) (Option.some Jvm.ClassFile.FieldType.int)) ∈ TB := tz3 74 rfl rfl
theorem w_660 : (Jvm.Cond.methodLink "DarkestDay$Port" (60 : Nat) ({ cls := "DarkestDay$Port", name := "isKind", desc := "(I)Z" } : Jvm.MethodName)) ∈ TB := tz3 75 rfl rfl
theorem w_661 : (Jvm.Cond.instanceMethod ({ cls := "DarkestDay$Port", name := "isKind", desc := "(I)Z" } : Jvm.MethodName)) ∈ TB := tz3 76 rfl rfl
theorem w_662 : (Jvm.Cond.selects "DarkestDay$Port" ({ cls := "DarkestDay$Port", name := "isKind", desc := "(I)Z" } : Jvm.MethodName) ({ cls := "DarkestDay$Port", name := "isKind", desc := "(I)Z" } : Jvm.MethodName)) ∈ TB := tz3 77 rfl rfl
theorem w_663 : (Jvm.Cond.code ({ cls := "DarkestDay$Port", name := "isKind", desc := "(I)Z" } : Jvm.MethodName) prog_8_method_5_code (2 : Nat) (Option.some Jvm.ClassFile.FieldType.boolean)) ∈ TB := tz3 78 rfl rfl
theorem w_664 : (Jvm.Cond.methodLink "DarkestDay" (133 : Nat) ({ cls := "DarkestDay$Tape", name := "cursor", desc := "()I" } : Jvm.MethodName)) ∈ TB := tz3 79 rfl rfl
theorem w_665 : (Jvm.Cond.instanceMethod ({ cls := "DarkestDay$Tape", name := "cursor", desc := "()I" } : Jvm.MethodName)) ∈ TB := tz3 80 rfl rfl
theorem w_666 : (Jvm.Cond.selects "DarkestDay$Tape" ({ cls := "DarkestDay$Tape", name := "cursor", desc := "()I" } : Jvm.MethodName) ({ cls := "DarkestDay$Tape", name := "cursor", desc := "()I" } : Jvm.MethodName)) ∈ TB := tz3 81 rfl rfl
theorem w_667 : (Jvm.Cond.code ({ cls := "DarkestDay$Tape", name := "cursor", desc := "()I" } : Jvm.MethodName) prog_11_method_6_code (1 : Nat) (Option.some Jvm.ClassFile.FieldType.int)) ∈ TB := tz3 82 rfl rfl
theorem w_668 : (Jvm.Cond.methodLink "DarkestDayLaw" (34 : Nat) ({ cls := "DarkestDay", name := "text", desc := "(I)I" } : Jvm.MethodName)) ∈ TB := tz3 83 rfl rfl
theorem w_669 : (Jvm.Cond.instanceMethod ({ cls := "DarkestDay", name := "text", desc := "(I)I" } : Jvm.MethodName)) ∈ TB := tz3 84 rfl rfl
theorem w_670 : (Jvm.Cond.selects "DarkestDay" ({ cls := "DarkestDay", name := "text", desc := "(I)I" } : Jvm.MethodName) ({ cls := "DarkestDay", name := "text", desc := "(I)I" } : Jvm.MethodName)) ∈ TB := tz3 85 rfl rfl
theorem w_671 : (Jvm.Cond.code ({ cls := "DarkestDay", name := "text", desc := "(I)I" } : Jvm.MethodName) prog_1_method_5_code (2 : Nat) (Option.some Jvm.ClassFile.FieldType.int)) ∈ TB := tz3 86 rfl rfl
theorem w_672 : (Jvm.Cond.methodLink "DarkestDay" (136 : Nat) ({ cls := "DarkestDay", name := "hasPlaceFor", desc := "(I)Z" } : Jvm.MethodName)) ∈ TB := tz3 87 rfl rfl
theorem w_674 : (Jvm.Cond.instanceMethod ({ cls := "DarkestDay", name := "hasPlaceFor", desc := "(I)Z" } : Jvm.MethodName)) ∈ TB := tz3 89 rfl rfl
theorem w_675 : (Jvm.Cond.code ({ cls := "DarkestDay", name := "hasPlaceFor", desc := "(I)Z" } : Jvm.MethodName) prog_1_method_6_code (2 : Nat) (Option.some Jvm.ClassFile.FieldType.boolean)) ∈ TB := tz3 90 rfl rfl
theorem w_676 : (Jvm.Cond.methodLink "DarkestDay" (139 : Nat) ({ cls := "DarkestDay", name := "openPort", desc := "()V" } : Jvm.MethodName)) ∈ TB := tz3 91 rfl rfl
theorem w_678 : (Jvm.Cond.instanceMethod ({ cls := "DarkestDay", name := "openPort", desc := "()V" } : Jvm.MethodName)) ∈ TB := tz3 93 rfl rfl
theorem w_679 : (Jvm.Cond.code ({ cls := "DarkestDay", name := "openPort", desc := "()V" } : Jvm.MethodName) prog_1_method_8_code (1 : Nat) (Option.none : Option Jvm.ClassFile.FieldType)) ∈ TB := tz3 94 rfl rfl
theorem w_680 : (Jvm.Cond.methodLink "DarkestDay" (164 : Nat) ({ cls := "DarkestDay$Port", name := "copy", desc := "(LDarkestDay$Row;)V" } : Jvm.MethodName)) ∈ TB := tz3 95 rfl rfl
theorem w_681 : (Jvm.Cond.sameMethod "DarkestDay$Port" "DarkestDay$Row" "copy" "(LDarkestDay$Row;)V") ∈ TB := tz3 96 rfl rfl
theorem w_683 : (Jvm.Cond.selects "DarkestDay$Port" ({ cls := "DarkestDay$Port", name := "copy", desc := "(LDarkestDay$Row;)V" } : Jvm.MethodName) ({ cls := "DarkestDay$Row", name := "copy", desc := "(LDarkestDay$Row;)V" } : Jvm.MethodName)) ∈ TB := tz3 98 rfl rfl
theorem w_684 : (Jvm.Cond.instanceMethod ({ cls := "DarkestDay$Row", name := "copy", desc := "(LDarkestDay$Row;)V" } : Jvm.MethodName)) ∈ TB := tz3 99 rfl rfl
theorem w_685 : (Jvm.Cond.code ({ cls := "DarkestDay$Row", name := "copy", desc := "(LDarkestDay$Row;)V" } : Jvm.MethodName) prog_9_method_5_code (2 : Nat) (Option.none : Option Jvm.ClassFile.FieldType)) ∈ TB := tz3 100 rfl rfl
theorem w_686 : (Jvm.Cond.methodLink "DarkestDay$Row" (13 : Nat) ({ cls := "java/lang/Math", name := "min", desc := "(II)I" } : Jvm.MethodName)) ∈ TB := tz3 101 rfl rfl
theorem w_687 : (Jvm.Cond.static ({ cls := "java/lang/Math", name := "min", desc := "(II)I" } : Jvm.MethodName)) ∈ TB := tz3 102 rfl rfl
theorem w_688 : (Jvm.Cond.code ({ cls := "java/lang/Math", name := "min", desc := "(II)I" } : Jvm.MethodName) prog_20_method_69_code (2 : Nat) (Option.some Jvm.ClassFile.FieldType.int)) ∈ TB := tz3 103 rfl rfl
theorem w_689 : (Jvm.Cond.methodLink "DarkestDay$Row" (19 : Nat) ({ cls := "java/lang/System", name := "arraycopy", desc := "(Ljava/lang/Object;ILjava/lang/Object;II)V" } : Jvm.MethodName)) ∈ TB := tz3 104 rfl rfl
theorem w_690 : (Jvm.Cond.static ({ cls := "java/lang/System", name := "arraycopy", desc := "(Ljava/lang/Object;ILjava/lang/Object;II)V" } : Jvm.MethodName)) ∈ TB := tz3 105 rfl rfl
theorem w_691 : (Jvm.Cond.native ({ cls := "java/lang/System", name := "arraycopy", desc := "(Ljava/lang/Object;ILjava/lang/Object;II)V" } : Jvm.MethodName)) ∈ TB := tz3 106 rfl rfl
theorem w_692 : (Jvm.Cond.methodLink "DarkestDay" (168 : Nat) ({ cls := "DarkestDay$State", name := "begin", desc := "(LDarkestDay$Port;)V" } : Jvm.MethodName)) ∈ TB := tz3 107 rfl rfl
theorem w_693 : (Jvm.Cond.instanceMethod ({ cls := "DarkestDay$State", name := "begin", desc := "(LDarkestDay$Port;)V" } : Jvm.MethodName)) ∈ TB := tz3 108 rfl rfl
theorem w_694 : (Jvm.Cond.selects "DarkestDay$State" ({ cls := "DarkestDay$State", name := "begin", desc := "(LDarkestDay$Port;)V" } : Jvm.MethodName) ({ cls := "DarkestDay$State", name := "begin", desc := "(LDarkestDay$Port;)V" } : Jvm.MethodName)) ∈ TB := tz3 109 rfl rfl
theorem w_695 : (Jvm.Cond.code ({ cls := "DarkestDay$State", name := "begin", desc := "(LDarkestDay$Port;)V" } : Jvm.MethodName) prog_10_method_2_code (4 : Nat) (Option.none : Option Jvm.ClassFile.FieldType)) ∈ TB := tz3 110 rfl rfl
theorem w_696 : (Jvm.Cond.methodLink "DarkestDay$State" (11 : Nat) ({ cls := "DarkestDay$State", name := "fill", desc := "(I)V" } : Jvm.MethodName)) ∈ TB := tz3 111 rfl rfl
theorem w_697 : (Jvm.Cond.sameMethod "DarkestDay$State" "DarkestDay$Row" "fill" "(I)V") ∈ TB := tz3 112 rfl rfl
theorem w_698 : (Jvm.Cond.selects "DarkestDay$State" ({ cls := "DarkestDay$State", name := "fill", desc := "(I)V" } : Jvm.MethodName) ({ cls := "DarkestDay$Row", name := "fill", desc := "(I)V" } : Jvm.MethodName)) ∈ TB := tz3 113 rfl rfl
theorem w_699 : (Jvm.Cond.methodLink "DarkestDay$State" (16 : Nat) ({ cls := "DarkestDay$Port", name := "get", desc := "(I)I" } : Jvm.MethodName)) ∈ TB := tz3 114 rfl rfl
theorem w_700 : (Jvm.Cond.methodLink "DarkestDay$State" (20 : Nat) ({ cls := "DarkestDay$State", name := "set", desc := "(II)V" } : Jvm.MethodName)) ∈ TB := tz3 115 rfl rfl
theorem w_701 : (Jvm.Cond.sameMethod "DarkestDay$State" "DarkestDay$Row" "set" "(II)V") ∈ TB := tz3 116 rfl rfl
theorem w_702 : (Jvm.Cond.selects "DarkestDay$State" ({ cls := "DarkestDay$State", name := "set", desc := "(II)V" } : Jvm.MethodName) ({ cls := "DarkestDay$Row", name := "set", desc := "(II)V" } : Jvm.MethodName)) ∈ TB := tz3 117 rfl rfl
theorem w_703 : (Jvm.Cond.methodLink "DarkestDay" (171 : Nat) ({ cls := "DarkestDay$History", name := "clear", desc := "()V" } : Jvm.MethodName)) ∈ TB := tz3 118 rfl rfl
theorem w_704 : (Jvm.Cond.instanceMethod ({ cls := "DarkestDay$History", name := "clear", desc := "()V" } : Jvm.MethodName)) ∈ TB := tz3 119 rfl rfl
theorem w_705 : (Jvm.Cond.selects "DarkestDay$History" ({ cls := "DarkestDay$History", name := "clear", desc := "()V" } : Jvm.MethodName) ({ cls := "DarkestDay$History", name := "clear", desc := "()V" } : Jvm.MethodName)) ∈ TB := tz3 120 rfl rfl
theorem w_706 : (Jvm.Cond.code ({ cls := "DarkestDay$History", name := "clear", desc := "()V" } : Jvm.MethodName) prog_4_method_3_code (1 : Nat) (Option.none : Option Jvm.ClassFile.FieldType)) ∈ TB := tz3 121 rfl rfl
theorem w_707 : (Jvm.Cond.methodLink "DarkestDay" (174 : Nat) ({ cls := "DarkestDay$Witness", name := "forget", desc := "()V" } : Jvm.MethodName)) ∈ TB := tz3 122 rfl rfl
theorem w_708 : (Jvm.Cond.instanceMethod ({ cls := "DarkestDay$Witness", name := "forget", desc := "()V" } : Jvm.MethodName)) ∈ TB := tz3 123 rfl rfl
theorem w_709 : (Jvm.Cond.selects "DarkestDay$Witness" ({ cls := "DarkestDay$Witness", name := "forget", desc := "()V" } : Jvm.MethodName) ({ cls := "DarkestDay$Witness", name := "forget", desc := "()V" } : Jvm.MethodName)) ∈ TB := tz3 124 rfl rfl
theorem w_710 : (Jvm.Cond.code ({ cls := "DarkestDay$Witness", name := "forget", desc := "()V" } : Jvm.MethodName) prog_12_method_4_code (1 : Nat) (Option.none : Option Jvm.ClassFile.FieldType)) ∈ TB := tz3 125 rfl rfl
theorem w_711 : (Jvm.Cond.methodLink "DarkestDay" (142 : Nat) ({ cls := "DarkestDay$Port", name := "persons", desc := "()I" } : Jvm.MethodName)) ∈ TB := tz3 126 rfl rfl
theorem w_712 : (Jvm.Cond.methodLink "DarkestDayLaw" (38 : Nat) ({ cls := "DarkestDay", name := "kind", desc := "(II)I" } : Jvm.MethodName)) ∈ TB := tz3 127 rfl rfl
theorem w_713 : (Jvm.Cond.instanceMethod ({ cls := "DarkestDay", name := "kind", desc := "(II)I" } : Jvm.MethodName)) ∈ TB := tz3 128 rfl rfl
theorem w_714 : (Jvm.Cond.selects "DarkestDay" ({ cls := "DarkestDay", name := "kind", desc := "(II)I" } : Jvm.MethodName) ({ cls := "DarkestDay", name := "kind", desc := "(II)I" } : Jvm.MethodName)) ∈ TB := tz3 129 rfl rfl
theorem w_715 : (Jvm.Cond.code ({ cls := "DarkestDay", name := "kind", desc := "(II)I" } : Jvm.MethodName) prog_1_method_12_code (3 : Nat) (Option.some Jvm.ClassFile.FieldType.int)) ∈ TB := tz3 130 rfl rfl
theorem w_716 : (Jvm.Cond.methodLink "DarkestDay" (177 : Nat) ({ cls := "DarkestDay$Port", name := "isKind", desc := "(I)Z" } : Jvm.MethodName)) ∈ TB := tz3 131 rfl rfl
theorem w_717 : (Jvm.Cond.constant "DarkestDay" (180 : Nat) (-1000000 : Int32)) ∈ TB := tz3 132 rfl rfl
theorem w_718 : (Jvm.Cond.methodLink "DarkestDay" (181 : Nat) ({ cls := "DarkestDay$Port", name := "get", desc := "(I)I" } : Jvm.MethodName)) ∈ TB := tz3 133 rfl rfl
theorem w_719 : (Jvm.Cond.methodLink "DarkestDay" (184 : Nat) ({ cls := "DarkestDay$State", name := "get", desc := "(I)I" } : Jvm.MethodName)) ∈ TB := tz3 134 rfl rfl
theorem w_720 : (Jvm.Cond.sameMethod "DarkestDay$State" "DarkestDay$Row" "get" "(I)I") ∈ TB := tz3 135 rfl rfl
theorem w_721 : (Jvm.Cond.selects "DarkestDay$State" ({ cls := "DarkestDay$State", name := "get", desc := "(I)I" } : Jvm.MethodName) ({ cls := "DarkestDay$Row", name := "get", desc := "(I)I" } : Jvm.MethodName)) ∈ TB := tz3 136 rfl rfl
theorem w_722 : (Jvm.Cond.methodLink "DarkestDay" (185 : Nat) ({ cls := "DarkestDay$State", name := "party", desc := "(II)I" } : Jvm.MethodName)) ∈ TB := tz3 137 rfl rfl
theorem w_723 : (Jvm.Cond.instanceMethod ({ cls := "DarkestDay$State", name := "party", desc := "(II)I" } : Jvm.MethodName)) ∈ TB := tz3 138 rfl rfl
theorem w_724 : (Jvm.Cond.selects "DarkestDay$State" ({ cls := "DarkestDay$State", name := "party", desc := "(II)I" } : Jvm.MethodName) ({ cls := "DarkestDay$State", name := "party", desc := "(II)I" } : Jvm.MethodName)) ∈ TB := tz3 139 rfl rfl
theorem w_725 : (Jvm.Cond.code ({ cls := "DarkestDay$State", name := "party", desc := "(II)I" } : Jvm.MethodName) prog_10_method_6_code (5 : Nat) (Option.some Jvm.ClassFile.FieldType.int)) ∈ TB := tz3 140 rfl rfl
theorem w_726 : (Jvm.Cond.methodLink "DarkestDay$State" (24 : Nat) ({ cls := "DarkestDay$State", name := "get", desc := "(I)I" } : Jvm.MethodName)) ∈ TB := tz3 141 rfl rfl
theorem w_727 : (Jvm.Cond.methodLink "DarkestDayLaw" (52 : Nat) ({ cls := "DarkestDay", name := "law", desc := "(I)Z" } : Jvm.MethodName)) ∈ TB := tz3 142 rfl rfl
theorem w_728 : (Jvm.Cond.instanceMethod ({ cls := "DarkestDay", name := "law", desc := "(I)Z" } : Jvm.MethodName)) ∈ TB := tz3 143 rfl rfl
theorem w_729 : (Jvm.Cond.selects "DarkestDay" ({ cls := "DarkestDay", name := "law", desc := "(I)Z" } : Jvm.MethodName) ({ cls := "DarkestDay", name := "law", desc := "(I)Z" } : Jvm.MethodName)) ∈ TB := tz3 144 rfl rfl
theorem w_730 : (Jvm.Cond.code ({ cls := "DarkestDay", name := "law", desc := "(I)Z" } : Jvm.MethodName) prog_1_method_14_code (2 : Nat) (Option.some Jvm.ClassFile.FieldType.boolean)) ∈ TB := tz3 145 rfl rfl
theorem w_731 : (Jvm.Cond.methodLink "DarkestDay" (198 : Nat) ({ cls := "DarkestDay$Course", name := "setLaw", desc := "(LDarkestDay$Law;)V" } : Jvm.MethodName)) ∈ TB := tz3 146 rfl rfl
theorem w_732 : (Jvm.Cond.instanceMethod ({ cls := "DarkestDay$Course", name := "setLaw", desc := "(LDarkestDay$Law;)V" } : Jvm.MethodName)) ∈ TB := tz3 147 rfl rfl
theorem w_733 : (Jvm.Cond.selects "DarkestDay$Course" ({ cls := "DarkestDay$Course", name := "setLaw", desc := "(LDarkestDay$Law;)V" } : Jvm.MethodName) ({ cls := "DarkestDay$Course", name := "setLaw", desc := "(LDarkestDay$Law;)V" } : Jvm.MethodName)) ∈ TB := tz3 148 rfl rfl
theorem w_734 : (Jvm.Cond.code ({ cls := "DarkestDay$Course", name := "setLaw", desc := "(LDarkestDay$Law;)V" } : Jvm.MethodName) prog_3_method_2_code (2 : Nat) (Option.none : Option Jvm.ClassFile.FieldType)) ∈ TB := tz3 149 rfl rfl
theorem w_735 : (Jvm.Cond.methodLink "DarkestDayLaw" (56 : Nat) ({ cls := "DarkestDay", name := "whim", desc := "(I)Z" } : Jvm.MethodName)) ∈ TB := tz3 150 rfl rfl
theorem w_736 : (Jvm.Cond.instanceMethod ({ cls := "DarkestDay", name := "whim", desc := "(I)Z" } : Jvm.MethodName)) ∈ TB := tz3 151 rfl rfl
theorem w_737 : (Jvm.Cond.selects "DarkestDay" ({ cls := "DarkestDay", name := "whim", desc := "(I)Z" } : Jvm.MethodName) ({ cls := "DarkestDay", name := "whim", desc := "(I)Z" } : Jvm.MethodName)) ∈ TB := tz3 152 rfl rfl
theorem w_738 : (Jvm.Cond.code ({ cls := "DarkestDay", name := "whim", desc := "(I)Z" } : Jvm.MethodName) prog_1_method_15_code (2 : Nat) (Option.some Jvm.ClassFile.FieldType.boolean)) ∈ TB := tz3 153 rfl rfl
theorem w_739 : (Jvm.Cond.methodLink "DarkestDayLaw" (60 : Nat) ({ cls := "DarkestDay", name := "pass", desc := "()I" } : Jvm.MethodName)) ∈ TB := tz3 154 rfl rfl
theorem w_740 : (Jvm.Cond.instanceMethod ({ cls := "DarkestDay", name := "pass", desc := "()I" } : Jvm.MethodName)) ∈ TB := tz3 155 rfl rfl
theorem w_741 : (Jvm.Cond.selects "DarkestDay" ({ cls := "DarkestDay", name := "pass", desc := "()I" } : Jvm.MethodName) ({ cls := "DarkestDay", name := "pass", desc := "()I" } : Jvm.MethodName)) ∈ TB := tz3 156 rfl rfl
theorem w_742 : (Jvm.Cond.code ({ cls := "DarkestDay", name := "pass", desc := "()I" } : Jvm.MethodName) prog_1_method_16_code (2 : Nat) (Option.some Jvm.ClassFile.FieldType.int)) ∈ TB := tz3 157 rfl rfl
theorem w_743 : (Jvm.Cond.methodLink "DarkestDay" (202 : Nat) ({ cls := "DarkestDay", name := "acted", desc := "(III)Z" } : Jvm.MethodName)) ∈ TB := tz3 158 rfl rfl
theorem w_745 : (Jvm.Cond.instanceMethod ({ cls := "DarkestDay", name := "acted", desc := "(III)Z" } : Jvm.MethodName)) ∈ TB := tz3 160 rfl rfl
theorem w_746 : (Jvm.Cond.code ({ cls := "DarkestDay", name := "acted", desc := "(III)Z" } : Jvm.MethodName) prog_1_method_23_code (5 : Nat) (Option.some Jvm.ClassFile.FieldType.boolean)) ∈ TB := tz3 161 rfl rfl
theorem w_747 : (Jvm.Cond.methodLink "DarkestDay" (206 : Nat) ({ cls := "DarkestDay$Course", name := "whyNot", desc := "(LDarkestDay$State;III)I" } : Jvm.MethodName)) ∈ TB := tz3 162 rfl rfl
theorem w_748 : (Jvm.Cond.instanceMethod ({ cls := "DarkestDay$Course", name := "whyNot", desc := "(LDarkestDay$State;III)I" } : Jvm.MethodName)) ∈ TB := tz3 163 rfl rfl
theorem w_749 : (Jvm.Cond.selects "DarkestDay$Course" ({ cls := "DarkestDay$Course", name := "whyNot", desc := "(LDarkestDay$State;III)I" } : Jvm.MethodName) ({ cls := "DarkestDay$Course", name := "whyNot", desc := "(LDarkestDay$State;III)I" } : Jvm.MethodName)) ∈ TB := tz3 164 rfl rfl
theorem w_750 : (Jvm.Cond.code ({ cls := "DarkestDay$Course", name := "whyNot", desc := "(LDarkestDay$State;III)I" } : Jvm.MethodName) prog_3_method_17_code (6 : Nat) (Option.some Jvm.ClassFile.FieldType.int)) ∈ TB := tz3 165 rfl rfl
theorem w_751 : (Jvm.Cond.methodLink "DarkestDay$Course" (74 : Nat) ({ cls := "DarkestDay$Port", name := "persons", desc := "()I" } : Jvm.MethodName)) ∈ TB := tz3 166 rfl rfl
theorem w_752 : (Jvm.Cond.methodLink "DarkestDay$Course" (43 : Nat) ({ cls := "DarkestDay$State", name := "get", desc := "(I)I" } : Jvm.MethodName)) ∈ TB := tz3 167 rfl rfl
theorem w_753 : (Jvm.Cond.methodLink "DarkestDay$Course" (133 : Nat) ({ cls := "DarkestDay$Course", name := "daysThatCanPass", desc := "(LDarkestDay$State;)I" } : Jvm.MethodName)) ∈ TB := tz3 168 rfl rfl
theorem w_754 : (Jvm.Cond.instanceMethod ({ cls := "DarkestDay$Course", name := "daysThatCanPass", desc := "(LDarkestDay$State;)I" } : Jvm.MethodName)) ∈ TB := tz3 169 rfl rfl
theorem w_755 : (Jvm.Cond.selects "DarkestDay$Course" ({ cls := "DarkestDay$Course", name := "daysThatCanPass", desc := "(LDarkestDay$State;)I" } : Jvm.MethodName) ({ cls := "DarkestDay$Course", name := "daysThatCanPass", desc := "(LDarkestDay$State;)I" } : Jvm.MethodName)) ∈ TB := tz3 170 rfl rfl
theorem w_756 : (Jvm.Cond.code ({ cls := "DarkestDay$Course", name := "daysThatCanPass", desc := "(LDarkestDay$State;)I" } : Jvm.MethodName) prog_3_method_16_code (3 : Nat) (Option.some Jvm.ClassFile.FieldType.int)) ∈ TB := tz3 171 rfl rfl
theorem w_757 : (Jvm.Cond.methodLink "DarkestDay$Course" (49 : Nat) ({ cls := "DarkestDay$Port", name := "get", desc := "(I)I" } : Jvm.MethodName)) ∈ TB := tz3 172 rfl rfl
theorem w_758 : (Jvm.Cond.methodLink "DarkestDay$Course" (136 : Nat) ({ cls := "DarkestDay$Course", name := "whyNoHabit", desc := "(LDarkestDay$State;II)I" } : Jvm.MethodName)) ∈ TB := tz3 173 rfl rfl
theorem w_760 : (Jvm.Cond.instanceMethod ({ cls := "DarkestDay$Course", name := "whyNoHabit", desc := "(LDarkestDay$State;II)I" } : Jvm.MethodName)) ∈ TB := tz3 175 rfl rfl
theorem w_761 : (Jvm.Cond.code ({ cls := "DarkestDay$Course", name := "whyNoHabit", desc := "(LDarkestDay$State;II)I" } : Jvm.MethodName) prog_3_method_18_code (4 : Nat) (Option.some Jvm.ClassFile.FieldType.int)) ∈ TB := tz3 176 rfl rfl
theorem w_762 : (Jvm.Cond.methodLink "DarkestDay$Course" (140 : Nat) ({ cls := "DarkestDay$Port", name := "isPerson", desc := "(I)Z" } : Jvm.MethodName)) ∈ TB := tz3 177 rfl rfl
theorem w_763 : (Jvm.Cond.instanceMethod ({ cls := "DarkestDay$Port", name := "isPerson", desc := "(I)Z" } : Jvm.MethodName)) ∈ TB := tz3 178 rfl rfl
theorem w_764 : (Jvm.Cond.selects "DarkestDay$Port" ({ cls := "DarkestDay$Port", name := "isPerson", desc := "(I)Z" } : Jvm.MethodName) ({ cls := "DarkestDay$Port", name := "isPerson", desc := "(I)Z" } : Jvm.MethodName)) ∈ TB := tz3 179 rfl rfl
theorem w_765 : (Jvm.Cond.code ({ cls := "DarkestDay$Port", name := "isPerson", desc := "(I)Z" } : Jvm.MethodName) prog_8_method_4_code (2 : Nat) (Option.some Jvm.ClassFile.FieldType.boolean)) ∈ TB := tz3 180 rfl rfl
theorem w_766 : (Jvm.Cond.methodLink "DarkestDay$Course" (143 : Nat) ({ cls := "DarkestDay$Port", name := "isKind", desc := "(I)Z" } : Jvm.MethodName)) ∈ TB := tz3 181 rfl rfl
theorem w_767 : (Jvm.Cond.methodLink "DarkestDay" (210 : Nat) ({ cls := "DarkestDay$Row", name := "get", desc := "(I)I" } : Jvm.MethodName)) ∈ TB := tz3 182 rfl rfl
theorem w_768 : (Jvm.Cond.methodLink "DarkestDay" (211 : Nat) ({ cls := "DarkestDay$Row", name := "set", desc := "(II)V" } : Jvm.MethodName)) ∈ TB := tz3 183 rfl rfl
theorem w_769 : (Jvm.Cond.methodLink "DarkestDay" (215 : Nat) ({ cls := "DarkestDay$History", name := "keep", desc := "(LDarkestDay$State;)V" } : Jvm.MethodName)) ∈ TB := tz3 184 rfl rfl
theorem w_770 : (Jvm.Cond.instanceMethod ({ cls := "DarkestDay$History", name := "keep", desc := "(LDarkestDay$State;)V" } : Jvm.MethodName)) ∈ TB := tz3 185 rfl rfl
theorem w_771 : (Jvm.Cond.selects "DarkestDay$History" ({ cls := "DarkestDay$History", name := "keep", desc := "(LDarkestDay$State;)V" } : Jvm.MethodName) ({ cls := "DarkestDay$History", name := "keep", desc := "(LDarkestDay$State;)V" } : Jvm.MethodName)) ∈ TB := tz3 186 rfl rfl
theorem w_772 : (Jvm.Cond.code ({ cls := "DarkestDay$History", name := "keep", desc := "(LDarkestDay$State;)V" } : Jvm.MethodName) prog_4_method_4_code (3 : Nat) (Option.none : Option Jvm.ClassFile.FieldType)) ∈ TB := tz3 187 rfl rfl
theorem w_773 : (Jvm.Cond.methodLink "DarkestDay$History" (23 : Nat) ({ cls := "DarkestDay$History", name := "stateAt", desc := "(I)LDarkestDay$State;" } : Jvm.MethodName)) ∈ TB := tz3 188 rfl rfl
theorem w_775 : (Jvm.Cond.instanceMethod ({ cls := "DarkestDay$History", name := "stateAt", desc := "(I)LDarkestDay$State;" } : Jvm.MethodName)) ∈ TB := tz3 190 rfl rfl
theorem w_776 : (Jvm.Cond.code ({ cls := "DarkestDay$History", name := "stateAt", desc := "(I)LDarkestDay$State;" } : Jvm.MethodName) prog_4_method_6_code (2 : Nat) (Option.some (Jvm.ClassFile.FieldType.object "DarkestDay$State"))) ∈ TB := tz3 191 rfl rfl
theorem w_777 : (Jvm.Cond.methodLink "DarkestDay$History" (27 : Nat) ({ cls := "DarkestDay$State", name := "copy", desc := "(LDarkestDay$Row;)V" } : Jvm.MethodName)) ∈ TB := tz3 192 rfl rfl
theorem w_778 : (Jvm.Cond.sameMethod "DarkestDay$State" "DarkestDay$Row" "copy" "(LDarkestDay$Row;)V") ∈ TB := tz3 193 rfl rfl
theorem w_779 : (Jvm.Cond.selects "DarkestDay$State" ({ cls := "DarkestDay$State", name := "copy", desc := "(LDarkestDay$Row;)V" } : Jvm.MethodName) ({ cls := "DarkestDay$Row", name := "copy", desc := "(LDarkestDay$Row;)V" } : Jvm.MethodName)) ∈ TB := tz3 194 rfl rfl
theorem w_780 : (Jvm.Cond.methodLink "DarkestDay$History" (31 : Nat) ({ cls := "java/lang/Math", name := "min", desc := "(II)I" } : Jvm.MethodName)) ∈ TB := tz3 195 rfl rfl
theorem w_781 : (Jvm.Cond.methodLink "DarkestDay" (219 : Nat) ({ cls := "DarkestDay$Course", name := "carryOut", desc := "(LDarkestDay$State;III)V" } : Jvm.MethodName)) ∈ TB := tz3 196 rfl rfl
theorem w_782 : (Jvm.Cond.instanceMethod ({ cls := "DarkestDay$Course", name := "carryOut", desc := "(LDarkestDay$State;III)V" } : Jvm.MethodName)) ∈ TB := tz3 197 rfl rfl
theorem w_783 : (Jvm.Cond.selects "DarkestDay$Course" ({ cls := "DarkestDay$Course", name := "carryOut", desc := "(LDarkestDay$State;III)V" } : Jvm.MethodName) ({ cls := "DarkestDay$Course", name := "carryOut", desc := "(LDarkestDay$State;III)V" } : Jvm.MethodName)) ∈ TB := tz3 198 rfl rfl
theorem w_784 : (Jvm.Cond.code ({ cls := "DarkestDay$Course", name := "carryOut", desc := "(LDarkestDay$State;III)V" } : Jvm.MethodName) prog_3_method_19_code (5 : Nat) (Option.none : Option Jvm.ClassFile.FieldType)) ∈ TB := tz3 199 rfl rfl
theorem w_785 : (Jvm.Cond.methodLink "DarkestDay$Course" (146 : Nat) ({ cls := "DarkestDay$Course", name := "passDay", desc := "(LDarkestDay$State;)V" } : Jvm.MethodName)) ∈ TB := tz3 200 rfl rfl
theorem w_786 : (Jvm.Cond.instanceMethod ({ cls := "DarkestDay$Course", name := "passDay", desc := "(LDarkestDay$State;)V" } : Jvm.MethodName)) ∈ TB := tz3 201 rfl rfl
theorem w_787 : (Jvm.Cond.selects "DarkestDay$Course" ({ cls := "DarkestDay$Course", name := "passDay", desc := "(LDarkestDay$State;)V" } : Jvm.MethodName) ({ cls := "DarkestDay$Course", name := "passDay", desc := "(LDarkestDay$State;)V" } : Jvm.MethodName)) ∈ TB := tz3 202 rfl rfl
theorem w_788 : (Jvm.Cond.code ({ cls := "DarkestDay$Course", name := "passDay", desc := "(LDarkestDay$State;)V" } : Jvm.MethodName) prog_3_method_11_code (5 : Nat) (Option.none : Option Jvm.ClassFile.FieldType)) ∈ TB := tz3 203 rfl rfl
theorem w_789 : (Jvm.Cond.methodLink "DarkestDay$Course" (77 : Nat) ({ cls := "DarkestDay$State", name := "upCount", desc := "(I)I" } : Jvm.MethodName)) ∈ TB := tz3 204 rfl rfl
theorem w_790 : (Jvm.Cond.instanceMethod ({ cls := "DarkestDay$State", name := "upCount", desc := "(I)I" } : Jvm.MethodName)) ∈ TB := tz3 205 rfl rfl
theorem w_791 : (Jvm.Cond.selects "DarkestDay$State" ({ cls := "DarkestDay$State", name := "upCount", desc := "(I)I" } : Jvm.MethodName) ({ cls := "DarkestDay$State", name := "upCount", desc := "(I)I" } : Jvm.MethodName)) ∈ TB := tz3 206 rfl rfl
theorem w_792 : (Jvm.Cond.code ({ cls := "DarkestDay$State", name := "upCount", desc := "(I)I" } : Jvm.MethodName) prog_10_method_5_code (2 : Nat) (Option.some Jvm.ClassFile.FieldType.int)) ∈ TB := tz3 207 rfl rfl
theorem w_793 : (Jvm.Cond.methodLink "DarkestDay$State" (29 : Nat) ({ cls := "DarkestDay$State", name := "upBits", desc := "(I)I" } : Jvm.MethodName)) ∈ TB := tz3 208 rfl rfl
theorem w_794 : (Jvm.Cond.instanceMethod ({ cls := "DarkestDay$State", name := "upBits", desc := "(I)I" } : Jvm.MethodName)) ∈ TB := tz3 209 rfl rfl
theorem w_795 : (Jvm.Cond.selects "DarkestDay$State" ({ cls := "DarkestDay$State", name := "upBits", desc := "(I)I" } : Jvm.MethodName) ({ cls := "DarkestDay$State", name := "upBits", desc := "(I)I" } : Jvm.MethodName)) ∈ TB := tz3 210 rfl rfl
theorem w_796 : (Jvm.Cond.code ({ cls := "DarkestDay$State", name := "upBits", desc := "(I)I" } : Jvm.MethodName) prog_10_method_4_code (2 : Nat) (Option.some Jvm.ClassFile.FieldType.int)) ∈ TB := tz3 211 rfl rfl
theorem w_797 : (Jvm.Cond.methodLink "DarkestDay$State" (32 : Nat) ({ cls := "java/lang/Integer", name := "bitCount", desc := "(I)I" } : Jvm.MethodName)) ∈ TB := tz3 212 rfl rfl
theorem w_798 : (Jvm.Cond.static ({ cls := "java/lang/Integer", name := "bitCount", desc := "(I)I" } : Jvm.MethodName)) ∈ TB := tz3 213 rfl rfl
theorem w_799 : (Jvm.Cond.code ({ cls := "java/lang/Integer", name := "bitCount", desc := "(I)I" } : Jvm.MethodName) prog_19_method_49_code (1 : Nat) (Option.some Jvm.ClassFile.FieldType.int)) ∈ TB := tz3 214 rfl rfl
theorem w_800 : (Jvm.Cond.constant "java/lang/Integer" (265 : Nat) (1431655765 : Int32)) ∈ TB := tz3 215 rfl rfl
theorem w_801 : (Jvm.Cond.constant "java/lang/Integer" (266 : Nat) (858993459 : Int32)) ∈ TB := tz3 216 rfl rfl
theorem w_802 : (Jvm.Cond.constant "java/lang/Integer" (267 : Nat) (252645135 : Int32)) ∈ TB := tz3 217 rfl rfl
theorem w_803 : (Jvm.Cond.methodLink "DarkestDay$Course" (80 : Nat) ({ cls := "DarkestDay$Course", name := "lightAhead", desc := "(LDarkestDay$State;III)I" } : Jvm.MethodName)) ∈ TB := tz3 218 rfl rfl
theorem w_804 : (Jvm.Cond.instanceMethod ({ cls := "DarkestDay$Course", name := "lightAhead", desc := "(LDarkestDay$State;III)I" } : Jvm.MethodName)) ∈ TB := tz3 219 rfl rfl
theorem w_805 : (Jvm.Cond.selects "DarkestDay$Course" ({ cls := "DarkestDay$Course", name := "lightAhead", desc := "(LDarkestDay$State;III)I" } : Jvm.MethodName) ({ cls := "DarkestDay$Course", name := "lightAhead", desc := "(LDarkestDay$State;III)I" } : Jvm.MethodName)) ∈ TB := tz3 220 rfl rfl
theorem w_806 : (Jvm.Cond.code ({ cls := "DarkestDay$Course", name := "lightAhead", desc := "(LDarkestDay$State;III)I" } : Jvm.MethodName) prog_3_method_3_code (9 : Nat) (Option.some Jvm.ClassFile.FieldType.int)) ∈ TB := tz3 221 rfl rfl
theorem w_807 : (Jvm.Cond.methodLink "DarkestDay$Course" (50 : Nat) ({ cls := "java/lang/Math", name := "abs", desc := "(I)I" } : Jvm.MethodName)) ∈ TB := tz3 222 rfl rfl
theorem w_808 : (Jvm.Cond.static ({ cls := "java/lang/Math", name := "abs", desc := "(I)I" } : Jvm.MethodName)) ∈ TB := tz3 223 rfl rfl
theorem w_809 : (Jvm.Cond.code ({ cls := "java/lang/Math", name := "abs", desc := "(I)I" } : Jvm.MethodName) prog_20_method_59_code (1 : Nat) (Option.some Jvm.ClassFile.FieldType.int)) ∈ TB := tz3 224 rfl rfl
theorem w_810 : (Jvm.Cond.methodLink "DarkestDay$Course" (55 : Nat) ({ cls := "DarkestDay$Row", name := "set", desc := "(II)V" } : Jvm.MethodName)) ∈ TB := tz3 225 rfl rfl
theorem w_811 : (Jvm.Cond.methodLink "DarkestDay$Course" (59 : Nat) ({ cls := "DarkestDay$State", name := "governingVoices", desc := "()I" } : Jvm.MethodName)) ∈ TB := tz3 226 rfl rfl
theorem w_812 : (Jvm.Cond.instanceMethod ({ cls := "DarkestDay$State", name := "governingVoices", desc := "()I" } : Jvm.MethodName)) ∈ TB := tz3 227 rfl rfl
theorem w_813 : (Jvm.Cond.selects "DarkestDay$State" ({ cls := "DarkestDay$State", name := "governingVoices", desc := "()I" } : Jvm.MethodName) ({ cls := "DarkestDay$State", name := "governingVoices", desc := "()I" } : Jvm.MethodName)) ∈ TB := tz3 228 rfl rfl
theorem w_814 : (Jvm.Cond.code ({ cls := "DarkestDay$State", name := "governingVoices", desc := "()I" } : Jvm.MethodName) prog_10_method_7_code (2 : Nat) (Option.some Jvm.ClassFile.FieldType.int)) ∈ TB := tz3 229 rfl rfl
theorem w_815 : (Jvm.Cond.methodLink "DarkestDay$Course" (63 : Nat) ({ cls := "DarkestDay$Law", name := "worth", desc := "(LDarkestDay$Row;LDarkestDay$Row;)I" } : Jvm.MethodName)) ∈ TB := tz3 230 rfl rfl
theorem w_816 : (Jvm.Cond.instanceMethod ({ cls := "DarkestDay$Law", name := "worth", desc := "(LDarkestDay$Row;LDarkestDay$Row;)I" } : Jvm.MethodName)) ∈ TB := tz3 231 rfl rfl
theorem w_817 : (Jvm.Cond.selects "DarkestDay$Law" ({ cls := "DarkestDay$Law", name := "worth", desc := "(LDarkestDay$Row;LDarkestDay$Row;)I" } : Jvm.MethodName) ({ cls := "DarkestDay$Law", name := "worth", desc := "(LDarkestDay$Row;LDarkestDay$Row;)I" } : Jvm.MethodName)) ∈ TB := tz3 232 rfl rfl
theorem w_818 : (Jvm.Cond.code ({ cls := "DarkestDay$Law", name := "worth", desc := "(LDarkestDay$Row;LDarkestDay$Row;)I" } : Jvm.MethodName) prog_5_method_4_code (7 : Nat) (Option.some Jvm.ClassFile.FieldType.int)) ∈ TB := tz3 233 rfl rfl
theorem w_819 : (Jvm.Cond.methodLink "DarkestDay$Law" (19 : Nat) ({ cls := "DarkestDay$Law", name := "get", desc := "(I)I" } : Jvm.MethodName)) ∈ TB := tz3 234 rfl rfl
theorem w_820 : (Jvm.Cond.sameMethod "DarkestDay$Law" "DarkestDay$Row" "get" "(I)I") ∈ TB := tz3 235 rfl rfl
theorem w_821 : (Jvm.Cond.selects "DarkestDay$Law" ({ cls := "DarkestDay$Law", name := "get", desc := "(I)I" } : Jvm.MethodName) ({ cls := "DarkestDay$Row", name := "get", desc := "(I)I" } : Jvm.MethodName)) ∈ TB := tz3 236 rfl rfl
theorem w_822 : (Jvm.Cond.methodLink "DarkestDay$Law" (23 : Nat) ({ cls := "DarkestDay$Row", name := "set", desc := "(II)V" } : Jvm.MethodName)) ∈ TB := tz3 237 rfl rfl
theorem w_823 : (Jvm.Cond.methodLink "DarkestDay$Law" (24 : Nat) ({ cls := "DarkestDay$Row", name := "get", desc := "(I)I" } : Jvm.MethodName)) ∈ TB := tz3 238 rfl rfl
theorem w_824 : (Jvm.Cond.methodLink "DarkestDay$Law" (25 : Nat) ({ cls := "DarkestDay$Law", name := "joined", desc := "(III)I" } : Jvm.MethodName)) ∈ TB := tz3 239 rfl rfl
theorem w_825 : (Jvm.Cond.static ({ cls := "DarkestDay$Law", name := "joined", desc := "(III)I" } : Jvm.MethodName)) ∈ TB := tz4 0 rfl rfl
theorem w_826 : (Jvm.Cond.code ({ cls := "DarkestDay$Law", name := "joined", desc := "(III)I" } : Jvm.MethodName) prog_5_method_5_code (5 : Nat) (Option.some Jvm.ClassFile.FieldType.int)) ∈ TB := tz4 1 rfl rfl
theorem w_827 : (Jvm.Cond.constantLong "DarkestDay$Law" (29 : Nat) (-1000000 : Int64)) ∈ TB := tz4 2 rfl rfl
theorem w_828 : (Jvm.Cond.constant "DarkestDay$Law" (31 : Nat) (-1000000 : Int32)) ∈ TB := tz4 3 rfl rfl
theorem w_829 : (Jvm.Cond.constantLong "DarkestDay$Law" (32 : Nat) (1000000 : Int64)) ∈ TB := tz4 4 rfl rfl
theorem w_830 : (Jvm.Cond.constant "DarkestDay$Law" (34 : Nat) (1000000 : Int32)) ∈ TB := tz4 5 rfl rfl
theorem w_831 : (Jvm.Cond.methodLink "DarkestDay$Course" (67 : Nat) ({ cls := "java/lang/Math", name := "min", desc := "(II)I" } : Jvm.MethodName)) ∈ TB := tz4 6 rfl rfl
theorem w_832 : (Jvm.Cond.methodLink "DarkestDay$Course" (71 : Nat) ({ cls := "java/lang/Math", name := "max", desc := "(II)I" } : Jvm.MethodName)) ∈ TB := tz4 7 rfl rfl
theorem w_833 : (Jvm.Cond.methodLink "DarkestDay$Course" (107 : Nat) ({ cls := "DarkestDay$State", name := "set", desc := "(II)V" } : Jvm.MethodName)) ∈ TB := tz4 8 rfl rfl
theorem w_834 : (Jvm.Cond.methodLink "DarkestDay$Course" (95 : Nat) ({ cls := "DarkestDay$Course", name := "doingsNow", desc := "(LDarkestDay$State;)I" } : Jvm.MethodName)) ∈ TB := tz4 9 rfl rfl
theorem w_835 : (Jvm.Cond.instanceMethod ({ cls := "DarkestDay$Course", name := "doingsNow", desc := "(LDarkestDay$State;)I" } : Jvm.MethodName)) ∈ TB := tz4 10 rfl rfl
theorem w_836 : (Jvm.Cond.selects "DarkestDay$Course" ({ cls := "DarkestDay$Course", name := "doingsNow", desc := "(LDarkestDay$State;)I" } : Jvm.MethodName) ({ cls := "DarkestDay$Course", name := "doingsNow", desc := "(LDarkestDay$State;)I" } : Jvm.MethodName)) ∈ TB := tz4 11 rfl rfl
theorem w_837 : (Jvm.Cond.code ({ cls := "DarkestDay$Course", name := "doingsNow", desc := "(LDarkestDay$State;)I" } : Jvm.MethodName) prog_3_method_8_code (4 : Nat) (Option.some Jvm.ClassFile.FieldType.int)) ∈ TB := tz4 12 rfl rfl
theorem w_838 : (Jvm.Cond.methodLink "DarkestDay$Course" (91 : Nat) ({ cls := "DarkestDay$State", name := "isInBed", desc := "(I)Z" } : Jvm.MethodName)) ∈ TB := tz4 13 rfl rfl
theorem w_839 : (Jvm.Cond.instanceMethod ({ cls := "DarkestDay$State", name := "isInBed", desc := "(I)Z" } : Jvm.MethodName)) ∈ TB := tz4 14 rfl rfl
theorem w_840 : (Jvm.Cond.selects "DarkestDay$State" ({ cls := "DarkestDay$State", name := "isInBed", desc := "(I)Z" } : Jvm.MethodName) ({ cls := "DarkestDay$State", name := "isInBed", desc := "(I)Z" } : Jvm.MethodName)) ∈ TB := tz4 15 rfl rfl
theorem w_841 : (Jvm.Cond.code ({ cls := "DarkestDay$State", name := "isInBed", desc := "(I)Z" } : Jvm.MethodName) prog_10_method_3_code (2 : Nat) (Option.some Jvm.ClassFile.FieldType.boolean)) ∈ TB := tz4 16 rfl rfl
theorem w_842 : (Jvm.Cond.methodLinkNest "DarkestDay$State" (25 : Nat) ({ cls := "DarkestDay", name := "hasBit", desc := "(II)Z" } : Jvm.MethodName) "DarkestDay") ∈ lw_tbl := tz4m 17 rfl
theorem w_843 : (Jvm.Cond.methodLink "DarkestDay$Course" (108 : Nat) ({ cls := "DarkestDay$Course", name := "bringIn", desc := "(LDarkestDay$State;II)V" } : Jvm.MethodName)) ∈ TB := tz4 18 rfl rfl
theorem w_845 : (Jvm.Cond.instanceMethod ({ cls := "DarkestDay$Course", name := "bringIn", desc := "(LDarkestDay$State;II)V" } : Jvm.MethodName)) ∈ TB := tz4 20 rfl rfl
theorem w_846 : (Jvm.Cond.code ({ cls := "DarkestDay$Course", name := "bringIn", desc := "(LDarkestDay$State;II)V" } : Jvm.MethodName) prog_3_method_12_code (6 : Nat) (Option.none : Option Jvm.ClassFile.FieldType)) ∈ TB := tz4 21 rfl rfl
theorem w_847 : (Jvm.Cond.methodLink "DarkestDay$Course" (112 : Nat) ({ cls := "DarkestDay$Course", name := "endYear", desc := "(LDarkestDay$State;)V" } : Jvm.MethodName)) ∈ TB := tz4 22 rfl rfl
theorem w_849 : (Jvm.Cond.instanceMethod ({ cls := "DarkestDay$Course", name := "endYear", desc := "(LDarkestDay$State;)V" } : Jvm.MethodName)) ∈ TB := tz4 24 rfl rfl
theorem w_850 : (Jvm.Cond.code ({ cls := "DarkestDay$Course", name := "endYear", desc := "(LDarkestDay$State;)V" } : Jvm.MethodName) prog_3_method_13_code (4 : Nat) (Option.none : Option Jvm.ClassFile.FieldType)) ∈ TB := tz4 25 rfl rfl
theorem w_851 : (Jvm.Cond.methodLink "DarkestDay$Course" (84 : Nat) ({ cls := "DarkestDay$State", name := "darkestOver", desc := "()I" } : Jvm.MethodName)) ∈ TB := tz4 26 rfl rfl
theorem w_852 : (Jvm.Cond.instanceMethod ({ cls := "DarkestDay$State", name := "darkestOver", desc := "()I" } : Jvm.MethodName)) ∈ TB := tz4 27 rfl rfl
theorem w_853 : (Jvm.Cond.selects "DarkestDay$State" ({ cls := "DarkestDay$State", name := "darkestOver", desc := "()I" } : Jvm.MethodName) ({ cls := "DarkestDay$State", name := "darkestOver", desc := "()I" } : Jvm.MethodName)) ∈ TB := tz4 28 rfl rfl
theorem w_854 : (Jvm.Cond.code ({ cls := "DarkestDay$State", name := "darkestOver", desc := "()I" } : Jvm.MethodName) prog_10_method_8_code (3 : Nat) (Option.some Jvm.ClassFile.FieldType.int)) ∈ TB := tz4 29 rfl rfl
theorem w_855 : (Jvm.Cond.methodLink "DarkestDay$Course" (116 : Nat) ({ cls := "DarkestDay$Course", name := "turnYear", desc := "(LDarkestDay$State;I)V" } : Jvm.MethodName)) ∈ TB := tz4 30 rfl rfl
theorem w_857 : (Jvm.Cond.instanceMethod ({ cls := "DarkestDay$Course", name := "turnYear", desc := "(LDarkestDay$State;I)V" } : Jvm.MethodName)) ∈ TB := tz4 32 rfl rfl
theorem w_858 : (Jvm.Cond.code ({ cls := "DarkestDay$Course", name := "turnYear", desc := "(LDarkestDay$State;I)V" } : Jvm.MethodName) prog_3_method_15_code (6 : Nat) (Option.none : Option Jvm.ClassFile.FieldType)) ∈ TB := tz4 33 rfl rfl
theorem w_859 : (Jvm.Cond.methodLink "DarkestDay$Course" (99 : Nat) ({ cls := "DarkestDay$Course", name := "doersOf", desc := "(II)I" } : Jvm.MethodName)) ∈ TB := tz4 34 rfl rfl
theorem w_860 : (Jvm.Cond.static ({ cls := "DarkestDay$Course", name := "doersOf", desc := "(II)I" } : Jvm.MethodName)) ∈ TB := tz4 35 rfl rfl
theorem w_861 : (Jvm.Cond.code ({ cls := "DarkestDay$Course", name := "doersOf", desc := "(II)I" } : Jvm.MethodName) prog_3_method_7_code (4 : Nat) (Option.some Jvm.ClassFile.FieldType.int)) ∈ TB := tz4 36 rfl rfl
theorem w_862 : (Jvm.Cond.methodLink "DarkestDay$Course" (102 : Nat) ({ cls := "java/lang/Integer", name := "bitCount", desc := "(I)I" } : Jvm.MethodName)) ∈ TB := tz4 37 rfl rfl
theorem w_863 : (Jvm.Cond.methodLink "DarkestDay$Course" (130 : Nat) ({ cls := "DarkestDay$State", name := "placeOfMost", desc := "(II)I" } : Jvm.MethodName)) ∈ TB := tz4 38 rfl rfl
theorem w_864 : (Jvm.Cond.sameMethod "DarkestDay$State" "DarkestDay$Row" "placeOfMost" "(II)I") ∈ TB := tz4 39 rfl rfl
theorem w_866 : (Jvm.Cond.selects "DarkestDay$State" ({ cls := "DarkestDay$State", name := "placeOfMost", desc := "(II)I" } : Jvm.MethodName) ({ cls := "DarkestDay$Row", name := "placeOfMost", desc := "(II)I" } : Jvm.MethodName)) ∈ TB := tz4 41 rfl rfl
theorem w_867 : (Jvm.Cond.instanceMethod ({ cls := "DarkestDay$Row", name := "placeOfMost", desc := "(II)I" } : Jvm.MethodName)) ∈ TB := tz4 42 rfl rfl
theorem w_868 : (Jvm.Cond.code ({ cls := "DarkestDay$Row", name := "placeOfMost", desc := "(II)I" } : Jvm.MethodName) prog_9_method_6_code (5 : Nat) (Option.some Jvm.ClassFile.FieldType.int)) ∈ TB := tz4 43 rfl rfl
theorem w_869 : (Jvm.Cond.methodLink "DarkestDay$Course" (120 : Nat) ({ cls := "DarkestDay$State", name := "writeLog", desc := "(III)V" } : Jvm.MethodName)) ∈ TB := tz4 44 rfl rfl
theorem w_870 : (Jvm.Cond.instanceMethod ({ cls := "DarkestDay$State", name := "writeLog", desc := "(III)V" } : Jvm.MethodName)) ∈ TB := tz4 45 rfl rfl
theorem w_871 : (Jvm.Cond.selects "DarkestDay$State" ({ cls := "DarkestDay$State", name := "writeLog", desc := "(III)V" } : Jvm.MethodName) ({ cls := "DarkestDay$State", name := "writeLog", desc := "(III)V" } : Jvm.MethodName)) ∈ TB := tz4 46 rfl rfl
theorem w_872 : (Jvm.Cond.code ({ cls := "DarkestDay$State", name := "writeLog", desc := "(III)V" } : Jvm.MethodName) prog_10_method_9_code (4 : Nat) (Option.none : Option Jvm.ClassFile.FieldType)) ∈ TB := tz4 47 rfl rfl
theorem w_873 : (Jvm.Cond.methodLink "DarkestDay$Course" (149 : Nat) ({ cls := "DarkestDay$Course", name := "spend", desc := "(LDarkestDay$State;I)V" } : Jvm.MethodName)) ∈ TB := tz4 48 rfl rfl
theorem w_875 : (Jvm.Cond.instanceMethod ({ cls := "DarkestDay$Course", name := "spend", desc := "(LDarkestDay$State;I)V" } : Jvm.MethodName)) ∈ TB := tz4 50 rfl rfl
theorem w_876 : (Jvm.Cond.code ({ cls := "DarkestDay$Course", name := "spend", desc := "(LDarkestDay$State;I)V" } : Jvm.MethodName) prog_3_method_20_code (3 : Nat) (Option.none : Option Jvm.ClassFile.FieldType)) ∈ TB := tz4 51 rfl rfl
theorem w_877 : (Jvm.Cond.methodLink "DarkestDayLaw" (64 : Nat) ({ cls := "DarkestDay", name := "habit", desc := "(II)I" } : Jvm.MethodName)) ∈ TB := tz4 52 rfl rfl
theorem w_878 : (Jvm.Cond.instanceMethod ({ cls := "DarkestDay", name := "habit", desc := "(II)I" } : Jvm.MethodName)) ∈ TB := tz4 53 rfl rfl
theorem w_879 : (Jvm.Cond.selects "DarkestDay" ({ cls := "DarkestDay", name := "habit", desc := "(II)I" } : Jvm.MethodName) ({ cls := "DarkestDay", name := "habit", desc := "(II)I" } : Jvm.MethodName)) ∈ TB := tz4 54 rfl rfl
theorem w_880 : (Jvm.Cond.code ({ cls := "DarkestDay", name := "habit", desc := "(II)I" } : Jvm.MethodName) prog_1_method_17_code (4 : Nat) (Option.some Jvm.ClassFile.FieldType.int)) ∈ TB := tz4 55 rfl rfl
theorem w_881 : (Jvm.Cond.methodLink "DarkestDay" (189 : Nat) ({ cls := "DarkestDay$Port", name := "isPerson", desc := "(I)Z" } : Jvm.MethodName)) ∈ TB := tz4 56 rfl rfl
theorem w_882 : (Jvm.Cond.methodLink "DarkestDayLaw" (68 : Nat) ({ cls := "DarkestDay", name := "bed", desc := "(I)I" } : Jvm.MethodName)) ∈ TB := tz4 57 rfl rfl
theorem w_883 : (Jvm.Cond.instanceMethod ({ cls := "DarkestDay", name := "bed", desc := "(I)I" } : Jvm.MethodName)) ∈ TB := tz4 58 rfl rfl
theorem w_884 : (Jvm.Cond.selects "DarkestDay" ({ cls := "DarkestDay", name := "bed", desc := "(I)I" } : Jvm.MethodName) ({ cls := "DarkestDay", name := "bed", desc := "(I)I" } : Jvm.MethodName)) ∈ TB := tz4 59 rfl rfl
theorem w_885 : (Jvm.Cond.code ({ cls := "DarkestDay", name := "bed", desc := "(I)I" } : Jvm.MethodName) prog_1_method_18_code (2 : Nat) (Option.some Jvm.ClassFile.FieldType.int)) ∈ TB := tz4 60 rfl rfl
theorem w_886 : (Jvm.Cond.methodLink "DarkestDay" (195 : Nat) ({ cls := "DarkestDay$State", name := "isInBed", desc := "(I)Z" } : Jvm.MethodName)) ∈ TB := tz4 61 rfl rfl
theorem w_887 : (Jvm.Cond.methodLink "DarkestDayLaw" (72 : Nat) ({ cls := "DarkestDay", name := "fog", desc := "(I)I" } : Jvm.MethodName)) ∈ TB := tz4 62 rfl rfl
theorem w_888 : (Jvm.Cond.instanceMethod ({ cls := "DarkestDay", name := "fog", desc := "(I)I" } : Jvm.MethodName)) ∈ TB := tz4 63 rfl rfl
theorem w_889 : (Jvm.Cond.selects "DarkestDay" ({ cls := "DarkestDay", name := "fog", desc := "(I)I" } : Jvm.MethodName) ({ cls := "DarkestDay", name := "fog", desc := "(I)I" } : Jvm.MethodName)) ∈ TB := tz4 64 rfl rfl
theorem w_890 : (Jvm.Cond.code ({ cls := "DarkestDay", name := "fog", desc := "(I)I" } : Jvm.MethodName) prog_1_method_19_code (3 : Nat) (Option.some Jvm.ClassFile.FieldType.int)) ∈ TB := tz4 65 rfl rfl
theorem w_891 : (Jvm.Cond.methodLink "DarkestDayLaw" (76 : Nat) ({ cls := "DarkestDay", name := "eclipse", desc := "()I" } : Jvm.MethodName)) ∈ TB := tz4 66 rfl rfl
theorem w_892 : (Jvm.Cond.instanceMethod ({ cls := "DarkestDay", name := "eclipse", desc := "()I" } : Jvm.MethodName)) ∈ TB := tz4 67 rfl rfl
theorem w_893 : (Jvm.Cond.selects "DarkestDay" ({ cls := "DarkestDay", name := "eclipse", desc := "()I" } : Jvm.MethodName) ({ cls := "DarkestDay", name := "eclipse", desc := "()I" } : Jvm.MethodName)) ∈ TB := tz4 68 rfl rfl
theorem w_894 : (Jvm.Cond.code ({ cls := "DarkestDay", name := "eclipse", desc := "()I" } : Jvm.MethodName) prog_1_method_20_code (1 : Nat) (Option.some Jvm.ClassFile.FieldType.int)) ∈ TB := tz4 69 rfl rfl
theorem w_895 : (Jvm.Cond.methodLink "DarkestDayLaw" (80 : Nat) ({ cls := "DarkestDay", name := "candles", desc := "(I)I" } : Jvm.MethodName)) ∈ TB := tz4 70 rfl rfl
theorem w_896 : (Jvm.Cond.instanceMethod ({ cls := "DarkestDay", name := "candles", desc := "(I)I" } : Jvm.MethodName)) ∈ TB := tz4 71 rfl rfl
theorem w_897 : (Jvm.Cond.selects "DarkestDay" ({ cls := "DarkestDay", name := "candles", desc := "(I)I" } : Jvm.MethodName) ({ cls := "DarkestDay", name := "candles", desc := "(I)I" } : Jvm.MethodName)) ∈ TB := tz4 72 rfl rfl
theorem w_898 : (Jvm.Cond.code ({ cls := "DarkestDay", name := "candles", desc := "(I)I" } : Jvm.MethodName) prog_1_method_21_code (2 : Nat) (Option.some Jvm.ClassFile.FieldType.int)) ∈ TB := tz4 73 rfl rfl
theorem w_899 : (Jvm.Cond.methodLink "DarkestDayLaw" (84 : Nat) ({ cls := "DarkestDay", name := "give", desc := "(I)I" } : Jvm.MethodName)) ∈ TB := tz4 74 rfl rfl
theorem w_900 : (Jvm.Cond.instanceMethod ({ cls := "DarkestDay", name := "give", desc := "(I)I" } : Jvm.MethodName)) ∈ TB := tz4 75 rfl rfl
theorem w_901 : (Jvm.Cond.selects "DarkestDay" ({ cls := "DarkestDay", name := "give", desc := "(I)I" } : Jvm.MethodName) ({ cls := "DarkestDay", name := "give", desc := "(I)I" } : Jvm.MethodName)) ∈ TB := tz4 76 rfl rfl
theorem w_902 : (Jvm.Cond.code ({ cls := "DarkestDay", name := "give", desc := "(I)I" } : Jvm.MethodName) prog_1_method_22_code (2 : Nat) (Option.some Jvm.ClassFile.FieldType.int)) ∈ TB := tz4 77 rfl rfl
theorem w_903 : (Jvm.Cond.methodLink "DarkestDayLaw" (90 : Nat) ({ cls := "DarkestDay", name := "years", desc := "(IJ)I" } : Jvm.MethodName)) ∈ TB := tz4 78 rfl rfl
theorem w_904 : (Jvm.Cond.instanceMethod ({ cls := "DarkestDay", name := "years", desc := "(IJ)I" } : Jvm.MethodName)) ∈ TB := tz4 79 rfl rfl
theorem w_905 : (Jvm.Cond.selects "DarkestDay" ({ cls := "DarkestDay", name := "years", desc := "(IJ)I" } : Jvm.MethodName) ({ cls := "DarkestDay", name := "years", desc := "(IJ)I" } : Jvm.MethodName)) ∈ TB := tz4 80 rfl rfl
theorem w_906 : (Jvm.Cond.code ({ cls := "DarkestDay", name := "years", desc := "(IJ)I" } : Jvm.MethodName) prog_1_method_24_code (5 : Nat) (Option.some Jvm.ClassFile.FieldType.int)) ∈ TB := tz4 81 rfl rfl
theorem w_907 : (Jvm.Cond.methodLink "DarkestDay" (223 : Nat) ({ cls := "DarkestDay", name := "isPort", desc := "()Z" } : Jvm.MethodName)) ∈ TB := tz4 82 rfl rfl
theorem w_909 : (Jvm.Cond.instanceMethod ({ cls := "DarkestDay", name := "isPort", desc := "()Z" } : Jvm.MethodName)) ∈ TB := tz4 84 rfl rfl
theorem w_910 : (Jvm.Cond.code ({ cls := "DarkestDay", name := "isPort", desc := "()Z" } : Jvm.MethodName) prog_1_method_11_code (1 : Nat) (Option.some Jvm.ClassFile.FieldType.boolean)) ∈ TB := tz4 85 rfl rfl
theorem w_911 : (Jvm.Cond.methodLink "DarkestDay" (227 : Nat) ({ cls := "DarkestDay$Course", name := "daysThatCanPass", desc := "(LDarkestDay$State;)I" } : Jvm.MethodName)) ∈ TB := tz4 86 rfl rfl
theorem w_912 : (Jvm.Cond.methodLink "DarkestDay" (231 : Nat) ({ cls := "DarkestDay$Course", name := "setSeed", desc := "(J)V" } : Jvm.MethodName)) ∈ TB := tz4 87 rfl rfl
theorem w_913 : (Jvm.Cond.instanceMethod ({ cls := "DarkestDay$Course", name := "setSeed", desc := "(J)V" } : Jvm.MethodName)) ∈ TB := tz4 88 rfl rfl
theorem w_914 : (Jvm.Cond.selects "DarkestDay$Course" ({ cls := "DarkestDay$Course", name := "setSeed", desc := "(J)V" } : Jvm.MethodName) ({ cls := "DarkestDay$Course", name := "setSeed", desc := "(J)V" } : Jvm.MethodName)) ∈ TB := tz4 89 rfl rfl
theorem w_915 : (Jvm.Cond.code ({ cls := "DarkestDay$Course", name := "setSeed", desc := "(J)V" } : Jvm.MethodName) prog_3_method_22_code (3 : Nat) (Option.none : Option Jvm.ClassFile.FieldType)) ∈ TB := tz4 90 rfl rfl
theorem w_916 : (Jvm.Cond.methodLink "DarkestDay" (235 : Nat) ({ cls := "DarkestDay$Course", name := "drawDay", desc := "(LDarkestDay$State;I)V" } : Jvm.MethodName)) ∈ TB := tz4 91 rfl rfl
theorem w_917 : (Jvm.Cond.instanceMethod ({ cls := "DarkestDay$Course", name := "drawDay", desc := "(LDarkestDay$State;I)V" } : Jvm.MethodName)) ∈ TB := tz4 92 rfl rfl
theorem w_918 : (Jvm.Cond.selects "DarkestDay$Course" ({ cls := "DarkestDay$Course", name := "drawDay", desc := "(LDarkestDay$State;I)V" } : Jvm.MethodName) ({ cls := "DarkestDay$Course", name := "drawDay", desc := "(LDarkestDay$State;I)V" } : Jvm.MethodName)) ∈ TB := tz4 93 rfl rfl
theorem w_919 : (Jvm.Cond.code ({ cls := "DarkestDay$Course", name := "drawDay", desc := "(LDarkestDay$State;I)V" } : Jvm.MethodName) prog_3_method_23_code (4 : Nat) (Option.none : Option Jvm.ClassFile.FieldType)) ∈ TB := tz4 94 rfl rfl
theorem w_920 : (Jvm.Cond.methodLink "DarkestDay$Course" (160 : Nat) ({ cls := "DarkestDay$Course", name := "draw", desc := "(I)I" } : Jvm.MethodName)) ∈ TB := tz4 95 rfl rfl
theorem w_922 : (Jvm.Cond.instanceMethod ({ cls := "DarkestDay$Course", name := "draw", desc := "(I)I" } : Jvm.MethodName)) ∈ TB := tz4 97 rfl rfl
theorem w_923 : (Jvm.Cond.code ({ cls := "DarkestDay$Course", name := "draw", desc := "(I)I" } : Jvm.MethodName) prog_3_method_24_code (2 : Nat) (Option.some Jvm.ClassFile.FieldType.int)) ∈ TB := tz4 98 rfl rfl
theorem w_924 : (Jvm.Cond.constantLong "DarkestDay$Course" (166 : Nat) (6364136223846793005 : Int64)) ∈ TB := tz4 99 rfl rfl
theorem w_925 : (Jvm.Cond.constantLong "DarkestDay$Course" (168 : Nat) (1442695040888963407 : Int64)) ∈ TB := tz4 100 rfl rfl
theorem w_926 : (Jvm.Cond.methodLink "DarkestDay$Course" (163 : Nat) ({ cls := "DarkestDay$Port", name := "kinds", desc := "()I" } : Jvm.MethodName)) ∈ TB := tz4 101 rfl rfl
theorem w_927 : (Jvm.Cond.methodLink "DarkestDay" (239 : Nat) ({ cls := "DarkestDay$Course", name := "passDay", desc := "(LDarkestDay$State;)V" } : Jvm.MethodName)) ∈ TB := tz4 102 rfl rfl
theorem w_928 : (Jvm.Cond.methodLink "DarkestDayLaw" (95 : Nat) ({ cls := "DarkestDay", name := "status", desc := "(I)I" } : Jvm.MethodName)) ∈ TB := tz4 103 rfl rfl
theorem w_929 : (Jvm.Cond.instanceMethod ({ cls := "DarkestDay", name := "status", desc := "(I)I" } : Jvm.MethodName)) ∈ TB := tz4 104 rfl rfl
theorem w_930 : (Jvm.Cond.selects "DarkestDay" ({ cls := "DarkestDay", name := "status", desc := "(I)I" } : Jvm.MethodName) ({ cls := "DarkestDay", name := "status", desc := "(I)I" } : Jvm.MethodName)) ∈ TB := tz4 105 rfl rfl
theorem w_931 : (Jvm.Cond.code ({ cls := "DarkestDay", name := "status", desc := "(I)I" } : Jvm.MethodName) prog_1_method_25_code (2 : Nat) (Option.some Jvm.ClassFile.FieldType.int)) ∈ TB := tz4 106 rfl rfl
theorem w_932 : (Jvm.Cond.methodLink "DarkestDayLaw" (99 : Nat) ({ cls := "DarkestDay", name := "undo", desc := "()I" } : Jvm.MethodName)) ∈ TB := tz4 107 rfl rfl
theorem w_933 : (Jvm.Cond.instanceMethod ({ cls := "DarkestDay", name := "undo", desc := "()I" } : Jvm.MethodName)) ∈ TB := tz4 108 rfl rfl
theorem w_934 : (Jvm.Cond.selects "DarkestDay" ({ cls := "DarkestDay", name := "undo", desc := "()I" } : Jvm.MethodName) ({ cls := "DarkestDay", name := "undo", desc := "()I" } : Jvm.MethodName)) ∈ TB := tz4 109 rfl rfl
theorem w_935 : (Jvm.Cond.code ({ cls := "DarkestDay", name := "undo", desc := "()I" } : Jvm.MethodName) prog_1_method_26_code (1 : Nat) (Option.some Jvm.ClassFile.FieldType.int)) ∈ TB := tz4 110 rfl rfl
theorem w_936 : (Jvm.Cond.methodLink "DarkestDay" (242 : Nat) ({ cls := "DarkestDay$History", name := "restores", desc := "(LDarkestDay$State;)Z" } : Jvm.MethodName)) ∈ TB := tz4 111 rfl rfl
theorem w_937 : (Jvm.Cond.instanceMethod ({ cls := "DarkestDay$History", name := "restores", desc := "(LDarkestDay$State;)Z" } : Jvm.MethodName)) ∈ TB := tz4 112 rfl rfl
theorem w_938 : (Jvm.Cond.selects "DarkestDay$History" ({ cls := "DarkestDay$History", name := "restores", desc := "(LDarkestDay$State;)Z" } : Jvm.MethodName) ({ cls := "DarkestDay$History", name := "restores", desc := "(LDarkestDay$State;)Z" } : Jvm.MethodName)) ∈ TB := tz4 113 rfl rfl
theorem w_939 : (Jvm.Cond.code ({ cls := "DarkestDay$History", name := "restores", desc := "(LDarkestDay$State;)Z" } : Jvm.MethodName) prog_4_method_5_code (4 : Nat) (Option.some Jvm.ClassFile.FieldType.boolean)) ∈ TB := tz4 114 rfl rfl
theorem w_940 : (Jvm.Cond.methodLink "DarkestDay" (246 : Nat) ({ cls := "DarkestDay$History", name := "size", desc := "()I" } : Jvm.MethodName)) ∈ TB := tz4 115 rfl rfl
theorem w_941 : (Jvm.Cond.instanceMethod ({ cls := "DarkestDay$History", name := "size", desc := "()I" } : Jvm.MethodName)) ∈ TB := tz4 116 rfl rfl
theorem w_942 : (Jvm.Cond.selects "DarkestDay$History" ({ cls := "DarkestDay$History", name := "size", desc := "()I" } : Jvm.MethodName) ({ cls := "DarkestDay$History", name := "size", desc := "()I" } : Jvm.MethodName)) ∈ TB := tz4 117 rfl rfl
theorem w_943 : (Jvm.Cond.code ({ cls := "DarkestDay$History", name := "size", desc := "()I" } : Jvm.MethodName) prog_4_method_2_code (1 : Nat) (Option.some Jvm.ClassFile.FieldType.int)) ∈ TB := tz4 118 rfl rfl
theorem w_944 : (Jvm.Cond.methodLink "DarkestDayLaw" (103 : Nat) ({ cls := "DarkestDay", name := "log", desc := "(II)I" } : Jvm.MethodName)) ∈ TB := tz4 119 rfl rfl
theorem w_945 : (Jvm.Cond.instanceMethod ({ cls := "DarkestDay", name := "log", desc := "(II)I" } : Jvm.MethodName)) ∈ TB := tz4 120 rfl rfl
theorem w_946 : (Jvm.Cond.selects "DarkestDay" ({ cls := "DarkestDay", name := "log", desc := "(II)I" } : Jvm.MethodName) ({ cls := "DarkestDay", name := "log", desc := "(II)I" } : Jvm.MethodName)) ∈ TB := tz4 121 rfl rfl
theorem w_947 : (Jvm.Cond.code ({ cls := "DarkestDay", name := "log", desc := "(II)I" } : Jvm.MethodName) prog_1_method_27_code (3 : Nat) (Option.some Jvm.ClassFile.FieldType.int)) ∈ TB := tz4 122 rfl rfl
theorem w_948 : (Jvm.Cond.methodLink "DarkestDay" (249 : Nat) ({ cls := "DarkestDay$State", name := "yearsLogged", desc := "()I" } : Jvm.MethodName)) ∈ TB := tz4 123 rfl rfl
theorem w_949 : (Jvm.Cond.instanceMethod ({ cls := "DarkestDay$State", name := "yearsLogged", desc := "()I" } : Jvm.MethodName)) ∈ TB := tz4 124 rfl rfl
theorem w_950 : (Jvm.Cond.selects "DarkestDay$State" ({ cls := "DarkestDay$State", name := "yearsLogged", desc := "()I" } : Jvm.MethodName) ({ cls := "DarkestDay$State", name := "yearsLogged", desc := "()I" } : Jvm.MethodName)) ∈ TB := tz4 125 rfl rfl
theorem w_951 : (Jvm.Cond.code ({ cls := "DarkestDay$State", name := "yearsLogged", desc := "()I" } : Jvm.MethodName) prog_10_method_10_code (1 : Nat) (Option.some Jvm.ClassFile.FieldType.int)) ∈ TB := tz4 126 rfl rfl
theorem w_952 : (Jvm.Cond.methodLink "DarkestDay$State" (37 : Nat) ({ cls := "java/lang/Math", name := "min", desc := "(II)I" } : Jvm.MethodName)) ∈ TB := tz4 127 rfl rfl
theorem w_953 : (Jvm.Cond.methodLink "DarkestDay" (252 : Nat) ({ cls := "DarkestDay$State", name := "logged", desc := "(II)I" } : Jvm.MethodName)) ∈ TB := tz4 128 rfl rfl
theorem w_954 : (Jvm.Cond.instanceMethod ({ cls := "DarkestDay$State", name := "logged", desc := "(II)I" } : Jvm.MethodName)) ∈ TB := tz4 129 rfl rfl
theorem w_955 : (Jvm.Cond.selects "DarkestDay$State" ({ cls := "DarkestDay$State", name := "logged", desc := "(II)I" } : Jvm.MethodName) ({ cls := "DarkestDay$State", name := "logged", desc := "(II)I" } : Jvm.MethodName)) ∈ TB := tz4 130 rfl rfl
theorem w_956 : (Jvm.Cond.code ({ cls := "DarkestDay$State", name := "logged", desc := "(II)I" } : Jvm.MethodName) prog_10_method_11_code (5 : Nat) (Option.some Jvm.ClassFile.FieldType.int)) ∈ TB := tz4 131 rfl rfl
theorem w_957 : (Jvm.Cond.methodLink "DarkestDayLaw" (107 : Nat) ({ cls := "DarkestDay", name := "step", desc := "(III)I" } : Jvm.MethodName)) ∈ TB := tz4 132 rfl rfl
theorem w_958 : (Jvm.Cond.instanceMethod ({ cls := "DarkestDay", name := "step", desc := "(III)I" } : Jvm.MethodName)) ∈ TB := tz4 133 rfl rfl
theorem w_959 : (Jvm.Cond.selects "DarkestDay" ({ cls := "DarkestDay", name := "step", desc := "(III)I" } : Jvm.MethodName) ({ cls := "DarkestDay", name := "step", desc := "(III)I" } : Jvm.MethodName)) ∈ TB := tz4 134 rfl rfl
theorem w_960 : (Jvm.Cond.code ({ cls := "DarkestDay", name := "step", desc := "(III)I" } : Jvm.MethodName) prog_1_method_28_code (5 : Nat) (Option.some Jvm.ClassFile.FieldType.int)) ∈ TB := tz4 135 rfl rfl
theorem w_961 : (Jvm.Cond.methodLink "DarkestDay" (255 : Nat) ({ cls := "DarkestDay", name := "isCalendar", desc := "(I)Z" } : Jvm.MethodName)) ∈ TB := tz4 136 rfl rfl
theorem w_963 : (Jvm.Cond.instanceMethod ({ cls := "DarkestDay", name := "isCalendar", desc := "(I)Z" } : Jvm.MethodName)) ∈ TB := tz4 138 rfl rfl
theorem w_964 : (Jvm.Cond.code ({ cls := "DarkestDay", name := "isCalendar", desc := "(I)Z" } : Jvm.MethodName) prog_1_method_31_code (2 : Nat) (Option.some Jvm.ClassFile.FieldType.boolean)) ∈ TB := tz4 139 rfl rfl
theorem w_965 : (Jvm.Cond.methodLink "DarkestDay" (258 : Nat) ({ cls := "DarkestDay$Calendar", name := "steps", desc := "()I" } : Jvm.MethodName)) ∈ TB := tz4 140 rfl rfl
theorem w_966 : (Jvm.Cond.instanceMethod ({ cls := "DarkestDay$Calendar", name := "steps", desc := "()I" } : Jvm.MethodName)) ∈ TB := tz4 141 rfl rfl
theorem w_967 : (Jvm.Cond.selects "DarkestDay$Calendar" ({ cls := "DarkestDay$Calendar", name := "steps", desc := "()I" } : Jvm.MethodName) ({ cls := "DarkestDay$Calendar", name := "steps", desc := "()I" } : Jvm.MethodName)) ∈ TB := tz4 142 rfl rfl
theorem w_968 : (Jvm.Cond.code ({ cls := "DarkestDay$Calendar", name := "steps", desc := "()I" } : Jvm.MethodName) prog_2_method_2_code (1 : Nat) (Option.some Jvm.ClassFile.FieldType.int)) ∈ TB := tz4 143 rfl rfl
theorem w_969 : (Jvm.Cond.methodLink "DarkestDay" (261 : Nat) ({ cls := "DarkestDay$Calendar", name := "told", desc := "(II)I" } : Jvm.MethodName)) ∈ TB := tz4 144 rfl rfl
theorem w_970 : (Jvm.Cond.instanceMethod ({ cls := "DarkestDay$Calendar", name := "told", desc := "(II)I" } : Jvm.MethodName)) ∈ TB := tz4 145 rfl rfl
theorem w_971 : (Jvm.Cond.selects "DarkestDay$Calendar" ({ cls := "DarkestDay$Calendar", name := "told", desc := "(II)I" } : Jvm.MethodName) ({ cls := "DarkestDay$Calendar", name := "told", desc := "(II)I" } : Jvm.MethodName)) ∈ TB := tz4 146 rfl rfl
theorem w_972 : (Jvm.Cond.code ({ cls := "DarkestDay$Calendar", name := "told", desc := "(II)I" } : Jvm.MethodName) prog_2_method_3_code (3 : Nat) (Option.some Jvm.ClassFile.FieldType.int)) ∈ TB := tz4 147 rfl rfl
theorem w_973 : (Jvm.Cond.methodLink "DarkestDay$Calendar" (15 : Nat) ({ cls := "DarkestDay$Calendar", name := "get", desc := "(I)I" } : Jvm.MethodName)) ∈ TB := tz4 148 rfl rfl
theorem w_974 : (Jvm.Cond.sameMethod "DarkestDay$Calendar" "DarkestDay$Row" "get" "(I)I") ∈ TB := tz4 149 rfl rfl
theorem w_975 : (Jvm.Cond.selects "DarkestDay$Calendar" ({ cls := "DarkestDay$Calendar", name := "get", desc := "(I)I" } : Jvm.MethodName) ({ cls := "DarkestDay$Row", name := "get", desc := "(I)I" } : Jvm.MethodName)) ∈ TB := tz4 150 rfl rfl
theorem w_976 : (Jvm.Cond.methodLink "DarkestDayLaw" (112 : Nat) ({ cls := "DarkestDay", name := "run", desc := "(II)I" } : Jvm.MethodName)) ∈ TB := tz4 151 rfl rfl
theorem w_977 : (Jvm.Cond.instanceMethod ({ cls := "DarkestDay", name := "run", desc := "(II)I" } : Jvm.MethodName)) ∈ TB := tz4 152 rfl rfl
theorem w_978 : (Jvm.Cond.selects "DarkestDay" ({ cls := "DarkestDay", name := "run", desc := "(II)I" } : Jvm.MethodName) ({ cls := "DarkestDay", name := "run", desc := "(II)I" } : Jvm.MethodName)) ∈ TB := tz4 153 rfl rfl
theorem w_979 : (Jvm.Cond.code ({ cls := "DarkestDay", name := "run", desc := "(II)I" } : Jvm.MethodName) prog_1_method_29_code (3 : Nat) (Option.some Jvm.ClassFile.FieldType.int)) ∈ TB := tz4 154 rfl rfl
theorem w_980 : (Jvm.Cond.methodLink "DarkestDay" (264 : Nat) ({ cls := "DarkestDay$Outlook", name := "runOf", desc := "(LDarkestDay$State;LDarkestDay$Calendar;I)I" } : Jvm.MethodName)) ∈ TB := tz4 155 rfl rfl
theorem w_981 : (Jvm.Cond.instanceMethod ({ cls := "DarkestDay$Outlook", name := "runOf", desc := "(LDarkestDay$State;LDarkestDay$Calendar;I)I" } : Jvm.MethodName)) ∈ TB := tz4 156 rfl rfl
theorem w_982 : (Jvm.Cond.selects "DarkestDay$Outlook" ({ cls := "DarkestDay$Outlook", name := "runOf", desc := "(LDarkestDay$State;LDarkestDay$Calendar;I)I" } : Jvm.MethodName) ({ cls := "DarkestDay$Outlook", name := "runOf", desc := "(LDarkestDay$State;LDarkestDay$Calendar;I)I" } : Jvm.MethodName)) ∈ TB := tz4 157 rfl rfl
theorem w_983 : (Jvm.Cond.code ({ cls := "DarkestDay$Outlook", name := "runOf", desc := "(LDarkestDay$State;LDarkestDay$Calendar;I)I" } : Jvm.MethodName) prog_7_method_2_code (5 : Nat) (Option.some Jvm.ClassFile.FieldType.int)) ∈ TB := tz4 158 rfl rfl
theorem w_984 : (Jvm.Cond.constant "DarkestDay$Outlook" (53 : Nat) (-1000000 : Int32)) ∈ TB := tz4 159 rfl rfl
theorem w_985 : (Jvm.Cond.methodLink "DarkestDay$Outlook" (54 : Nat) ({ cls := "DarkestDay$State", name := "copy", desc := "(LDarkestDay$Row;)V" } : Jvm.MethodName)) ∈ TB := tz4 160 rfl rfl
theorem w_986 : (Jvm.Cond.methodLink "DarkestDay$Outlook" (58 : Nat) ({ cls := "DarkestDay$Calendar", name := "steps", desc := "()I" } : Jvm.MethodName)) ∈ TB := tz4 161 rfl rfl
theorem w_987 : (Jvm.Cond.methodLink "DarkestDay$Outlook" (64 : Nat) ({ cls := "DarkestDay$Course", name := "canStep", desc := "(LDarkestDay$State;LDarkestDay$Calendar;I)Z" } : Jvm.MethodName)) ∈ TB := tz4 162 rfl rfl
theorem w_988 : (Jvm.Cond.instanceMethod ({ cls := "DarkestDay$Course", name := "canStep", desc := "(LDarkestDay$State;LDarkestDay$Calendar;I)Z" } : Jvm.MethodName)) ∈ TB := tz4 163 rfl rfl
theorem w_989 : (Jvm.Cond.selects "DarkestDay$Course" ({ cls := "DarkestDay$Course", name := "canStep", desc := "(LDarkestDay$State;LDarkestDay$Calendar;I)Z" } : Jvm.MethodName) ({ cls := "DarkestDay$Course", name := "canStep", desc := "(LDarkestDay$State;LDarkestDay$Calendar;I)Z" } : Jvm.MethodName)) ∈ TB := tz4 164 rfl rfl
theorem w_990 : (Jvm.Cond.code ({ cls := "DarkestDay$Course", name := "canStep", desc := "(LDarkestDay$State;LDarkestDay$Calendar;I)Z" } : Jvm.MethodName) prog_3_method_21_code (4 : Nat) (Option.some Jvm.ClassFile.FieldType.boolean)) ∈ TB := tz4 165 rfl rfl
theorem w_991 : (Jvm.Cond.methodLink "DarkestDay$Course" (152 : Nat) ({ cls := "DarkestDay$Calendar", name := "told", desc := "(II)I" } : Jvm.MethodName)) ∈ TB := tz4 166 rfl rfl
theorem w_992 : (Jvm.Cond.methodLink "DarkestDay$Course" (157 : Nat) ({ cls := "DarkestDay$Course", name := "whyNot", desc := "(LDarkestDay$State;III)I" } : Jvm.MethodName)) ∈ TB := tz4 167 rfl rfl
theorem w_993 : (Jvm.Cond.methodLink "DarkestDay$Outlook" (70 : Nat) ({ cls := "DarkestDay$Calendar", name := "told", desc := "(II)I" } : Jvm.MethodName)) ∈ TB := tz4 168 rfl rfl
theorem w_994 : (Jvm.Cond.methodLink "DarkestDay$Outlook" (74 : Nat) ({ cls := "DarkestDay$Course", name := "carryOut", desc := "(LDarkestDay$State;III)V" } : Jvm.MethodName)) ∈ TB := tz4 169 rfl rfl
theorem w_995 : (Jvm.Cond.methodLink "DarkestDay$Outlook" (78 : Nat) ({ cls := "DarkestDay$State", name := "get", desc := "(I)I" } : Jvm.MethodName)) ∈ TB := tz4 170 rfl rfl
theorem w_996 : (Jvm.Cond.methodLink "DarkestDayLaw" (116 : Nat) ({ cls := "DarkestDay", name := "perform", desc := "(I)I" } : Jvm.MethodName)) ∈ TB := tz4 171 rfl rfl
theorem w_997 : (Jvm.Cond.instanceMethod ({ cls := "DarkestDay", name := "perform", desc := "(I)I" } : Jvm.MethodName)) ∈ TB := tz4 172 rfl rfl
theorem w_998 : (Jvm.Cond.selects "DarkestDay" ({ cls := "DarkestDay", name := "perform", desc := "(I)I" } : Jvm.MethodName) ({ cls := "DarkestDay", name := "perform", desc := "(I)I" } : Jvm.MethodName)) ∈ TB := tz4 173 rfl rfl
theorem w_999 : (Jvm.Cond.code ({ cls := "DarkestDay", name := "perform", desc := "(I)I" } : Jvm.MethodName) prog_1_method_30_code (4 : Nat) (Option.some Jvm.ClassFile.FieldType.int)) ∈ TB := tz4 174 rfl rfl
theorem w_1000 : (Jvm.Cond.methodLink "DarkestDay" (268 : Nat) ({ cls := "DarkestDay$Course", name := "canStep", desc := "(LDarkestDay$State;LDarkestDay$Calendar;I)Z" } : Jvm.MethodName)) ∈ TB := tz4 175 rfl rfl
theorem w_1001 : (Jvm.Cond.methodLink "DarkestDayLaw" (120 : Nat) ({ cls := "DarkestDay", name := "light", desc := "(I)I" } : Jvm.MethodName)) ∈ TB := tz4 176 rfl rfl
theorem w_1002 : (Jvm.Cond.instanceMethod ({ cls := "DarkestDay", name := "light", desc := "(I)I" } : Jvm.MethodName)) ∈ TB := tz4 177 rfl rfl
theorem w_1003 : (Jvm.Cond.selects "DarkestDay" ({ cls := "DarkestDay", name := "light", desc := "(I)I" } : Jvm.MethodName) ({ cls := "DarkestDay", name := "light", desc := "(I)I" } : Jvm.MethodName)) ∈ TB := tz4 178 rfl rfl
theorem w_1004 : (Jvm.Cond.code ({ cls := "DarkestDay", name := "light", desc := "(I)I" } : Jvm.MethodName) prog_1_method_32_code (2 : Nat) (Option.some Jvm.ClassFile.FieldType.int)) ∈ TB := tz4 179 rfl rfl
theorem w_1005 : (Jvm.Cond.methodLink "DarkestDay" (272 : Nat) ({ cls := "DarkestDay$Port", name := "isDay", desc := "(I)Z" } : Jvm.MethodName)) ∈ TB := tz4 180 rfl rfl
theorem w_1006 : (Jvm.Cond.instanceMethod ({ cls := "DarkestDay$Port", name := "isDay", desc := "(I)Z" } : Jvm.MethodName)) ∈ TB := tz4 181 rfl rfl
theorem w_1007 : (Jvm.Cond.selects "DarkestDay$Port" ({ cls := "DarkestDay$Port", name := "isDay", desc := "(I)Z" } : Jvm.MethodName) ({ cls := "DarkestDay$Port", name := "isDay", desc := "(I)Z" } : Jvm.MethodName)) ∈ TB := tz4 182 rfl rfl
theorem w_1008 : (Jvm.Cond.code ({ cls := "DarkestDay$Port", name := "isDay", desc := "(I)Z" } : Jvm.MethodName) prog_8_method_6_code (2 : Nat) (Option.some Jvm.ClassFile.FieldType.boolean)) ∈ TB := tz4 183 rfl rfl
theorem w_1009 : (Jvm.Cond.methodLink "DarkestDay" (275 : Nat) ({ cls := "DarkestDay$Course", name := "lightOf", desc := "(LDarkestDay$State;I)I" } : Jvm.MethodName)) ∈ TB := tz4 184 rfl rfl
theorem w_1010 : (Jvm.Cond.instanceMethod ({ cls := "DarkestDay$Course", name := "lightOf", desc := "(LDarkestDay$State;I)I" } : Jvm.MethodName)) ∈ TB := tz4 185 rfl rfl
theorem w_1011 : (Jvm.Cond.selects "DarkestDay$Course" ({ cls := "DarkestDay$Course", name := "lightOf", desc := "(LDarkestDay$State;I)I" } : Jvm.MethodName) ({ cls := "DarkestDay$Course", name := "lightOf", desc := "(LDarkestDay$State;I)I" } : Jvm.MethodName)) ∈ TB := tz4 186 rfl rfl
theorem w_1012 : (Jvm.Cond.code ({ cls := "DarkestDay$Course", name := "lightOf", desc := "(LDarkestDay$State;I)I" } : Jvm.MethodName) prog_3_method_4_code (3 : Nat) (Option.some Jvm.ClassFile.FieldType.int)) ∈ TB := tz4 187 rfl rfl
theorem w_1013 : (Jvm.Cond.methodLink "DarkestDayLaw" (124 : Nat) ({ cls := "DarkestDay", name := "coming", desc := "(I)I" } : Jvm.MethodName)) ∈ TB := tz4 188 rfl rfl
theorem w_1014 : (Jvm.Cond.instanceMethod ({ cls := "DarkestDay", name := "coming", desc := "(I)I" } : Jvm.MethodName)) ∈ TB := tz4 189 rfl rfl
theorem w_1015 : (Jvm.Cond.selects "DarkestDay" ({ cls := "DarkestDay", name := "coming", desc := "(I)I" } : Jvm.MethodName) ({ cls := "DarkestDay", name := "coming", desc := "(I)I" } : Jvm.MethodName)) ∈ TB := tz4 190 rfl rfl
theorem w_1016 : (Jvm.Cond.code ({ cls := "DarkestDay", name := "coming", desc := "(I)I" } : Jvm.MethodName) prog_1_method_33_code (3 : Nat) (Option.some Jvm.ClassFile.FieldType.int)) ∈ TB := tz4 191 rfl rfl
theorem w_1017 : (Jvm.Cond.methodLink "DarkestDay" (279 : Nat) ({ cls := "DarkestDay$State", name := "upCount", desc := "(I)I" } : Jvm.MethodName)) ∈ TB := tz4 192 rfl rfl
theorem w_1018 : (Jvm.Cond.methodLink "DarkestDay" (282 : Nat) ({ cls := "DarkestDay$Course", name := "rulerOf", desc := "(LDarkestDay$State;I)I" } : Jvm.MethodName)) ∈ TB := tz4 193 rfl rfl
theorem w_1019 : (Jvm.Cond.instanceMethod ({ cls := "DarkestDay$Course", name := "rulerOf", desc := "(LDarkestDay$State;I)I" } : Jvm.MethodName)) ∈ TB := tz4 194 rfl rfl
theorem w_1020 : (Jvm.Cond.selects "DarkestDay$Course" ({ cls := "DarkestDay$Course", name := "rulerOf", desc := "(LDarkestDay$State;I)I" } : Jvm.MethodName) ({ cls := "DarkestDay$Course", name := "rulerOf", desc := "(LDarkestDay$State;I)I" } : Jvm.MethodName)) ∈ TB := tz4 195 rfl rfl
theorem w_1021 : (Jvm.Cond.code ({ cls := "DarkestDay$Course", name := "rulerOf", desc := "(LDarkestDay$State;I)I" } : Jvm.MethodName) prog_3_method_5_code (7 : Nat) (Option.some Jvm.ClassFile.FieldType.int)) ∈ TB := tz4 196 rfl rfl
theorem w_1022 : (Jvm.Cond.methodLink "DarkestDayLaw" (128 : Nat) ({ cls := "DarkestDay", name := "may", desc := "(I)I" } : Jvm.MethodName)) ∈ TB := tz4 197 rfl rfl
theorem w_1023 : (Jvm.Cond.instanceMethod ({ cls := "DarkestDay", name := "may", desc := "(I)I" } : Jvm.MethodName)) ∈ TB := tz4 198 rfl rfl
theorem w_1024 : (Jvm.Cond.selects "DarkestDay" ({ cls := "DarkestDay", name := "may", desc := "(I)I" } : Jvm.MethodName) ({ cls := "DarkestDay", name := "may", desc := "(I)I" } : Jvm.MethodName)) ∈ TB := tz4 199 rfl rfl
theorem w_1025 : (Jvm.Cond.code ({ cls := "DarkestDay", name := "may", desc := "(I)I" } : Jvm.MethodName) prog_1_method_34_code (2 : Nat) (Option.some Jvm.ClassFile.FieldType.int)) ∈ TB := tz4 200 rfl rfl
theorem w_1026 : (Jvm.Cond.methodLink "DarkestDay" (285 : Nat) ({ cls := "DarkestDay$Outlook", name := "maybeDarkest", desc := "(LDarkestDay$State;I)I" } : Jvm.MethodName)) ∈ TB := tz4 201 rfl rfl
theorem w_1027 : (Jvm.Cond.instanceMethod ({ cls := "DarkestDay$Outlook", name := "maybeDarkest", desc := "(LDarkestDay$State;I)I" } : Jvm.MethodName)) ∈ TB := tz4 202 rfl rfl
theorem w_1028 : (Jvm.Cond.selects "DarkestDay$Outlook" ({ cls := "DarkestDay$Outlook", name := "maybeDarkest", desc := "(LDarkestDay$State;I)I" } : Jvm.MethodName) ({ cls := "DarkestDay$Outlook", name := "maybeDarkest", desc := "(LDarkestDay$State;I)I" } : Jvm.MethodName)) ∈ TB := tz4 203 rfl rfl
theorem w_1029 : (Jvm.Cond.code ({ cls := "DarkestDay$Outlook", name := "maybeDarkest", desc := "(LDarkestDay$State;I)I" } : Jvm.MethodName) prog_7_method_3_code (6 : Nat) (Option.some Jvm.ClassFile.FieldType.int)) ∈ TB := tz4 204 rfl rfl
theorem w_1030 : (Jvm.Cond.methodLink "DarkestDay$Outlook" (84 : Nat) ({ cls := "DarkestDay$Port", name := "get", desc := "(I)I" } : Jvm.MethodName)) ∈ TB := tz4 205 rfl rfl
theorem w_1031 : (Jvm.Cond.methodLink "DarkestDay$Outlook" (85 : Nat) ({ cls := "DarkestDay$Course", name := "lightOf", desc := "(LDarkestDay$State;I)I" } : Jvm.MethodName)) ∈ TB := tz4 206 rfl rfl
theorem w_1032 : (Jvm.Cond.methodLink "DarkestDay$Outlook" (89 : Nat) ({ cls := "DarkestDay$Row", name := "set", desc := "(II)V" } : Jvm.MethodName)) ∈ TB := tz4 207 rfl rfl
theorem w_1033 : (Jvm.Cond.methodLink "DarkestDay$Outlook" (93 : Nat) ({ cls := "DarkestDay$Row", name := "get", desc := "(I)I" } : Jvm.MethodName)) ∈ TB := tz4 208 rfl rfl
theorem w_1034 : (Jvm.Cond.methodLink "DarkestDay$Outlook" (94 : Nat) ({ cls := "java/lang/Math", name := "min", desc := "(II)I" } : Jvm.MethodName)) ∈ TB := tz4 209 rfl rfl
theorem w_1035 : (Jvm.Cond.methodLink "DarkestDayLaw" (132 : Nat) ({ cls := "DarkestDay", name := "governs", desc := "(I)I" } : Jvm.MethodName)) ∈ TB := tz4 210 rfl rfl
theorem w_1036 : (Jvm.Cond.instanceMethod ({ cls := "DarkestDay", name := "governs", desc := "(I)I" } : Jvm.MethodName)) ∈ TB := tz4 211 rfl rfl
theorem w_1037 : (Jvm.Cond.selects "DarkestDay" ({ cls := "DarkestDay", name := "governs", desc := "(I)I" } : Jvm.MethodName) ({ cls := "DarkestDay", name := "governs", desc := "(I)I" } : Jvm.MethodName)) ∈ TB := tz4 212 rfl rfl
theorem w_1038 : (Jvm.Cond.code ({ cls := "DarkestDay", name := "governs", desc := "(I)I" } : Jvm.MethodName) prog_1_method_35_code (2 : Nat) (Option.some Jvm.ClassFile.FieldType.int)) ∈ TB := tz4 213 rfl rfl
theorem w_1039 : (Jvm.Cond.methodLink "DarkestDay" (288 : Nat) ({ cls := "DarkestDay$Outlook", name := "governorBehind", desc := "(LDarkestDay$State;I)I" } : Jvm.MethodName)) ∈ TB := tz4 214 rfl rfl
theorem w_1040 : (Jvm.Cond.instanceMethod ({ cls := "DarkestDay$Outlook", name := "governorBehind", desc := "(LDarkestDay$State;I)I" } : Jvm.MethodName)) ∈ TB := tz4 215 rfl rfl
theorem w_1041 : (Jvm.Cond.selects "DarkestDay$Outlook" ({ cls := "DarkestDay$Outlook", name := "governorBehind", desc := "(LDarkestDay$State;I)I" } : Jvm.MethodName) ({ cls := "DarkestDay$Outlook", name := "governorBehind", desc := "(LDarkestDay$State;I)I" } : Jvm.MethodName)) ∈ TB := tz4 216 rfl rfl
theorem w_1042 : (Jvm.Cond.code ({ cls := "DarkestDay$Outlook", name := "governorBehind", desc := "(LDarkestDay$State;I)I" } : Jvm.MethodName) prog_7_method_4_code (4 : Nat) (Option.some Jvm.ClassFile.FieldType.int)) ∈ TB := tz4 217 rfl rfl
theorem w_1043 : (Jvm.Cond.methodLink "DarkestDay$Outlook" (99 : Nat) ({ cls := "DarkestDay$Course", name := "skipYear", desc := "(LDarkestDay$State;)V" } : Jvm.MethodName)) ∈ TB := tz4 218 rfl rfl
theorem w_1044 : (Jvm.Cond.instanceMethod ({ cls := "DarkestDay$Course", name := "skipYear", desc := "(LDarkestDay$State;)V" } : Jvm.MethodName)) ∈ TB := tz4 219 rfl rfl
theorem w_1045 : (Jvm.Cond.selects "DarkestDay$Course" ({ cls := "DarkestDay$Course", name := "skipYear", desc := "(LDarkestDay$State;)V" } : Jvm.MethodName) ({ cls := "DarkestDay$Course", name := "skipYear", desc := "(LDarkestDay$State;)V" } : Jvm.MethodName)) ∈ TB := tz4 220 rfl rfl
theorem w_1046 : (Jvm.Cond.code ({ cls := "DarkestDay$Course", name := "skipYear", desc := "(LDarkestDay$State;)V" } : Jvm.MethodName) prog_3_method_14_code (2 : Nat) (Option.none : Option Jvm.ClassFile.FieldType)) ∈ TB := tz4 221 rfl rfl
theorem w_1047 : (Jvm.Cond.methodLink "DarkestDay$Course" (124 : Nat) ({ cls := "DarkestDay$Course", name := "rulerOf", desc := "(LDarkestDay$State;I)I" } : Jvm.MethodName)) ∈ TB := tz4 222 rfl rfl
theorem w_1048 : (Jvm.Cond.methodLink "DarkestDay$Course" (127 : Nat) ({ cls := "DarkestDay$Course", name := "doingsOn", desc := "(LDarkestDay$State;I)I" } : Jvm.MethodName)) ∈ TB := tz4 223 rfl rfl
theorem w_1049 : (Jvm.Cond.instanceMethod ({ cls := "DarkestDay$Course", name := "doingsOn", desc := "(LDarkestDay$State;I)I" } : Jvm.MethodName)) ∈ TB := tz4 224 rfl rfl
theorem w_1050 : (Jvm.Cond.selects "DarkestDay$Course" ({ cls := "DarkestDay$Course", name := "doingsOn", desc := "(LDarkestDay$State;I)I" } : Jvm.MethodName) ({ cls := "DarkestDay$Course", name := "doingsOn", desc := "(LDarkestDay$State;I)I" } : Jvm.MethodName)) ∈ TB := tz4 225 rfl rfl
theorem w_1051 : (Jvm.Cond.code ({ cls := "DarkestDay$Course", name := "doingsOn", desc := "(LDarkestDay$State;I)I" } : Jvm.MethodName) prog_3_method_9_code (3 : Nat) (Option.some Jvm.ClassFile.FieldType.int)) ∈ TB := tz4 226 rfl rfl
theorem w_1052 : (Jvm.Cond.methodLink "DarkestDayLaw" (136 : Nat) ({ cls := "DarkestDay", name := "round", desc := "(I)I" } : Jvm.MethodName)) ∈ TB := tz4 227 rfl rfl
theorem w_1053 : (Jvm.Cond.instanceMethod ({ cls := "DarkestDay", name := "round", desc := "(I)I" } : Jvm.MethodName)) ∈ TB := tz4 228 rfl rfl
theorem w_1054 : (Jvm.Cond.selects "DarkestDay" ({ cls := "DarkestDay", name := "round", desc := "(I)I" } : Jvm.MethodName) ({ cls := "DarkestDay", name := "round", desc := "(I)I" } : Jvm.MethodName)) ∈ TB := tz4 229 rfl rfl
theorem w_1055 : (Jvm.Cond.code ({ cls := "DarkestDay", name := "round", desc := "(I)I" } : Jvm.MethodName) prog_1_method_36_code (2 : Nat) (Option.some Jvm.ClassFile.FieldType.int)) ∈ TB := tz4 230 rfl rfl
theorem w_1056 : (Jvm.Cond.methodLink "DarkestDay" (291 : Nat) ({ cls := "DarkestDay$Outlook", name := "comingRound", desc := "(LDarkestDay$State;I)I" } : Jvm.MethodName)) ∈ TB := tz4 231 rfl rfl
theorem w_1057 : (Jvm.Cond.instanceMethod ({ cls := "DarkestDay$Outlook", name := "comingRound", desc := "(LDarkestDay$State;I)I" } : Jvm.MethodName)) ∈ TB := tz4 232 rfl rfl
theorem w_1058 : (Jvm.Cond.selects "DarkestDay$Outlook" ({ cls := "DarkestDay$Outlook", name := "comingRound", desc := "(LDarkestDay$State;I)I" } : Jvm.MethodName) ({ cls := "DarkestDay$Outlook", name := "comingRound", desc := "(LDarkestDay$State;I)I" } : Jvm.MethodName)) ∈ TB := tz4 233 rfl rfl
theorem w_1059 : (Jvm.Cond.code ({ cls := "DarkestDay$Outlook", name := "comingRound", desc := "(LDarkestDay$State;I)I" } : Jvm.MethodName) prog_7_method_6_code (5 : Nat) (Option.some Jvm.ClassFile.FieldType.int)) ∈ TB := tz4 234 rfl rfl
theorem w_1060 : (Jvm.Cond.methodLink "DarkestDay$Outlook" (103 : Nat) ({ cls := "DarkestDay$Port", name := "persons", desc := "()I" } : Jvm.MethodName)) ∈ TB := tz4 235 rfl rfl
theorem w_1061 : (Jvm.Cond.methodLink "DarkestDay$Outlook" (106 : Nat) ({ cls := "DarkestDay$Outlook", name := "packed", desc := "(II)I" } : Jvm.MethodName)) ∈ TB := tz4 236 rfl rfl
theorem w_1063 : (Jvm.Cond.instanceMethod ({ cls := "DarkestDay$Outlook", name := "packed", desc := "(II)I" } : Jvm.MethodName)) ∈ TB := tz4 238 rfl rfl
theorem w_1064 : (Jvm.Cond.code ({ cls := "DarkestDay$Outlook", name := "packed", desc := "(II)I" } : Jvm.MethodName) prog_7_method_7_code (5 : Nat) (Option.some Jvm.ClassFile.FieldType.int)) ∈ TB := tz4 239 rfl rfl
theorem w_1065 : (Jvm.Cond.methodLink "DarkestDay$Outlook" (109 : Nat) ({ cls := "DarkestDay$Port", name := "kinds", desc := "()I" } : Jvm.MethodName)) ∈ TB := tz5 0 rfl rfl
theorem w_1066 : (Jvm.Cond.methodLink "DarkestDayLaw" (140 : Nat) ({ cls := "DarkestDay", name := "swings", desc := "(I)I" } : Jvm.MethodName)) ∈ TB := tz5 1 rfl rfl
theorem w_1067 : (Jvm.Cond.instanceMethod ({ cls := "DarkestDay", name := "swings", desc := "(I)I" } : Jvm.MethodName)) ∈ TB := tz5 2 rfl rfl
theorem w_1068 : (Jvm.Cond.selects "DarkestDay" ({ cls := "DarkestDay", name := "swings", desc := "(I)I" } : Jvm.MethodName) ({ cls := "DarkestDay", name := "swings", desc := "(I)I" } : Jvm.MethodName)) ∈ TB := tz5 3 rfl rfl
theorem w_1069 : (Jvm.Cond.code ({ cls := "DarkestDay", name := "swings", desc := "(I)I" } : Jvm.MethodName) prog_1_method_37_code (2 : Nat) (Option.some Jvm.ClassFile.FieldType.int)) ∈ TB := tz5 4 rfl rfl
theorem w_1070 : (Jvm.Cond.methodLink "DarkestDay" (294 : Nat) ({ cls := "DarkestDay$Outlook", name := "fewestSwings", desc := "(LDarkestDay$State;I)I" } : Jvm.MethodName)) ∈ TB := tz5 5 rfl rfl
theorem w_1071 : (Jvm.Cond.instanceMethod ({ cls := "DarkestDay$Outlook", name := "fewestSwings", desc := "(LDarkestDay$State;I)I" } : Jvm.MethodName)) ∈ TB := tz5 6 rfl rfl
theorem w_1072 : (Jvm.Cond.selects "DarkestDay$Outlook" ({ cls := "DarkestDay$Outlook", name := "fewestSwings", desc := "(LDarkestDay$State;I)I" } : Jvm.MethodName) ({ cls := "DarkestDay$Outlook", name := "fewestSwings", desc := "(LDarkestDay$State;I)I" } : Jvm.MethodName)) ∈ TB := tz5 7 rfl rfl
theorem w_1073 : (Jvm.Cond.code ({ cls := "DarkestDay$Outlook", name := "fewestSwings", desc := "(LDarkestDay$State;I)I" } : Jvm.MethodName) prog_7_method_8_code (7 : Nat) (Option.some Jvm.ClassFile.FieldType.int)) ∈ TB := tz5 8 rfl rfl
theorem w_1074 : (Jvm.Cond.methodLink "DarkestDay$Outlook" (112 : Nat) ({ cls := "DarkestDay$State", name := "upCount", desc := "(I)I" } : Jvm.MethodName)) ∈ TB := tz5 9 rfl rfl
theorem w_1075 : (Jvm.Cond.methodLink "DarkestDay$Outlook" (115 : Nat) ({ cls := "DarkestDay$Course", name := "rulerOf", desc := "(LDarkestDay$State;I)I" } : Jvm.MethodName)) ∈ TB := tz5 10 rfl rfl
theorem w_1076 : (Jvm.Cond.methodLink "DarkestDay$Outlook" (118 : Nat) ({ cls := "java/lang/Integer", name := "bitCount", desc := "(I)I" } : Jvm.MethodName)) ∈ TB := tz5 11 rfl rfl
theorem w_1077 : (Jvm.Cond.methodLinkNest "DarkestDay$Outlook" (123 : Nat) ({ cls := "DarkestDay", name := "hasBit", desc := "(II)Z" } : Jvm.MethodName) "DarkestDay") ∈ lw_tbl := tz5m 12 rfl
theorem w_1078 : (Jvm.Cond.methodLink "DarkestDay$Outlook" (127 : Nat) ({ cls := "DarkestDay$State", name := "set", desc := "(II)V" } : Jvm.MethodName)) ∈ TB := tz5 13 rfl rfl
theorem w_1079 : (Jvm.Cond.methodLink "DarkestDay$Outlook" (128 : Nat) ({ cls := "DarkestDay$Course", name := "doingsOn", desc := "(LDarkestDay$State;I)I" } : Jvm.MethodName)) ∈ TB := tz5 14 rfl rfl
theorem w_1080 : (Jvm.Cond.methodLink "DarkestDay$Outlook" (131 : Nat) ({ cls := "DarkestDay$Course", name := "governorBy", desc := "(I)I" } : Jvm.MethodName)) ∈ TB := tz5 15 rfl rfl
theorem w_1081 : (Jvm.Cond.instanceMethod ({ cls := "DarkestDay$Course", name := "governorBy", desc := "(I)I" } : Jvm.MethodName)) ∈ TB := tz5 16 rfl rfl
theorem w_1082 : (Jvm.Cond.selects "DarkestDay$Course" ({ cls := "DarkestDay$Course", name := "governorBy", desc := "(I)I" } : Jvm.MethodName) ({ cls := "DarkestDay$Course", name := "governorBy", desc := "(I)I" } : Jvm.MethodName)) ∈ TB := tz5 17 rfl rfl
theorem w_1083 : (Jvm.Cond.code ({ cls := "DarkestDay$Course", name := "governorBy", desc := "(I)I" } : Jvm.MethodName) prog_3_method_10_code (6 : Nat) (Option.some Jvm.ClassFile.FieldType.int)) ∈ TB := tz5 18 rfl rfl
theorem w_1084 : (Jvm.Cond.methodLink "DarkestDayLaw" (144 : Nat) ({ cls := "DarkestDay", name := "bedding", desc := "(I)I" } : Jvm.MethodName)) ∈ TB := tz5 19 rfl rfl
theorem w_1085 : (Jvm.Cond.instanceMethod ({ cls := "DarkestDay", name := "bedding", desc := "(I)I" } : Jvm.MethodName)) ∈ TB := tz5 20 rfl rfl
theorem w_1086 : (Jvm.Cond.selects "DarkestDay" ({ cls := "DarkestDay", name := "bedding", desc := "(I)I" } : Jvm.MethodName) ({ cls := "DarkestDay", name := "bedding", desc := "(I)I" } : Jvm.MethodName)) ∈ TB := tz5 21 rfl rfl
theorem w_1087 : (Jvm.Cond.code ({ cls := "DarkestDay", name := "bedding", desc := "(I)I" } : Jvm.MethodName) prog_1_method_38_code (2 : Nat) (Option.some Jvm.ClassFile.FieldType.int)) ∈ TB := tz5 22 rfl rfl
theorem w_1088 : (Jvm.Cond.methodLink "DarkestDay" (297 : Nat) ({ cls := "DarkestDay$Outlook", name := "fewestInBed", desc := "(LDarkestDay$State;I)I" } : Jvm.MethodName)) ∈ TB := tz5 23 rfl rfl
theorem w_1089 : (Jvm.Cond.instanceMethod ({ cls := "DarkestDay$Outlook", name := "fewestInBed", desc := "(LDarkestDay$State;I)I" } : Jvm.MethodName)) ∈ TB := tz5 24 rfl rfl
theorem w_1090 : (Jvm.Cond.selects "DarkestDay$Outlook" ({ cls := "DarkestDay$Outlook", name := "fewestInBed", desc := "(LDarkestDay$State;I)I" } : Jvm.MethodName) ({ cls := "DarkestDay$Outlook", name := "fewestInBed", desc := "(LDarkestDay$State;I)I" } : Jvm.MethodName)) ∈ TB := tz5 25 rfl rfl
theorem w_1091 : (Jvm.Cond.code ({ cls := "DarkestDay$Outlook", name := "fewestInBed", desc := "(LDarkestDay$State;I)I" } : Jvm.MethodName) prog_7_method_9_code (8 : Nat) (Option.some Jvm.ClassFile.FieldType.int)) ∈ TB := tz5 26 rfl rfl
theorem w_1092 : (Jvm.Cond.methodLink "DarkestDay$Outlook" (134 : Nat) ({ cls := "DarkestDay$State", name := "upBits", desc := "(I)I" } : Jvm.MethodName)) ∈ TB := tz5 27 rfl rfl
theorem w_1093 : (Jvm.Cond.methodLink "DarkestDayLaw" (148 : Nat) ({ cls := "DarkestDay", name := "coins", desc := "(I)I" } : Jvm.MethodName)) ∈ TB := tz5 28 rfl rfl
theorem w_1094 : (Jvm.Cond.instanceMethod ({ cls := "DarkestDay", name := "coins", desc := "(I)I" } : Jvm.MethodName)) ∈ TB := tz5 29 rfl rfl
theorem w_1095 : (Jvm.Cond.selects "DarkestDay" ({ cls := "DarkestDay", name := "coins", desc := "(I)I" } : Jvm.MethodName) ({ cls := "DarkestDay", name := "coins", desc := "(I)I" } : Jvm.MethodName)) ∈ TB := tz5 30 rfl rfl
theorem w_1096 : (Jvm.Cond.code ({ cls := "DarkestDay", name := "coins", desc := "(I)I" } : Jvm.MethodName) prog_1_method_39_code (2 : Nat) (Option.some Jvm.ClassFile.FieldType.int)) ∈ TB := tz5 31 rfl rfl
theorem w_1097 : (Jvm.Cond.methodLink "DarkestDay" (300 : Nat) ({ cls := "DarkestDay$Outlook", name := "treasuryBehind", desc := "(LDarkestDay$State;I)I" } : Jvm.MethodName)) ∈ TB := tz5 32 rfl rfl
theorem w_1098 : (Jvm.Cond.instanceMethod ({ cls := "DarkestDay$Outlook", name := "treasuryBehind", desc := "(LDarkestDay$State;I)I" } : Jvm.MethodName)) ∈ TB := tz5 33 rfl rfl
theorem w_1099 : (Jvm.Cond.selects "DarkestDay$Outlook" ({ cls := "DarkestDay$Outlook", name := "treasuryBehind", desc := "(LDarkestDay$State;I)I" } : Jvm.MethodName) ({ cls := "DarkestDay$Outlook", name := "treasuryBehind", desc := "(LDarkestDay$State;I)I" } : Jvm.MethodName)) ∈ TB := tz5 34 rfl rfl
theorem w_1100 : (Jvm.Cond.code ({ cls := "DarkestDay$Outlook", name := "treasuryBehind", desc := "(LDarkestDay$State;I)I" } : Jvm.MethodName) prog_7_method_10_code (4 : Nat) (Option.some Jvm.ClassFile.FieldType.int)) ∈ TB := tz5 35 rfl rfl
theorem w_1101 : (Jvm.Cond.methodLink "DarkestDay$Outlook" (137 : Nat) ({ cls := "DarkestDay$Course", name := "passDay", desc := "(LDarkestDay$State;)V" } : Jvm.MethodName)) ∈ TB := tz5 36 rfl rfl
theorem w_1102 : (Jvm.Cond.methodLink "DarkestDayLaw" (152 : Nat) ({ cls := "DarkestDay", name := "seen", desc := "(IIZ)I" } : Jvm.MethodName)) ∈ TB := tz5 37 rfl rfl
theorem w_1103 : (Jvm.Cond.instanceMethod ({ cls := "DarkestDay", name := "seen", desc := "(IIZ)I" } : Jvm.MethodName)) ∈ TB := tz5 38 rfl rfl
theorem w_1104 : (Jvm.Cond.selects "DarkestDay" ({ cls := "DarkestDay", name := "seen", desc := "(IIZ)I" } : Jvm.MethodName) ({ cls := "DarkestDay", name := "seen", desc := "(IIZ)I" } : Jvm.MethodName)) ∈ TB := tz5 39 rfl rfl
theorem w_1105 : (Jvm.Cond.code ({ cls := "DarkestDay", name := "seen", desc := "(IIZ)I" } : Jvm.MethodName) prog_1_method_40_code (4 : Nat) (Option.some Jvm.ClassFile.FieldType.int)) ∈ TB := tz5 40 rfl rfl
theorem w_1106 : (Jvm.Cond.methodLink "DarkestDay" (303 : Nat) ({ cls := "DarkestDay$Witness", name := "isFull", desc := "()Z" } : Jvm.MethodName)) ∈ TB := tz5 41 rfl rfl
theorem w_1107 : (Jvm.Cond.instanceMethod ({ cls := "DarkestDay$Witness", name := "isFull", desc := "()Z" } : Jvm.MethodName)) ∈ TB := tz5 42 rfl rfl
theorem w_1108 : (Jvm.Cond.selects "DarkestDay$Witness" ({ cls := "DarkestDay$Witness", name := "isFull", desc := "()Z" } : Jvm.MethodName) ({ cls := "DarkestDay$Witness", name := "isFull", desc := "()Z" } : Jvm.MethodName)) ∈ TB := tz5 43 rfl rfl
theorem w_1109 : (Jvm.Cond.code ({ cls := "DarkestDay$Witness", name := "isFull", desc := "()Z" } : Jvm.MethodName) prog_12_method_3_code (1 : Nat) (Option.some Jvm.ClassFile.FieldType.boolean)) ∈ TB := tz5 44 rfl rfl
theorem w_1110 : (Jvm.Cond.methodLink "DarkestDay" (306 : Nat) ({ cls := "DarkestDay$Witness", name := "note", desc := "(IIZ)V" } : Jvm.MethodName)) ∈ TB := tz5 45 rfl rfl
theorem w_1111 : (Jvm.Cond.instanceMethod ({ cls := "DarkestDay$Witness", name := "note", desc := "(IIZ)V" } : Jvm.MethodName)) ∈ TB := tz5 46 rfl rfl
theorem w_1112 : (Jvm.Cond.selects "DarkestDay$Witness" ({ cls := "DarkestDay$Witness", name := "note", desc := "(IIZ)V" } : Jvm.MethodName) ({ cls := "DarkestDay$Witness", name := "note", desc := "(IIZ)V" } : Jvm.MethodName)) ∈ TB := tz5 47 rfl rfl
theorem w_1113 : (Jvm.Cond.code ({ cls := "DarkestDay$Witness", name := "note", desc := "(IIZ)V" } : Jvm.MethodName) prog_12_method_5_code (4 : Nat) (Option.none : Option Jvm.ClassFile.FieldType)) ∈ TB := tz5 48 rfl rfl
theorem w_1114 : (Jvm.Cond.methodLink "DarkestDay$Witness" (48 : Nat) ({ cls := "DarkestDay$Row", name := "set", desc := "(II)V" } : Jvm.MethodName)) ∈ TB := tz5 49 rfl rfl
theorem w_1115 : (Jvm.Cond.methodLink "DarkestDay" (310 : Nat) ({ cls := "DarkestDay$Witness", name := "size", desc := "()I" } : Jvm.MethodName)) ∈ TB := tz5 50 rfl rfl
theorem w_1116 : (Jvm.Cond.instanceMethod ({ cls := "DarkestDay$Witness", name := "size", desc := "()I" } : Jvm.MethodName)) ∈ TB := tz5 51 rfl rfl
theorem w_1117 : (Jvm.Cond.selects "DarkestDay$Witness" ({ cls := "DarkestDay$Witness", name := "size", desc := "()I" } : Jvm.MethodName) ({ cls := "DarkestDay$Witness", name := "size", desc := "()I" } : Jvm.MethodName)) ∈ TB := tz5 52 rfl rfl
theorem w_1118 : (Jvm.Cond.code ({ cls := "DarkestDay$Witness", name := "size", desc := "()I" } : Jvm.MethodName) prog_12_method_2_code (1 : Nat) (Option.some Jvm.ClassFile.FieldType.int)) ∈ TB := tz5 53 rfl rfl
theorem w_1119 : (Jvm.Cond.methodLink "DarkestDayLaw" (157 : Nat) ({ cls := "DarkestDay", name := "habits", desc := "(II)I" } : Jvm.MethodName)) ∈ TB := tz5 54 rfl rfl
theorem w_1120 : (Jvm.Cond.instanceMethod ({ cls := "DarkestDay", name := "habits", desc := "(II)I" } : Jvm.MethodName)) ∈ TB := tz5 55 rfl rfl
theorem w_1121 : (Jvm.Cond.selects "DarkestDay" ({ cls := "DarkestDay", name := "habits", desc := "(II)I" } : Jvm.MethodName) ({ cls := "DarkestDay", name := "habits", desc := "(II)I" } : Jvm.MethodName)) ∈ TB := tz5 56 rfl rfl
theorem w_1122 : (Jvm.Cond.code ({ cls := "DarkestDay", name := "habits", desc := "(II)I" } : Jvm.MethodName) prog_1_method_41_code (4 : Nat) (Option.some Jvm.ClassFile.FieldType.int)) ∈ TB := tz5 57 rfl rfl
theorem w_1123 : (Jvm.Cond.methodLink "DarkestDay" (311 : Nat) ({ cls := "DarkestDay$Witness", name := "possibleHabits", desc := "(I)I" } : Jvm.MethodName)) ∈ TB := tz5 58 rfl rfl
theorem w_1124 : (Jvm.Cond.instanceMethod ({ cls := "DarkestDay$Witness", name := "possibleHabits", desc := "(I)I" } : Jvm.MethodName)) ∈ TB := tz5 59 rfl rfl
theorem w_1125 : (Jvm.Cond.selects "DarkestDay$Witness" ({ cls := "DarkestDay$Witness", name := "possibleHabits", desc := "(I)I" } : Jvm.MethodName) ({ cls := "DarkestDay$Witness", name := "possibleHabits", desc := "(I)I" } : Jvm.MethodName)) ∈ TB := tz5 60 rfl rfl
theorem w_1126 : (Jvm.Cond.code ({ cls := "DarkestDay$Witness", name := "possibleHabits", desc := "(I)I" } : Jvm.MethodName) prog_12_method_6_code (4 : Nat) (Option.some Jvm.ClassFile.FieldType.int)) ∈ TB := tz5 61 rfl rfl
theorem w_1127 : (Jvm.Cond.methodLink "DarkestDay$Witness" (52 : Nat) ({ cls := "DarkestDay$Row", name := "get", desc := "(I)I" } : Jvm.MethodName)) ∈ TB := tz5 62 rfl rfl
theorem w_1128 : (Jvm.Cond.methodLink "DarkestDay$Witness" (56 : Nat) ({ cls := "java/lang/Math", name := "max", desc := "(II)I" } : Jvm.MethodName)) ∈ TB := tz5 63 rfl rfl
theorem w_1129 : (Jvm.Cond.methodLink "DarkestDay$Witness" (62 : Nat) ({ cls := "DarkestDay$Witness", name := "followAll", desc := "(II)I" } : Jvm.MethodName)) ∈ TB := tz5 64 rfl rfl
theorem w_1131 : (Jvm.Cond.instanceMethod ({ cls := "DarkestDay$Witness", name := "followAll", desc := "(II)I" } : Jvm.MethodName)) ∈ TB := tz5 66 rfl rfl
theorem w_1132 : (Jvm.Cond.code ({ cls := "DarkestDay$Witness", name := "followAll", desc := "(II)I" } : Jvm.MethodName) prog_12_method_9_code (6 : Nat) (Option.some Jvm.ClassFile.FieldType.int)) ∈ TB := tz5 67 rfl rfl
theorem w_1133 : (Jvm.Cond.methodLink "DarkestDay$Witness" (75 : Nat) ({ cls := "DarkestDay$Port", name := "kinds", desc := "()I" } : Jvm.MethodName)) ∈ TB := tz5 68 rfl rfl
theorem w_1134 : (Jvm.Cond.methodLink "DarkestDay$Witness" (81 : Nat) ({ cls := "DarkestDay$State", name := "begin", desc := "(LDarkestDay$Port;)V" } : Jvm.MethodName)) ∈ TB := tz5 69 rfl rfl
theorem w_1135 : (Jvm.Cond.methodLink "DarkestDay$Witness" (85 : Nat) ({ cls := "DarkestDay$State", name := "set", desc := "(II)V" } : Jvm.MethodName)) ∈ TB := tz5 70 rfl rfl
theorem w_1136 : (Jvm.Cond.methodLink "DarkestDay$Witness" (86 : Nat) ({ cls := "DarkestDay$Course", name := "passDay", desc := "(LDarkestDay$State;)V" } : Jvm.MethodName)) ∈ TB := tz5 71 rfl rfl
theorem w_1137 : (Jvm.Cond.methodLink "DarkestDay$Witness" (92 : Nat) ({ cls := "DarkestDay$State", name := "get", desc := "(I)I" } : Jvm.MethodName)) ∈ TB := tz5 72 rfl rfl
theorem w_1138 : (Jvm.Cond.methodLink "DarkestDay$Witness" (93 : Nat) ({ cls := "DarkestDay$Witness", name := "fits", desc := "(I)Z" } : Jvm.MethodName)) ∈ TB := tz5 73 rfl rfl
theorem w_1140 : (Jvm.Cond.instanceMethod ({ cls := "DarkestDay$Witness", name := "fits", desc := "(I)Z" } : Jvm.MethodName)) ∈ TB := tz5 75 rfl rfl
theorem w_1141 : (Jvm.Cond.code ({ cls := "DarkestDay$Witness", name := "fits", desc := "(I)Z" } : Jvm.MethodName) prog_12_method_10_code (4 : Nat) (Option.some Jvm.ClassFile.FieldType.boolean)) ∈ TB := tz5 76 rfl rfl
theorem w_1142 : (Jvm.Cond.methodLink "DarkestDay$Witness" (72 : Nat) ({ cls := "DarkestDay$Witness", name := "treasuryOf", desc := "(II)I" } : Jvm.MethodName)) ∈ TB := tz5 77 rfl rfl
theorem w_1144 : (Jvm.Cond.instanceMethod ({ cls := "DarkestDay$Witness", name := "treasuryOf", desc := "(II)I" } : Jvm.MethodName)) ∈ TB := tz5 79 rfl rfl
theorem w_1145 : (Jvm.Cond.code ({ cls := "DarkestDay$Witness", name := "treasuryOf", desc := "(II)I" } : Jvm.MethodName) prog_12_method_11_code (3 : Nat) (Option.some Jvm.ClassFile.FieldType.int)) ∈ TB := tz5 80 rfl rfl
theorem w_1146 : (Jvm.Cond.methodLink "DarkestDay" (314 : Nat) ({ cls := "java/lang/Integer", name := "bitCount", desc := "(I)I" } : Jvm.MethodName)) ∈ TB := tz5 81 rfl rfl
theorem w_1147 : (Jvm.Cond.methodLink "DarkestDay" (319 : Nat) ({ cls := "DarkestDay", name := "placeOfBit", desc := "(II)I" } : Jvm.MethodName)) ∈ TB := tz5 82 rfl rfl
theorem w_1148 : (Jvm.Cond.static ({ cls := "DarkestDay", name := "placeOfBit", desc := "(II)I" } : Jvm.MethodName)) ∈ TB := tz5 83 rfl rfl
theorem w_1149 : (Jvm.Cond.code ({ cls := "DarkestDay", name := "placeOfBit", desc := "(II)I" } : Jvm.MethodName) prog_1_method_42_code (4 : Nat) (Option.some Jvm.ClassFile.FieldType.int)) ∈ TB := tz5 84 rfl rfl
theorem w_1150 : (Jvm.Cond.methodLink "DarkestDay" (322 : Nat) ({ cls := "DarkestDay", name := "hasBit", desc := "(II)Z" } : Jvm.MethodName)) ∈ TB := tz5 85 rfl rfl
theorem w_1151 : (Jvm.Cond.methodLink "DarkestDayLaw" (161 : Nat) ({ cls := "DarkestDay", name := "ask", desc := "(I)I" } : Jvm.MethodName)) ∈ TB := tz5 86 rfl rfl
theorem w_1152 : (Jvm.Cond.instanceMethod ({ cls := "DarkestDay", name := "ask", desc := "(I)I" } : Jvm.MethodName)) ∈ TB := tz5 87 rfl rfl
theorem w_1153 : (Jvm.Cond.selects "DarkestDay" ({ cls := "DarkestDay", name := "ask", desc := "(I)I" } : Jvm.MethodName) ({ cls := "DarkestDay", name := "ask", desc := "(I)I" } : Jvm.MethodName)) ∈ TB := tz5 88 rfl rfl
theorem w_1154 : (Jvm.Cond.code ({ cls := "DarkestDay", name := "ask", desc := "(I)I" } : Jvm.MethodName) prog_1_method_43_code (2 : Nat) (Option.some Jvm.ClassFile.FieldType.int)) ∈ TB := tz5 89 rfl rfl
theorem w_1155 : (Jvm.Cond.methodLink "DarkestDay" (326 : Nat) ({ cls := "DarkestDay$Witness", name := "bestQuestion", desc := "(I)I" } : Jvm.MethodName)) ∈ TB := tz5 90 rfl rfl
theorem w_1156 : (Jvm.Cond.instanceMethod ({ cls := "DarkestDay$Witness", name := "bestQuestion", desc := "(I)I" } : Jvm.MethodName)) ∈ TB := tz5 91 rfl rfl
theorem w_1157 : (Jvm.Cond.selects "DarkestDay$Witness" ({ cls := "DarkestDay$Witness", name := "bestQuestion", desc := "(I)I" } : Jvm.MethodName) ({ cls := "DarkestDay$Witness", name := "bestQuestion", desc := "(I)I" } : Jvm.MethodName)) ∈ TB := tz5 92 rfl rfl
theorem w_1158 : (Jvm.Cond.code ({ cls := "DarkestDay$Witness", name := "bestQuestion", desc := "(I)I" } : Jvm.MethodName) prog_12_method_7_code (7 : Nat) (Option.some Jvm.ClassFile.FieldType.int)) ∈ TB := tz5 93 rfl rfl
theorem w_1159 : (Jvm.Cond.methodLink "DarkestDay$Witness" (65 : Nat) ({ cls := "DarkestDay$Witness", name := "mostAlike", desc := "(II)I" } : Jvm.MethodName)) ∈ TB := tz5 94 rfl rfl
theorem w_1161 : (Jvm.Cond.instanceMethod ({ cls := "DarkestDay$Witness", name := "mostAlike", desc := "(II)I" } : Jvm.MethodName)) ∈ TB := tz5 96 rfl rfl
theorem w_1162 : (Jvm.Cond.code ({ cls := "DarkestDay$Witness", name := "mostAlike", desc := "(II)I" } : Jvm.MethodName) prog_12_method_8_code (8 : Nat) (Option.some Jvm.ClassFile.FieldType.int)) ∈ TB := tz5 97 rfl rfl
theorem w_1163 : (Jvm.Cond.methodLinkNest "DarkestDay$Witness" (68 : Nat) ({ cls := "DarkestDay", name := "hasBit", desc := "(II)Z" } : Jvm.MethodName) "DarkestDay") ∈ lw_tbl := tz5m 98 rfl
theorem w_1164 : (Jvm.Cond.methodLink "DarkestDayLaw" (165 : Nat) ({ cls := "DarkestDay", name := "game", desc := "(IIIII)I" } : Jvm.MethodName)) ∈ TB := tz5 99 rfl rfl
theorem w_1165 : (Jvm.Cond.instanceMethod ({ cls := "DarkestDay", name := "game", desc := "(IIIII)I" } : Jvm.MethodName)) ∈ TB := tz5 100 rfl rfl
theorem w_1166 : (Jvm.Cond.selects "DarkestDay" ({ cls := "DarkestDay", name := "game", desc := "(IIIII)I" } : Jvm.MethodName) ({ cls := "DarkestDay", name := "game", desc := "(IIIII)I" } : Jvm.MethodName)) ∈ TB := tz5 101 rfl rfl
theorem w_1167 : (Jvm.Cond.code ({ cls := "DarkestDay", name := "game", desc := "(IIIII)I" } : Jvm.MethodName) prog_1_method_44_code (6 : Nat) (Option.some Jvm.ClassFile.FieldType.int)) ∈ TB := tz5 102 rfl rfl
theorem w_1168 : (Jvm.Cond.methodLink "DarkestDay" (329 : Nat) ({ cls := "DarkestDay", name := "canPlay", desc := "(II)Z" } : Jvm.MethodName)) ∈ TB := tz5 103 rfl rfl
theorem w_1170 : (Jvm.Cond.instanceMethod ({ cls := "DarkestDay", name := "canPlay", desc := "(II)Z" } : Jvm.MethodName)) ∈ TB := tz5 105 rfl rfl
theorem w_1171 : (Jvm.Cond.code ({ cls := "DarkestDay", name := "canPlay", desc := "(II)Z" } : Jvm.MethodName) prog_1_method_46_code (3 : Nat) (Option.some Jvm.ClassFile.FieldType.boolean)) ∈ TB := tz5 106 rfl rfl
theorem w_1172 : (Jvm.Cond.methodLink "DarkestDay" (332 : Nat) ({ cls := "DarkestDay$Outlook", name := "gameOf", desc := "(LDarkestDay$State;IIIII)I" } : Jvm.MethodName)) ∈ TB := tz5 107 rfl rfl
theorem w_1173 : (Jvm.Cond.instanceMethod ({ cls := "DarkestDay$Outlook", name := "gameOf", desc := "(LDarkestDay$State;IIIII)I" } : Jvm.MethodName)) ∈ TB := tz5 108 rfl rfl
theorem w_1174 : (Jvm.Cond.selects "DarkestDay$Outlook" ({ cls := "DarkestDay$Outlook", name := "gameOf", desc := "(LDarkestDay$State;IIIII)I" } : Jvm.MethodName) ({ cls := "DarkestDay$Outlook", name := "gameOf", desc := "(LDarkestDay$State;IIIII)I" } : Jvm.MethodName)) ∈ TB := tz5 109 rfl rfl
theorem w_1175 : (Jvm.Cond.code ({ cls := "DarkestDay$Outlook", name := "gameOf", desc := "(LDarkestDay$State;IIIII)I" } : Jvm.MethodName) prog_7_method_11_code (7 : Nat) (Option.some Jvm.ClassFile.FieldType.int)) ∈ TB := tz5 110 rfl rfl
theorem w_1176 : (Jvm.Cond.methodLink "DarkestDay$Outlook" (140 : Nat) ({ cls := "DarkestDay$Outlook", name := "layOut", desc := "(LDarkestDay$State;II)V" } : Jvm.MethodName)) ∈ TB := tz5 111 rfl rfl
theorem w_1178 : (Jvm.Cond.instanceMethod ({ cls := "DarkestDay$Outlook", name := "layOut", desc := "(LDarkestDay$State;II)V" } : Jvm.MethodName)) ∈ TB := tz5 113 rfl rfl
theorem w_1179 : (Jvm.Cond.code ({ cls := "DarkestDay$Outlook", name := "layOut", desc := "(LDarkestDay$State;II)V" } : Jvm.MethodName) prog_7_method_15_code (7 : Nat) (Option.none : Option Jvm.ClassFile.FieldType)) ∈ TB := tz5 114 rfl rfl
theorem w_1180 : (Jvm.Cond.methodLink "DarkestDay$Outlook" (151 : Nat) ({ cls := "DarkestDay$Outlook", name := "gainOf", desc := "(LDarkestDay$State;II)I" } : Jvm.MethodName)) ∈ TB := tz5 115 rfl rfl
theorem w_1182 : (Jvm.Cond.instanceMethod ({ cls := "DarkestDay$Outlook", name := "gainOf", desc := "(LDarkestDay$State;II)I" } : Jvm.MethodName)) ∈ TB := tz5 117 rfl rfl
theorem w_1183 : (Jvm.Cond.code ({ cls := "DarkestDay$Outlook", name := "gainOf", desc := "(LDarkestDay$State;II)I" } : Jvm.MethodName) prog_7_method_16_code (7 : Nat) (Option.some Jvm.ClassFile.FieldType.int)) ∈ TB := tz5 118 rfl rfl
theorem w_1184 : (Jvm.Cond.methodLink "DarkestDay$Outlook" (144 : Nat) ({ cls := "DarkestDay$Outlook", name := "hasThen", desc := "(III)I" } : Jvm.MethodName)) ∈ TB := tz5 119 rfl rfl
theorem w_1186 : (Jvm.Cond.instanceMethod ({ cls := "DarkestDay$Outlook", name := "hasThen", desc := "(III)I" } : Jvm.MethodName)) ∈ TB := tz5 121 rfl rfl
theorem w_1187 : (Jvm.Cond.code ({ cls := "DarkestDay$Outlook", name := "hasThen", desc := "(III)I" } : Jvm.MethodName) prog_7_method_14_code (6 : Nat) (Option.some Jvm.ClassFile.FieldType.int)) ∈ TB := tz5 122 rfl rfl
theorem w_1188 : (Jvm.Cond.methodLink "DarkestDayLaw" (169 : Nat) ({ cls := "DarkestDay", name := "rests", desc := "(III)I" } : Jvm.MethodName)) ∈ TB := tz5 123 rfl rfl
theorem w_1189 : (Jvm.Cond.instanceMethod ({ cls := "DarkestDay", name := "rests", desc := "(III)I" } : Jvm.MethodName)) ∈ TB := tz5 124 rfl rfl
theorem w_1190 : (Jvm.Cond.selects "DarkestDay" ({ cls := "DarkestDay", name := "rests", desc := "(III)I" } : Jvm.MethodName) ({ cls := "DarkestDay", name := "rests", desc := "(III)I" } : Jvm.MethodName)) ∈ TB := tz5 125 rfl rfl
theorem w_1191 : (Jvm.Cond.code ({ cls := "DarkestDay", name := "rests", desc := "(III)I" } : Jvm.MethodName) prog_1_method_45_code (4 : Nat) (Option.some Jvm.ClassFile.FieldType.int)) ∈ TB := tz5 126 rfl rfl
theorem w_1192 : (Jvm.Cond.methodLink "DarkestDay" (336 : Nat) ({ cls := "DarkestDay$Outlook", name := "restsOf", desc := "(LDarkestDay$State;III)I" } : Jvm.MethodName)) ∈ TB := tz5 127 rfl rfl
theorem w_1193 : (Jvm.Cond.instanceMethod ({ cls := "DarkestDay$Outlook", name := "restsOf", desc := "(LDarkestDay$State;III)I" } : Jvm.MethodName)) ∈ TB := tz5 128 rfl rfl
theorem w_1194 : (Jvm.Cond.selects "DarkestDay$Outlook" ({ cls := "DarkestDay$Outlook", name := "restsOf", desc := "(LDarkestDay$State;III)I" } : Jvm.MethodName) ({ cls := "DarkestDay$Outlook", name := "restsOf", desc := "(LDarkestDay$State;III)I" } : Jvm.MethodName)) ∈ TB := tz5 129 rfl rfl
theorem w_1195 : (Jvm.Cond.code ({ cls := "DarkestDay$Outlook", name := "restsOf", desc := "(LDarkestDay$State;III)I" } : Jvm.MethodName) prog_7_method_12_code (8 : Nat) (Option.some Jvm.ClassFile.FieldType.int)) ∈ TB := tz5 130 rfl rfl
theorem w_1196 : (Jvm.Cond.methodLink "DarkestDay$Outlook" (148 : Nat) ({ cls := "DarkestDay$Outlook", name := "isRest", desc := "(II)Z" } : Jvm.MethodName)) ∈ TB := tz5 131 rfl rfl
theorem w_1198 : (Jvm.Cond.instanceMethod ({ cls := "DarkestDay$Outlook", name := "isRest", desc := "(II)Z" } : Jvm.MethodName)) ∈ TB := tz5 133 rfl rfl
theorem w_1199 : (Jvm.Cond.code ({ cls := "DarkestDay$Outlook", name := "isRest", desc := "(II)Z" } : Jvm.MethodName) prog_7_method_13_code (4 : Nat) (Option.some Jvm.ClassFile.FieldType.boolean)) ∈ TB := tz5 134 rfl rfl
theorem w_1200 : (Jvm.Cond.methodLink "DarkestDayLaw" (173 : Nat) ({ cls := "DarkestDay", name := "odds", desc := "(II)I" } : Jvm.MethodName)) ∈ TB := tz5 135 rfl rfl
theorem w_1201 : (Jvm.Cond.instanceMethod ({ cls := "DarkestDay", name := "odds", desc := "(II)I" } : Jvm.MethodName)) ∈ TB := tz5 136 rfl rfl
theorem w_1202 : (Jvm.Cond.selects "DarkestDay" ({ cls := "DarkestDay", name := "odds", desc := "(II)I" } : Jvm.MethodName) ({ cls := "DarkestDay", name := "odds", desc := "(II)I" } : Jvm.MethodName)) ∈ TB := tz5 137 rfl rfl
theorem w_1203 : (Jvm.Cond.code ({ cls := "DarkestDay", name := "odds", desc := "(II)I" } : Jvm.MethodName) prog_1_method_47_code (3 : Nat) (Option.some Jvm.ClassFile.FieldType.int)) ∈ TB := tz5 138 rfl rfl
theorem w_1204 : (Jvm.Cond.methodLink "DarkestDay" (339 : Nat) ({ cls := "DarkestDay", name := "daysLeft", desc := "()I" } : Jvm.MethodName)) ∈ TB := tz5 139 rfl rfl
theorem w_1206 : (Jvm.Cond.instanceMethod ({ cls := "DarkestDay", name := "daysLeft", desc := "()I" } : Jvm.MethodName)) ∈ TB := tz5 141 rfl rfl
theorem w_1207 : (Jvm.Cond.code ({ cls := "DarkestDay", name := "daysLeft", desc := "()I" } : Jvm.MethodName) prog_1_method_48_code (1 : Nat) (Option.some Jvm.ClassFile.FieldType.int)) ∈ TB := tz5 142 rfl rfl
theorem w_1208 : (Jvm.Cond.methodLink "DarkestDay" (342 : Nat) ({ cls := "DarkestDay$Outlook", name := "oddsOf", desc := "(LDarkestDay$State;II)I" } : Jvm.MethodName)) ∈ TB := tz5 143 rfl rfl
theorem w_1209 : (Jvm.Cond.instanceMethod ({ cls := "DarkestDay$Outlook", name := "oddsOf", desc := "(LDarkestDay$State;II)I" } : Jvm.MethodName)) ∈ TB := tz5 144 rfl rfl
theorem w_1210 : (Jvm.Cond.selects "DarkestDay$Outlook" ({ cls := "DarkestDay$Outlook", name := "oddsOf", desc := "(LDarkestDay$State;II)I" } : Jvm.MethodName) ({ cls := "DarkestDay$Outlook", name := "oddsOf", desc := "(LDarkestDay$State;II)I" } : Jvm.MethodName)) ∈ TB := tz5 145 rfl rfl
theorem w_1211 : (Jvm.Cond.code ({ cls := "DarkestDay$Outlook", name := "oddsOf", desc := "(LDarkestDay$State;II)I" } : Jvm.MethodName) prog_7_method_17_code (9 : Nat) (Option.some Jvm.ClassFile.FieldType.int)) ∈ TB := tz5 146 rfl rfl
theorem w_1212 : (Jvm.Cond.methodLink "DarkestDay$Outlook" (155 : Nat) ({ cls := "DarkestDay$Course", name := "lightAhead", desc := "(LDarkestDay$State;III)I" } : Jvm.MethodName)) ∈ TB := tz5 147 rfl rfl
theorem w_1213 : (Jvm.Cond.methodLink "DarkestDay$Outlook" (159 : Nat) ({ cls := "DarkestDay$Outlook", name := "rulerBy", desc := "(LDarkestDay$State;II)I" } : Jvm.MethodName)) ∈ TB := tz5 148 rfl rfl
theorem w_1215 : (Jvm.Cond.instanceMethod ({ cls := "DarkestDay$Outlook", name := "rulerBy", desc := "(LDarkestDay$State;II)I" } : Jvm.MethodName)) ∈ TB := tz5 150 rfl rfl
theorem w_1216 : (Jvm.Cond.code ({ cls := "DarkestDay$Outlook", name := "rulerBy", desc := "(LDarkestDay$State;II)I" } : Jvm.MethodName) prog_7_method_18_code (8 : Nat) (Option.some Jvm.ClassFile.FieldType.int)) ∈ TB := tz5 151 rfl rfl
theorem w_1217 : (Jvm.Cond.methodLink "DarkestDay$Outlook" (165 : Nat) ({ cls := "DarkestDay$State", name := "darkestOver", desc := "()I" } : Jvm.MethodName)) ∈ TB := tz5 152 rfl rfl
theorem w_1218 : (Jvm.Cond.methodLink "DarkestDay$Outlook" (162 : Nat) ({ cls := "DarkestDay$Outlook", name := "partOf", desc := "(III)I" } : Jvm.MethodName)) ∈ TB := tz5 153 rfl rfl
theorem w_1219 : (Jvm.Cond.static ({ cls := "DarkestDay$Outlook", name := "partOf", desc := "(III)I" } : Jvm.MethodName)) ∈ TB := tz5 154 rfl rfl
theorem w_1220 : (Jvm.Cond.code ({ cls := "DarkestDay$Outlook", name := "partOf", desc := "(III)I" } : Jvm.MethodName) prog_7_method_19_code (8 : Nat) (Option.some Jvm.ClassFile.FieldType.int)) ∈ TB := tz5 155 rfl rfl
theorem w_1221 : (Jvm.Cond.constantLong "DarkestDay$Outlook" (168 : Nat) (1000000000 : Int64)) ∈ TB := tz5 156 rfl rfl
theorem w_1222 : (Jvm.Cond.constantLong "DarkestDay$Outlook" (170 : Nat) (100 : Int64)) ∈ TB := tz5 157 rfl rfl
theorem w_1223 : (Jvm.Cond.methodLink "DarkestDayLaw" (177 : Nat) ({ cls := "DarkestDay", name := "shares", desc := "(II)I" } : Jvm.MethodName)) ∈ TB := tz5 158 rfl rfl
theorem w_1224 : (Jvm.Cond.instanceMethod ({ cls := "DarkestDay", name := "shares", desc := "(II)I" } : Jvm.MethodName)) ∈ TB := tz5 159 rfl rfl
theorem w_1225 : (Jvm.Cond.selects "DarkestDay" ({ cls := "DarkestDay", name := "shares", desc := "(II)I" } : Jvm.MethodName) ({ cls := "DarkestDay", name := "shares", desc := "(II)I" } : Jvm.MethodName)) ∈ TB := tz5 160 rfl rfl
theorem w_1226 : (Jvm.Cond.code ({ cls := "DarkestDay", name := "shares", desc := "(II)I" } : Jvm.MethodName) prog_1_method_49_code (5 : Nat) (Option.some Jvm.ClassFile.FieldType.int)) ∈ TB := tz5 161 rfl rfl
theorem w_1227 : (Jvm.Cond.methodLink "DarkestDayLaw" (181 : Nat) ({ cls := "DarkestDay", name := "did", desc := "(II)I" } : Jvm.MethodName)) ∈ TB := tz5 162 rfl rfl
theorem w_1228 : (Jvm.Cond.instanceMethod ({ cls := "DarkestDay", name := "did", desc := "(II)I" } : Jvm.MethodName)) ∈ TB := tz5 163 rfl rfl
theorem w_1229 : (Jvm.Cond.selects "DarkestDay" ({ cls := "DarkestDay", name := "did", desc := "(II)I" } : Jvm.MethodName) ({ cls := "DarkestDay", name := "did", desc := "(II)I" } : Jvm.MethodName)) ∈ TB := tz5 164 rfl rfl
theorem w_1230 : (Jvm.Cond.code ({ cls := "DarkestDay", name := "did", desc := "(II)I" } : Jvm.MethodName) prog_1_method_50_code (3 : Nat) (Option.some Jvm.ClassFile.FieldType.int)) ∈ TB := tz5 165 rfl rfl
theorem w_1231 : (Jvm.Cond.methodLink "DarkestDay" (346 : Nat) ({ cls := "DarkestDay$Course", name := "doersOf", desc := "(II)I" } : Jvm.MethodName)) ∈ TB := tz5 166 rfl rfl
theorem w_1232 : (Jvm.Cond.methodLink "DarkestDayLaw" (185 : Nat) ({ cls := "DarkestDay", name := "all", desc := "(I)I" } : Jvm.MethodName)) ∈ TB := tz5 167 rfl rfl
theorem w_1233 : (Jvm.Cond.instanceMethod ({ cls := "DarkestDay", name := "all", desc := "(I)I" } : Jvm.MethodName)) ∈ TB := tz5 168 rfl rfl
theorem w_1234 : (Jvm.Cond.selects "DarkestDay" ({ cls := "DarkestDay", name := "all", desc := "(I)I" } : Jvm.MethodName) ({ cls := "DarkestDay", name := "all", desc := "(I)I" } : Jvm.MethodName)) ∈ TB := tz5 169 rfl rfl
theorem w_1235 : (Jvm.Cond.code ({ cls := "DarkestDay", name := "all", desc := "(I)I" } : Jvm.MethodName) prog_1_method_51_code (2 : Nat) (Option.some Jvm.ClassFile.FieldType.int)) ∈ TB := tz5 170 rfl rfl
theorem w_1236 : (Jvm.Cond.methodLink "DarkestDay" (349 : Nat) ({ cls := "DarkestDay$State", name := "placeOfMost", desc := "(II)I" } : Jvm.MethodName)) ∈ TB := tz5 171 rfl rfl
theorem w_1237 : (Jvm.Cond.methodLink "DarkestDay" (352 : Nat) ({ cls := "DarkestDay$Port", name := "placeOfMost", desc := "(II)I" } : Jvm.MethodName)) ∈ TB := tz5 172 rfl rfl
theorem w_1238 : (Jvm.Cond.sameMethod "DarkestDay$Port" "DarkestDay$Row" "placeOfMost" "(II)I") ∈ TB := tz5 173 rfl rfl
theorem w_1239 : (Jvm.Cond.selects "DarkestDay$Port" ({ cls := "DarkestDay$Port", name := "placeOfMost", desc := "(II)I" } : Jvm.MethodName) ({ cls := "DarkestDay$Row", name := "placeOfMost", desc := "(II)I" } : Jvm.MethodName)) ∈ TB := tz5 174 rfl rfl
theorem w_1240 : (Jvm.Cond.methodLink "DarkestDay" (353 : Nat) ({ cls := "DarkestDay$Port", name := "kinds", desc := "()I" } : Jvm.MethodName)) ∈ TB := tz5 175 rfl rfl
theorem w_1241 : (Jvm.Cond.methodLink "DarkestDay" (356 : Nat) ({ cls := "DarkestDay$State", name := "upBits", desc := "(I)I" } : Jvm.MethodName)) ∈ TB := tz5 176 rfl rfl
theorem w_1242 : (Jvm.Cond.methodLink "DarkestDay" (359 : Nat) ({ cls := "DarkestDay$Course", name := "idle", desc := "(LDarkestDay$State;)I" } : Jvm.MethodName)) ∈ TB := tz5 177 rfl rfl
theorem w_1243 : (Jvm.Cond.instanceMethod ({ cls := "DarkestDay$Course", name := "idle", desc := "(LDarkestDay$State;)I" } : Jvm.MethodName)) ∈ TB := tz5 178 rfl rfl
theorem w_1244 : (Jvm.Cond.selects "DarkestDay$Course" ({ cls := "DarkestDay$Course", name := "idle", desc := "(LDarkestDay$State;)I" } : Jvm.MethodName) ({ cls := "DarkestDay$Course", name := "idle", desc := "(LDarkestDay$State;)I" } : Jvm.MethodName)) ∈ TB := tz5 179 rfl rfl
theorem w_1245 : (Jvm.Cond.code ({ cls := "DarkestDay$Course", name := "idle", desc := "(LDarkestDay$State;)I" } : Jvm.MethodName) prog_3_method_6_code (6 : Nat) (Option.some Jvm.ClassFile.FieldType.int)) ∈ TB := tz5 180 rfl rfl
theorem w_1246 : (Jvm.Cond.methodLink "DarkestDay$Course" (87 : Nat) ({ cls := "DarkestDay$Course", name := "lightOf", desc := "(LDarkestDay$State;I)I" } : Jvm.MethodName)) ∈ TB := tz5 181 rfl rfl
theorem w_1247 : (Jvm.Cond.methodLink "DarkestDay" (362 : Nat) ({ cls := "DarkestDay$State", name := "darkestOver", desc := "()I" } : Jvm.MethodName)) ∈ TB := tz5 182 rfl rfl
theorem w_1248 : (Jvm.Cond.methodLink "DarkestDay" (365 : Nat) ({ cls := "DarkestDay$Outlook", name := "swayed", desc := "(LDarkestDay$State;)I" } : Jvm.MethodName)) ∈ TB := tz5 183 rfl rfl
theorem w_1249 : (Jvm.Cond.instanceMethod ({ cls := "DarkestDay$Outlook", name := "swayed", desc := "(LDarkestDay$State;)I" } : Jvm.MethodName)) ∈ TB := tz5 184 rfl rfl
theorem w_1250 : (Jvm.Cond.selects "DarkestDay$Outlook" ({ cls := "DarkestDay$Outlook", name := "swayed", desc := "(LDarkestDay$State;)I" } : Jvm.MethodName) ({ cls := "DarkestDay$Outlook", name := "swayed", desc := "(LDarkestDay$State;)I" } : Jvm.MethodName)) ∈ TB := tz5 185 rfl rfl
theorem w_1251 : (Jvm.Cond.code ({ cls := "DarkestDay$Outlook", name := "swayed", desc := "(LDarkestDay$State;)I" } : Jvm.MethodName) prog_7_method_5_code (4 : Nat) (Option.some Jvm.ClassFile.FieldType.int)) ∈ TB := tz5 186 rfl rfl
theorem w_1252 : (Jvm.Cond.methodLink "DarkestDayLaw" (189 : Nat) ({ cls := "DarkestDay", name := "image", desc := "()I" } : Jvm.MethodName)) ∈ TB := tz5 187 rfl rfl
theorem w_1253 : (Jvm.Cond.instanceMethod ({ cls := "DarkestDay", name := "image", desc := "()I" } : Jvm.MethodName)) ∈ TB := tz5 188 rfl rfl
theorem w_1254 : (Jvm.Cond.selects "DarkestDay" ({ cls := "DarkestDay", name := "image", desc := "()I" } : Jvm.MethodName) ({ cls := "DarkestDay", name := "image", desc := "()I" } : Jvm.MethodName)) ∈ TB := tz5 189 rfl rfl
theorem w_1255 : (Jvm.Cond.code ({ cls := "DarkestDay", name := "image", desc := "()I" } : Jvm.MethodName) prog_1_method_52_code (1 : Nat) (Option.some Jvm.ClassFile.FieldType.int)) ∈ TB := tz5 190 rfl rfl
theorem w_1256 : (Jvm.Cond.methodLink "DarkestDay" (368 : Nat) ({ cls := "DarkestDay$State", name := "copy", desc := "(LDarkestDay$Row;)V" } : Jvm.MethodName)) ∈ TB := tz5 191 rfl rfl
theorem w_1257 : (Jvm.Cond.methodLink "DarkestDayLaw" (193 : Nat) ({ cls := "DarkestDay", name := "back", desc := "()I" } : Jvm.MethodName)) ∈ TB := tz5 192 rfl rfl
theorem w_1258 : (Jvm.Cond.instanceMethod ({ cls := "DarkestDay", name := "back", desc := "()I" } : Jvm.MethodName)) ∈ TB := tz5 193 rfl rfl
theorem w_1259 : (Jvm.Cond.selects "DarkestDay" ({ cls := "DarkestDay", name := "back", desc := "()I" } : Jvm.MethodName) ({ cls := "DarkestDay", name := "back", desc := "()I" } : Jvm.MethodName)) ∈ TB := tz5 194 rfl rfl
theorem w_1260 : (Jvm.Cond.code ({ cls := "DarkestDay", name := "back", desc := "()I" } : Jvm.MethodName) prog_1_method_53_code (1 : Nat) (Option.some Jvm.ClassFile.FieldType.int)) ∈ TB := tz5 195 rfl rfl
theorem w_1261 : (Jvm.Cond.methodLink "DarkestDayLaw" (197 : Nat) ({ cls := "DarkestDay", name := "count", desc := "(I)I" } : Jvm.MethodName)) ∈ TB := tz5 196 rfl rfl
theorem w_1262 : (Jvm.Cond.instanceMethod ({ cls := "DarkestDay", name := "count", desc := "(I)I" } : Jvm.MethodName)) ∈ TB := tz5 197 rfl rfl
theorem w_1263 : (Jvm.Cond.selects "DarkestDay" ({ cls := "DarkestDay", name := "count", desc := "(I)I" } : Jvm.MethodName) ({ cls := "DarkestDay", name := "count", desc := "(I)I" } : Jvm.MethodName)) ∈ TB := tz5 198 rfl rfl
theorem w_1264 : (Jvm.Cond.code ({ cls := "DarkestDay", name := "count", desc := "(I)I" } : Jvm.MethodName) prog_1_method_54_code (2 : Nat) (Option.some Jvm.ClassFile.FieldType.int)) ∈ TB := tz5 199 rfl rfl
theorem w_1268 : (Jvm.Cond.classLink "DarkestDayLaw" (13 : Nat) "java/util/NoSuchElementException") ∈ TB := tz5 203 rfl rfl
theorem w_1269 : (Jvm.Cond.methodLink "DarkestDayLaw" (7 : Nat) ({ cls := "DarkestDay", name := "person", desc := "(II)I" } : Jvm.MethodName)) ∈ TB := tz5 204 rfl rfl
theorem w_1270 : (Jvm.Cond.instanceMethod ({ cls := "DarkestDay", name := "person", desc := "(II)I" } : Jvm.MethodName)) ∈ TB := tz5 205 rfl rfl
theorem w_1271 : (Jvm.Cond.selects "DarkestDay" ({ cls := "DarkestDay", name := "person", desc := "(II)I" } : Jvm.MethodName) ({ cls := "DarkestDay", name := "person", desc := "(II)I" } : Jvm.MethodName)) ∈ TB := tz5 206 rfl rfl
theorem w_1272 : (Jvm.Cond.code ({ cls := "DarkestDay", name := "person", desc := "(II)I" } : Jvm.MethodName) prog_1_method_13_code (3 : Nat) (Option.some Jvm.ClassFile.FieldType.int)) ∈ TB := tz5 207 rfl rfl
theorem w_1273 : (Jvm.Cond.classLink "DarkestDay" (192 : Nat) "java/util/NoSuchElementException") ∈ TB := tz5 208 rfl rfl
theorem w_1334 : (Jvm.Cond.classLink "DarkestDayLaw" (16 : Nat) "DarkestDayModel") ∈ TB := tz6 29 rfl rfl
theorem w_1335 : (Jvm.Cond.instantiable "DarkestDayModel" (52 : Nat)) ∈ TB := tz6 30 rfl rfl
theorem w_1336 : (Jvm.Cond.methodLink "DarkestDayLaw" (18 : Nat) ({ cls := "DarkestDayModel", name := "<init>", desc := "()V" } : Jvm.MethodName)) ∈ TB := tz6 31 rfl rfl
theorem w_1337 : (Jvm.Cond.instanceMethod ({ cls := "DarkestDayModel", name := "<init>", desc := "()V" } : Jvm.MethodName)) ∈ TB := tz6 32 rfl rfl
theorem w_1338 : (Jvm.Cond.code ({ cls := "DarkestDayModel", name := "<init>", desc := "()V" } : Jvm.MethodName) prog_14_method_1_code (1 : Nat) (Option.none : Option Jvm.ClassFile.FieldType)) ∈ TB := tz6 33 rfl rfl
theorem w_1339 : (Jvm.Cond.methodLink "DarkestDayModel" (3 : Nat) ({ cls := "java/lang/Object", name := "<init>", desc := "()V" } : Jvm.MethodName)) ∈ TB := tz6 34 rfl rfl
theorem w_1342 : (Jvm.Cond.fieldLink "DarkestDayModel" (109 : Nat) "DarkestDayModel" "thrown" "I") ∈ TB := tz6 37 rfl rfl
theorem w_1343 : (Jvm.Cond.fieldLink "DarkestDayModel" (9 : Nat) "DarkestDayModel" "tape" "[B") ∈ TB := tz6 38 rfl rfl
theorem w_1344 : (Jvm.Cond.fieldLink "DarkestDayModel" (13 : Nat) "DarkestDayModel" "texts" "[B") ∈ TB := tz6 39 rfl rfl
theorem w_1345 : (Jvm.Cond.fieldLink "DarkestDayModel" (16 : Nat) "DarkestDayModel" "textLong" "[I") ∈ TB := tz6 40 rfl rfl
theorem w_1346 : (Jvm.Cond.fieldLink "DarkestDayModel" (20 : Nat) "DarkestDayModel" "letters" "[I") ∈ TB := tz6 41 rfl rfl
theorem w_1347 : (Jvm.Cond.fieldLink "DarkestDayModel" (23 : Nat) "DarkestDayModel" "text" "[B") ∈ TB := tz6 42 rfl rfl
theorem w_1348 : (Jvm.Cond.fieldLink "DarkestDayModel" (122 : Nat) "DarkestDayModel" "length" "I") ∈ TB := tz6 43 rfl rfl
theorem w_1349 : (Jvm.Cond.fieldLink "DarkestDayModel" (296 : Nat) "DarkestDayModel" "lawMany" "I") ∈ TB := tz6 44 rfl rfl
theorem w_1350 : (Jvm.Cond.fieldLink "DarkestDayModel" (138 : Nat) "DarkestDayModel" "begins" "I") ∈ TB := tz6 45 rfl rfl
theorem w_1351 : (Jvm.Cond.fieldLink "DarkestDayModel" (135 : Nat) "DarkestDayModel" "ends" "I") ∈ TB := tz6 46 rfl rfl
theorem w_1352 : (Jvm.Cond.fieldLink "DarkestDayModel" (132 : Nat) "DarkestDayModel" "at" "I") ∈ TB := tz6 47 rfl rfl
theorem w_1353 : (Jvm.Cond.fieldLink "DarkestDayModel" (141 : Nat) "DarkestDayModel" "fault" "I") ∈ TB := tz6 48 rfl rfl
theorem w_1354 : (Jvm.Cond.fieldLink "DarkestDayModel" (144 : Nat) "DarkestDayModel" "deep" "I") ∈ TB := tz6 49 rfl rfl
theorem w_1355 : (Jvm.Cond.fieldLink "DarkestDayModel" (214 : Nat) "DarkestDayModel" "label" "I") ∈ TB := tz6 50 rfl rfl
theorem w_1356 : (Jvm.Cond.fieldLink "DarkestDayModel" (217 : Nat) "DarkestDayModel" "found" "I") ∈ TB := tz6 51 rfl rfl
theorem w_1357 : (Jvm.Cond.fieldLink "DarkestDayModel" (28 : Nat) "DarkestDayModel" "labels" "Ljava/lang/String;") ∈ TB := tz6 52 rfl rfl
theorem w_1358 : (Jvm.Cond.fieldLink "DarkestDayModel" (34 : Nat) "DarkestDayModel" "allowed" "Ljava/lang/String;") ∈ TB := tz6 53 rfl rfl
theorem w_1359 : (Jvm.Cond.fieldLink "DarkestDayModel" (210 : Nat) "DarkestDayModel" "hasFound" "Z") ∈ TB := tz6 54 rfl rfl
theorem w_1360 : (Jvm.Cond.fieldLink "DarkestDayModel" (37 : Nat) "DarkestDayModel" "rule" "[I") ∈ TB := tz6 55 rfl rfl
theorem w_1361 : (Jvm.Cond.fieldLink "DarkestDayModel" (40 : Nat) "DarkestDayModel" "ruleRead" "[I") ∈ TB := tz6 56 rfl rfl
theorem w_1362 : (Jvm.Cond.fieldLink "DarkestDayModel" (43 : Nat) "DarkestDayModel" "kindTold" "[I") ∈ TB := tz6 57 rfl rfl
theorem w_1363 : (Jvm.Cond.fieldLink "DarkestDayModel" (46 : Nat) "DarkestDayModel" "kindRead" "[I") ∈ TB := tz6 58 rfl rfl
theorem w_1364 : (Jvm.Cond.fieldLink "DarkestDayModel" (49 : Nat) "DarkestDayModel" "folk" "[I") ∈ TB := tz6 59 rfl rfl
theorem w_1365 : (Jvm.Cond.fieldLink "DarkestDayModel" (52 : Nat) "DarkestDayModel" "folkRead" "[I") ∈ TB := tz6 60 rfl rfl
theorem w_1366 : (Jvm.Cond.fieldLink "DarkestDayModel" (55 : Nat) "DarkestDayModel" "plan" "[I") ∈ TB := tz6 61 rfl rfl
theorem w_1367 : (Jvm.Cond.fieldLink "DarkestDayModel" (58 : Nat) "DarkestDayModel" "planLong" "[I") ∈ TB := tz6 62 rfl rfl
theorem w_1368 : (Jvm.Cond.fieldLink "DarkestDayModel" (304 : Nat) "DarkestDayModel" "kinds" "I") ∈ TB := tz6 63 rfl rfl
theorem w_1369 : (Jvm.Cond.fieldLink "DarkestDayModel" (307 : Nat) "DarkestDayModel" "people" "I") ∈ TB := tz6 64 rfl rfl
theorem w_1370 : (Jvm.Cond.fieldLink "DarkestDayModel" (255 : Nat) "DarkestDayModel" "kindsRead" "I") ∈ TB := tz6 65 rfl rfl
theorem w_1371 : (Jvm.Cond.fieldLink "DarkestDayModel" (258 : Nat) "DarkestDayModel" "peopleRead" "I") ∈ TB := tz6 66 rfl rfl
theorem w_1372 : (Jvm.Cond.fieldLink "DarkestDayModel" (299 : Nat) "DarkestDayModel" "plans" "I") ∈ TB := tz6 67 rfl rfl
theorem w_1373 : (Jvm.Cond.fieldLink "DarkestDayModel" (252 : Nat) "DarkestDayModel" "hasRules" "Z") ∈ TB := tz6 68 rfl rfl
theorem w_1374 : (Jvm.Cond.fieldLink "DarkestDayModel" (61 : Nat) "DarkestDayModel" "now" "[I") ∈ TB := tz6 69 rfl rfl
theorem w_1375 : (Jvm.Cond.fieldLink "DarkestDayModel" (64 : Nat) "DarkestDayModel" "trial" "[I") ∈ TB := tz6 70 rfl rfl
theorem w_1376 : (Jvm.Cond.fieldLink "DarkestDayModel" (67 : Nat) "DarkestDayModel" "status" "[I") ∈ TB := tz6 71 rfl rfl
theorem w_1377 : (Jvm.Cond.fieldLink "DarkestDayModel" (70 : Nat) "DarkestDayModel" "law" "I") ∈ TB := tz6 72 rfl rfl
theorem w_1378 : (Jvm.Cond.fieldLink "DarkestDayModel" (74 : Nat) "DarkestDayModel" "whimsical" "I") ∈ TB := tz6 73 rfl rfl
theorem w_1379 : (Jvm.Cond.fieldLink "DarkestDayModel" (77 : Nat) "DarkestDayModel" "memoKey" "[J") ∈ TB := tz6 74 rfl rfl
theorem w_1380 : (Jvm.Cond.fieldLink "DarkestDayModel" (81 : Nat) "DarkestDayModel" "memoWorth" "[I") ∈ TB := tz6 75 rfl rfl
theorem w_1381 : (Jvm.Cond.fieldLink "DarkestDayModel" (362 : Nat) "DarkestDayModel" "ruler" "I") ∈ TB := tz6 76 rfl rfl
theorem w_1382 : (Jvm.Cond.fieldLink "DarkestDayModel" (84 : Nat) "DarkestDayModel" "undoRow" "[I") ∈ TB := tz6 77 rfl rfl
theorem w_1383 : (Jvm.Cond.fieldLink "DarkestDayModel" (317 : Nat) "DarkestDayModel" "acts" "I") ∈ TB := tz6 78 rfl rfl
theorem w_1384 : (Jvm.Cond.fieldLink "DarkestDayModel" (416 : Nat) "DarkestDayModel" "x" "J") ∈ TB := tz6 79 rfl rfl
theorem w_1385 : (Jvm.Cond.fieldLink "DarkestDayModel" (87 : Nat) "DarkestDayModel" "past" "[I") ∈ TB := tz6 80 rfl rfl
theorem w_1386 : (Jvm.Cond.fieldLink "DarkestDayModel" (90 : Nat) "DarkestDayModel" "sight" "[I") ∈ TB := tz6 81 rfl rfl
theorem w_1387 : (Jvm.Cond.fieldLink "DarkestDayModel" (314 : Nat) "DarkestDayModel" "sights" "I") ∈ TB := tz6 82 rfl rfl
theorem w_1388 : (Jvm.Cond.fieldLink "DarkestDayModel" (93 : Nat) "DarkestDayModel" "rich" "[I") ∈ TB := tz6 83 rfl rfl
theorem w_1389 : (Jvm.Cond.fieldLink "DarkestDayModel" (96 : Nat) "DarkestDayModel" "isLikely" "[Z") ∈ TB := tz6 84 rfl rfl
theorem w_1390 : (Jvm.Cond.fieldLink "DarkestDayModel" (100 : Nat) "DarkestDayModel" "gains" "[I") ∈ TB := tz6 85 rfl rfl
theorem w_1391 : (Jvm.Cond.fieldLink "DarkestDayModel" (103 : Nat) "DarkestDayModel" "lights" "[I") ∈ TB := tz6 86 rfl rfl
theorem w_1392 : (Jvm.Cond.fieldLink "DarkestDayModel" (106 : Nat) "DarkestDayModel" "imageRow" "[I") ∈ TB := tz6 87 rfl rfl
theorem w_1393 : (Jvm.Cond.fieldLink "DarkestDayModel" (320 : Nat) "DarkestDayModel" "hasImage" "Z") ∈ TB := tz6 88 rfl rfl
theorem w_1499 : (Jvm.Cond.arrayClass Jvm.ClassFile.FieldType.byte) ∈ TB := tz6 194 rfl rfl
theorem w_1500 : (Jvm.Cond.arrayClass Jvm.ClassFile.FieldType.long) ∈ TB := tz6 195 rfl rfl
theorem w_1501 : (Jvm.Cond.arrayClass Jvm.ClassFile.FieldType.boolean) ∈ TB := tz6 196 rfl rfl
theorem w_1502 : (Jvm.Cond.methodLink "DarkestDayLaw" (48 : Nat) ({ cls := "DarkestDayModel", name := "thrown", desc := "()I" } : Jvm.MethodName)) ∈ TB := tz6 197 rfl rfl
theorem w_1503 : (Jvm.Cond.instanceMethod ({ cls := "DarkestDayModel", name := "thrown", desc := "()I" } : Jvm.MethodName)) ∈ TB := tz6 198 rfl rfl
theorem w_1504 : (Jvm.Cond.selects "DarkestDayModel" ({ cls := "DarkestDayModel", name := "thrown", desc := "()I" } : Jvm.MethodName) ({ cls := "DarkestDayModel", name := "thrown", desc := "()I" } : Jvm.MethodName)) ∈ TB := tz6 199 rfl rfl
theorem w_1505 : (Jvm.Cond.code ({ cls := "DarkestDayModel", name := "thrown", desc := "()I" } : Jvm.MethodName) prog_14_method_2_code (1 : Nat) (Option.some Jvm.ClassFile.FieldType.int)) ∈ TB := tz6 200 rfl rfl
theorem w_1506 : (Jvm.Cond.methodLink "DarkestDayLaw" (23 : Nat) ({ cls := "DarkestDayModel", name := "feed", desc := "(IIIII)I" } : Jvm.MethodName)) ∈ TB := tz6 201 rfl rfl
theorem w_1507 : (Jvm.Cond.instanceMethod ({ cls := "DarkestDayModel", name := "feed", desc := "(IIIII)I" } : Jvm.MethodName)) ∈ TB := tz6 202 rfl rfl
theorem w_1508 : (Jvm.Cond.selects "DarkestDayModel" ({ cls := "DarkestDayModel", name := "feed", desc := "(IIIII)I" } : Jvm.MethodName) ({ cls := "DarkestDayModel", name := "feed", desc := "(IIIII)I" } : Jvm.MethodName)) ∈ TB := tz6 203 rfl rfl
theorem w_1509 : (Jvm.Cond.code ({ cls := "DarkestDayModel", name := "feed", desc := "(IIIII)I" } : Jvm.MethodName) prog_14_method_8_code (6 : Nat) (Option.some Jvm.ClassFile.FieldType.int)) ∈ TB := tz6 204 rfl rfl
theorem w_1510 : (Jvm.Cond.methodLink "DarkestDayModel" (124 : Nat) ({ cls := "DarkestDayModel", name := "bytesIn", desc := "(I)I" } : Jvm.MethodName)) ∈ TB := tz6 205 rfl rfl
theorem w_1511 : (Jvm.Cond.static ({ cls := "DarkestDayModel", name := "bytesIn", desc := "(I)I" } : Jvm.MethodName)) ∈ TB := tz6 206 rfl rfl
theorem w_1512 : (Jvm.Cond.code ({ cls := "DarkestDayModel", name := "bytesIn", desc := "(I)I" } : Jvm.MethodName) prog_14_method_6_code (3 : Nat) (Option.some Jvm.ClassFile.FieldType.int)) ∈ TB := tz6 207 rfl rfl
theorem w_1513 : (Jvm.Cond.methodLink "DarkestDayModel" (128 : Nat) ({ cls := "DarkestDayModel", name := "put", desc := "(I)V" } : Jvm.MethodName)) ∈ TB := tz6 208 rfl rfl
theorem w_1515 : (Jvm.Cond.instanceMethod ({ cls := "DarkestDayModel", name := "put", desc := "(I)V" } : Jvm.MethodName)) ∈ TB := tz6 210 rfl rfl
theorem w_1516 : (Jvm.Cond.code ({ cls := "DarkestDayModel", name := "put", desc := "(I)V" } : Jvm.MethodName) prog_14_method_7_code (3 : Nat) (Option.none : Option Jvm.ClassFile.FieldType)) ∈ TB := tz6 211 rfl rfl
theorem w_1517 : (Jvm.Cond.methodLink "DarkestDayLaw" (28 : Nat) ({ cls := "DarkestDayModel", name := "end", desc := "(I)Z" } : Jvm.MethodName)) ∈ TB := tz6 212 rfl rfl
theorem w_1518 : (Jvm.Cond.instanceMethod ({ cls := "DarkestDayModel", name := "end", desc := "(I)Z" } : Jvm.MethodName)) ∈ TB := tz6 213 rfl rfl
theorem w_1519 : (Jvm.Cond.selects "DarkestDayModel" ({ cls := "DarkestDayModel", name := "end", desc := "(I)Z" } : Jvm.MethodName) ({ cls := "DarkestDayModel", name := "end", desc := "(I)Z" } : Jvm.MethodName)) ∈ TB := tz6 214 rfl rfl
theorem w_1520 : (Jvm.Cond.code ({ cls := "DarkestDayModel", name := "end", desc := "(I)Z" } : Jvm.MethodName) prog_14_method_9_code (2 : Nat) (Option.some Jvm.ClassFile.FieldType.boolean)) ∈ TB := tz6 215 rfl rfl
theorem w_1521 : (Jvm.Cond.methodLink "DarkestDayLaw" (33 : Nat) ({ cls := "DarkestDayModel", name := "fault", desc := "(I)I" } : Jvm.MethodName)) ∈ TB := tz6 216 rfl rfl
theorem w_1522 : (Jvm.Cond.instanceMethod ({ cls := "DarkestDayModel", name := "fault", desc := "(I)I" } : Jvm.MethodName)) ∈ TB := tz6 217 rfl rfl
theorem w_1523 : (Jvm.Cond.selects "DarkestDayModel" ({ cls := "DarkestDayModel", name := "fault", desc := "(I)I" } : Jvm.MethodName) ({ cls := "DarkestDayModel", name := "fault", desc := "(I)I" } : Jvm.MethodName)) ∈ TB := tz6 218 rfl rfl
theorem w_1524 : (Jvm.Cond.code ({ cls := "DarkestDayModel", name := "fault", desc := "(I)I" } : Jvm.MethodName) prog_14_method_39_code (2 : Nat) (Option.some Jvm.ClassFile.FieldType.int)) ∈ TB := tz6 219 rfl rfl
theorem w_1525 : (Jvm.Cond.constantLong "DarkestDayModel" (285 : Nat) (2 : Int64)) ∈ TB := tz6 220 rfl rfl
theorem w_1526 : (Jvm.Cond.methodLink "DarkestDayModel" (230 : Nat) ({ cls := "DarkestDayModel", name := "isIn", desc := "(JJJ)Z" } : Jvm.MethodName)) ∈ TB := tz6 221 rfl rfl
theorem w_1527 : (Jvm.Cond.static ({ cls := "DarkestDayModel", name := "isIn", desc := "(JJJ)Z" } : Jvm.MethodName)) ∈ TB := tz6 222 rfl rfl
theorem w_1528 : (Jvm.Cond.code ({ cls := "DarkestDayModel", name := "isIn", desc := "(JJJ)Z" } : Jvm.MethodName) prog_14_method_3_code (6 : Nat) (Option.some Jvm.ClassFile.FieldType.boolean)) ∈ TB := tz6 223 rfl rfl
theorem w_1529 : (Jvm.Cond.methodLink "DarkestDayModel" (287 : Nat) ({ cls := "DarkestDayModel", name := "readPort", desc := "()V" } : Jvm.MethodName)) ∈ TB := tz6 224 rfl rfl
theorem w_1531 : (Jvm.Cond.instanceMethod ({ cls := "DarkestDayModel", name := "readPort", desc := "()V" } : Jvm.MethodName)) ∈ TB := tz6 226 rfl rfl
theorem w_1532 : (Jvm.Cond.code ({ cls := "DarkestDayModel", name := "readPort", desc := "()V" } : Jvm.MethodName) prog_14_method_35_code (2 : Nat) (Option.none : Option Jvm.ClassFile.FieldType)) ∈ TB := tz6 227 rfl rfl
theorem w_1533 : (Jvm.Cond.methodLink "DarkestDayModel" (220 : Nat) ({ cls := "DarkestDayModel", name := "starts", desc := "([BII)V" } : Jvm.MethodName)) ∈ TB := tz6 228 rfl rfl
theorem w_1535 : (Jvm.Cond.instanceMethod ({ cls := "DarkestDayModel", name := "starts", desc := "([BII)V" } : Jvm.MethodName)) ∈ TB := tz6 230 rfl rfl
theorem w_1536 : (Jvm.Cond.code ({ cls := "DarkestDayModel", name := "starts", desc := "([BII)V" } : Jvm.MethodName) prog_14_method_25_code (4 : Nat) (Option.none : Option Jvm.ClassFile.FieldType)) ∈ TB := tz6 231 rfl rfl
theorem w_1537 : (Jvm.Cond.methodLink "DarkestDayModel" (234 : Nat) ({ cls := "DarkestDayModel", name := "usual", desc := "(II)I" } : Jvm.MethodName)) ∈ TB := tz6 232 rfl rfl
theorem w_1538 : (Jvm.Cond.static ({ cls := "DarkestDayModel", name := "usual", desc := "(II)I" } : Jvm.MethodName)) ∈ TB := tz6 233 rfl rfl
theorem w_1539 : (Jvm.Cond.code ({ cls := "DarkestDayModel", name := "usual", desc := "(II)I" } : Jvm.MethodName) prog_14_method_31_code (2 : Nat) (Option.some Jvm.ClassFile.FieldType.int)) ∈ TB := tz6 234 rfl rfl
theorem w_1540 : (Jvm.Cond.methodLink "DarkestDayModel" (271 : Nat) ({ cls := "DarkestDayModel", name := "readClause", desc := "()V" } : Jvm.MethodName)) ∈ TB := tz6 235 rfl rfl
theorem w_1542 : (Jvm.Cond.instanceMethod ({ cls := "DarkestDayModel", name := "readClause", desc := "()V" } : Jvm.MethodName)) ∈ TB := tz6 237 rfl rfl
theorem w_1543 : (Jvm.Cond.code ({ cls := "DarkestDayModel", name := "readClause", desc := "()V" } : Jvm.MethodName) prog_14_method_33_code (3 : Nat) (Option.none : Option Jvm.ClassFile.FieldType)) ∈ TB := tz6 238 rfl rfl
theorem w_1544 : (Jvm.Cond.methodLink "DarkestDayModel" (151 : Nat) ({ cls := "DarkestDayModel", name := "look", desc := "()I" } : Jvm.MethodName)) ∈ TB := tz6 239 rfl rfl
theorem w_1546 : (Jvm.Cond.instanceMethod ({ cls := "DarkestDayModel", name := "look", desc := "()I" } : Jvm.MethodName)) ∈ TB := tz7 1 rfl rfl
theorem w_1547 : (Jvm.Cond.code ({ cls := "DarkestDayModel", name := "look", desc := "()I" } : Jvm.MethodName) prog_14_method_10_code (1 : Nat) (Option.some Jvm.ClassFile.FieldType.int)) ∈ TB := tz7 2 rfl rfl
theorem w_1548 : (Jvm.Cond.methodLink "DarkestDayModel" (147 : Nat) ({ cls := "DarkestDayModel", name := "fails", desc := "()Z" } : Jvm.MethodName)) ∈ TB := tz7 3 rfl rfl
theorem w_1550 : (Jvm.Cond.instanceMethod ({ cls := "DarkestDayModel", name := "fails", desc := "()Z" } : Jvm.MethodName)) ∈ TB := tz7 5 rfl rfl
theorem w_1551 : (Jvm.Cond.code ({ cls := "DarkestDayModel", name := "fails", desc := "()Z" } : Jvm.MethodName) prog_14_method_11_code (1 : Nat) (Option.some Jvm.ClassFile.FieldType.boolean)) ∈ TB := tz7 6 rfl rfl
theorem w_1553 : (Jvm.Cond.methodLink "DarkestDayModel" (263 : Nat) ({ cls := "DarkestDayModel", name := "readItems", desc := "(I[IILjava/lang/String;)V" } : Jvm.MethodName)) ∈ TB := tz7 8 rfl rfl
theorem w_1555 : (Jvm.Cond.instanceMethod ({ cls := "DarkestDayModel", name := "readItems", desc := "(I[IILjava/lang/String;)V" } : Jvm.MethodName)) ∈ TB := tz7 10 rfl rfl
theorem w_1556 : (Jvm.Cond.code ({ cls := "DarkestDayModel", name := "readItems", desc := "(I[IILjava/lang/String;)V" } : Jvm.MethodName) prog_14_method_32_code (7 : Nat) (Option.none : Option Jvm.ClassFile.FieldType)) ∈ TB := tz7 11 rfl rfl
theorem w_1557 : (Jvm.Cond.methodLink "DarkestDayModel" (112 : Nat) ({ cls := "java/lang/String", name := "length", desc := "()I" } : Jvm.MethodName)) ∈ TB := tz7 12 rfl rfl
theorem w_1558 : (Jvm.Cond.instanceMethod ({ cls := "java/lang/String", name := "length", desc := "()I" } : Jvm.MethodName)) ∈ TB := tz7 13 rfl rfl
theorem w_1559 : (Jvm.Cond.selects "java/lang/String" ({ cls := "java/lang/String", name := "length", desc := "()I" } : Jvm.MethodName) ({ cls := "java/lang/String", name := "length", desc := "()I" } : Jvm.MethodName)) ∈ TB := tz7 14 rfl rfl
theorem w_1560 : (Jvm.Cond.code ({ cls := "java/lang/String", name := "length", desc := "()I" } : Jvm.MethodName) prog_22_method_54_code (1 : Nat) (Option.some Jvm.ClassFile.FieldType.int)) ∈ TB := tz7 15 rfl rfl
theorem w_1561 : (Jvm.Cond.methodLink "java/lang/String" (335 : Nat) ({ cls := "java/lang/String", name := "coder", desc := "()B" } : Jvm.MethodName)) ∈ TB := tz7 16 rfl rfl
theorem w_1562 : (Jvm.Cond.instanceMethod ({ cls := "java/lang/String", name := "coder", desc := "()B" } : Jvm.MethodName)) ∈ TB := tz7 17 rfl rfl
theorem w_1563 : (Jvm.Cond.selects "java/lang/String" ({ cls := "java/lang/String", name := "coder", desc := "()B" } : Jvm.MethodName) ({ cls := "java/lang/String", name := "coder", desc := "()B" } : Jvm.MethodName)) ∈ TB := tz7 18 rfl rfl
theorem w_1564 : (Jvm.Cond.code ({ cls := "java/lang/String", name := "coder", desc := "()B" } : Jvm.MethodName) prog_22_method_152_code (1 : Nat) (Option.some Jvm.ClassFile.FieldType.byte)) ∈ TB := tz7 19 rfl rfl
theorem w_1565 : (Jvm.Cond.fieldLink "java/lang/String" (38 : Nat) "java/lang/String" "COMPACT_STRINGS" "Z") ∈ TB := tz7 20 rfl rfl
theorem w_1567 : (Jvm.Cond.methodLink "DarkestDayModel" (238 : Nat) ({ cls := "DarkestDayModel", name := "spotOf", desc := "(Ljava/lang/String;I)I" } : Jvm.MethodName)) ∈ TB := tz7 22 rfl rfl
theorem w_1568 : (Jvm.Cond.static ({ cls := "DarkestDayModel", name := "spotOf", desc := "(Ljava/lang/String;I)I" } : Jvm.MethodName)) ∈ TB := tz7 23 rfl rfl
theorem w_1569 : (Jvm.Cond.code ({ cls := "DarkestDayModel", name := "spotOf", desc := "(Ljava/lang/String;I)I" } : Jvm.MethodName) prog_14_method_28_code (3 : Nat) (Option.some Jvm.ClassFile.FieldType.int)) ∈ TB := tz7 24 rfl rfl
theorem w_1570 : (Jvm.Cond.methodLink "DarkestDayModel" (118 : Nat) ({ cls := "java/lang/String", name := "charAt", desc := "(I)C" } : Jvm.MethodName)) ∈ TB := tz7 25 rfl rfl
theorem w_1571 : (Jvm.Cond.instanceMethod ({ cls := "java/lang/String", name := "charAt", desc := "(I)C" } : Jvm.MethodName)) ∈ TB := tz7 26 rfl rfl
theorem w_1572 : (Jvm.Cond.selects "java/lang/String" ({ cls := "java/lang/String", name := "charAt", desc := "(I)C" } : Jvm.MethodName) ({ cls := "java/lang/String", name := "charAt", desc := "(I)C" } : Jvm.MethodName)) ∈ TB := tz7 27 rfl rfl
theorem w_1573 : (Jvm.Cond.code ({ cls := "java/lang/String", name := "charAt", desc := "(I)C" } : Jvm.MethodName) prog_22_method_56_code (2 : Nat) (Option.some Jvm.ClassFile.FieldType.char)) ∈ TB := tz7 28 rfl rfl
theorem w_1574 : (Jvm.Cond.methodLink "java/lang/String" (492 : Nat) ({ cls := "java/lang/String", name := "isLatin1", desc := "()Z" } : Jvm.MethodName)) ∈ TB := tz7 29 rfl rfl
theorem w_1575 : (Jvm.Cond.instanceMethod ({ cls := "java/lang/String", name := "isLatin1", desc := "()Z" } : Jvm.MethodName)) ∈ TB := tz7 30 rfl rfl
theorem w_1576 : (Jvm.Cond.selects "java/lang/String" ({ cls := "java/lang/String", name := "isLatin1", desc := "()Z" } : Jvm.MethodName) ({ cls := "java/lang/String", name := "isLatin1", desc := "()Z" } : Jvm.MethodName)) ∈ TB := tz7 31 rfl rfl
theorem w_1577 : (Jvm.Cond.code ({ cls := "java/lang/String", name := "isLatin1", desc := "()Z" } : Jvm.MethodName) prog_22_method_154_code (1 : Nat) (Option.some Jvm.ClassFile.FieldType.boolean)) ∈ TB := tz7 32 rfl rfl
theorem w_1578 : (Jvm.Cond.methodLink "java/lang/String" (495 : Nat) ({ cls := "java/lang/StringLatin1", name := "charAt", desc := "([BI)C" } : Jvm.MethodName)) ∈ TB := tz7 33 rfl rfl
theorem w_1579 : (Jvm.Cond.static ({ cls := "java/lang/StringLatin1", name := "charAt", desc := "([BI)C" } : Jvm.MethodName)) ∈ TB := tz7 34 rfl rfl
theorem w_1580 : (Jvm.Cond.code ({ cls := "java/lang/StringLatin1", name := "charAt", desc := "([BI)C" } : Jvm.MethodName) prog_23_method_2_code (2 : Nat) (Option.some Jvm.ClassFile.FieldType.char)) ∈ TB := tz7 35 rfl rfl
theorem w_1581 : (Jvm.Cond.methodLink "java/lang/StringLatin1" (9 : Nat) ({ cls := "java/lang/String", name := "checkIndex", desc := "(II)V" } : Jvm.MethodName)) ∈ TB := tz7 36 rfl rfl
theorem w_1582 : (Jvm.Cond.static ({ cls := "java/lang/String", name := "checkIndex", desc := "(II)V" } : Jvm.MethodName)) ∈ TB := tz7 37 rfl rfl
theorem w_1583 : (Jvm.Cond.code ({ cls := "java/lang/String", name := "checkIndex", desc := "(II)V" } : Jvm.MethodName) prog_22_method_155_code (2 : Nat) (Option.none : Option Jvm.ClassFile.FieldType)) ∈ TB := tz7 38 rfl rfl
theorem w_1584 : (Jvm.Cond.fieldLink "java/lang/String" (1053 : Nat) "jdk/internal/util/Preconditions" "SIOOBE_FORMATTER" "Ljava/util/function/BiFunction;") ∈ TB := tz7 39 rfl rfl
theorem w_1586 : (Jvm.Cond.methodLink "java/lang/String" (1059 : Nat) ({ cls := "jdk/internal/util/Preconditions", name := "checkIndex", desc := "(IILjava/util/function/BiFunction;)I" } : Jvm.MethodName)) ∈ TB := tz7 41 rfl rfl
theorem w_1587 : (Jvm.Cond.static ({ cls := "jdk/internal/util/Preconditions", name := "checkIndex", desc := "(IILjava/util/function/BiFunction;)I" } : Jvm.MethodName)) ∈ TB := tz7 42 rfl rfl
theorem w_1588 : (Jvm.Cond.code ({ cls := "jdk/internal/util/Preconditions", name := "checkIndex", desc := "(IILjava/util/function/BiFunction;)I" } : Jvm.MethodName) prog_30_method_11_code (3 : Nat) (Option.some Jvm.ClassFile.FieldType.int)) ∈ TB := tz7 43 rfl rfl
theorem w_1589 : (Jvm.Cond.methodLink "java/lang/String" (498 : Nat) ({ cls := "java/lang/StringUTF16", name := "charAt", desc := "([BI)C" } : Jvm.MethodName)) ∈ TB := tz7 44 rfl rfl
theorem w_1590 : (Jvm.Cond.static ({ cls := "java/lang/StringUTF16", name := "charAt", desc := "([BI)C" } : Jvm.MethodName)) ∈ TB := tz7 45 rfl rfl
theorem w_1591 : (Jvm.Cond.code ({ cls := "java/lang/StringUTF16", name := "charAt", desc := "([BI)C" } : Jvm.MethodName) prog_24_method_83_code (2 : Nat) (Option.some Jvm.ClassFile.FieldType.char)) ∈ TB := tz7 46 rfl rfl
theorem w_1592 : (Jvm.Cond.methodLink "java/lang/StringUTF16" (67 : Nat) ({ cls := "java/lang/StringUTF16", name := "checkIndex", desc := "(I[B)V" } : Jvm.MethodName)) ∈ TB := tz7 47 rfl rfl
theorem w_1593 : (Jvm.Cond.static ({ cls := "java/lang/StringUTF16", name := "checkIndex", desc := "(I[B)V" } : Jvm.MethodName)) ∈ TB := tz7 48 rfl rfl
theorem w_1594 : (Jvm.Cond.code ({ cls := "java/lang/StringUTF16", name := "checkIndex", desc := "(I[B)V" } : Jvm.MethodName) prog_24_method_91_code (2 : Nat) (Option.none : Option Jvm.ClassFile.FieldType)) ∈ TB := tz7 49 rfl rfl
theorem w_1595 : (Jvm.Cond.methodLink "java/lang/StringUTF16" (48 : Nat) ({ cls := "java/lang/StringUTF16", name := "length", desc := "([B)I" } : Jvm.MethodName)) ∈ TB := tz7 50 rfl rfl
theorem w_1596 : (Jvm.Cond.static ({ cls := "java/lang/StringUTF16", name := "length", desc := "([B)I" } : Jvm.MethodName)) ∈ TB := tz7 51 rfl rfl
theorem w_1597 : (Jvm.Cond.code ({ cls := "java/lang/StringUTF16", name := "length", desc := "([B)I" } : Jvm.MethodName) prog_24_method_6_code (1 : Nat) (Option.some Jvm.ClassFile.FieldType.int)) ∈ TB := tz7 52 rfl rfl
theorem w_1598 : (Jvm.Cond.methodLink "java/lang/StringUTF16" (414 : Nat) ({ cls := "java/lang/String", name := "checkIndex", desc := "(II)V" } : Jvm.MethodName)) ∈ TB := tz7 53 rfl rfl
theorem w_1599 : (Jvm.Cond.methodLink "java/lang/StringUTF16" (71 : Nat) ({ cls := "java/lang/StringUTF16", name := "getChar", desc := "([BI)C" } : Jvm.MethodName)) ∈ TB := tz7 54 rfl rfl
theorem w_1600 : (Jvm.Cond.static ({ cls := "java/lang/StringUTF16", name := "getChar", desc := "([BI)C" } : Jvm.MethodName)) ∈ TB := tz7 55 rfl rfl
theorem w_1601 : (Jvm.Cond.code ({ cls := "java/lang/StringUTF16", name := "getChar", desc := "([BI)C" } : Jvm.MethodName) prog_24_method_5_code (2 : Nat) (Option.some Jvm.ClassFile.FieldType.char)) ∈ TB := tz7 56 rfl rfl
theorem w_1602 : (Jvm.Cond.fieldLink "java/lang/StringUTF16" (44 : Nat) "java/lang/StringUTF16" "$assertionsDisabled" "Z") ∈ TB := tz7 57 rfl rfl
theorem w_1604 : (Jvm.Cond.fieldLink "java/lang/StringUTF16" (59 : Nat) "java/lang/StringUTF16" "HI_BYTE_SHIFT" "I") ∈ TB := tz7 59 rfl rfl
theorem w_1606 : (Jvm.Cond.fieldLink "java/lang/StringUTF16" (63 : Nat) "java/lang/StringUTF16" "LO_BYTE_SHIFT" "I") ∈ TB := tz7 61 rfl rfl
theorem w_1608 : (Jvm.Cond.methodLink "DarkestDayModel" (242 : Nat) ({ cls := "DarkestDayModel", name := "has", desc := "(II)Z" } : Jvm.MethodName)) ∈ TB := tz7 63 rfl rfl
theorem w_1609 : (Jvm.Cond.static ({ cls := "DarkestDayModel", name := "has", desc := "(II)Z" } : Jvm.MethodName)) ∈ TB := tz7 64 rfl rfl
theorem w_1610 : (Jvm.Cond.code ({ cls := "DarkestDayModel", name := "has", desc := "(II)Z" } : Jvm.MethodName) prog_14_method_4_code (2 : Nat) (Option.some Jvm.ClassFile.FieldType.boolean)) ∈ TB := tz7 65 rfl rfl
theorem w_1611 : (Jvm.Cond.methodLink "DarkestDayModel" (246 : Nat) ({ cls := "DarkestDayModel", name := "mostOf", desc := "(II)I" } : Jvm.MethodName)) ∈ TB := tz7 66 rfl rfl
theorem w_1612 : (Jvm.Cond.static ({ cls := "DarkestDayModel", name := "mostOf", desc := "(II)I" } : Jvm.MethodName)) ∈ TB := tz7 67 rfl rfl
theorem w_1613 : (Jvm.Cond.code ({ cls := "DarkestDayModel", name := "mostOf", desc := "(II)I" } : Jvm.MethodName) prog_14_method_30_code (2 : Nat) (Option.some Jvm.ClassFile.FieldType.int)) ∈ TB := tz7 68 rfl rfl
theorem w_1614 : (Jvm.Cond.methodLink "DarkestDayModel" (249 : Nat) ({ cls := "DarkestDayModel", name := "number", desc := "(II)I" } : Jvm.MethodName)) ∈ TB := tz7 69 rfl rfl
theorem w_1616 : (Jvm.Cond.instanceMethod ({ cls := "DarkestDayModel", name := "number", desc := "(II)I" } : Jvm.MethodName)) ∈ TB := tz7 71 rfl rfl
theorem w_1617 : (Jvm.Cond.code ({ cls := "DarkestDayModel", name := "number", desc := "(II)I" } : Jvm.MethodName) prog_14_method_29_code (5 : Nat) (Option.some Jvm.ClassFile.FieldType.int)) ∈ TB := tz7 72 rfl rfl
theorem w_1618 : (Jvm.Cond.methodLink "DarkestDayModel" (181 : Nat) ({ cls := "DarkestDayModel", name := "isDigit", desc := "()Z" } : Jvm.MethodName)) ∈ TB := tz7 73 rfl rfl
theorem w_1620 : (Jvm.Cond.instanceMethod ({ cls := "DarkestDayModel", name := "isDigit", desc := "()Z" } : Jvm.MethodName)) ∈ TB := tz7 75 rfl rfl
theorem w_1621 : (Jvm.Cond.code ({ cls := "DarkestDayModel", name := "isDigit", desc := "()Z" } : Jvm.MethodName) prog_14_method_14_code (1 : Nat) (Option.some Jvm.ClassFile.FieldType.boolean)) ∈ TB := tz7 76 rfl rfl
theorem w_1622 : (Jvm.Cond.methodLink "DarkestDayModel" (227 : Nat) ({ cls := "DarkestDayModel", name := "here", desc := "()I" } : Jvm.MethodName)) ∈ TB := tz7 77 rfl rfl
theorem w_1624 : (Jvm.Cond.instanceMethod ({ cls := "DarkestDayModel", name := "here", desc := "()I" } : Jvm.MethodName)) ∈ TB := tz7 79 rfl rfl
theorem w_1625 : (Jvm.Cond.code ({ cls := "DarkestDayModel", name := "here", desc := "()I" } : Jvm.MethodName) prog_14_method_27_code (1 : Nat) (Option.some Jvm.ClassFile.FieldType.int)) ∈ TB := tz7 80 rfl rfl
theorem w_1628 : (Jvm.Cond.methodLink "DarkestDayModel" (274 : Nat) ({ cls := "DarkestDayModel", name := "isWhole", desc := "()Z" } : Jvm.MethodName)) ∈ TB := tz7 83 rfl rfl
theorem w_1630 : (Jvm.Cond.instanceMethod ({ cls := "DarkestDayModel", name := "isWhole", desc := "()Z" } : Jvm.MethodName)) ∈ TB := tz7 85 rfl rfl
theorem w_1631 : (Jvm.Cond.code ({ cls := "DarkestDayModel", name := "isWhole", desc := "()Z" } : Jvm.MethodName) prog_14_method_34_code (2 : Nat) (Option.some Jvm.ClassFile.FieldType.boolean)) ∈ TB := tz7 86 rfl rfl
theorem w_1632 : (Jvm.Cond.methodLink "DarkestDayModel" (290 : Nat) ({ cls := "DarkestDayModel", name := "goThrough", desc := "([BII)V" } : Jvm.MethodName)) ∈ TB := tz7 87 rfl rfl
theorem w_1634 : (Jvm.Cond.instanceMethod ({ cls := "DarkestDayModel", name := "goThrough", desc := "([BII)V" } : Jvm.MethodName)) ∈ TB := tz7 89 rfl rfl
theorem w_1635 : (Jvm.Cond.code ({ cls := "DarkestDayModel", name := "goThrough", desc := "([BII)V" } : Jvm.MethodName) prog_14_method_26_code (4 : Nat) (Option.none : Option Jvm.ClassFile.FieldType)) ∈ TB := tz7 90 rfl rfl
theorem w_1636 : (Jvm.Cond.methodLink "DarkestDayModel" (224 : Nat) ({ cls := "DarkestDayModel", name := "clause", desc := "()V" } : Jvm.MethodName)) ∈ TB := tz7 91 rfl rfl
theorem w_1638 : (Jvm.Cond.instanceMethod ({ cls := "DarkestDayModel", name := "clause", desc := "()V" } : Jvm.MethodName)) ∈ TB := tz7 93 rfl rfl
theorem w_1639 : (Jvm.Cond.code ({ cls := "DarkestDayModel", name := "clause", desc := "()V" } : Jvm.MethodName) prog_14_method_24_code (5 : Nat) (Option.none : Option Jvm.ClassFile.FieldType)) ∈ TB := tz7 94 rfl rfl
theorem w_1640 : (Jvm.Cond.methodLink "DarkestDayModel" (167 : Nat) ({ cls := "DarkestDayModel", name := "isAmong", desc := "(Ljava/lang/String;I)Z" } : Jvm.MethodName)) ∈ TB := tz7 95 rfl rfl
theorem w_1641 : (Jvm.Cond.static ({ cls := "DarkestDayModel", name := "isAmong", desc := "(Ljava/lang/String;I)Z" } : Jvm.MethodName)) ∈ TB := tz7 96 rfl rfl
theorem w_1642 : (Jvm.Cond.code ({ cls := "DarkestDayModel", name := "isAmong", desc := "(Ljava/lang/String;I)Z" } : Jvm.MethodName) prog_14_method_5_code (3 : Nat) (Option.some Jvm.ClassFile.FieldType.boolean)) ∈ TB := tz7 97 rfl rfl
theorem w_1643 : (Jvm.Cond.methodLink "DarkestDayModel" (177 : Nat) ({ cls := "DarkestDayModel", name := "takes", desc := "(I)Z" } : Jvm.MethodName)) ∈ TB := tz7 98 rfl rfl
theorem w_1645 : (Jvm.Cond.instanceMethod ({ cls := "DarkestDayModel", name := "takes", desc := "(I)Z" } : Jvm.MethodName)) ∈ TB := tz7 100 rfl rfl
theorem w_1646 : (Jvm.Cond.code ({ cls := "DarkestDayModel", name := "takes", desc := "(I)Z" } : Jvm.MethodName) prog_14_method_13_code (2 : Nat) (Option.some Jvm.ClassFile.FieldType.boolean)) ∈ TB := tz7 101 rfl rfl
theorem w_1647 : (Jvm.Cond.methodLink "DarkestDayModel" (200 : Nat) ({ cls := "DarkestDayModel", name := "condition", desc := "(ZI)Z" } : Jvm.MethodName)) ∈ TB := tz7 102 rfl rfl
theorem w_1649 : (Jvm.Cond.instanceMethod ({ cls := "DarkestDayModel", name := "condition", desc := "(ZI)Z" } : Jvm.MethodName)) ∈ TB := tz7 104 rfl rfl
theorem w_1650 : (Jvm.Cond.code ({ cls := "DarkestDayModel", name := "condition", desc := "(ZI)Z" } : Jvm.MethodName) prog_14_method_23_code (5 : Nat) (Option.some Jvm.ClassFile.FieldType.boolean)) ∈ TB := tz7 105 rfl rfl
theorem w_1651 : (Jvm.Cond.methodLink "DarkestDayModel" (207 : Nat) ({ cls := "DarkestDayModel", name := "part", desc := "(ZI)Z" } : Jvm.MethodName)) ∈ TB := tz7 106 rfl rfl
theorem w_1653 : (Jvm.Cond.instanceMethod ({ cls := "DarkestDayModel", name := "part", desc := "(ZI)Z" } : Jvm.MethodName)) ∈ TB := tz7 108 rfl rfl
theorem w_1654 : (Jvm.Cond.code ({ cls := "DarkestDayModel", name := "part", desc := "(ZI)Z" } : Jvm.MethodName) prog_14_method_22_code (5 : Nat) (Option.some Jvm.ClassFile.FieldType.boolean)) ∈ TB := tz7 109 rfl rfl
theorem w_1655 : (Jvm.Cond.methodLink "DarkestDayModel" (204 : Nat) ({ cls := "DarkestDayModel", name := "compares", desc := "(ZI)Z" } : Jvm.MethodName)) ∈ TB := tz7 110 rfl rfl
theorem w_1657 : (Jvm.Cond.instanceMethod ({ cls := "DarkestDayModel", name := "compares", desc := "(ZI)Z" } : Jvm.MethodName)) ∈ TB := tz7 112 rfl rfl
theorem w_1658 : (Jvm.Cond.code ({ cls := "DarkestDayModel", name := "compares", desc := "(ZI)Z" } : Jvm.MethodName) prog_14_method_20_code (6 : Nat) (Option.some Jvm.ClassFile.FieldType.boolean)) ∈ TB := tz7 113 rfl rfl
theorem w_1659 : (Jvm.Cond.methodLink "DarkestDayModel" (174 : Nat) ({ cls := "DarkestDayModel", name := "sum", desc := "()I" } : Jvm.MethodName)) ∈ TB := tz7 114 rfl rfl
theorem w_1661 : (Jvm.Cond.instanceMethod ({ cls := "DarkestDayModel", name := "sum", desc := "()I" } : Jvm.MethodName)) ∈ TB := tz7 116 rfl rfl
theorem w_1662 : (Jvm.Cond.code ({ cls := "DarkestDayModel", name := "sum", desc := "()I" } : Jvm.MethodName) prog_14_method_18_code (5 : Nat) (Option.some Jvm.ClassFile.FieldType.int)) ∈ TB := tz7 117 rfl rfl
theorem w_1663 : (Jvm.Cond.methodLink "DarkestDayModel" (191 : Nat) ({ cls := "DarkestDayModel", name := "term", desc := "()I" } : Jvm.MethodName)) ∈ TB := tz7 118 rfl rfl
theorem w_1665 : (Jvm.Cond.instanceMethod ({ cls := "DarkestDayModel", name := "term", desc := "()I" } : Jvm.MethodName)) ∈ TB := tz7 120 rfl rfl
theorem w_1666 : (Jvm.Cond.code ({ cls := "DarkestDayModel", name := "term", desc := "()I" } : Jvm.MethodName) prog_14_method_17_code (5 : Nat) (Option.some Jvm.ClassFile.FieldType.int)) ∈ TB := tz7 121 rfl rfl
theorem w_1667 : (Jvm.Cond.methodLink "DarkestDayModel" (184 : Nat) ({ cls := "DarkestDayModel", name := "atom", desc := "()I" } : Jvm.MethodName)) ∈ TB := tz7 122 rfl rfl
theorem w_1669 : (Jvm.Cond.instanceMethod ({ cls := "DarkestDayModel", name := "atom", desc := "()I" } : Jvm.MethodName)) ∈ TB := tz7 124 rfl rfl
theorem w_1670 : (Jvm.Cond.code ({ cls := "DarkestDayModel", name := "atom", desc := "()I" } : Jvm.MethodName) prog_14_method_16_code (4 : Nat) (Option.some Jvm.ClassFile.FieldType.int)) ∈ TB := tz7 125 rfl rfl
theorem w_1671 : (Jvm.Cond.methodLink "DarkestDayModel" (171 : Nat) ({ cls := "DarkestDayModel", name := "goesIn", desc := "()Z" } : Jvm.MethodName)) ∈ TB := tz7 126 rfl rfl
theorem w_1673 : (Jvm.Cond.instanceMethod ({ cls := "DarkestDayModel", name := "goesIn", desc := "()Z" } : Jvm.MethodName)) ∈ TB := tz7 128 rfl rfl
theorem w_1674 : (Jvm.Cond.code ({ cls := "DarkestDayModel", name := "goesIn", desc := "()Z" } : Jvm.MethodName) prog_14_method_12_code (1 : Nat) (Option.some Jvm.ClassFile.FieldType.boolean)) ∈ TB := tz7 129 rfl rfl
theorem w_1675 : (Jvm.Cond.methodLink "DarkestDayModel" (187 : Nat) ({ cls := "DarkestDayModel", name := "within", desc := "(J)I" } : Jvm.MethodName)) ∈ TB := tz7 130 rfl rfl
theorem w_1676 : (Jvm.Cond.static ({ cls := "DarkestDayModel", name := "within", desc := "(J)I" } : Jvm.MethodName)) ∈ TB := tz7 131 rfl rfl
theorem w_1677 : (Jvm.Cond.code ({ cls := "DarkestDayModel", name := "within", desc := "(J)I" } : Jvm.MethodName) prog_14_method_15_code (2 : Nat) (Option.some Jvm.ClassFile.FieldType.int)) ∈ TB := tz7 132 rfl rfl
theorem w_1678 : (Jvm.Cond.constantLong "DarkestDayModel" (154 : Nat) (-1000000 : Int64)) ∈ TB := tz7 133 rfl rfl
theorem w_1679 : (Jvm.Cond.constantLong "DarkestDayModel" (156 : Nat) (1000000 : Int64)) ∈ TB := tz7 134 rfl rfl
theorem w_1680 : (Jvm.Cond.methodLink "DarkestDayModel" (158 : Nat) ({ cls := "java/lang/Math", name := "min", desc := "(JJ)J" } : Jvm.MethodName)) ∈ TB := tz7 135 rfl rfl
theorem w_1681 : (Jvm.Cond.static ({ cls := "java/lang/Math", name := "min", desc := "(JJ)J" } : Jvm.MethodName)) ∈ TB := tz7 136 rfl rfl
theorem w_1682 : (Jvm.Cond.code ({ cls := "java/lang/Math", name := "min", desc := "(JJ)J" } : Jvm.MethodName) prog_20_method_70_code (4 : Nat) (Option.some Jvm.ClassFile.FieldType.long)) ∈ TB := tz7 137 rfl rfl
theorem w_1683 : (Jvm.Cond.methodLink "DarkestDayModel" (164 : Nat) ({ cls := "java/lang/Math", name := "max", desc := "(JJ)J" } : Jvm.MethodName)) ∈ TB := tz7 138 rfl rfl
theorem w_1684 : (Jvm.Cond.static ({ cls := "java/lang/Math", name := "max", desc := "(JJ)J" } : Jvm.MethodName)) ∈ TB := tz7 139 rfl rfl
theorem w_1685 : (Jvm.Cond.code ({ cls := "java/lang/Math", name := "max", desc := "(JJ)J" } : Jvm.MethodName) prog_20_method_66_code (4 : Nat) (Option.some Jvm.ClassFile.FieldType.long)) ∈ TB := tz7 140 rfl rfl
theorem w_1686 : (Jvm.Cond.methodLink "DarkestDayModel" (194 : Nat) ({ cls := "DarkestDayModel", name := "isSign", desc := "(I)Z" } : Jvm.MethodName)) ∈ TB := tz7 141 rfl rfl
theorem w_1687 : (Jvm.Cond.static ({ cls := "DarkestDayModel", name := "isSign", desc := "(I)Z" } : Jvm.MethodName)) ∈ TB := tz7 142 rfl rfl
theorem w_1688 : (Jvm.Cond.code ({ cls := "DarkestDayModel", name := "isSign", desc := "(I)Z" } : Jvm.MethodName) prog_14_method_19_code (1 : Nat) (Option.some Jvm.ClassFile.FieldType.boolean)) ∈ TB := tz7 143 rfl rfl
theorem w_1689 : (Jvm.Cond.methodLink "DarkestDayModel" (197 : Nat) ({ cls := "DarkestDayModel", name := "unit", desc := "()Z" } : Jvm.MethodName)) ∈ TB := tz7 144 rfl rfl
theorem w_1691 : (Jvm.Cond.instanceMethod ({ cls := "DarkestDayModel", name := "unit", desc := "()Z" } : Jvm.MethodName)) ∈ TB := tz7 146 rfl rfl
theorem w_1692 : (Jvm.Cond.code ({ cls := "DarkestDayModel", name := "unit", desc := "()Z" } : Jvm.MethodName) prog_14_method_21_code (3 : Nat) (Option.some Jvm.ClassFile.FieldType.boolean)) ∈ TB := tz7 147 rfl rfl
theorem w_1693 : (Jvm.Cond.methodLink "DarkestDayModel" (293 : Nat) ({ cls := "DarkestDayModel", name := "readPlan", desc := "()V" } : Jvm.MethodName)) ∈ TB := tz7 148 rfl rfl
theorem w_1695 : (Jvm.Cond.instanceMethod ({ cls := "DarkestDayModel", name := "readPlan", desc := "()V" } : Jvm.MethodName)) ∈ TB := tz7 150 rfl rfl
theorem w_1696 : (Jvm.Cond.code ({ cls := "DarkestDayModel", name := "readPlan", desc := "()V" } : Jvm.MethodName) prog_14_method_38_code (3 : Nat) (Option.none : Option Jvm.ClassFile.FieldType)) ∈ TB := tz7 151 rfl rfl
theorem w_1697 : (Jvm.Cond.methodLink "DarkestDayModel" (282 : Nat) ({ cls := "DarkestDayModel", name := "readStep", desc := "(I)V" } : Jvm.MethodName)) ∈ TB := tz7 152 rfl rfl
theorem w_1699 : (Jvm.Cond.instanceMethod ({ cls := "DarkestDayModel", name := "readStep", desc := "(I)V" } : Jvm.MethodName)) ∈ TB := tz7 154 rfl rfl
theorem w_1700 : (Jvm.Cond.code ({ cls := "DarkestDayModel", name := "readStep", desc := "(I)V" } : Jvm.MethodName) prog_14_method_37_code (3 : Nat) (Option.none : Option Jvm.ClassFile.FieldType)) ∈ TB := tz7 155 rfl rfl
theorem w_1702 : (Jvm.Cond.methodLink "DarkestDayModel" (279 : Nat) ({ cls := "DarkestDayModel", name := "digit", desc := "()I" } : Jvm.MethodName)) ∈ TB := tz7 157 rfl rfl
theorem w_1704 : (Jvm.Cond.instanceMethod ({ cls := "DarkestDayModel", name := "digit", desc := "()I" } : Jvm.MethodName)) ∈ TB := tz7 159 rfl rfl
theorem w_1705 : (Jvm.Cond.code ({ cls := "DarkestDayModel", name := "digit", desc := "()I" } : Jvm.MethodName) prog_14_method_36_code (2 : Nat) (Option.some Jvm.ClassFile.FieldType.int)) ∈ TB := tz7 160 rfl rfl
theorem w_1706 : (Jvm.Cond.methodLink "DarkestDayLaw" (37 : Nat) ({ cls := "DarkestDayModel", name := "text", desc := "(I)I" } : Jvm.MethodName)) ∈ TB := tz7 161 rfl rfl
theorem w_1707 : (Jvm.Cond.instanceMethod ({ cls := "DarkestDayModel", name := "text", desc := "(I)I" } : Jvm.MethodName)) ∈ TB := tz7 162 rfl rfl
theorem w_1708 : (Jvm.Cond.selects "DarkestDayModel" ({ cls := "DarkestDayModel", name := "text", desc := "(I)I" } : Jvm.MethodName) ({ cls := "DarkestDayModel", name := "text", desc := "(I)I" } : Jvm.MethodName)) ∈ TB := tz7 163 rfl rfl
theorem w_1709 : (Jvm.Cond.code ({ cls := "DarkestDayModel", name := "text", desc := "(I)I" } : Jvm.MethodName) prog_14_method_40_code (4 : Nat) (Option.some Jvm.ClassFile.FieldType.int)) ∈ TB := tz7 164 rfl rfl
theorem w_1710 : (Jvm.Cond.methodLink "DarkestDayModel" (302 : Nat) ({ cls := "DarkestDayModel", name := "fault", desc := "(I)I" } : Jvm.MethodName)) ∈ TB := tz7 165 rfl rfl
theorem w_1711 : (Jvm.Cond.methodLink "DarkestDayModel" (310 : Nat) ({ cls := "DarkestDayModel", name := "lays", desc := "([I)V" } : Jvm.MethodName)) ∈ TB := tz7 166 rfl rfl
theorem w_1713 : (Jvm.Cond.instanceMethod ({ cls := "DarkestDayModel", name := "lays", desc := "([I)V" } : Jvm.MethodName)) ∈ TB := tz7 168 rfl rfl
theorem w_1714 : (Jvm.Cond.code ({ cls := "DarkestDayModel", name := "lays", desc := "([I)V" } : Jvm.MethodName) prog_14_method_41_code (3 : Nat) (Option.none : Option Jvm.ClassFile.FieldType)) ∈ TB := tz7 169 rfl rfl
theorem w_1715 : (Jvm.Cond.methodLink "DarkestDayLaw" (41 : Nat) ({ cls := "DarkestDayModel", name := "kind", desc := "(II)I" } : Jvm.MethodName)) ∈ TB := tz7 170 rfl rfl
theorem w_1716 : (Jvm.Cond.instanceMethod ({ cls := "DarkestDayModel", name := "kind", desc := "(II)I" } : Jvm.MethodName)) ∈ TB := tz7 171 rfl rfl
theorem w_1717 : (Jvm.Cond.selects "DarkestDayModel" ({ cls := "DarkestDayModel", name := "kind", desc := "(II)I" } : Jvm.MethodName) ({ cls := "DarkestDayModel", name := "kind", desc := "(II)I" } : Jvm.MethodName)) ∈ TB := tz7 172 rfl rfl
theorem w_1718 : (Jvm.Cond.code ({ cls := "DarkestDayModel", name := "kind", desc := "(II)I" } : Jvm.MethodName) prog_14_method_55_code (3 : Nat) (Option.some Jvm.ClassFile.FieldType.int)) ∈ TB := tz7 173 rfl rfl
theorem w_1719 : (Jvm.Cond.methodLink "DarkestDayModel" (375 : Nat) ({ cls := "DarkestDayModel", name := "isKind", desc := "(I)Z" } : Jvm.MethodName)) ∈ TB := tz7 174 rfl rfl
theorem w_1721 : (Jvm.Cond.instanceMethod ({ cls := "DarkestDayModel", name := "isKind", desc := "(I)Z" } : Jvm.MethodName)) ∈ TB := tz7 176 rfl rfl
theorem w_1722 : (Jvm.Cond.code ({ cls := "DarkestDayModel", name := "isKind", desc := "(I)Z" } : Jvm.MethodName) prog_14_method_44_code (2 : Nat) (Option.some Jvm.ClassFile.FieldType.boolean)) ∈ TB := tz7 177 rfl rfl
theorem w_1723 : (Jvm.Cond.constantLong "DarkestDayModel" (378 : Nat) (3 : Int64)) ∈ TB := tz7 178 rfl rfl
theorem w_1724 : (Jvm.Cond.constant "DarkestDayModel" (380 : Nat) (-1000000 : Int32)) ∈ TB := tz7 179 rfl rfl
theorem w_1725 : (Jvm.Cond.methodLink "DarkestDayModel" (381 : Nat) ({ cls := "DarkestDayModel", name := "party", desc := "(I)I" } : Jvm.MethodName)) ∈ TB := tz7 180 rfl rfl
theorem w_1727 : (Jvm.Cond.instanceMethod ({ cls := "DarkestDayModel", name := "party", desc := "(I)I" } : Jvm.MethodName)) ∈ TB := tz7 182 rfl rfl
theorem w_1728 : (Jvm.Cond.code ({ cls := "DarkestDayModel", name := "party", desc := "(I)I" } : Jvm.MethodName) prog_14_method_54_code (4 : Nat) (Option.some Jvm.ClassFile.FieldType.int)) ∈ TB := tz7 183 rfl rfl
theorem w_1729 : (Jvm.Cond.methodLink "DarkestDayLaw" (47 : Nat) ({ cls := "DarkestDayModel", name := "person", desc := "(II)I" } : Jvm.MethodName)) ∈ TB := tz7 184 rfl rfl
theorem w_1730 : (Jvm.Cond.instanceMethod ({ cls := "DarkestDayModel", name := "person", desc := "(II)I" } : Jvm.MethodName)) ∈ TB := tz7 185 rfl rfl
theorem w_1731 : (Jvm.Cond.selects "DarkestDayModel" ({ cls := "DarkestDayModel", name := "person", desc := "(II)I" } : Jvm.MethodName) ({ cls := "DarkestDayModel", name := "person", desc := "(II)I" } : Jvm.MethodName)) ∈ TB := tz7 186 rfl rfl
theorem w_1732 : (Jvm.Cond.code ({ cls := "DarkestDayModel", name := "person", desc := "(II)I" } : Jvm.MethodName) prog_14_method_56_code (3 : Nat) (Option.some Jvm.ClassFile.FieldType.int)) ∈ TB := tz7 187 rfl rfl
theorem w_1733 : (Jvm.Cond.methodLink "DarkestDayModel" (384 : Nat) ({ cls := "DarkestDayModel", name := "isPerson", desc := "(I)Z" } : Jvm.MethodName)) ∈ TB := tz7 188 rfl rfl
theorem w_1735 : (Jvm.Cond.instanceMethod ({ cls := "DarkestDayModel", name := "isPerson", desc := "(I)Z" } : Jvm.MethodName)) ∈ TB := tz7 190 rfl rfl
theorem w_1736 : (Jvm.Cond.code ({ cls := "DarkestDayModel", name := "isPerson", desc := "(I)Z" } : Jvm.MethodName) prog_14_method_43_code (2 : Nat) (Option.some Jvm.ClassFile.FieldType.boolean)) ∈ TB := tz7 191 rfl rfl
theorem w_1737 : (Jvm.Cond.methodLink "DarkestDayLaw" (55 : Nat) ({ cls := "DarkestDayModel", name := "law", desc := "(I)Z" } : Jvm.MethodName)) ∈ TB := tz7 192 rfl rfl
theorem w_1738 : (Jvm.Cond.instanceMethod ({ cls := "DarkestDayModel", name := "law", desc := "(I)Z" } : Jvm.MethodName)) ∈ TB := tz7 193 rfl rfl
theorem w_1739 : (Jvm.Cond.selects "DarkestDayModel" ({ cls := "DarkestDayModel", name := "law", desc := "(I)Z" } : Jvm.MethodName) ({ cls := "DarkestDayModel", name := "law", desc := "(I)Z" } : Jvm.MethodName)) ∈ TB := tz7 194 rfl rfl
theorem w_1740 : (Jvm.Cond.code ({ cls := "DarkestDayModel", name := "law", desc := "(I)Z" } : Jvm.MethodName) prog_14_method_57_code (2 : Nat) (Option.some Jvm.ClassFile.FieldType.boolean)) ∈ TB := tz7 195 rfl rfl
theorem w_1741 : (Jvm.Cond.methodLink "DarkestDayLaw" (59 : Nat) ({ cls := "DarkestDayModel", name := "whim", desc := "(I)Z" } : Jvm.MethodName)) ∈ TB := tz7 196 rfl rfl
theorem w_1742 : (Jvm.Cond.instanceMethod ({ cls := "DarkestDayModel", name := "whim", desc := "(I)Z" } : Jvm.MethodName)) ∈ TB := tz7 197 rfl rfl
theorem w_1743 : (Jvm.Cond.selects "DarkestDayModel" ({ cls := "DarkestDayModel", name := "whim", desc := "(I)Z" } : Jvm.MethodName) ({ cls := "DarkestDayModel", name := "whim", desc := "(I)Z" } : Jvm.MethodName)) ∈ TB := tz7 198 rfl rfl
theorem w_1744 : (Jvm.Cond.code ({ cls := "DarkestDayModel", name := "whim", desc := "(I)Z" } : Jvm.MethodName) prog_14_method_58_code (2 : Nat) (Option.some Jvm.ClassFile.FieldType.boolean)) ∈ TB := tz7 199 rfl rfl
theorem w_1745 : (Jvm.Cond.constantLong "DarkestDayModel" (387 : Nat) (9 : Int64)) ∈ TB := tz7 200 rfl rfl
theorem w_1746 : (Jvm.Cond.methodLink "DarkestDayLaw" (63 : Nat) ({ cls := "DarkestDayModel", name := "pass", desc := "()I" } : Jvm.MethodName)) ∈ TB := tz7 201 rfl rfl
theorem w_1747 : (Jvm.Cond.instanceMethod ({ cls := "DarkestDayModel", name := "pass", desc := "()I" } : Jvm.MethodName)) ∈ TB := tz7 202 rfl rfl
theorem w_1748 : (Jvm.Cond.selects "DarkestDayModel" ({ cls := "DarkestDayModel", name := "pass", desc := "()I" } : Jvm.MethodName) ({ cls := "DarkestDayModel", name := "pass", desc := "()I" } : Jvm.MethodName)) ∈ TB := tz7 203 rfl rfl
theorem w_1749 : (Jvm.Cond.code ({ cls := "DarkestDayModel", name := "pass", desc := "()I" } : Jvm.MethodName) prog_14_method_61_code (1 : Nat) (Option.some Jvm.ClassFile.FieldType.int)) ∈ TB := tz7 204 rfl rfl
theorem w_1750 : (Jvm.Cond.methodLink "DarkestDayModel" (389 : Nat) ({ cls := "DarkestDayModel", name := "refused", desc := "(I)I" } : Jvm.MethodName)) ∈ TB := tz7 205 rfl rfl
theorem w_1752 : (Jvm.Cond.instanceMethod ({ cls := "DarkestDayModel", name := "refused", desc := "(I)I" } : Jvm.MethodName)) ∈ TB := tz7 207 rfl rfl
theorem w_1753 : (Jvm.Cond.code ({ cls := "DarkestDayModel", name := "refused", desc := "(I)I" } : Jvm.MethodName) prog_14_method_60_code (2 : Nat) (Option.some Jvm.ClassFile.FieldType.int)) ∈ TB := tz7 208 rfl rfl
theorem w_1754 : (Jvm.Cond.methodLink "DarkestDayModel" (392 : Nat) ({ cls := "DarkestDayModel", name := "canPass", desc := "([I)Z" } : Jvm.MethodName)) ∈ TB := tz7 209 rfl rfl
theorem w_1756 : (Jvm.Cond.instanceMethod ({ cls := "DarkestDayModel", name := "canPass", desc := "([I)Z" } : Jvm.MethodName)) ∈ TB := tz7 211 rfl rfl
theorem w_1757 : (Jvm.Cond.code ({ cls := "DarkestDayModel", name := "canPass", desc := "([I)Z" } : Jvm.MethodName) prog_14_method_52_code (2 : Nat) (Option.some Jvm.ClassFile.FieldType.boolean)) ∈ TB := tz7 212 rfl rfl
theorem w_1758 : (Jvm.Cond.methodLink "DarkestDayModel" (396 : Nat) ({ cls := "DarkestDayModel", name := "remember", desc := "()V" } : Jvm.MethodName)) ∈ TB := tz7 213 rfl rfl
theorem w_1760 : (Jvm.Cond.instanceMethod ({ cls := "DarkestDayModel", name := "remember", desc := "()V" } : Jvm.MethodName)) ∈ TB := tz7 215 rfl rfl
theorem w_1761 : (Jvm.Cond.code ({ cls := "DarkestDayModel", name := "remember", desc := "()V" } : Jvm.MethodName) prog_14_method_59_code (2 : Nat) (Option.none : Option Jvm.ClassFile.FieldType)) ∈ TB := tz7 216 rfl rfl
theorem w_1762 : (Jvm.Cond.methodLink "DarkestDayModel" (399 : Nat) ({ cls := "DarkestDayModel", name := "goNow", desc := "()I" } : Jvm.MethodName)) ∈ TB := tz7 217 rfl rfl
theorem w_1764 : (Jvm.Cond.instanceMethod ({ cls := "DarkestDayModel", name := "goNow", desc := "()I" } : Jvm.MethodName)) ∈ TB := tz7 219 rfl rfl
theorem w_1765 : (Jvm.Cond.code ({ cls := "DarkestDayModel", name := "goNow", desc := "()I" } : Jvm.MethodName) prog_14_method_53_code (3 : Nat) (Option.some Jvm.ClassFile.FieldType.int)) ∈ TB := tz7 220 rfl rfl
theorem w_1766 : (Jvm.Cond.methodLink "DarkestDayModel" (372 : Nat) ({ cls := "DarkestDayModel", name := "passes", desc := "([I)I" } : Jvm.MethodName)) ∈ TB := tz7 221 rfl rfl
theorem w_1768 : (Jvm.Cond.instanceMethod ({ cls := "DarkestDayModel", name := "passes", desc := "([I)I" } : Jvm.MethodName)) ∈ TB := tz7 223 rfl rfl
theorem w_1769 : (Jvm.Cond.code ({ cls := "DarkestDayModel", name := "passes", desc := "([I)I" } : Jvm.MethodName) prog_14_method_51_code (7 : Nat) (Option.some Jvm.ClassFile.FieldType.int)) ∈ TB := tz7 224 rfl rfl
theorem w_1770 : (Jvm.Cond.methodLink "DarkestDayModel" (365 : Nat) ({ cls := "DarkestDayModel", name := "lightOf", desc := "([II)I" } : Jvm.MethodName)) ∈ TB := tz7 225 rfl rfl
theorem w_1772 : (Jvm.Cond.instanceMethod ({ cls := "DarkestDayModel", name := "lightOf", desc := "([II)I" } : Jvm.MethodName)) ∈ TB := tz7 227 rfl rfl
theorem w_1773 : (Jvm.Cond.code ({ cls := "DarkestDayModel", name := "lightOf", desc := "([II)I" } : Jvm.MethodName) prog_14_method_49_code (3 : Nat) (Option.some Jvm.ClassFile.FieldType.int)) ∈ TB := tz7 228 rfl rfl
theorem w_1774 : (Jvm.Cond.methodLink "DarkestDayModel" (359 : Nat) ({ cls := "DarkestDayModel", name := "lightBy", desc := "([III)I" } : Jvm.MethodName)) ∈ TB := tz7 229 rfl rfl
theorem w_1776 : (Jvm.Cond.instanceMethod ({ cls := "DarkestDayModel", name := "lightBy", desc := "([III)I" } : Jvm.MethodName)) ∈ TB := tz7 231 rfl rfl
theorem w_1777 : (Jvm.Cond.code ({ cls := "DarkestDayModel", name := "lightBy", desc := "([III)I" } : Jvm.MethodName) prog_14_method_48_code (5 : Nat) (Option.some Jvm.ClassFile.FieldType.int)) ∈ TB := tz7 232 rfl rfl
theorem w_1778 : (Jvm.Cond.methodLink "DarkestDayModel" (355 : Nat) ({ cls := "DarkestDayModel", name := "plainLight", desc := "([III)I" } : Jvm.MethodName)) ∈ TB := tz7 233 rfl rfl
theorem w_1780 : (Jvm.Cond.instanceMethod ({ cls := "DarkestDayModel", name := "plainLight", desc := "([III)I" } : Jvm.MethodName)) ∈ TB := tz7 235 rfl rfl
theorem w_1781 : (Jvm.Cond.code ({ cls := "DarkestDayModel", name := "plainLight", desc := "([III)I" } : Jvm.MethodName) prog_14_method_47_code (5 : Nat) (Option.some Jvm.ClassFile.FieldType.int)) ∈ TB := tz7 236 rfl rfl
theorem w_1782 : (Jvm.Cond.methodLink "DarkestDayModel" (335 : Nat) ({ cls := "java/lang/Math", name := "abs", desc := "(I)I" } : Jvm.MethodName)) ∈ TB := tz7 237 rfl rfl
theorem w_1783 : (Jvm.Cond.methodLink "DarkestDayModel" (338 : Nat) ({ cls := "DarkestDayModel", name := "up", desc := "([I)I" } : Jvm.MethodName)) ∈ TB := tz7 238 rfl rfl
theorem w_1785 : (Jvm.Cond.instanceMethod ({ cls := "DarkestDayModel", name := "up", desc := "([I)I" } : Jvm.MethodName)) ∈ TB := tz8 0 rfl rfl
theorem w_1786 : (Jvm.Cond.code ({ cls := "DarkestDayModel", name := "up", desc := "([I)I" } : Jvm.MethodName) prog_14_method_45_code (2 : Nat) (Option.some Jvm.ClassFile.FieldType.int)) ∈ TB := tz8 1 rfl rfl
theorem w_1787 : (Jvm.Cond.methodLink "DarkestDayModel" (342 : Nat) ({ cls := "java/lang/Integer", name := "bitCount", desc := "(I)I" } : Jvm.MethodName)) ∈ TB := tz8 2 rfl rfl
theorem w_1788 : (Jvm.Cond.methodLink "DarkestDayModel" (347 : Nat) ({ cls := "DarkestDayModel", name := "worthOf", desc := "(IIIII)I" } : Jvm.MethodName)) ∈ TB := tz8 3 rfl rfl
theorem w_1790 : (Jvm.Cond.instanceMethod ({ cls := "DarkestDayModel", name := "worthOf", desc := "(IIIII)I" } : Jvm.MethodName)) ∈ TB := tz8 5 rfl rfl
theorem w_1791 : (Jvm.Cond.code ({ cls := "DarkestDayModel", name := "worthOf", desc := "(IIIII)I" } : Jvm.MethodName) prog_14_method_46_code (9 : Nat) (Option.some Jvm.ClassFile.FieldType.int)) ∈ TB := tz8 6 rfl rfl
theorem w_1792 : (Jvm.Cond.constantLong "DarkestDayModel" (323 : Nat) (30 : Int64)) ∈ TB := tz8 7 rfl rfl
theorem w_1793 : (Jvm.Cond.constantLong "DarkestDayModel" (325 : Nat) (31 : Int64)) ∈ TB := tz8 8 rfl rfl
theorem w_1794 : (Jvm.Cond.constantLong "DarkestDayModel" (327 : Nat) (10 : Int64)) ∈ TB := tz8 9 rfl rfl
theorem w_1795 : (Jvm.Cond.constantLong "DarkestDayModel" (329 : Nat) (7 : Int64)) ∈ TB := tz8 10 rfl rfl
theorem w_1796 : (Jvm.Cond.constantLong "DarkestDayModel" (331 : Nat) (100 : Int64)) ∈ TB := tz8 11 rfl rfl
theorem w_1797 : (Jvm.Cond.constantLong "DarkestDayModel" (333 : Nat) (8191 : Int64)) ∈ TB := tz8 12 rfl rfl
theorem w_1798 : (Jvm.Cond.methodLink "DarkestDayModel" (351 : Nat) ({ cls := "java/lang/Math", name := "min", desc := "(II)I" } : Jvm.MethodName)) ∈ TB := tz8 13 rfl rfl
theorem w_1799 : (Jvm.Cond.methodLink "DarkestDayModel" (353 : Nat) ({ cls := "java/lang/Math", name := "max", desc := "(II)I" } : Jvm.MethodName)) ∈ TB := tz8 14 rfl rfl
theorem w_1800 : (Jvm.Cond.methodLink "DarkestDayModel" (369 : Nat) ({ cls := "DarkestDayModel", name := "endsYear", desc := "([I)V" } : Jvm.MethodName)) ∈ TB := tz8 15 rfl rfl
theorem w_1802 : (Jvm.Cond.instanceMethod ({ cls := "DarkestDayModel", name := "endsYear", desc := "([I)V" } : Jvm.MethodName)) ∈ TB := tz8 17 rfl rfl
theorem w_1803 : (Jvm.Cond.code ({ cls := "DarkestDayModel", name := "endsYear", desc := "([I)V" } : Jvm.MethodName) prog_14_method_50_code (4 : Nat) (Option.none : Option Jvm.ClassFile.FieldType)) ∈ TB := tz8 18 rfl rfl
theorem w_1804 : (Jvm.Cond.methodLink "DarkestDayLaw" (67 : Nat) ({ cls := "DarkestDayModel", name := "habit", desc := "(II)I" } : Jvm.MethodName)) ∈ TB := tz8 19 rfl rfl
theorem w_1805 : (Jvm.Cond.instanceMethod ({ cls := "DarkestDayModel", name := "habit", desc := "(II)I" } : Jvm.MethodName)) ∈ TB := tz8 20 rfl rfl
theorem w_1806 : (Jvm.Cond.selects "DarkestDayModel" ({ cls := "DarkestDayModel", name := "habit", desc := "(II)I" } : Jvm.MethodName) ({ cls := "DarkestDayModel", name := "habit", desc := "(II)I" } : Jvm.MethodName)) ∈ TB := tz8 21 rfl rfl
theorem w_1807 : (Jvm.Cond.code ({ cls := "DarkestDayModel", name := "habit", desc := "(II)I" } : Jvm.MethodName) prog_14_method_63_code (5 : Nat) (Option.some Jvm.ClassFile.FieldType.int)) ∈ TB := tz8 22 rfl rfl
theorem w_1808 : (Jvm.Cond.methodLink "DarkestDayModel" (402 : Nat) ({ cls := "DarkestDayModel", name := "stopsHabit", desc := "([III)I" } : Jvm.MethodName)) ∈ TB := tz8 23 rfl rfl
theorem w_1810 : (Jvm.Cond.instanceMethod ({ cls := "DarkestDayModel", name := "stopsHabit", desc := "([III)I" } : Jvm.MethodName)) ∈ TB := tz8 25 rfl rfl
theorem w_1811 : (Jvm.Cond.code ({ cls := "DarkestDayModel", name := "stopsHabit", desc := "([III)I" } : Jvm.MethodName) prog_14_method_62_code (4 : Nat) (Option.some Jvm.ClassFile.FieldType.int)) ∈ TB := tz8 26 rfl rfl
theorem w_1812 : (Jvm.Cond.methodLink "DarkestDayLaw" (71 : Nat) ({ cls := "DarkestDayModel", name := "bed", desc := "(I)I" } : Jvm.MethodName)) ∈ TB := tz8 27 rfl rfl
theorem w_1813 : (Jvm.Cond.instanceMethod ({ cls := "DarkestDayModel", name := "bed", desc := "(I)I" } : Jvm.MethodName)) ∈ TB := tz8 28 rfl rfl
theorem w_1814 : (Jvm.Cond.selects "DarkestDayModel" ({ cls := "DarkestDayModel", name := "bed", desc := "(I)I" } : Jvm.MethodName) ({ cls := "DarkestDayModel", name := "bed", desc := "(I)I" } : Jvm.MethodName)) ∈ TB := tz8 29 rfl rfl
theorem w_1815 : (Jvm.Cond.code ({ cls := "DarkestDayModel", name := "bed", desc := "(I)I" } : Jvm.MethodName) prog_14_method_64_code (2 : Nat) (Option.some Jvm.ClassFile.FieldType.int)) ∈ TB := tz8 30 rfl rfl
theorem w_1816 : (Jvm.Cond.methodLink "DarkestDayLaw" (75 : Nat) ({ cls := "DarkestDayModel", name := "fog", desc := "(I)I" } : Jvm.MethodName)) ∈ TB := tz8 31 rfl rfl
theorem w_1817 : (Jvm.Cond.instanceMethod ({ cls := "DarkestDayModel", name := "fog", desc := "(I)I" } : Jvm.MethodName)) ∈ TB := tz8 32 rfl rfl
theorem w_1818 : (Jvm.Cond.selects "DarkestDayModel" ({ cls := "DarkestDayModel", name := "fog", desc := "(I)I" } : Jvm.MethodName) ({ cls := "DarkestDayModel", name := "fog", desc := "(I)I" } : Jvm.MethodName)) ∈ TB := tz8 33 rfl rfl
theorem w_1819 : (Jvm.Cond.code ({ cls := "DarkestDayModel", name := "fog", desc := "(I)I" } : Jvm.MethodName) prog_14_method_66_code (4 : Nat) (Option.some Jvm.ClassFile.FieldType.int)) ∈ TB := tz8 34 rfl rfl
theorem w_1820 : (Jvm.Cond.methodLink "DarkestDayModel" (405 : Nat) ({ cls := "DarkestDayModel", name := "stopsFog", desc := "([II)I" } : Jvm.MethodName)) ∈ TB := tz8 35 rfl rfl
theorem w_1822 : (Jvm.Cond.instanceMethod ({ cls := "DarkestDayModel", name := "stopsFog", desc := "([II)I" } : Jvm.MethodName)) ∈ TB := tz8 37 rfl rfl
theorem w_1823 : (Jvm.Cond.code ({ cls := "DarkestDayModel", name := "stopsFog", desc := "([II)I" } : Jvm.MethodName) prog_14_method_65_code (3 : Nat) (Option.some Jvm.ClassFile.FieldType.int)) ∈ TB := tz8 38 rfl rfl
theorem w_1824 : (Jvm.Cond.methodLink "DarkestDayLaw" (79 : Nat) ({ cls := "DarkestDayModel", name := "eclipse", desc := "()I" } : Jvm.MethodName)) ∈ TB := tz8 39 rfl rfl
theorem w_1825 : (Jvm.Cond.instanceMethod ({ cls := "DarkestDayModel", name := "eclipse", desc := "()I" } : Jvm.MethodName)) ∈ TB := tz8 40 rfl rfl
theorem w_1826 : (Jvm.Cond.selects "DarkestDayModel" ({ cls := "DarkestDayModel", name := "eclipse", desc := "()I" } : Jvm.MethodName) ({ cls := "DarkestDayModel", name := "eclipse", desc := "()I" } : Jvm.MethodName)) ∈ TB := tz8 41 rfl rfl
theorem w_1827 : (Jvm.Cond.code ({ cls := "DarkestDayModel", name := "eclipse", desc := "()I" } : Jvm.MethodName) prog_14_method_68_code (2 : Nat) (Option.some Jvm.ClassFile.FieldType.int)) ∈ TB := tz8 42 rfl rfl
theorem w_1828 : (Jvm.Cond.methodLink "DarkestDayModel" (408 : Nat) ({ cls := "DarkestDayModel", name := "stopsEclipse", desc := "([I)I" } : Jvm.MethodName)) ∈ TB := tz8 43 rfl rfl
theorem w_1830 : (Jvm.Cond.instanceMethod ({ cls := "DarkestDayModel", name := "stopsEclipse", desc := "([I)I" } : Jvm.MethodName)) ∈ TB := tz8 45 rfl rfl
theorem w_1831 : (Jvm.Cond.code ({ cls := "DarkestDayModel", name := "stopsEclipse", desc := "([I)I" } : Jvm.MethodName) prog_14_method_67_code (2 : Nat) (Option.some Jvm.ClassFile.FieldType.int)) ∈ TB := tz8 46 rfl rfl
theorem w_1832 : (Jvm.Cond.methodLink "DarkestDayLaw" (83 : Nat) ({ cls := "DarkestDayModel", name := "candles", desc := "(I)I" } : Jvm.MethodName)) ∈ TB := tz8 47 rfl rfl
theorem w_1833 : (Jvm.Cond.instanceMethod ({ cls := "DarkestDayModel", name := "candles", desc := "(I)I" } : Jvm.MethodName)) ∈ TB := tz8 48 rfl rfl
theorem w_1834 : (Jvm.Cond.selects "DarkestDayModel" ({ cls := "DarkestDayModel", name := "candles", desc := "(I)I" } : Jvm.MethodName) ({ cls := "DarkestDayModel", name := "candles", desc := "(I)I" } : Jvm.MethodName)) ∈ TB := tz8 49 rfl rfl
theorem w_1835 : (Jvm.Cond.code ({ cls := "DarkestDayModel", name := "candles", desc := "(I)I" } : Jvm.MethodName) prog_14_method_70_code (3 : Nat) (Option.some Jvm.ClassFile.FieldType.int)) ∈ TB := tz8 50 rfl rfl
theorem w_1836 : (Jvm.Cond.methodLink "DarkestDayModel" (411 : Nat) ({ cls := "DarkestDayModel", name := "stopsCandles", desc := "([II)I" } : Jvm.MethodName)) ∈ TB := tz8 51 rfl rfl
theorem w_1838 : (Jvm.Cond.instanceMethod ({ cls := "DarkestDayModel", name := "stopsCandles", desc := "([II)I" } : Jvm.MethodName)) ∈ TB := tz8 53 rfl rfl
theorem w_1839 : (Jvm.Cond.code ({ cls := "DarkestDayModel", name := "stopsCandles", desc := "([II)I" } : Jvm.MethodName) prog_14_method_69_code (3 : Nat) (Option.some Jvm.ClassFile.FieldType.int)) ∈ TB := tz8 54 rfl rfl
theorem w_1840 : (Jvm.Cond.methodLink "DarkestDayLaw" (87 : Nat) ({ cls := "DarkestDayModel", name := "give", desc := "(I)I" } : Jvm.MethodName)) ∈ TB := tz8 55 rfl rfl
theorem w_1841 : (Jvm.Cond.instanceMethod ({ cls := "DarkestDayModel", name := "give", desc := "(I)I" } : Jvm.MethodName)) ∈ TB := tz8 56 rfl rfl
theorem w_1842 : (Jvm.Cond.selects "DarkestDayModel" ({ cls := "DarkestDayModel", name := "give", desc := "(I)I" } : Jvm.MethodName) ({ cls := "DarkestDayModel", name := "give", desc := "(I)I" } : Jvm.MethodName)) ∈ TB := tz8 57 rfl rfl
theorem w_1843 : (Jvm.Cond.code ({ cls := "DarkestDayModel", name := "give", desc := "(I)I" } : Jvm.MethodName) prog_14_method_71_code (2 : Nat) (Option.some Jvm.ClassFile.FieldType.int)) ∈ TB := tz8 58 rfl rfl
theorem w_1844 : (Jvm.Cond.constantLong "DarkestDayModel" (414 : Nat) (50 : Int64)) ∈ TB := tz8 59 rfl rfl
theorem w_1845 : (Jvm.Cond.methodLink "DarkestDayLaw" (94 : Nat) ({ cls := "DarkestDayModel", name := "years", desc := "(IJ)I" } : Jvm.MethodName)) ∈ TB := tz8 60 rfl rfl
theorem w_1846 : (Jvm.Cond.instanceMethod ({ cls := "DarkestDayModel", name := "years", desc := "(IJ)I" } : Jvm.MethodName)) ∈ TB := tz8 61 rfl rfl
theorem w_1847 : (Jvm.Cond.selects "DarkestDayModel" ({ cls := "DarkestDayModel", name := "years", desc := "(IJ)I" } : Jvm.MethodName) ({ cls := "DarkestDayModel", name := "years", desc := "(IJ)I" } : Jvm.MethodName)) ∈ TB := tz8 62 rfl rfl
theorem w_1848 : (Jvm.Cond.code ({ cls := "DarkestDayModel", name := "years", desc := "(IJ)I" } : Jvm.MethodName) prog_14_method_73_code (6 : Nat) (Option.some Jvm.ClassFile.FieldType.int)) ∈ TB := tz8 63 rfl rfl
theorem w_1849 : (Jvm.Cond.constantLong "DarkestDayModel" (424 : Nat) (60 : Int64)) ∈ TB := tz8 64 rfl rfl
theorem w_1850 : (Jvm.Cond.methodLink "DarkestDayModel" (426 : Nat) ({ cls := "DarkestDayModel", name := "draw", desc := "(I)I" } : Jvm.MethodName)) ∈ TB := tz8 65 rfl rfl
theorem w_1852 : (Jvm.Cond.instanceMethod ({ cls := "DarkestDayModel", name := "draw", desc := "(I)I" } : Jvm.MethodName)) ∈ TB := tz8 67 rfl rfl
theorem w_1853 : (Jvm.Cond.code ({ cls := "DarkestDayModel", name := "draw", desc := "(I)I" } : Jvm.MethodName) prog_14_method_72_code (2 : Nat) (Option.some Jvm.ClassFile.FieldType.int)) ∈ TB := tz8 68 rfl rfl
theorem w_1854 : (Jvm.Cond.constantLong "DarkestDayModel" (420 : Nat) (6364136223846793005 : Int64)) ∈ TB := tz8 69 rfl rfl
theorem w_1855 : (Jvm.Cond.constantLong "DarkestDayModel" (422 : Nat) (1442695040888963407 : Int64)) ∈ TB := tz8 70 rfl rfl
theorem w_1856 : (Jvm.Cond.methodLink "DarkestDayLaw" (98 : Nat) ({ cls := "DarkestDayModel", name := "status", desc := "(I)I" } : Jvm.MethodName)) ∈ TB := tz8 71 rfl rfl
theorem w_1857 : (Jvm.Cond.instanceMethod ({ cls := "DarkestDayModel", name := "status", desc := "(I)I" } : Jvm.MethodName)) ∈ TB := tz8 72 rfl rfl
theorem w_1858 : (Jvm.Cond.selects "DarkestDayModel" ({ cls := "DarkestDayModel", name := "status", desc := "(I)I" } : Jvm.MethodName) ({ cls := "DarkestDayModel", name := "status", desc := "(I)I" } : Jvm.MethodName)) ∈ TB := tz8 73 rfl rfl
theorem w_1859 : (Jvm.Cond.code ({ cls := "DarkestDayModel", name := "status", desc := "(I)I" } : Jvm.MethodName) prog_14_method_74_code (2 : Nat) (Option.some Jvm.ClassFile.FieldType.int)) ∈ TB := tz8 74 rfl rfl
theorem w_1860 : (Jvm.Cond.constantLong "DarkestDayModel" (429 : Nat) (4 : Int64)) ∈ TB := tz8 75 rfl rfl
theorem w_1861 : (Jvm.Cond.methodLink "DarkestDayLaw" (102 : Nat) ({ cls := "DarkestDayModel", name := "undo", desc := "()I" } : Jvm.MethodName)) ∈ TB := tz8 76 rfl rfl
theorem w_1862 : (Jvm.Cond.instanceMethod ({ cls := "DarkestDayModel", name := "undo", desc := "()I" } : Jvm.MethodName)) ∈ TB := tz8 77 rfl rfl
theorem w_1863 : (Jvm.Cond.selects "DarkestDayModel" ({ cls := "DarkestDayModel", name := "undo", desc := "()I" } : Jvm.MethodName) ({ cls := "DarkestDayModel", name := "undo", desc := "()I" } : Jvm.MethodName)) ∈ TB := tz8 78 rfl rfl
theorem w_1864 : (Jvm.Cond.code ({ cls := "DarkestDayModel", name := "undo", desc := "()I" } : Jvm.MethodName) prog_14_method_75_code (2 : Nat) (Option.some Jvm.ClassFile.FieldType.int)) ∈ TB := tz8 79 rfl rfl
theorem w_1865 : (Jvm.Cond.methodLink "DarkestDayLaw" (106 : Nat) ({ cls := "DarkestDayModel", name := "log", desc := "(II)I" } : Jvm.MethodName)) ∈ TB := tz8 80 rfl rfl
theorem w_1866 : (Jvm.Cond.instanceMethod ({ cls := "DarkestDayModel", name := "log", desc := "(II)I" } : Jvm.MethodName)) ∈ TB := tz8 81 rfl rfl
theorem w_1867 : (Jvm.Cond.selects "DarkestDayModel" ({ cls := "DarkestDayModel", name := "log", desc := "(II)I" } : Jvm.MethodName) ({ cls := "DarkestDayModel", name := "log", desc := "(II)I" } : Jvm.MethodName)) ∈ TB := tz8 82 rfl rfl
theorem w_1868 : (Jvm.Cond.code ({ cls := "DarkestDayModel", name := "log", desc := "(II)I" } : Jvm.MethodName) prog_14_method_76_code (3 : Nat) (Option.some Jvm.ClassFile.FieldType.int)) ∈ TB := tz8 83 rfl rfl
theorem w_1869 : (Jvm.Cond.methodLink "DarkestDayLaw" (111 : Nat) ({ cls := "DarkestDayModel", name := "step", desc := "(III)I" } : Jvm.MethodName)) ∈ TB := tz8 84 rfl rfl
theorem w_1870 : (Jvm.Cond.instanceMethod ({ cls := "DarkestDayModel", name := "step", desc := "(III)I" } : Jvm.MethodName)) ∈ TB := tz8 85 rfl rfl
theorem w_1871 : (Jvm.Cond.selects "DarkestDayModel" ({ cls := "DarkestDayModel", name := "step", desc := "(III)I" } : Jvm.MethodName) ({ cls := "DarkestDayModel", name := "step", desc := "(III)I" } : Jvm.MethodName)) ∈ TB := tz8 86 rfl rfl
theorem w_1872 : (Jvm.Cond.code ({ cls := "DarkestDayModel", name := "step", desc := "(III)I" } : Jvm.MethodName) prog_14_method_78_code (4 : Nat) (Option.some Jvm.ClassFile.FieldType.int)) ∈ TB := tz8 87 rfl rfl
theorem w_1873 : (Jvm.Cond.methodLink "DarkestDayModel" (431 : Nat) ({ cls := "DarkestDayModel", name := "isPlan", desc := "(I)Z" } : Jvm.MethodName)) ∈ TB := tz8 88 rfl rfl
theorem w_1875 : (Jvm.Cond.instanceMethod ({ cls := "DarkestDayModel", name := "isPlan", desc := "(I)Z" } : Jvm.MethodName)) ∈ TB := tz8 90 rfl rfl
theorem w_1876 : (Jvm.Cond.code ({ cls := "DarkestDayModel", name := "isPlan", desc := "(I)Z" } : Jvm.MethodName) prog_14_method_77_code (2 : Nat) (Option.some Jvm.ClassFile.FieldType.boolean)) ∈ TB := tz8 91 rfl rfl
theorem w_1877 : (Jvm.Cond.methodLink "DarkestDayLaw" (115 : Nat) ({ cls := "DarkestDayModel", name := "run", desc := "(II)I" } : Jvm.MethodName)) ∈ TB := tz8 92 rfl rfl
theorem w_1878 : (Jvm.Cond.instanceMethod ({ cls := "DarkestDayModel", name := "run", desc := "(II)I" } : Jvm.MethodName)) ∈ TB := tz8 93 rfl rfl
theorem w_1879 : (Jvm.Cond.selects "DarkestDayModel" ({ cls := "DarkestDayModel", name := "run", desc := "(II)I" } : Jvm.MethodName) ({ cls := "DarkestDayModel", name := "run", desc := "(II)I" } : Jvm.MethodName)) ∈ TB := tz8 94 rfl rfl
theorem w_1880 : (Jvm.Cond.code ({ cls := "DarkestDayModel", name := "run", desc := "(II)I" } : Jvm.MethodName) prog_14_method_81_code (5 : Nat) (Option.some Jvm.ClassFile.FieldType.int)) ∈ TB := tz8 95 rfl rfl
theorem w_1881 : (Jvm.Cond.methodLink "DarkestDayModel" (434 : Nat) ({ cls := "DarkestDayModel", name := "copy", desc := "([I[I)V" } : Jvm.MethodName)) ∈ TB := tz8 96 rfl rfl
theorem w_1882 : (Jvm.Cond.static ({ cls := "DarkestDayModel", name := "copy", desc := "([I[I)V" } : Jvm.MethodName)) ∈ TB := tz8 97 rfl rfl
theorem w_1883 : (Jvm.Cond.code ({ cls := "DarkestDayModel", name := "copy", desc := "([I[I)V" } : Jvm.MethodName) prog_14_method_42_code (3 : Nat) (Option.none : Option Jvm.ClassFile.FieldType)) ∈ TB := tz8 98 rfl rfl
theorem w_1884 : (Jvm.Cond.methodLink "DarkestDayModel" (438 : Nat) ({ cls := "DarkestDayModel", name := "canStep", desc := "([II)Z" } : Jvm.MethodName)) ∈ TB := tz8 99 rfl rfl
theorem w_1886 : (Jvm.Cond.instanceMethod ({ cls := "DarkestDayModel", name := "canStep", desc := "([II)Z" } : Jvm.MethodName)) ∈ TB := tz8 101 rfl rfl
theorem w_1887 : (Jvm.Cond.code ({ cls := "DarkestDayModel", name := "canStep", desc := "([II)Z" } : Jvm.MethodName) prog_14_method_79_code (4 : Nat) (Option.some Jvm.ClassFile.FieldType.boolean)) ∈ TB := tz8 102 rfl rfl
theorem w_1888 : (Jvm.Cond.methodLink "DarkestDayModel" (442 : Nat) ({ cls := "DarkestDayModel", name := "goStep", desc := "([II)V" } : Jvm.MethodName)) ∈ TB := tz8 103 rfl rfl
theorem w_1890 : (Jvm.Cond.instanceMethod ({ cls := "DarkestDayModel", name := "goStep", desc := "([II)V" } : Jvm.MethodName)) ∈ TB := tz8 105 rfl rfl
theorem w_1891 : (Jvm.Cond.code ({ cls := "DarkestDayModel", name := "goStep", desc := "([II)V" } : Jvm.MethodName) prog_14_method_80_code (4 : Nat) (Option.none : Option Jvm.ClassFile.FieldType)) ∈ TB := tz8 106 rfl rfl
theorem w_1892 : (Jvm.Cond.methodLink "DarkestDayLaw" (119 : Nat) ({ cls := "DarkestDayModel", name := "perform", desc := "(I)I" } : Jvm.MethodName)) ∈ TB := tz8 107 rfl rfl
theorem w_1893 : (Jvm.Cond.instanceMethod ({ cls := "DarkestDayModel", name := "perform", desc := "(I)I" } : Jvm.MethodName)) ∈ TB := tz8 108 rfl rfl
theorem w_1894 : (Jvm.Cond.selects "DarkestDayModel" ({ cls := "DarkestDayModel", name := "perform", desc := "(I)I" } : Jvm.MethodName) ({ cls := "DarkestDayModel", name := "perform", desc := "(I)I" } : Jvm.MethodName)) ∈ TB := tz8 109 rfl rfl
theorem w_1895 : (Jvm.Cond.code ({ cls := "DarkestDayModel", name := "perform", desc := "(I)I" } : Jvm.MethodName) prog_14_method_82_code (4 : Nat) (Option.some Jvm.ClassFile.FieldType.int)) ∈ TB := tz8 110 rfl rfl
theorem w_1896 : (Jvm.Cond.methodLink "DarkestDayLaw" (123 : Nat) ({ cls := "DarkestDayModel", name := "light", desc := "(I)I" } : Jvm.MethodName)) ∈ TB := tz8 111 rfl rfl
theorem w_1897 : (Jvm.Cond.instanceMethod ({ cls := "DarkestDayModel", name := "light", desc := "(I)I" } : Jvm.MethodName)) ∈ TB := tz8 112 rfl rfl
theorem w_1898 : (Jvm.Cond.selects "DarkestDayModel" ({ cls := "DarkestDayModel", name := "light", desc := "(I)I" } : Jvm.MethodName) ({ cls := "DarkestDayModel", name := "light", desc := "(I)I" } : Jvm.MethodName)) ∈ TB := tz8 113 rfl rfl
theorem w_1899 : (Jvm.Cond.code ({ cls := "DarkestDayModel", name := "light", desc := "(I)I" } : Jvm.MethodName) prog_14_method_83_code (2 : Nat) (Option.some Jvm.ClassFile.FieldType.int)) ∈ TB := tz8 114 rfl rfl
theorem w_1900 : (Jvm.Cond.methodLink "DarkestDayLaw" (127 : Nat) ({ cls := "DarkestDayModel", name := "coming", desc := "(I)I" } : Jvm.MethodName)) ∈ TB := tz8 115 rfl rfl
theorem w_1901 : (Jvm.Cond.instanceMethod ({ cls := "DarkestDayModel", name := "coming", desc := "(I)I" } : Jvm.MethodName)) ∈ TB := tz8 116 rfl rfl
theorem w_1902 : (Jvm.Cond.selects "DarkestDayModel" ({ cls := "DarkestDayModel", name := "coming", desc := "(I)I" } : Jvm.MethodName) ({ cls := "DarkestDayModel", name := "coming", desc := "(I)I" } : Jvm.MethodName)) ∈ TB := tz8 117 rfl rfl
theorem w_1903 : (Jvm.Cond.code ({ cls := "DarkestDayModel", name := "coming", desc := "(I)I" } : Jvm.MethodName) prog_14_method_85_code (2 : Nat) (Option.some Jvm.ClassFile.FieldType.int)) ∈ TB := tz8 118 rfl rfl
theorem w_1904 : (Jvm.Cond.methodLink "DarkestDayModel" (446 : Nat) ({ cls := "DarkestDayModel", name := "darkest", desc := "()I" } : Jvm.MethodName)) ∈ TB := tz8 119 rfl rfl
theorem w_1906 : (Jvm.Cond.instanceMethod ({ cls := "DarkestDayModel", name := "darkest", desc := "()I" } : Jvm.MethodName)) ∈ TB := tz8 121 rfl rfl
theorem w_1907 : (Jvm.Cond.code ({ cls := "DarkestDayModel", name := "darkest", desc := "()I" } : Jvm.MethodName) prog_14_method_84_code (3 : Nat) (Option.some Jvm.ClassFile.FieldType.int)) ∈ TB := tz8 122 rfl rfl
theorem w_1908 : (Jvm.Cond.methodLink "DarkestDayLaw" (131 : Nat) ({ cls := "DarkestDayModel", name := "may", desc := "(I)I" } : Jvm.MethodName)) ∈ TB := tz8 123 rfl rfl
theorem w_1909 : (Jvm.Cond.instanceMethod ({ cls := "DarkestDayModel", name := "may", desc := "(I)I" } : Jvm.MethodName)) ∈ TB := tz8 124 rfl rfl
theorem w_1910 : (Jvm.Cond.selects "DarkestDayModel" ({ cls := "DarkestDayModel", name := "may", desc := "(I)I" } : Jvm.MethodName) ({ cls := "DarkestDayModel", name := "may", desc := "(I)I" } : Jvm.MethodName)) ∈ TB := tz8 125 rfl rfl
theorem w_1911 : (Jvm.Cond.code ({ cls := "DarkestDayModel", name := "may", desc := "(I)I" } : Jvm.MethodName) prog_14_method_86_code (5 : Nat) (Option.some Jvm.ClassFile.FieldType.int)) ∈ TB := tz8 126 rfl rfl
theorem w_1912 : (Jvm.Cond.constantLong "DarkestDayModel" (449 : Nat) (20 : Int64)) ∈ TB := tz8 127 rfl rfl
theorem w_1913 : (Jvm.Cond.methodLink "DarkestDayLaw" (135 : Nat) ({ cls := "DarkestDayModel", name := "governs", desc := "(I)I" } : Jvm.MethodName)) ∈ TB := tz8 128 rfl rfl
theorem w_1914 : (Jvm.Cond.instanceMethod ({ cls := "DarkestDayModel", name := "governs", desc := "(I)I" } : Jvm.MethodName)) ∈ TB := tz8 129 rfl rfl
theorem w_1915 : (Jvm.Cond.selects "DarkestDayModel" ({ cls := "DarkestDayModel", name := "governs", desc := "(I)I" } : Jvm.MethodName) ({ cls := "DarkestDayModel", name := "governs", desc := "(I)I" } : Jvm.MethodName)) ∈ TB := tz8 130 rfl rfl
theorem w_1916 : (Jvm.Cond.code ({ cls := "DarkestDayModel", name := "governs", desc := "(I)I" } : Jvm.MethodName) prog_14_method_88_code (3 : Nat) (Option.some Jvm.ClassFile.FieldType.int)) ∈ TB := tz8 131 rfl rfl
theorem w_1917 : (Jvm.Cond.methodLink "DarkestDayModel" (451 : Nat) ({ cls := "DarkestDayModel", name := "goYear", desc := "()V" } : Jvm.MethodName)) ∈ TB := tz8 132 rfl rfl
theorem w_1919 : (Jvm.Cond.instanceMethod ({ cls := "DarkestDayModel", name := "goYear", desc := "()V" } : Jvm.MethodName)) ∈ TB := tz8 134 rfl rfl
theorem w_1920 : (Jvm.Cond.code ({ cls := "DarkestDayModel", name := "goYear", desc := "()V" } : Jvm.MethodName) prog_14_method_87_code (2 : Nat) (Option.none : Option Jvm.ClassFile.FieldType)) ∈ TB := tz8 135 rfl rfl
theorem w_1921 : (Jvm.Cond.methodLink "DarkestDayLaw" (139 : Nat) ({ cls := "DarkestDayModel", name := "round", desc := "(I)I" } : Jvm.MethodName)) ∈ TB := tz8 136 rfl rfl
theorem w_1922 : (Jvm.Cond.instanceMethod ({ cls := "DarkestDayModel", name := "round", desc := "(I)I" } : Jvm.MethodName)) ∈ TB := tz8 137 rfl rfl
theorem w_1923 : (Jvm.Cond.selects "DarkestDayModel" ({ cls := "DarkestDayModel", name := "round", desc := "(I)I" } : Jvm.MethodName) ({ cls := "DarkestDayModel", name := "round", desc := "(I)I" } : Jvm.MethodName)) ∈ TB := tz8 138 rfl rfl
theorem w_1924 : (Jvm.Cond.code ({ cls := "DarkestDayModel", name := "round", desc := "(I)I" } : Jvm.MethodName) prog_14_method_89_code (7 : Nat) (Option.some Jvm.ClassFile.FieldType.int)) ∈ TB := tz8 139 rfl rfl
theorem w_1925 : (Jvm.Cond.methodLink "DarkestDayLaw" (143 : Nat) ({ cls := "DarkestDayModel", name := "swings", desc := "(I)I" } : Jvm.MethodName)) ∈ TB := tz8 140 rfl rfl
theorem w_1926 : (Jvm.Cond.instanceMethod ({ cls := "DarkestDayModel", name := "swings", desc := "(I)I" } : Jvm.MethodName)) ∈ TB := tz8 141 rfl rfl
theorem w_1927 : (Jvm.Cond.selects "DarkestDayModel" ({ cls := "DarkestDayModel", name := "swings", desc := "(I)I" } : Jvm.MethodName) ({ cls := "DarkestDayModel", name := "swings", desc := "(I)I" } : Jvm.MethodName)) ∈ TB := tz8 142 rfl rfl
theorem w_1928 : (Jvm.Cond.code ({ cls := "DarkestDayModel", name := "swings", desc := "(I)I" } : Jvm.MethodName) prog_14_method_91_code (2 : Nat) (Option.some Jvm.ClassFile.FieldType.int)) ∈ TB := tz8 143 rfl rfl
theorem w_1929 : (Jvm.Cond.methodLink "DarkestDayModel" (454 : Nat) ({ cls := "DarkestDayModel", name := "soughtBy", desc := "(IIZ)I" } : Jvm.MethodName)) ∈ TB := tz8 144 rfl rfl
theorem w_1931 : (Jvm.Cond.instanceMethod ({ cls := "DarkestDayModel", name := "soughtBy", desc := "(IIZ)I" } : Jvm.MethodName)) ∈ TB := tz8 146 rfl rfl
theorem w_1932 : (Jvm.Cond.code ({ cls := "DarkestDayModel", name := "soughtBy", desc := "(IIZ)I" } : Jvm.MethodName) prog_14_method_90_code (7 : Nat) (Option.some Jvm.ClassFile.FieldType.int)) ∈ TB := tz8 147 rfl rfl
theorem w_1933 : (Jvm.Cond.methodLink "DarkestDayLaw" (147 : Nat) ({ cls := "DarkestDayModel", name := "bedding", desc := "(I)I" } : Jvm.MethodName)) ∈ TB := tz8 148 rfl rfl
theorem w_1934 : (Jvm.Cond.instanceMethod ({ cls := "DarkestDayModel", name := "bedding", desc := "(I)I" } : Jvm.MethodName)) ∈ TB := tz8 149 rfl rfl
theorem w_1935 : (Jvm.Cond.selects "DarkestDayModel" ({ cls := "DarkestDayModel", name := "bedding", desc := "(I)I" } : Jvm.MethodName) ({ cls := "DarkestDayModel", name := "bedding", desc := "(I)I" } : Jvm.MethodName)) ∈ TB := tz8 150 rfl rfl
theorem w_1936 : (Jvm.Cond.code ({ cls := "DarkestDayModel", name := "bedding", desc := "(I)I" } : Jvm.MethodName) prog_14_method_92_code (2 : Nat) (Option.some Jvm.ClassFile.FieldType.int)) ∈ TB := tz8 151 rfl rfl
theorem w_1937 : (Jvm.Cond.methodLink "DarkestDayLaw" (151 : Nat) ({ cls := "DarkestDayModel", name := "coins", desc := "(I)I" } : Jvm.MethodName)) ∈ TB := tz8 152 rfl rfl
theorem w_1938 : (Jvm.Cond.instanceMethod ({ cls := "DarkestDayModel", name := "coins", desc := "(I)I" } : Jvm.MethodName)) ∈ TB := tz8 153 rfl rfl
theorem w_1939 : (Jvm.Cond.selects "DarkestDayModel" ({ cls := "DarkestDayModel", name := "coins", desc := "(I)I" } : Jvm.MethodName) ({ cls := "DarkestDayModel", name := "coins", desc := "(I)I" } : Jvm.MethodName)) ∈ TB := tz8 154 rfl rfl
theorem w_1940 : (Jvm.Cond.code ({ cls := "DarkestDayModel", name := "coins", desc := "(I)I" } : Jvm.MethodName) prog_14_method_93_code (4 : Nat) (Option.some Jvm.ClassFile.FieldType.int)) ∈ TB := tz8 155 rfl rfl
theorem w_1941 : (Jvm.Cond.constantLong "DarkestDayModel" (458 : Nat) (99 : Int64)) ∈ TB := tz8 156 rfl rfl
theorem w_1942 : (Jvm.Cond.methodLink "DarkestDayLaw" (156 : Nat) ({ cls := "DarkestDayModel", name := "seen", desc := "(IIZ)I" } : Jvm.MethodName)) ∈ TB := tz8 157 rfl rfl
theorem w_1943 : (Jvm.Cond.instanceMethod ({ cls := "DarkestDayModel", name := "seen", desc := "(IIZ)I" } : Jvm.MethodName)) ∈ TB := tz8 158 rfl rfl
theorem w_1944 : (Jvm.Cond.selects "DarkestDayModel" ({ cls := "DarkestDayModel", name := "seen", desc := "(IIZ)I" } : Jvm.MethodName) ({ cls := "DarkestDayModel", name := "seen", desc := "(IIZ)I" } : Jvm.MethodName)) ∈ TB := tz8 159 rfl rfl
theorem w_1945 : (Jvm.Cond.code ({ cls := "DarkestDayModel", name := "seen", desc := "(IIZ)I" } : Jvm.MethodName) prog_14_method_94_code (4 : Nat) (Option.some Jvm.ClassFile.FieldType.int)) ∈ TB := tz8 160 rfl rfl
theorem w_1946 : (Jvm.Cond.constantLong "DarkestDayModel" (460 : Nat) (999 : Int64)) ∈ TB := tz8 161 rfl rfl
theorem w_1947 : (Jvm.Cond.methodLink "DarkestDayLaw" (160 : Nat) ({ cls := "DarkestDayModel", name := "habits", desc := "(II)I" } : Jvm.MethodName)) ∈ TB := tz8 162 rfl rfl
theorem w_1948 : (Jvm.Cond.instanceMethod ({ cls := "DarkestDayModel", name := "habits", desc := "(II)I" } : Jvm.MethodName)) ∈ TB := tz8 163 rfl rfl
theorem w_1949 : (Jvm.Cond.selects "DarkestDayModel" ({ cls := "DarkestDayModel", name := "habits", desc := "(II)I" } : Jvm.MethodName) ({ cls := "DarkestDayModel", name := "habits", desc := "(II)I" } : Jvm.MethodName)) ∈ TB := tz8 164 rfl rfl
theorem w_1950 : (Jvm.Cond.code ({ cls := "DarkestDayModel", name := "habits", desc := "(II)I" } : Jvm.MethodName) prog_14_method_96_code (6 : Nat) (Option.some Jvm.ClassFile.FieldType.int)) ∈ TB := tz8 165 rfl rfl
theorem w_1951 : (Jvm.Cond.methodLink "DarkestDayModel" (462 : Nat) ({ cls := "DarkestDayModel", name := "laysHabits", desc := "(I)I" } : Jvm.MethodName)) ∈ TB := tz8 166 rfl rfl
theorem w_1953 : (Jvm.Cond.instanceMethod ({ cls := "DarkestDayModel", name := "laysHabits", desc := "(I)I" } : Jvm.MethodName)) ∈ TB := tz8 168 rfl rfl
theorem w_1954 : (Jvm.Cond.code ({ cls := "DarkestDayModel", name := "laysHabits", desc := "(I)I" } : Jvm.MethodName) prog_14_method_95_code (6 : Nat) (Option.some Jvm.ClassFile.FieldType.int)) ∈ TB := tz8 169 rfl rfl
theorem w_1955 : (Jvm.Cond.methodLink "DarkestDayLaw" (164 : Nat) ({ cls := "DarkestDayModel", name := "ask", desc := "(I)I" } : Jvm.MethodName)) ∈ TB := tz8 170 rfl rfl
theorem w_1956 : (Jvm.Cond.instanceMethod ({ cls := "DarkestDayModel", name := "ask", desc := "(I)I" } : Jvm.MethodName)) ∈ TB := tz8 171 rfl rfl
theorem w_1957 : (Jvm.Cond.selects "DarkestDayModel" ({ cls := "DarkestDayModel", name := "ask", desc := "(I)I" } : Jvm.MethodName) ({ cls := "DarkestDayModel", name := "ask", desc := "(I)I" } : Jvm.MethodName)) ∈ TB := tz8 172 rfl rfl
theorem w_1958 : (Jvm.Cond.code ({ cls := "DarkestDayModel", name := "ask", desc := "(I)I" } : Jvm.MethodName) prog_14_method_97_code (9 : Nat) (Option.some Jvm.ClassFile.FieldType.int)) ∈ TB := tz8 173 rfl rfl
theorem w_1959 : (Jvm.Cond.methodLink "DarkestDayLaw" (168 : Nat) ({ cls := "DarkestDayModel", name := "game", desc := "(IIIII)I" } : Jvm.MethodName)) ∈ TB := tz8 174 rfl rfl
theorem w_1960 : (Jvm.Cond.instanceMethod ({ cls := "DarkestDayModel", name := "game", desc := "(IIIII)I" } : Jvm.MethodName)) ∈ TB := tz8 175 rfl rfl
theorem w_1961 : (Jvm.Cond.selects "DarkestDayModel" ({ cls := "DarkestDayModel", name := "game", desc := "(IIIII)I" } : Jvm.MethodName) ({ cls := "DarkestDayModel", name := "game", desc := "(IIIII)I" } : Jvm.MethodName)) ∈ TB := tz8 176 rfl rfl
theorem w_1962 : (Jvm.Cond.code ({ cls := "DarkestDayModel", name := "game", desc := "(IIIII)I" } : Jvm.MethodName) prog_14_method_100_code (6 : Nat) (Option.some Jvm.ClassFile.FieldType.int)) ∈ TB := tz8 177 rfl rfl
theorem w_1963 : (Jvm.Cond.methodLink "DarkestDayModel" (465 : Nat) ({ cls := "DarkestDayModel", name := "canPlay", desc := "(II)Z" } : Jvm.MethodName)) ∈ TB := tz8 178 rfl rfl
theorem w_1965 : (Jvm.Cond.instanceMethod ({ cls := "DarkestDayModel", name := "canPlay", desc := "(II)Z" } : Jvm.MethodName)) ∈ TB := tz8 180 rfl rfl
theorem w_1966 : (Jvm.Cond.code ({ cls := "DarkestDayModel", name := "canPlay", desc := "(II)Z" } : Jvm.MethodName) prog_14_method_99_code (3 : Nat) (Option.some Jvm.ClassFile.FieldType.boolean)) ∈ TB := tz8 181 rfl rfl
theorem w_1967 : (Jvm.Cond.methodLink "DarkestDayModel" (468 : Nat) ({ cls := "DarkestDayModel", name := "gameOf", desc := "(IIIII)I" } : Jvm.MethodName)) ∈ TB := tz8 182 rfl rfl
theorem w_1969 : (Jvm.Cond.instanceMethod ({ cls := "DarkestDayModel", name := "gameOf", desc := "(IIIII)I" } : Jvm.MethodName)) ∈ TB := tz8 184 rfl rfl
theorem w_1970 : (Jvm.Cond.code ({ cls := "DarkestDayModel", name := "gameOf", desc := "(IIIII)I" } : Jvm.MethodName) prog_14_method_98_code (7 : Nat) (Option.some Jvm.ClassFile.FieldType.int)) ∈ TB := tz8 185 rfl rfl
theorem w_1971 : (Jvm.Cond.methodLink "DarkestDayLaw" (172 : Nat) ({ cls := "DarkestDayModel", name := "rests", desc := "(III)I" } : Jvm.MethodName)) ∈ TB := tz8 186 rfl rfl
theorem w_1972 : (Jvm.Cond.instanceMethod ({ cls := "DarkestDayModel", name := "rests", desc := "(III)I" } : Jvm.MethodName)) ∈ TB := tz8 187 rfl rfl
theorem w_1973 : (Jvm.Cond.selects "DarkestDayModel" ({ cls := "DarkestDayModel", name := "rests", desc := "(III)I" } : Jvm.MethodName) ({ cls := "DarkestDayModel", name := "rests", desc := "(III)I" } : Jvm.MethodName)) ∈ TB := tz8 188 rfl rfl
theorem w_1974 : (Jvm.Cond.code ({ cls := "DarkestDayModel", name := "rests", desc := "(III)I" } : Jvm.MethodName) prog_14_method_101_code (9 : Nat) (Option.some Jvm.ClassFile.FieldType.int)) ∈ TB := tz8 189 rfl rfl
theorem w_1975 : (Jvm.Cond.methodLink "DarkestDayLaw" (176 : Nat) ({ cls := "DarkestDayModel", name := "odds", desc := "(II)I" } : Jvm.MethodName)) ∈ TB := tz8 190 rfl rfl
theorem w_1976 : (Jvm.Cond.instanceMethod ({ cls := "DarkestDayModel", name := "odds", desc := "(II)I" } : Jvm.MethodName)) ∈ TB := tz8 191 rfl rfl
theorem w_1977 : (Jvm.Cond.selects "DarkestDayModel" ({ cls := "DarkestDayModel", name := "odds", desc := "(II)I" } : Jvm.MethodName) ({ cls := "DarkestDayModel", name := "odds", desc := "(II)I" } : Jvm.MethodName)) ∈ TB := tz8 192 rfl rfl
theorem w_1978 : (Jvm.Cond.code ({ cls := "DarkestDayModel", name := "odds", desc := "(II)I" } : Jvm.MethodName) prog_14_method_103_code (4 : Nat) (Option.some Jvm.ClassFile.FieldType.int)) ∈ TB := tz8 193 rfl rfl
theorem w_1979 : (Jvm.Cond.constant "DarkestDayModel" (475 : Nat) (1000000000 : Int32)) ∈ TB := tz8 194 rfl rfl
theorem w_1980 : (Jvm.Cond.methodLink "DarkestDayModel" (471 : Nat) ({ cls := "DarkestDayModel", name := "oddsFrom", desc := "(IIII)I" } : Jvm.MethodName)) ∈ TB := tz8 195 rfl rfl
theorem w_1982 : (Jvm.Cond.instanceMethod ({ cls := "DarkestDayModel", name := "oddsFrom", desc := "(IIII)I" } : Jvm.MethodName)) ∈ TB := tz8 197 rfl rfl
theorem w_1983 : (Jvm.Cond.code ({ cls := "DarkestDayModel", name := "oddsFrom", desc := "(IIII)I" } : Jvm.MethodName) prog_14_method_102_code (7 : Nat) (Option.some Jvm.ClassFile.FieldType.int)) ∈ TB := tz8 198 rfl rfl
theorem w_1984 : (Jvm.Cond.methodLink "DarkestDayLaw" (180 : Nat) ({ cls := "DarkestDayModel", name := "shares", desc := "(II)I" } : Jvm.MethodName)) ∈ TB := tz8 199 rfl rfl
theorem w_1985 : (Jvm.Cond.instanceMethod ({ cls := "DarkestDayModel", name := "shares", desc := "(II)I" } : Jvm.MethodName)) ∈ TB := tz8 200 rfl rfl
theorem w_1986 : (Jvm.Cond.selects "DarkestDayModel" ({ cls := "DarkestDayModel", name := "shares", desc := "(II)I" } : Jvm.MethodName) ({ cls := "DarkestDayModel", name := "shares", desc := "(II)I" } : Jvm.MethodName)) ∈ TB := tz8 201 rfl rfl
theorem w_1987 : (Jvm.Cond.code ({ cls := "DarkestDayModel", name := "shares", desc := "(II)I" } : Jvm.MethodName) prog_14_method_104_code (5 : Nat) (Option.some Jvm.ClassFile.FieldType.int)) ∈ TB := tz8 202 rfl rfl
theorem w_1988 : (Jvm.Cond.methodLink "DarkestDayLaw" (184 : Nat) ({ cls := "DarkestDayModel", name := "did", desc := "(II)I" } : Jvm.MethodName)) ∈ TB := tz8 203 rfl rfl
theorem w_1989 : (Jvm.Cond.instanceMethod ({ cls := "DarkestDayModel", name := "did", desc := "(II)I" } : Jvm.MethodName)) ∈ TB := tz8 204 rfl rfl
theorem w_1990 : (Jvm.Cond.selects "DarkestDayModel" ({ cls := "DarkestDayModel", name := "did", desc := "(II)I" } : Jvm.MethodName) ({ cls := "DarkestDayModel", name := "did", desc := "(II)I" } : Jvm.MethodName)) ∈ TB := tz8 205 rfl rfl
theorem w_1991 : (Jvm.Cond.code ({ cls := "DarkestDayModel", name := "did", desc := "(II)I" } : Jvm.MethodName) prog_14_method_105_code (3 : Nat) (Option.some Jvm.ClassFile.FieldType.int)) ∈ TB := tz8 206 rfl rfl
theorem w_1992 : (Jvm.Cond.methodLink "DarkestDayLaw" (188 : Nat) ({ cls := "DarkestDayModel", name := "all", desc := "(I)I" } : Jvm.MethodName)) ∈ TB := tz8 207 rfl rfl
theorem w_1993 : (Jvm.Cond.instanceMethod ({ cls := "DarkestDayModel", name := "all", desc := "(I)I" } : Jvm.MethodName)) ∈ TB := tz8 208 rfl rfl
theorem w_1994 : (Jvm.Cond.selects "DarkestDayModel" ({ cls := "DarkestDayModel", name := "all", desc := "(I)I" } : Jvm.MethodName) ({ cls := "DarkestDayModel", name := "all", desc := "(I)I" } : Jvm.MethodName)) ∈ TB := tz8 209 rfl rfl
theorem w_1995 : (Jvm.Cond.code ({ cls := "DarkestDayModel", name := "all", desc := "(I)I" } : Jvm.MethodName) prog_14_method_111_code (2 : Nat) (Option.some Jvm.ClassFile.FieldType.int)) ∈ TB := tz8 210 rfl rfl
theorem w_1996 : (Jvm.Cond.methodLink "DarkestDayModel" (479 : Nat) ({ cls := "DarkestDayModel", name := "greatest", desc := "(I)I" } : Jvm.MethodName)) ∈ TB := tz8 211 rfl rfl
theorem w_1998 : (Jvm.Cond.instanceMethod ({ cls := "DarkestDayModel", name := "greatest", desc := "(I)I" } : Jvm.MethodName)) ∈ TB := tz8 213 rfl rfl
theorem w_1999 : (Jvm.Cond.code ({ cls := "DarkestDayModel", name := "greatest", desc := "(I)I" } : Jvm.MethodName) prog_14_method_107_code (4 : Nat) (Option.some Jvm.ClassFile.FieldType.int)) ∈ TB := tz8 214 rfl rfl
theorem w_2000 : (Jvm.Cond.methodLink "DarkestDayModel" (476 : Nat) ({ cls := "DarkestDayModel", name := "valueOf", desc := "(II)I" } : Jvm.MethodName)) ∈ TB := tz8 215 rfl rfl
theorem w_2002 : (Jvm.Cond.instanceMethod ({ cls := "DarkestDayModel", name := "valueOf", desc := "(II)I" } : Jvm.MethodName)) ∈ TB := tz8 217 rfl rfl
theorem w_2003 : (Jvm.Cond.code ({ cls := "DarkestDayModel", name := "valueOf", desc := "(II)I" } : Jvm.MethodName) prog_14_method_106_code (3 : Nat) (Option.some Jvm.ClassFile.FieldType.int)) ∈ TB := tz8 218 rfl rfl
theorem w_2004 : (Jvm.Cond.methodLink "DarkestDayModel" (482 : Nat) ({ cls := "DarkestDayModel", name := "idle", desc := "()I" } : Jvm.MethodName)) ∈ TB := tz8 219 rfl rfl
theorem w_2006 : (Jvm.Cond.instanceMethod ({ cls := "DarkestDayModel", name := "idle", desc := "()I" } : Jvm.MethodName)) ∈ TB := tz8 221 rfl rfl
theorem w_2007 : (Jvm.Cond.code ({ cls := "DarkestDayModel", name := "idle", desc := "()I" } : Jvm.MethodName) prog_14_method_108_code (4 : Nat) (Option.some Jvm.ClassFile.FieldType.int)) ∈ TB := tz8 222 rfl rfl
theorem w_2008 : (Jvm.Cond.methodLink "DarkestDayModel" (485 : Nat) ({ cls := "DarkestDayModel", name := "dark", desc := "()I" } : Jvm.MethodName)) ∈ TB := tz8 223 rfl rfl
theorem w_2010 : (Jvm.Cond.instanceMethod ({ cls := "DarkestDayModel", name := "dark", desc := "()I" } : Jvm.MethodName)) ∈ TB := tz8 225 rfl rfl
theorem w_2011 : (Jvm.Cond.code ({ cls := "DarkestDayModel", name := "dark", desc := "()I" } : Jvm.MethodName) prog_14_method_109_code (3 : Nat) (Option.some Jvm.ClassFile.FieldType.int)) ∈ TB := tz8 226 rfl rfl
theorem w_2012 : (Jvm.Cond.methodLink "DarkestDayModel" (488 : Nat) ({ cls := "DarkestDayModel", name := "swayed", desc := "()I" } : Jvm.MethodName)) ∈ TB := tz8 227 rfl rfl
theorem w_2014 : (Jvm.Cond.instanceMethod ({ cls := "DarkestDayModel", name := "swayed", desc := "()I" } : Jvm.MethodName)) ∈ TB := tz8 229 rfl rfl
theorem w_2015 : (Jvm.Cond.code ({ cls := "DarkestDayModel", name := "swayed", desc := "()I" } : Jvm.MethodName) prog_14_method_110_code (3 : Nat) (Option.some Jvm.ClassFile.FieldType.int)) ∈ TB := tz8 230 rfl rfl
theorem w_2016 : (Jvm.Cond.methodLink "DarkestDayLaw" (192 : Nat) ({ cls := "DarkestDayModel", name := "image", desc := "()I" } : Jvm.MethodName)) ∈ TB := tz8 231 rfl rfl
theorem w_2017 : (Jvm.Cond.instanceMethod ({ cls := "DarkestDayModel", name := "image", desc := "()I" } : Jvm.MethodName)) ∈ TB := tz8 232 rfl rfl
theorem w_2018 : (Jvm.Cond.selects "DarkestDayModel" ({ cls := "DarkestDayModel", name := "image", desc := "()I" } : Jvm.MethodName) ({ cls := "DarkestDayModel", name := "image", desc := "()I" } : Jvm.MethodName)) ∈ TB := tz8 233 rfl rfl
theorem w_2019 : (Jvm.Cond.code ({ cls := "DarkestDayModel", name := "image", desc := "()I" } : Jvm.MethodName) prog_14_method_112_code (2 : Nat) (Option.some Jvm.ClassFile.FieldType.int)) ∈ TB := tz8 234 rfl rfl
theorem w_2020 : (Jvm.Cond.methodLink "DarkestDayLaw" (196 : Nat) ({ cls := "DarkestDayModel", name := "back", desc := "()I" } : Jvm.MethodName)) ∈ TB := tz8 235 rfl rfl
theorem w_2021 : (Jvm.Cond.instanceMethod ({ cls := "DarkestDayModel", name := "back", desc := "()I" } : Jvm.MethodName)) ∈ TB := tz8 236 rfl rfl
theorem w_2022 : (Jvm.Cond.selects "DarkestDayModel" ({ cls := "DarkestDayModel", name := "back", desc := "()I" } : Jvm.MethodName) ({ cls := "DarkestDayModel", name := "back", desc := "()I" } : Jvm.MethodName)) ∈ TB := tz8 237 rfl rfl
theorem w_2023 : (Jvm.Cond.code ({ cls := "DarkestDayModel", name := "back", desc := "()I" } : Jvm.MethodName) prog_14_method_113_code (2 : Nat) (Option.some Jvm.ClassFile.FieldType.int)) ∈ TB := tz8 238 rfl rfl
theorem w_2024 : (Jvm.Cond.methodLink "DarkestDayLaw" (200 : Nat) ({ cls := "DarkestDayModel", name := "count", desc := "(I)I" } : Jvm.MethodName)) ∈ TB := tz8 239 rfl rfl
theorem w_2025 : (Jvm.Cond.instanceMethod ({ cls := "DarkestDayModel", name := "count", desc := "(I)I" } : Jvm.MethodName)) ∈ TB := tz9 0 rfl rfl
theorem w_2026 : (Jvm.Cond.selects "DarkestDayModel" ({ cls := "DarkestDayModel", name := "count", desc := "(I)I" } : Jvm.MethodName) ({ cls := "DarkestDayModel", name := "count", desc := "(I)I" } : Jvm.MethodName)) ∈ TB := tz9 1 rfl rfl
theorem w_2027 : (Jvm.Cond.code ({ cls := "DarkestDayModel", name := "count", desc := "(I)I" } : Jvm.MethodName) prog_14_method_114_code (2 : Nat) (Option.some Jvm.ClassFile.FieldType.int)) ∈ TB := tz9 2 rfl rfl
theorem w_2028 : (Jvm.Cond.constantLong "DarkestDayLaw" (88 : Nat) (4294967295 : Int64)) ∈ TB := tz9 3 rfl rfl
theorem w_2046 : (Jvm.Cond.fieldLink "java/lang/String" (9 : Nat) "java/lang/String" "value" "[B") ∈ TB := tz9 21 rfl rfl
theorem w_2047 : (Jvm.Cond.fieldLink "java/lang/String" (15 : Nat) "java/lang/String" "coder" "B") ∈ TB := tz9 22 rfl rfl
theorem w_2048 : (Jvm.Cond.arrayClass Jvm.ClassFile.FieldType.char) ∈ TB := tz9 23 rfl rfl
theorem uw_0_0 : u_lay RX0 TX0 0 ∈ TB := tz2 18 rfl rfl
theorem uw_0_1 : u_lay RX0 TX0 1 ∈ TB := tz2 16 rfl rfl
theorem uw_0 : ∀ w ∈ u_ws RX0 TX0 2, w ∈ TB := fun w hw => by
  obtain ⟨k, hk, rfl⟩ := List.mem_map.mp hw
  have hk := List.mem_range.mp hk
  by_cases h0 : k = 0
  · subst h0; exact uw_0_0
  by_cases h1 : k = 1
  · subst h1; exact uw_0_1
  omega
theorem uw_1_0 : u_lay RX1 TX1 0 ∈ TB := tz1 126 rfl rfl
theorem uw_1_1 : u_lay RX1 TX1 1 ∈ TB := tz1 128 rfl rfl
theorem uw_1_2 : u_lay RX1 TX1 2 ∈ TB := tz1 130 rfl rfl
theorem uw_1_3 : u_lay RX1 TX1 3 ∈ TB := tz1 132 rfl rfl
theorem uw_1_4 : u_lay RX1 TX1 4 ∈ TB := tz1 134 rfl rfl
theorem uw_1 : ∀ w ∈ u_ws RX1 TX1 5, w ∈ TB := fun w hw => by
  obtain ⟨k, hk, rfl⟩ := List.mem_map.mp hw
  have hk := List.mem_range.mp hk
  by_cases h0 : k = 0
  · subst h0; exact uw_1_0
  by_cases h1 : k = 1
  · subst h1; exact uw_1_1
  by_cases h2 : k = 2
  · subst h2; exact uw_1_2
  by_cases h3 : k = 3
  · subst h3; exact uw_1_3
  by_cases h4 : k = 4
  · subst h4; exact uw_1_4
  omega
theorem uw_2_0 : u_lay RX2 TX2 0 ∈ TB := tz1 231 rfl rfl
theorem uw_2_1 : u_lay RX2 TX2 1 ∈ TB := tz1 233 rfl rfl
theorem uw_2_2 : u_lay RX2 TX2 2 ∈ TB := tz1 235 rfl rfl
theorem uw_2 : ∀ w ∈ u_ws RX2 TX2 3, w ∈ TB := fun w hw => by
  obtain ⟨k, hk, rfl⟩ := List.mem_map.mp hw
  have hk := List.mem_range.mp hk
  by_cases h0 : k = 0
  · subst h0; exact uw_2_0
  by_cases h1 : k = 1
  · subst h1; exact uw_2_1
  by_cases h2 : k = 2
  · subst h2; exact uw_2_2
  omega
theorem uw_3_0 : u_lay RX3 TX3 0 ∈ TB := tz2 8 rfl rfl
theorem uw_3_1 : u_lay RX3 TX3 1 ∈ TB := tz2 6 rfl rfl
theorem uw_3 : ∀ w ∈ u_ws RX3 TX3 2, w ∈ TB := fun w hw => by
  obtain ⟨k, hk, rfl⟩ := List.mem_map.mp hw
  have hk := List.mem_range.mp hk
  by_cases h0 : k = 0
  · subst h0; exact uw_3_0
  by_cases h1 : k = 1
  · subst h1; exact uw_3_1
  omega
theorem uw_4_0 : u_lay RX4 TX4 0 ∈ TB := tz1 86 rfl rfl
theorem uw_4_1 : u_lay RX4 TX4 1 ∈ TB := tz1 88 rfl rfl
theorem uw_4_2 : u_lay RX4 TX4 2 ∈ TB := tz1 90 rfl rfl
theorem uw_4_3 : u_lay RX4 TX4 3 ∈ TB := tz1 92 rfl rfl
theorem uw_4_4 : u_lay RX4 TX4 4 ∈ TB := tz1 94 rfl rfl
theorem uw_4_5 : u_lay RX4 TX4 5 ∈ TB := tz1 96 rfl rfl
theorem uw_4_6 : u_lay RX4 TX4 6 ∈ TB := tz1 98 rfl rfl
theorem uw_4_7 : u_lay RX4 TX4 7 ∈ TB := tz1 100 rfl rfl
theorem uw_4_8 : u_lay RX4 TX4 8 ∈ TB := tz1 102 rfl rfl
theorem uw_4 : ∀ w ∈ u_ws RX4 TX4 9, w ∈ TB := fun w hw => by
  obtain ⟨k, hk, rfl⟩ := List.mem_map.mp hw
  have hk := List.mem_range.mp hk
  by_cases h0 : k = 0
  · subst h0; exact uw_4_0
  by_cases h1 : k = 1
  · subst h1; exact uw_4_1
  by_cases h2 : k = 2
  · subst h2; exact uw_4_2
  by_cases h3 : k = 3
  · subst h3; exact uw_4_3
  by_cases h4 : k = 4
  · subst h4; exact uw_4_4
  by_cases h5 : k = 5
  · subst h5; exact uw_4_5
  by_cases h6 : k = 6
  · subst h6; exact uw_4_6
  by_cases h7 : k = 7
  · subst h7; exact uw_4_7
  by_cases h8 : k = 8
  · subst h8; exact uw_4_8
  omega
theorem uw_5_0 : u_lay RX5 TX5 0 ∈ TB := tz1 163 rfl rfl
theorem uw_5_1 : u_lay RX5 TX5 1 ∈ TB := tz1 165 rfl rfl
theorem uw_5_2 : u_lay RX5 TX5 2 ∈ TB := tz1 167 rfl rfl
theorem uw_5_3 : u_lay RX5 TX5 3 ∈ TB := tz1 169 rfl rfl
theorem uw_5_4 : u_lay RX5 TX5 4 ∈ TB := tz1 171 rfl rfl
theorem uw_5_5 : u_lay RX5 TX5 5 ∈ TB := tz1 173 rfl rfl
theorem uw_5_6 : u_lay RX5 TX5 6 ∈ TB := tz1 175 rfl rfl
theorem uw_5_7 : u_lay RX5 TX5 7 ∈ TB := tz1 177 rfl rfl
theorem uw_5_8 : u_lay RX5 TX5 8 ∈ TB := tz1 179 rfl rfl
theorem uw_5_9 : u_lay RX5 TX5 9 ∈ TB := tz1 181 rfl rfl
theorem uw_5 : ∀ w ∈ u_ws RX5 TX5 10, w ∈ TB := fun w hw => by
  obtain ⟨k, hk, rfl⟩ := List.mem_map.mp hw
  have hk := List.mem_range.mp hk
  by_cases h0 : k = 0
  · subst h0; exact uw_5_0
  by_cases h1 : k = 1
  · subst h1; exact uw_5_1
  by_cases h2 : k = 2
  · subst h2; exact uw_5_2
  by_cases h3 : k = 3
  · subst h3; exact uw_5_3
  by_cases h4 : k = 4
  · subst h4; exact uw_5_4
  by_cases h5 : k = 5
  · subst h5; exact uw_5_5
  by_cases h6 : k = 6
  · subst h6; exact uw_5_6
  by_cases h7 : k = 7
  · subst h7; exact uw_5_7
  by_cases h8 : k = 8
  · subst h8; exact uw_5_8
  by_cases h9 : k = 9
  · subst h9; exact uw_5_9
  omega
theorem uw_6_0 : u_lay RX6 TX6 0 ∈ TB := tz1 63 rfl rfl
theorem uw_6 : ∀ w ∈ u_ws RX6 TX6 1, w ∈ TB := fun w hw => by
  obtain ⟨k, hk, rfl⟩ := List.mem_map.mp hw
  have hk := List.mem_range.mp hk
  by_cases h0 : k = 0
  · subst h0; exact uw_6_0
  omega
theorem uw_7_0 : u_lay RX7 TX7 0 ∈ TB := tz1 75 rfl rfl
theorem uw_7 : ∀ w ∈ u_ws RX7 TX7 1, w ∈ TB := fun w hw => by
  obtain ⟨k, hk, rfl⟩ := List.mem_map.mp hw
  have hk := List.mem_range.mp hk
  by_cases h0 : k = 0
  · subst h0; exact uw_7_0
  omega
theorem uw_8_0 : u_lay RX8 TX8 0 ∈ TB := tz1 149 rfl rfl
theorem uw_8 : ∀ w ∈ u_ws RX8 TX8 1, w ∈ TB := fun w hw => by
  obtain ⟨k, hk, rfl⟩ := List.mem_map.mp hw
  have hk := List.mem_range.mp hk
  by_cases h0 : k = 0
  · subst h0; exact uw_8_0
  omega
theorem uw_9_0 : u_lay RX9 TX9 0 ∈ TB := tz1 43 rfl rfl
theorem uw_9_1 : u_lay RX9 TX9 1 ∈ TB := tz1 45 rfl rfl
theorem uw_9_2 : u_lay RX9 TX9 2 ∈ TB := tz1 47 rfl rfl
theorem uw_9_3 : u_lay RX9 TX9 3 ∈ TB := tz1 49 rfl rfl
theorem uw_9 : ∀ w ∈ u_ws RX9 TX9 4, w ∈ TB := fun w hw => by
  obtain ⟨k, hk, rfl⟩ := List.mem_map.mp hw
  have hk := List.mem_range.mp hk
  by_cases h0 : k = 0
  · subst h0; exact uw_9_0
  by_cases h1 : k = 1
  · subst h1; exact uw_9_1
  by_cases h2 : k = 2
  · subst h2; exact uw_9_2
  by_cases h3 : k = 3
  · subst h3; exact uw_9_3
  omega
theorem uw_10_0 : u_lay RX10 TX10 0 ∈ TB := tz1 202 rfl rfl
theorem uw_10_1 : u_lay RX10 TX10 1 ∈ TB := tz1 204 rfl rfl
theorem uw_10_2 : u_lay RX10 TX10 2 ∈ TB := tz1 206 rfl rfl
theorem uw_10_3 : u_lay RX10 TX10 3 ∈ TB := tz1 208 rfl rfl
theorem uw_10_4 : u_lay RX10 TX10 4 ∈ TB := tz1 210 rfl rfl
theorem uw_10_5 : u_lay RX10 TX10 5 ∈ TB := tz1 212 rfl rfl
theorem uw_10_6 : u_lay RX10 TX10 6 ∈ TB := tz1 214 rfl rfl
theorem uw_10_7 : u_lay RX10 TX10 7 ∈ TB := tz1 216 rfl rfl
theorem uw_10 : ∀ w ∈ u_ws RX10 TX10 8, w ∈ TB := fun w hw => by
  obtain ⟨k, hk, rfl⟩ := List.mem_map.mp hw
  have hk := List.mem_range.mp hk
  by_cases h0 : k = 0
  · subst h0; exact uw_10_0
  by_cases h1 : k = 1
  · subst h1; exact uw_10_1
  by_cases h2 : k = 2
  · subst h2; exact uw_10_2
  by_cases h3 : k = 3
  · subst h3; exact uw_10_3
  by_cases h4 : k = 4
  · subst h4; exact uw_10_4
  by_cases h5 : k = 5
  · subst h5; exact uw_10_5
  by_cases h6 : k = 6
  · subst h6; exact uw_10_6
  by_cases h7 : k = 7
  · subst h7; exact uw_10_7
  omega
theorem uw_11_0 : u_lay RX11 TX11 0 ∈ TB := tz2 38 rfl rfl
theorem uw_11_1 : u_lay RX11 TX11 1 ∈ TB := tz2 40 rfl rfl
theorem uw_11_2 : u_lay RX11 TX11 2 ∈ TB := tz2 42 rfl rfl
theorem uw_11_3 : u_lay RX11 TX11 3 ∈ TB := tz2 44 rfl rfl
theorem uw_11_4 : u_lay RX11 TX11 4 ∈ TB := tz2 46 rfl rfl
theorem uw_11_5 : u_lay RX11 TX11 5 ∈ TB := tz2 48 rfl rfl
theorem uw_11_6 : u_lay RX11 TX11 6 ∈ TB := tz2 50 rfl rfl
theorem uw_11_7 : u_lay RX11 TX11 7 ∈ TB := tz2 52 rfl rfl
theorem uw_11_8 : u_lay RX11 TX11 8 ∈ TB := tz2 54 rfl rfl
theorem uw_11_9 : u_lay RX11 TX11 9 ∈ TB := tz2 56 rfl rfl
theorem uw_11_10 : u_lay RX11 TX11 10 ∈ TB := tz2 58 rfl rfl
theorem uw_11_11 : u_lay RX11 TX11 11 ∈ TB := tz2 60 rfl rfl
theorem uw_11_12 : u_lay RX11 TX11 12 ∈ TB := tz2 62 rfl rfl
theorem uw_11_13 : u_lay RX11 TX11 13 ∈ TB := tz2 64 rfl rfl
theorem uw_11_14 : u_lay RX11 TX11 14 ∈ TB := tz2 66 rfl rfl
theorem uw_11_15 : u_lay RX11 TX11 15 ∈ TB := tz2 68 rfl rfl
theorem uw_11_16 : u_lay RX11 TX11 16 ∈ TB := tz2 70 rfl rfl
theorem uw_11_17 : u_lay RX11 TX11 17 ∈ TB := tz2 72 rfl rfl
theorem uw_11 : ∀ w ∈ u_ws RX11 TX11 18, w ∈ TB := fun w hw => by
  obtain ⟨k, hk, rfl⟩ := List.mem_map.mp hw
  have hk := List.mem_range.mp hk
  by_cases h0 : k = 0
  · subst h0; exact uw_11_0
  by_cases h1 : k = 1
  · subst h1; exact uw_11_1
  by_cases h2 : k = 2
  · subst h2; exact uw_11_2
  by_cases h3 : k = 3
  · subst h3; exact uw_11_3
  by_cases h4 : k = 4
  · subst h4; exact uw_11_4
  by_cases h5 : k = 5
  · subst h5; exact uw_11_5
  by_cases h6 : k = 6
  · subst h6; exact uw_11_6
  by_cases h7 : k = 7
  · subst h7; exact uw_11_7
  by_cases h8 : k = 8
  · subst h8; exact uw_11_8
  by_cases h9 : k = 9
  · subst h9; exact uw_11_9
  by_cases h10 : k = 10
  · subst h10; exact uw_11_10
  by_cases h11 : k = 11
  · subst h11; exact uw_11_11
  by_cases h12 : k = 12
  · subst h12; exact uw_11_12
  by_cases h13 : k = 13
  · subst h13; exact uw_11_13
  by_cases h14 : k = 14
  · subst h14; exact uw_11_14
  by_cases h15 : k = 15
  · subst h15; exact uw_11_15
  by_cases h16 : k = 16
  · subst h16; exact uw_11_16
  by_cases h17 : k = 17
  · subst h17; exact uw_11_17
  omega
theorem uw_12_0 : u_lay RX12 TX12 0 ∈ TB := tz6 89 rfl rfl
theorem uw_12_1 : u_lay RX12 TX12 1 ∈ TB := tz6 91 rfl rfl
theorem uw_12_2 : u_lay RX12 TX12 2 ∈ TB := tz6 93 rfl rfl
theorem uw_12_3 : u_lay RX12 TX12 3 ∈ TB := tz6 95 rfl rfl
theorem uw_12_4 : u_lay RX12 TX12 4 ∈ TB := tz6 97 rfl rfl
theorem uw_12_5 : u_lay RX12 TX12 5 ∈ TB := tz6 99 rfl rfl
theorem uw_12_6 : u_lay RX12 TX12 6 ∈ TB := tz6 101 rfl rfl
theorem uw_12_7 : u_lay RX12 TX12 7 ∈ TB := tz6 103 rfl rfl
theorem uw_12_8 : u_lay RX12 TX12 8 ∈ TB := tz6 105 rfl rfl
theorem uw_12_9 : u_lay RX12 TX12 9 ∈ TB := tz6 107 rfl rfl
theorem uw_12_10 : u_lay RX12 TX12 10 ∈ TB := tz6 109 rfl rfl
theorem uw_12_11 : u_lay RX12 TX12 11 ∈ TB := tz6 111 rfl rfl
theorem uw_12_12 : u_lay RX12 TX12 12 ∈ TB := tz6 113 rfl rfl
theorem uw_12_13 : u_lay RX12 TX12 13 ∈ TB := tz6 115 rfl rfl
theorem uw_12_14 : u_lay RX12 TX12 14 ∈ TB := tz6 117 rfl rfl
theorem uw_12_15 : u_lay RX12 TX12 15 ∈ TB := tz6 119 rfl rfl
theorem uw_12_16 : u_lay RX12 TX12 16 ∈ TB := tz6 121 rfl rfl
theorem uw_12_17 : u_lay RX12 TX12 17 ∈ TB := tz6 123 rfl rfl
theorem uw_12_18 : u_lay RX12 TX12 18 ∈ TB := tz6 125 rfl rfl
theorem uw_12_19 : u_lay RX12 TX12 19 ∈ TB := tz6 127 rfl rfl
theorem uw_12_20 : u_lay RX12 TX12 20 ∈ TB := tz6 129 rfl rfl
theorem uw_12_21 : u_lay RX12 TX12 21 ∈ TB := tz6 131 rfl rfl
theorem uw_12_22 : u_lay RX12 TX12 22 ∈ TB := tz6 133 rfl rfl
theorem uw_12_23 : u_lay RX12 TX12 23 ∈ TB := tz6 135 rfl rfl
theorem uw_12_24 : u_lay RX12 TX12 24 ∈ TB := tz6 137 rfl rfl
theorem uw_12_25 : u_lay RX12 TX12 25 ∈ TB := tz6 139 rfl rfl
theorem uw_12_26 : u_lay RX12 TX12 26 ∈ TB := tz6 141 rfl rfl
theorem uw_12_27 : u_lay RX12 TX12 27 ∈ TB := tz6 143 rfl rfl
theorem uw_12_28 : u_lay RX12 TX12 28 ∈ TB := tz6 145 rfl rfl
theorem uw_12_29 : u_lay RX12 TX12 29 ∈ TB := tz6 147 rfl rfl
theorem uw_12_30 : u_lay RX12 TX12 30 ∈ TB := tz6 149 rfl rfl
theorem uw_12_31 : u_lay RX12 TX12 31 ∈ TB := tz6 151 rfl rfl
theorem uw_12_32 : u_lay RX12 TX12 32 ∈ TB := tz6 153 rfl rfl
theorem uw_12_33 : u_lay RX12 TX12 33 ∈ TB := tz6 155 rfl rfl
theorem uw_12_34 : u_lay RX12 TX12 34 ∈ TB := tz6 157 rfl rfl
theorem uw_12_35 : u_lay RX12 TX12 35 ∈ TB := tz6 159 rfl rfl
theorem uw_12_36 : u_lay RX12 TX12 36 ∈ TB := tz6 161 rfl rfl
theorem uw_12_37 : u_lay RX12 TX12 37 ∈ TB := tz6 163 rfl rfl
theorem uw_12_38 : u_lay RX12 TX12 38 ∈ TB := tz6 165 rfl rfl
theorem uw_12_39 : u_lay RX12 TX12 39 ∈ TB := tz6 167 rfl rfl
theorem uw_12_40 : u_lay RX12 TX12 40 ∈ TB := tz6 169 rfl rfl
theorem uw_12_41 : u_lay RX12 TX12 41 ∈ TB := tz6 171 rfl rfl
theorem uw_12_42 : u_lay RX12 TX12 42 ∈ TB := tz6 173 rfl rfl
theorem uw_12_43 : u_lay RX12 TX12 43 ∈ TB := tz6 175 rfl rfl
theorem uw_12_44 : u_lay RX12 TX12 44 ∈ TB := tz6 177 rfl rfl
theorem uw_12_45 : u_lay RX12 TX12 45 ∈ TB := tz6 179 rfl rfl
theorem uw_12_46 : u_lay RX12 TX12 46 ∈ TB := tz6 181 rfl rfl
theorem uw_12_47 : u_lay RX12 TX12 47 ∈ TB := tz6 183 rfl rfl
theorem uw_12_48 : u_lay RX12 TX12 48 ∈ TB := tz6 185 rfl rfl
theorem uw_12_49 : u_lay RX12 TX12 49 ∈ TB := tz6 187 rfl rfl
theorem uw_12_50 : u_lay RX12 TX12 50 ∈ TB := tz6 189 rfl rfl
theorem uw_12_51 : u_lay RX12 TX12 51 ∈ TB := tz6 191 rfl rfl
theorem uw_12 : ∀ w ∈ u_ws RX12 TX12 52, w ∈ TB := fun w hw => by
  obtain ⟨k, hk, rfl⟩ := List.mem_map.mp hw
  have hk := List.mem_range.mp hk
  by_cases h0 : k = 0
  · subst h0; exact uw_12_0
  by_cases h1 : k = 1
  · subst h1; exact uw_12_1
  by_cases h2 : k = 2
  · subst h2; exact uw_12_2
  by_cases h3 : k = 3
  · subst h3; exact uw_12_3
  by_cases h4 : k = 4
  · subst h4; exact uw_12_4
  by_cases h5 : k = 5
  · subst h5; exact uw_12_5
  by_cases h6 : k = 6
  · subst h6; exact uw_12_6
  by_cases h7 : k = 7
  · subst h7; exact uw_12_7
  by_cases h8 : k = 8
  · subst h8; exact uw_12_8
  by_cases h9 : k = 9
  · subst h9; exact uw_12_9
  by_cases h10 : k = 10
  · subst h10; exact uw_12_10
  by_cases h11 : k = 11
  · subst h11; exact uw_12_11
  by_cases h12 : k = 12
  · subst h12; exact uw_12_12
  by_cases h13 : k = 13
  · subst h13; exact uw_12_13
  by_cases h14 : k = 14
  · subst h14; exact uw_12_14
  by_cases h15 : k = 15
  · subst h15; exact uw_12_15
  by_cases h16 : k = 16
  · subst h16; exact uw_12_16
  by_cases h17 : k = 17
  · subst h17; exact uw_12_17
  by_cases h18 : k = 18
  · subst h18; exact uw_12_18
  by_cases h19 : k = 19
  · subst h19; exact uw_12_19
  by_cases h20 : k = 20
  · subst h20; exact uw_12_20
  by_cases h21 : k = 21
  · subst h21; exact uw_12_21
  by_cases h22 : k = 22
  · subst h22; exact uw_12_22
  by_cases h23 : k = 23
  · subst h23; exact uw_12_23
  by_cases h24 : k = 24
  · subst h24; exact uw_12_24
  by_cases h25 : k = 25
  · subst h25; exact uw_12_25
  by_cases h26 : k = 26
  · subst h26; exact uw_12_26
  by_cases h27 : k = 27
  · subst h27; exact uw_12_27
  by_cases h28 : k = 28
  · subst h28; exact uw_12_28
  by_cases h29 : k = 29
  · subst h29; exact uw_12_29
  by_cases h30 : k = 30
  · subst h30; exact uw_12_30
  by_cases h31 : k = 31
  · subst h31; exact uw_12_31
  by_cases h32 : k = 32
  · subst h32; exact uw_12_32
  by_cases h33 : k = 33
  · subst h33; exact uw_12_33
  by_cases h34 : k = 34
  · subst h34; exact uw_12_34
  by_cases h35 : k = 35
  · subst h35; exact uw_12_35
  by_cases h36 : k = 36
  · subst h36; exact uw_12_36
  by_cases h37 : k = 37
  · subst h37; exact uw_12_37
  by_cases h38 : k = 38
  · subst h38; exact uw_12_38
  by_cases h39 : k = 39
  · subst h39; exact uw_12_39
  by_cases h40 : k = 40
  · subst h40; exact uw_12_40
  by_cases h41 : k = 41
  · subst h41; exact uw_12_41
  by_cases h42 : k = 42
  · subst h42; exact uw_12_42
  by_cases h43 : k = 43
  · subst h43; exact uw_12_43
  by_cases h44 : k = 44
  · subst h44; exact uw_12_44
  by_cases h45 : k = 45
  · subst h45; exact uw_12_45
  by_cases h46 : k = 46
  · subst h46; exact uw_12_46
  by_cases h47 : k = 47
  · subst h47; exact uw_12_47
  by_cases h48 : k = 48
  · subst h48; exact uw_12_48
  by_cases h49 : k = 49
  · subst h49; exact uw_12_49
  by_cases h50 : k = 50
  · subst h50; exact uw_12_50
  by_cases h51 : k = 51
  · subst h51; exact uw_12_51
  omega
abbrev mX11_init : Mi := (yX11_init, cX11_init, 2, (Option.none : Option FieldType))
abbrev mX9_init : Mi := (yX9_init, cX9_init, 1, (Option.none : Option FieldType))
abbrev mX6_init : Mi := (yX6_init, cX6_init, 1, (Option.none : Option FieldType))
abbrev mX7_init : Mi := (yX7_init, cX7_init, 2, (Option.none : Option FieldType))
abbrev mX4_init : Mi := (yX4_init, cX4_init, 1, (Option.none : Option FieldType))
abbrev mX1_init : Mi := (yX1_init, cX1_init, 2, (Option.none : Option FieldType))
abbrev mX5_init : Mi := (yX5_init, cX5_init, 3, (Option.none : Option FieldType))
abbrev mX8_init : Mi := (yX8_init, cX8_init, 1, (Option.none : Option FieldType))
abbrev mX10_init : Mi := (yX10_init, cX10_init, 3, (Option.none : Option FieldType))
abbrev mX2_init : Mi := (yX2_init, cX2_init, 2, (Option.none : Option FieldType))
abbrev mX3_init : Mi := (yX3_init, cX3_init, 1, (Option.none : Option FieldType))
abbrev mX0_init : Mi := (yX0_init, cX0_init, 1, (Option.none : Option FieldType))
abbrev mX11_feed : Mi := (yX11_feed, cX11_feed, 7, (Option.some FieldType.int))
abbrev mX9_bytesIn : Mi := (yX9_bytesIn, cX9_bytesIn, 3, (Option.some FieldType.int))
abbrev mX9_length : Mi := (yX9_length, cX9_length, 1, (Option.some FieldType.int))
abbrev mX9_append : Mi := (yX9_append, cX9_append, 4, (Option.none : Option FieldType))
abbrev mX11_end : Mi := (yX11_end, cX11_end, 2, (Option.some FieldType.boolean))
abbrev mX9_cut : Mi := (yX9_cut, cX9_cut, 2, (Option.none : Option FieldType))
abbrev mX11_fault : Mi := (yX11_fault, cX11_fault, 2, (Option.some FieldType.int))
abbrev mX11_readsAs : Mi := (yX11_readsAs, cX11_readsAs, 3, (Option.some FieldType.boolean))
abbrev mX9_rewind : Mi := (yX9_rewind, cX9_rewind, 1, (Option.none : Option FieldType))
abbrev mX11_lawAt : Mi := (yX11_lawAt, cX11_lawAt, 2, (Option.some (FieldType.object "DarkestDay$Law")))
abbrev mX4_reads : Mi := (yX4_reads, cX4_reads, 5, (Option.some FieldType.boolean))
abbrev mX3_clear : Mi := (yX3_clear, cX3_clear, 1, (Option.none : Option FieldType))
abbrev mX4_begin : Mi := (yX4_begin, cX4_begin, 1, (Option.none : Option FieldType))
abbrev mX9_nextSign : Mi := (yX9_nextSign, cX9_nextSign, 1, (Option.some FieldType.int))
abbrev mX4_takes : Mi := (yX4_takes, cX4_takes, 5, (Option.some FieldType.boolean))
abbrev mX4_takesIf : Mi := (yX4_takesIf, cX4_takesIf, 4, (Option.some FieldType.boolean))
abbrev mX9_advance : Mi := (yX9_advance, cX9_advance, 1, (Option.none : Option FieldType))
abbrev mX4_opens : Mi := (yX4_opens, cX4_opens, 3, (Option.some FieldType.boolean))
abbrev mX4_await : Mi := (yX4_await, cX4_await, 2, (Option.none : Option FieldType))
abbrev mX7_set : Mi := (yX7_set, cX7_set, 3, (Option.none : Option FieldType))
abbrev mX4_takesAtom : Mi := (yX4_takesAtom, cX4_takesAtom, 5, (Option.some FieldType.boolean))
abbrev mX11_isDigit : Mi := (yX11_isDigit, cX11_isDigit, 1, (Option.some FieldType.boolean))
abbrev mX9_readsNumber : Mi := (yX9_readsNumber, cX9_readsNumber, 5, (Option.some FieldType.boolean))
abbrev mX9_signAt : Mi := (yX9_signAt, cX9_signAt, 2, (Option.some FieldType.int))
abbrev mX9_number : Mi := (yX9_number, cX9_number, 1, (Option.some FieldType.int))
abbrev mX3_add : Mi := (yX3_add, cX3_add, 2, (Option.none : Option FieldType))
abbrev mX11_placeIn : Mi := (yX11_placeIn, cX11_placeIn, 3, (Option.some FieldType.int))
abbrev mX4_fitsBehind : Mi := (yX4_fitsBehind, cX4_fitsBehind, 4, (Option.some FieldType.boolean))
abbrev mX4_mayEnd : Mi := (yX4_mayEnd, cX4_mayEnd, 1, (Option.some FieldType.boolean))
abbrev mX4_goOnBehind : Mi := (yX4_goOnBehind, cX4_goOnBehind, 3, (Option.none : Option FieldType))
abbrev mX4_strengthOf : Mi := (yX4_strengthOf, cX4_strengthOf, 1, (Option.some FieldType.int))
abbrev mJ9_max_7cf53 : Mi := (yJ9_max_7cf53, cJ9_max_7cf53, 2, (Option.some FieldType.int))
abbrev mX4_release : Mi := (yX4_release, cX4_release, 3, (Option.none : Option FieldType))
abbrev mX7_get : Mi := (yX7_get, cX7_get, 2, (Option.some FieldType.int))
abbrev mX4_closeBracket : Mi := (yX4_closeBracket, cX4_closeBracket, 1, (Option.none : Option FieldType))
abbrev mX11_calendarAt : Mi := (yX11_calendarAt, cX11_calendarAt, 2, (Option.some (FieldType.object "DarkestDay$Calendar")))
abbrev mX0_reads : Mi := (yX0_reads, cX0_reads, 4, (Option.some FieldType.boolean))
abbrev mX0_readsStep : Mi := (yX0_readsStep, cX0_readsStep, 6, (Option.some FieldType.boolean))
abbrev mX11_entry : Mi := (yX11_entry, cX11_entry, 2, (Option.some FieldType.int))
abbrev mX6_reads : Mi := (yX6_reads, cX6_reads, 4, (Option.some FieldType.boolean))
abbrev mX6_fillUsual : Mi := (yX6_fillUsual, cX6_fillUsual, 4, (Option.none : Option FieldType))
abbrev mX7_fill : Mi := (yX7_fill, cX7_fill, 3, (Option.none : Option FieldType))
abbrev mX6_readsClause : Mi := (yX6_readsClause, cX6_readsClause, 6, (Option.some FieldType.boolean))
abbrev mX6_readsItems : Mi := (yX6_readsItems, cX6_readsItems, 7, (Option.some FieldType.boolean))
abbrev mX11_hasBit : Mi := (yX11_hasBit, cX11_hasBit, 2, (Option.some FieldType.boolean))
abbrev mX6_isWhole : Mi := (yX6_isWhole, cX6_isWhole, 2, (Option.some FieldType.boolean))
abbrev mX6_kinds : Mi := (yX6_kinds, cX6_kinds, 1, (Option.some FieldType.int))
abbrev mX6_persons : Mi := (yX6_persons, cX6_persons, 1, (Option.some FieldType.int))
abbrev mX6_isKind : Mi := (yX6_isKind, cX6_isKind, 2, (Option.some FieldType.boolean))
abbrev mX9_cursor : Mi := (yX9_cursor, cX9_cursor, 1, (Option.some FieldType.int))
abbrev mX11_text : Mi := (yX11_text, cX11_text, 2, (Option.some FieldType.int))
abbrev mX11_hasPlaceFor : Mi := (yX11_hasPlaceFor, cX11_hasPlaceFor, 2, (Option.some FieldType.boolean))
abbrev mX11_openPort : Mi := (yX11_openPort, cX11_openPort, 1, (Option.none : Option FieldType))
abbrev mX7_copy : Mi := (yX7_copy, cX7_copy, 2, (Option.none : Option FieldType))
abbrev mJ9_min_7cf53 : Mi := (yJ9_min_7cf53, cJ9_min_7cf53, 2, (Option.some FieldType.int))
abbrev mX8_begin : Mi := (yX8_begin, cX8_begin, 4, (Option.none : Option FieldType))
abbrev mX2_clear : Mi := (yX2_clear, cX2_clear, 1, (Option.none : Option FieldType))
abbrev mX10_forget : Mi := (yX10_forget, cX10_forget, 1, (Option.none : Option FieldType))
abbrev mX11_kind : Mi := (yX11_kind, cX11_kind, 3, (Option.some FieldType.int))
abbrev mX8_party : Mi := (yX8_party, cX8_party, 5, (Option.some FieldType.int))
abbrev mX11_law : Mi := (yX11_law, cX11_law, 2, (Option.some FieldType.boolean))
abbrev mX1_setLaw : Mi := (yX1_setLaw, cX1_setLaw, 2, (Option.none : Option FieldType))
abbrev mX11_whim : Mi := (yX11_whim, cX11_whim, 2, (Option.some FieldType.boolean))
abbrev mX11_pass : Mi := (yX11_pass, cX11_pass, 2, (Option.some FieldType.int))
abbrev mX11_acted : Mi := (yX11_acted, cX11_acted, 5, (Option.some FieldType.boolean))
abbrev mX1_whyNot : Mi := (yX1_whyNot, cX1_whyNot, 6, (Option.some FieldType.int))
abbrev mX1_daysThatCanPass : Mi := (yX1_daysThatCanPass, cX1_daysThatCanPass, 3, (Option.some FieldType.int))
abbrev mX1_whyNoHabit : Mi := (yX1_whyNoHabit, cX1_whyNoHabit, 4, (Option.some FieldType.int))
abbrev mX6_isPerson : Mi := (yX6_isPerson, cX6_isPerson, 2, (Option.some FieldType.boolean))
abbrev mX2_keep : Mi := (yX2_keep, cX2_keep, 3, (Option.none : Option FieldType))
abbrev mX2_stateAt : Mi := (yX2_stateAt, cX2_stateAt, 2, (Option.some (FieldType.object "DarkestDay$State")))
abbrev mX1_carryOut : Mi := (yX1_carryOut, cX1_carryOut, 5, (Option.none : Option FieldType))
abbrev mX1_passDay : Mi := (yX1_passDay, cX1_passDay, 5, (Option.none : Option FieldType))
abbrev mX8_upCount : Mi := (yX8_upCount, cX8_upCount, 2, (Option.some FieldType.int))
abbrev mX8_upBits : Mi := (yX8_upBits, cX8_upBits, 2, (Option.some FieldType.int))
abbrev mJ6_bitCount_0f7a4 : Mi := (yJ6_bitCount_0f7a4, cJ6_bitCount_0f7a4, 1, (Option.some FieldType.int))
abbrev mX1_lightAhead : Mi := (yX1_lightAhead, cX1_lightAhead, 9, (Option.some FieldType.int))
abbrev mJ9_abs_0f7a4 : Mi := (yJ9_abs_0f7a4, cJ9_abs_0f7a4, 1, (Option.some FieldType.int))
abbrev mX8_governingVoices : Mi := (yX8_governingVoices, cX8_governingVoices, 2, (Option.some FieldType.int))
abbrev mX3_worth : Mi := (yX3_worth, cX3_worth, 7, (Option.some FieldType.int))
abbrev mX3_joined : Mi := (yX3_joined, cX3_joined, 5, (Option.some FieldType.int))
abbrev mX1_doingsNow : Mi := (yX1_doingsNow, cX1_doingsNow, 4, (Option.some FieldType.int))
abbrev mX8_isInBed : Mi := (yX8_isInBed, cX8_isInBed, 2, (Option.some FieldType.boolean))
abbrev mX1_bringIn : Mi := (yX1_bringIn, cX1_bringIn, 6, (Option.none : Option FieldType))
abbrev mX1_endYear : Mi := (yX1_endYear, cX1_endYear, 4, (Option.none : Option FieldType))
abbrev mX8_darkestOver : Mi := (yX8_darkestOver, cX8_darkestOver, 3, (Option.some FieldType.int))
abbrev mX1_turnYear : Mi := (yX1_turnYear, cX1_turnYear, 6, (Option.none : Option FieldType))
abbrev mX1_doersOf : Mi := (yX1_doersOf, cX1_doersOf, 4, (Option.some FieldType.int))
abbrev mX7_placeOfMost : Mi := (yX7_placeOfMost, cX7_placeOfMost, 5, (Option.some FieldType.int))
abbrev mX8_writeLog : Mi := (yX8_writeLog, cX8_writeLog, 4, (Option.none : Option FieldType))
abbrev mX1_spend : Mi := (yX1_spend, cX1_spend, 3, (Option.none : Option FieldType))
abbrev mX11_habit : Mi := (yX11_habit, cX11_habit, 4, (Option.some FieldType.int))
abbrev mX11_bed : Mi := (yX11_bed, cX11_bed, 2, (Option.some FieldType.int))
abbrev mX11_fog : Mi := (yX11_fog, cX11_fog, 3, (Option.some FieldType.int))
abbrev mX11_eclipse : Mi := (yX11_eclipse, cX11_eclipse, 1, (Option.some FieldType.int))
abbrev mX11_candles : Mi := (yX11_candles, cX11_candles, 2, (Option.some FieldType.int))
abbrev mX11_give : Mi := (yX11_give, cX11_give, 2, (Option.some FieldType.int))
abbrev mX11_years : Mi := (yX11_years, cX11_years, 5, (Option.some FieldType.int))
abbrev mX11_isPort : Mi := (yX11_isPort, cX11_isPort, 1, (Option.some FieldType.boolean))
abbrev mX1_setSeed : Mi := (yX1_setSeed, cX1_setSeed, 3, (Option.none : Option FieldType))
abbrev mX1_drawDay : Mi := (yX1_drawDay, cX1_drawDay, 4, (Option.none : Option FieldType))
abbrev mX1_draw : Mi := (yX1_draw, cX1_draw, 2, (Option.some FieldType.int))
abbrev mX11_status : Mi := (yX11_status, cX11_status, 2, (Option.some FieldType.int))
abbrev mX11_undo : Mi := (yX11_undo, cX11_undo, 1, (Option.some FieldType.int))
abbrev mX2_restores : Mi := (yX2_restores, cX2_restores, 4, (Option.some FieldType.boolean))
abbrev mX2_size : Mi := (yX2_size, cX2_size, 1, (Option.some FieldType.int))
abbrev mX11_log : Mi := (yX11_log, cX11_log, 3, (Option.some FieldType.int))
abbrev mX8_yearsLogged : Mi := (yX8_yearsLogged, cX8_yearsLogged, 1, (Option.some FieldType.int))
abbrev mX8_logged : Mi := (yX8_logged, cX8_logged, 5, (Option.some FieldType.int))
abbrev mX11_step : Mi := (yX11_step, cX11_step, 5, (Option.some FieldType.int))
abbrev mX11_isCalendar : Mi := (yX11_isCalendar, cX11_isCalendar, 2, (Option.some FieldType.boolean))
abbrev mX0_steps : Mi := (yX0_steps, cX0_steps, 1, (Option.some FieldType.int))
abbrev mX0_told : Mi := (yX0_told, cX0_told, 3, (Option.some FieldType.int))
abbrev mX11_run : Mi := (yX11_run, cX11_run, 3, (Option.some FieldType.int))
abbrev mX5_runOf : Mi := (yX5_runOf, cX5_runOf, 5, (Option.some FieldType.int))
abbrev mX1_canStep : Mi := (yX1_canStep, cX1_canStep, 4, (Option.some FieldType.boolean))
abbrev mX11_perform : Mi := (yX11_perform, cX11_perform, 4, (Option.some FieldType.int))
abbrev mX11_light : Mi := (yX11_light, cX11_light, 2, (Option.some FieldType.int))
abbrev mX6_isDay : Mi := (yX6_isDay, cX6_isDay, 2, (Option.some FieldType.boolean))
abbrev mX1_lightOf : Mi := (yX1_lightOf, cX1_lightOf, 3, (Option.some FieldType.int))
abbrev mX11_coming : Mi := (yX11_coming, cX11_coming, 3, (Option.some FieldType.int))
abbrev mX1_rulerOf : Mi := (yX1_rulerOf, cX1_rulerOf, 7, (Option.some FieldType.int))
abbrev mX11_may : Mi := (yX11_may, cX11_may, 2, (Option.some FieldType.int))
abbrev mX5_maybeDarkest : Mi := (yX5_maybeDarkest, cX5_maybeDarkest, 6, (Option.some FieldType.int))
abbrev mX11_governs : Mi := (yX11_governs, cX11_governs, 2, (Option.some FieldType.int))
abbrev mX5_governorBehind : Mi := (yX5_governorBehind, cX5_governorBehind, 4, (Option.some FieldType.int))
abbrev mX1_skipYear : Mi := (yX1_skipYear, cX1_skipYear, 2, (Option.none : Option FieldType))
abbrev mX1_doingsOn : Mi := (yX1_doingsOn, cX1_doingsOn, 3, (Option.some FieldType.int))
abbrev mX11_round : Mi := (yX11_round, cX11_round, 2, (Option.some FieldType.int))
abbrev mX5_comingRound : Mi := (yX5_comingRound, cX5_comingRound, 5, (Option.some FieldType.int))
abbrev mX5_packed : Mi := (yX5_packed, cX5_packed, 5, (Option.some FieldType.int))
abbrev mX11_swings : Mi := (yX11_swings, cX11_swings, 2, (Option.some FieldType.int))
abbrev mX5_fewestSwings : Mi := (yX5_fewestSwings, cX5_fewestSwings, 7, (Option.some FieldType.int))
abbrev mX1_governorBy : Mi := (yX1_governorBy, cX1_governorBy, 6, (Option.some FieldType.int))
abbrev mX11_bedding : Mi := (yX11_bedding, cX11_bedding, 2, (Option.some FieldType.int))
abbrev mX5_fewestInBed : Mi := (yX5_fewestInBed, cX5_fewestInBed, 8, (Option.some FieldType.int))
abbrev mX11_coins : Mi := (yX11_coins, cX11_coins, 2, (Option.some FieldType.int))
abbrev mX5_treasuryBehind : Mi := (yX5_treasuryBehind, cX5_treasuryBehind, 4, (Option.some FieldType.int))
abbrev mX11_seen : Mi := (yX11_seen, cX11_seen, 4, (Option.some FieldType.int))
abbrev mX10_isFull : Mi := (yX10_isFull, cX10_isFull, 1, (Option.some FieldType.boolean))
abbrev mX10_note : Mi := (yX10_note, cX10_note, 4, (Option.none : Option FieldType))
abbrev mX10_size : Mi := (yX10_size, cX10_size, 1, (Option.some FieldType.int))
abbrev mX11_habits : Mi := (yX11_habits, cX11_habits, 4, (Option.some FieldType.int))
abbrev mX10_possibleHabits : Mi := (yX10_possibleHabits, cX10_possibleHabits, 4, (Option.some FieldType.int))
abbrev mX10_followAll : Mi := (yX10_followAll, cX10_followAll, 6, (Option.some FieldType.int))
abbrev mX10_fits : Mi := (yX10_fits, cX10_fits, 4, (Option.some FieldType.boolean))
abbrev mX10_treasuryOf : Mi := (yX10_treasuryOf, cX10_treasuryOf, 3, (Option.some FieldType.int))
abbrev mX11_placeOfBit : Mi := (yX11_placeOfBit, cX11_placeOfBit, 4, (Option.some FieldType.int))
abbrev mX11_ask : Mi := (yX11_ask, cX11_ask, 2, (Option.some FieldType.int))
abbrev mX10_bestQuestion : Mi := (yX10_bestQuestion, cX10_bestQuestion, 7, (Option.some FieldType.int))
abbrev mX10_mostAlike : Mi := (yX10_mostAlike, cX10_mostAlike, 8, (Option.some FieldType.int))
abbrev mX11_game : Mi := (yX11_game, cX11_game, 6, (Option.some FieldType.int))
abbrev mX11_canPlay : Mi := (yX11_canPlay, cX11_canPlay, 3, (Option.some FieldType.boolean))
abbrev mX5_gameOf : Mi := (yX5_gameOf, cX5_gameOf, 7, (Option.some FieldType.int))
abbrev mX5_layOut : Mi := (yX5_layOut, cX5_layOut, 7, (Option.none : Option FieldType))
abbrev mX5_gainOf : Mi := (yX5_gainOf, cX5_gainOf, 7, (Option.some FieldType.int))
abbrev mX5_hasThen : Mi := (yX5_hasThen, cX5_hasThen, 6, (Option.some FieldType.int))
abbrev mX11_rests : Mi := (yX11_rests, cX11_rests, 4, (Option.some FieldType.int))
abbrev mX5_restsOf : Mi := (yX5_restsOf, cX5_restsOf, 8, (Option.some FieldType.int))
abbrev mX5_isRest : Mi := (yX5_isRest, cX5_isRest, 4, (Option.some FieldType.boolean))
abbrev mX11_odds : Mi := (yX11_odds, cX11_odds, 3, (Option.some FieldType.int))
abbrev mX11_daysLeft : Mi := (yX11_daysLeft, cX11_daysLeft, 1, (Option.some FieldType.int))
abbrev mX5_oddsOf : Mi := (yX5_oddsOf, cX5_oddsOf, 9, (Option.some FieldType.int))
abbrev mX5_rulerBy : Mi := (yX5_rulerBy, cX5_rulerBy, 8, (Option.some FieldType.int))
abbrev mX5_partOf : Mi := (yX5_partOf, cX5_partOf, 8, (Option.some FieldType.int))
abbrev mX11_shares : Mi := (yX11_shares, cX11_shares, 5, (Option.some FieldType.int))
abbrev mX11_did : Mi := (yX11_did, cX11_did, 3, (Option.some FieldType.int))
abbrev mX11_all : Mi := (yX11_all, cX11_all, 2, (Option.some FieldType.int))
abbrev mX1_idle : Mi := (yX1_idle, cX1_idle, 6, (Option.some FieldType.int))
abbrev mX5_swayed : Mi := (yX5_swayed, cX5_swayed, 4, (Option.some FieldType.int))
abbrev mX11_image : Mi := (yX11_image, cX11_image, 1, (Option.some FieldType.int))
abbrev mX11_back : Mi := (yX11_back, cX11_back, 1, (Option.some FieldType.int))
abbrev mX11_count : Mi := (yX11_count, cX11_count, 2, (Option.some FieldType.int))
abbrev mX11_person : Mi := (yX11_person, cX11_person, 3, (Option.some FieldType.int))
abbrev mX12_init : Mi := (yX12_init, cX12_init, 1, (Option.none : Option FieldType))
abbrev mX12_thrown : Mi := (yX12_thrown, cX12_thrown, 1, (Option.some FieldType.int))
abbrev mX12_feed : Mi := (yX12_feed, cX12_feed, 6, (Option.some FieldType.int))
abbrev mX12_bytesIn : Mi := (yX12_bytesIn, cX12_bytesIn, 3, (Option.some FieldType.int))
abbrev mX12_put : Mi := (yX12_put, cX12_put, 3, (Option.none : Option FieldType))
abbrev mX12_end : Mi := (yX12_end, cX12_end, 2, (Option.some FieldType.boolean))
abbrev mX12_fault : Mi := (yX12_fault, cX12_fault, 2, (Option.some FieldType.int))
abbrev mX12_isIn : Mi := (yX12_isIn, cX12_isIn, 6, (Option.some FieldType.boolean))
abbrev mX12_readPort : Mi := (yX12_readPort, cX12_readPort, 2, (Option.none : Option FieldType))
abbrev mX12_starts : Mi := (yX12_starts, cX12_starts, 4, (Option.none : Option FieldType))
abbrev mX12_usual : Mi := (yX12_usual, cX12_usual, 2, (Option.some FieldType.int))
abbrev mX12_readClause : Mi := (yX12_readClause, cX12_readClause, 3, (Option.none : Option FieldType))
abbrev mX12_look : Mi := (yX12_look, cX12_look, 1, (Option.some FieldType.int))
abbrev mX12_fails : Mi := (yX12_fails, cX12_fails, 1, (Option.some FieldType.boolean))
abbrev mX12_readItems : Mi := (yX12_readItems, cX12_readItems, 7, (Option.none : Option FieldType))
abbrev mJ0_length_8abf5 : Mi := (yJ0_length_8abf5, cJ0_length_8abf5, 1, (Option.some FieldType.int))
abbrev mJ0_coder_7d493 : Mi := (yJ0_coder_7d493, cJ0_coder_7d493, 1, (Option.some FieldType.byte))
abbrev mX12_spotOf : Mi := (yX12_spotOf, cX12_spotOf, 3, (Option.some FieldType.int))
abbrev mJ0_charAt_5068e : Mi := (yJ0_charAt_5068e, cJ0_charAt_5068e, 2, (Option.some FieldType.char))
abbrev mJ0_isLatin1_aae02 : Mi := (yJ0_isLatin1_aae02, cJ0_isLatin1_aae02, 1, (Option.some FieldType.boolean))
abbrev mJ1_charAt_3b067 : Mi := (yJ1_charAt_3b067, cJ1_charAt_3b067, 2, (Option.some FieldType.char))
abbrev mJ0_checkIndex_df160 : Mi := (yJ0_checkIndex_df160, cJ0_checkIndex_df160, 2, (Option.none : Option FieldType))
abbrev mJ3_checkIndex_8e157 : Mi := (yJ3_checkIndex_8e157, cJ3_checkIndex_8e157, 3, (Option.some FieldType.int))
abbrev mJ2_charAt_3b067 : Mi := (yJ2_charAt_3b067, cJ2_charAt_3b067, 2, (Option.some FieldType.char))
abbrev mJ2_checkIndex_2214a : Mi := (yJ2_checkIndex_2214a, cJ2_checkIndex_2214a, 2, (Option.none : Option FieldType))
abbrev mJ2_length_9d52b : Mi := (yJ2_length_9d52b, cJ2_length_9d52b, 1, (Option.some FieldType.int))
abbrev mJ2_getChar_3b067 : Mi := (yJ2_getChar_3b067, cJ2_getChar_3b067, 2, (Option.some FieldType.char))
abbrev mX12_has : Mi := (yX12_has, cX12_has, 2, (Option.some FieldType.boolean))
abbrev mX12_mostOf : Mi := (yX12_mostOf, cX12_mostOf, 2, (Option.some FieldType.int))
abbrev mX12_number : Mi := (yX12_number, cX12_number, 5, (Option.some FieldType.int))
abbrev mX12_isDigit : Mi := (yX12_isDigit, cX12_isDigit, 1, (Option.some FieldType.boolean))
abbrev mX12_here : Mi := (yX12_here, cX12_here, 1, (Option.some FieldType.int))
abbrev mX12_isWhole : Mi := (yX12_isWhole, cX12_isWhole, 2, (Option.some FieldType.boolean))
abbrev mX12_goThrough : Mi := (yX12_goThrough, cX12_goThrough, 4, (Option.none : Option FieldType))
abbrev mX12_clause : Mi := (yX12_clause, cX12_clause, 5, (Option.none : Option FieldType))
abbrev mX12_isAmong : Mi := (yX12_isAmong, cX12_isAmong, 3, (Option.some FieldType.boolean))
abbrev mX12_takes : Mi := (yX12_takes, cX12_takes, 2, (Option.some FieldType.boolean))
abbrev mX12_condition : Mi := (yX12_condition, cX12_condition, 5, (Option.some FieldType.boolean))
abbrev mX12_part : Mi := (yX12_part, cX12_part, 5, (Option.some FieldType.boolean))
abbrev mX12_compares : Mi := (yX12_compares, cX12_compares, 6, (Option.some FieldType.boolean))
abbrev mX12_sum : Mi := (yX12_sum, cX12_sum, 5, (Option.some FieldType.int))
abbrev mX12_term : Mi := (yX12_term, cX12_term, 5, (Option.some FieldType.int))
abbrev mX12_atom : Mi := (yX12_atom, cX12_atom, 4, (Option.some FieldType.int))
abbrev mX12_goesIn : Mi := (yX12_goesIn, cX12_goesIn, 1, (Option.some FieldType.boolean))
abbrev mX12_within : Mi := (yX12_within, cX12_within, 2, (Option.some FieldType.int))
abbrev mJ9_min_f86c9 : Mi := (yJ9_min_f86c9, cJ9_min_f86c9, 4, (Option.some FieldType.long))
abbrev mJ9_max_f86c9 : Mi := (yJ9_max_f86c9, cJ9_max_f86c9, 4, (Option.some FieldType.long))
abbrev mX12_isSign : Mi := (yX12_isSign, cX12_isSign, 1, (Option.some FieldType.boolean))
abbrev mX12_unit : Mi := (yX12_unit, cX12_unit, 3, (Option.some FieldType.boolean))
abbrev mX12_readPlan : Mi := (yX12_readPlan, cX12_readPlan, 3, (Option.none : Option FieldType))
abbrev mX12_readStep : Mi := (yX12_readStep, cX12_readStep, 3, (Option.none : Option FieldType))
abbrev mX12_digit : Mi := (yX12_digit, cX12_digit, 2, (Option.some FieldType.int))
abbrev mX12_text : Mi := (yX12_text, cX12_text, 4, (Option.some FieldType.int))
abbrev mX12_lays : Mi := (yX12_lays, cX12_lays, 3, (Option.none : Option FieldType))
abbrev mX12_kind : Mi := (yX12_kind, cX12_kind, 3, (Option.some FieldType.int))
abbrev mX12_isKind : Mi := (yX12_isKind, cX12_isKind, 2, (Option.some FieldType.boolean))
abbrev mX12_party : Mi := (yX12_party, cX12_party, 4, (Option.some FieldType.int))
abbrev mX12_person : Mi := (yX12_person, cX12_person, 3, (Option.some FieldType.int))
abbrev mX12_isPerson : Mi := (yX12_isPerson, cX12_isPerson, 2, (Option.some FieldType.boolean))
abbrev mX12_law : Mi := (yX12_law, cX12_law, 2, (Option.some FieldType.boolean))
abbrev mX12_whim : Mi := (yX12_whim, cX12_whim, 2, (Option.some FieldType.boolean))
abbrev mX12_pass : Mi := (yX12_pass, cX12_pass, 1, (Option.some FieldType.int))
abbrev mX12_refused : Mi := (yX12_refused, cX12_refused, 2, (Option.some FieldType.int))
abbrev mX12_canPass : Mi := (yX12_canPass, cX12_canPass, 2, (Option.some FieldType.boolean))
abbrev mX12_remember : Mi := (yX12_remember, cX12_remember, 2, (Option.none : Option FieldType))
abbrev mX12_goNow : Mi := (yX12_goNow, cX12_goNow, 3, (Option.some FieldType.int))
abbrev mX12_passes : Mi := (yX12_passes, cX12_passes, 7, (Option.some FieldType.int))
abbrev mX12_lightOf : Mi := (yX12_lightOf, cX12_lightOf, 3, (Option.some FieldType.int))
abbrev mX12_lightBy : Mi := (yX12_lightBy, cX12_lightBy, 5, (Option.some FieldType.int))
abbrev mX12_plainLight : Mi := (yX12_plainLight, cX12_plainLight, 5, (Option.some FieldType.int))
abbrev mX12_up : Mi := (yX12_up, cX12_up, 2, (Option.some FieldType.int))
abbrev mX12_worthOf : Mi := (yX12_worthOf, cX12_worthOf, 9, (Option.some FieldType.int))
abbrev mX12_endsYear : Mi := (yX12_endsYear, cX12_endsYear, 4, (Option.none : Option FieldType))
abbrev mX12_habit : Mi := (yX12_habit, cX12_habit, 5, (Option.some FieldType.int))
abbrev mX12_stopsHabit : Mi := (yX12_stopsHabit, cX12_stopsHabit, 4, (Option.some FieldType.int))
abbrev mX12_bed : Mi := (yX12_bed, cX12_bed, 2, (Option.some FieldType.int))
abbrev mX12_fog : Mi := (yX12_fog, cX12_fog, 4, (Option.some FieldType.int))
abbrev mX12_stopsFog : Mi := (yX12_stopsFog, cX12_stopsFog, 3, (Option.some FieldType.int))
abbrev mX12_eclipse : Mi := (yX12_eclipse, cX12_eclipse, 2, (Option.some FieldType.int))
abbrev mX12_stopsEclipse : Mi := (yX12_stopsEclipse, cX12_stopsEclipse, 2, (Option.some FieldType.int))
abbrev mX12_candles : Mi := (yX12_candles, cX12_candles, 3, (Option.some FieldType.int))
abbrev mX12_stopsCandles : Mi := (yX12_stopsCandles, cX12_stopsCandles, 3, (Option.some FieldType.int))
abbrev mX12_give : Mi := (yX12_give, cX12_give, 2, (Option.some FieldType.int))
abbrev mX12_years : Mi := (yX12_years, cX12_years, 6, (Option.some FieldType.int))
abbrev mX12_draw : Mi := (yX12_draw, cX12_draw, 2, (Option.some FieldType.int))
abbrev mX12_status : Mi := (yX12_status, cX12_status, 2, (Option.some FieldType.int))
abbrev mX12_undo : Mi := (yX12_undo, cX12_undo, 2, (Option.some FieldType.int))
abbrev mX12_log : Mi := (yX12_log, cX12_log, 3, (Option.some FieldType.int))
abbrev mX12_step : Mi := (yX12_step, cX12_step, 4, (Option.some FieldType.int))
abbrev mX12_isPlan : Mi := (yX12_isPlan, cX12_isPlan, 2, (Option.some FieldType.boolean))
abbrev mX12_run : Mi := (yX12_run, cX12_run, 5, (Option.some FieldType.int))
abbrev mX12_copy : Mi := (yX12_copy, cX12_copy, 3, (Option.none : Option FieldType))
abbrev mX12_canStep : Mi := (yX12_canStep, cX12_canStep, 4, (Option.some FieldType.boolean))
abbrev mX12_goStep : Mi := (yX12_goStep, cX12_goStep, 4, (Option.none : Option FieldType))
abbrev mX12_perform : Mi := (yX12_perform, cX12_perform, 4, (Option.some FieldType.int))
abbrev mX12_light : Mi := (yX12_light, cX12_light, 2, (Option.some FieldType.int))
abbrev mX12_coming : Mi := (yX12_coming, cX12_coming, 2, (Option.some FieldType.int))
abbrev mX12_darkest : Mi := (yX12_darkest, cX12_darkest, 3, (Option.some FieldType.int))
abbrev mX12_may : Mi := (yX12_may, cX12_may, 5, (Option.some FieldType.int))
abbrev mX12_governs : Mi := (yX12_governs, cX12_governs, 3, (Option.some FieldType.int))
abbrev mX12_goYear : Mi := (yX12_goYear, cX12_goYear, 2, (Option.none : Option FieldType))
abbrev mX12_round : Mi := (yX12_round, cX12_round, 7, (Option.some FieldType.int))
abbrev mX12_swings : Mi := (yX12_swings, cX12_swings, 2, (Option.some FieldType.int))
abbrev mX12_soughtBy : Mi := (yX12_soughtBy, cX12_soughtBy, 7, (Option.some FieldType.int))
abbrev mX12_bedding : Mi := (yX12_bedding, cX12_bedding, 2, (Option.some FieldType.int))
abbrev mX12_coins : Mi := (yX12_coins, cX12_coins, 4, (Option.some FieldType.int))
abbrev mX12_seen : Mi := (yX12_seen, cX12_seen, 4, (Option.some FieldType.int))
abbrev mX12_habits : Mi := (yX12_habits, cX12_habits, 6, (Option.some FieldType.int))
abbrev mX12_laysHabits : Mi := (yX12_laysHabits, cX12_laysHabits, 6, (Option.some FieldType.int))
abbrev mX12_ask : Mi := (yX12_ask, cX12_ask, 9, (Option.some FieldType.int))
abbrev mX12_game : Mi := (yX12_game, cX12_game, 6, (Option.some FieldType.int))
abbrev mX12_canPlay : Mi := (yX12_canPlay, cX12_canPlay, 3, (Option.some FieldType.boolean))
abbrev mX12_gameOf : Mi := (yX12_gameOf, cX12_gameOf, 7, (Option.some FieldType.int))
abbrev mX12_rests : Mi := (yX12_rests, cX12_rests, 9, (Option.some FieldType.int))
abbrev mX12_odds : Mi := (yX12_odds, cX12_odds, 4, (Option.some FieldType.int))
abbrev mX12_oddsFrom : Mi := (yX12_oddsFrom, cX12_oddsFrom, 7, (Option.some FieldType.int))
abbrev mX12_shares : Mi := (yX12_shares, cX12_shares, 5, (Option.some FieldType.int))
abbrev mX12_did : Mi := (yX12_did, cX12_did, 3, (Option.some FieldType.int))
abbrev mX12_all : Mi := (yX12_all, cX12_all, 2, (Option.some FieldType.int))
abbrev mX12_greatest : Mi := (yX12_greatest, cX12_greatest, 4, (Option.some FieldType.int))
abbrev mX12_valueOf : Mi := (yX12_valueOf, cX12_valueOf, 3, (Option.some FieldType.int))
abbrev mX12_idle : Mi := (yX12_idle, cX12_idle, 4, (Option.some FieldType.int))
abbrev mX12_dark : Mi := (yX12_dark, cX12_dark, 3, (Option.some FieldType.int))
abbrev mX12_swayed : Mi := (yX12_swayed, cX12_swayed, 3, (Option.some FieldType.int))
abbrev mX12_image : Mi := (yX12_image, cX12_image, 2, (Option.some FieldType.int))
abbrev mX12_back : Mi := (yX12_back, cX12_back, 2, (Option.some FieldType.int))
abbrev mX12_count : Mi := (yX12_count, cX12_count, 2, (Option.some FieldType.int))
theorem py_X6_init : plainY mX6_init.1 0 := ⟨by decide +kernel, by decide +kernel, by decide +kernel⟩
theorem py_X7_init : plainY mX7_init.1 1 := ⟨by decide +kernel, by decide +kernel, by decide +kernel⟩
theorem py_X1_init : plainY mX1_init.1 1 := ⟨by decide +kernel, by decide +kernel, by decide +kernel⟩
theorem py_X5_init : plainY mX5_init.1 2 := ⟨by decide +kernel, by decide +kernel, by decide +kernel⟩
theorem py_X10_init : plainY mX10_init.1 2 := ⟨by decide +kernel, by decide +kernel, by decide +kernel⟩
theorem py_X2_init : plainY mX2_init.1 0 := ⟨by decide +kernel, by decide +kernel, by decide +kernel⟩
theorem py_X8_init : plainY mX8_init.1 0 := ⟨by decide +kernel, by decide +kernel, by decide +kernel⟩
theorem py_X3_init : plainY mX3_init.1 0 := ⟨by decide +kernel, by decide +kernel, by decide +kernel⟩
theorem py_X0_init : plainY mX0_init.1 0 := ⟨by decide +kernel, by decide +kernel, by decide +kernel⟩
theorem py_X9_bytesIn : plainY mX9_bytesIn.1 1 := ⟨by decide +kernel, by decide +kernel, by decide +kernel⟩
theorem py_X9_length : plainY mX9_length.1 0 := ⟨by decide +kernel, by decide +kernel, by decide +kernel⟩
theorem py_X9_append : plainY mX9_append.1 1 := ⟨by decide +kernel, by decide +kernel, by decide +kernel⟩
theorem py_X9_cut : plainY mX9_cut.1 1 := ⟨by decide +kernel, by decide +kernel, by decide +kernel⟩
theorem py_X11_readsAs : plainY mX11_readsAs.1 1 := ⟨by decide +kernel, by decide +kernel, by decide +kernel⟩
theorem py_X9_cursor : plainY mX9_cursor.1 0 := ⟨by decide +kernel, by decide +kernel, by decide +kernel⟩
theorem py_X11_hasPlaceFor : plainY mX11_hasPlaceFor.1 1 := ⟨by decide +kernel, by decide +kernel, by decide +kernel⟩
theorem py_X11_openPort : plainY mX11_openPort.1 0 := ⟨by decide +kernel, by decide +kernel, by decide +kernel⟩
theorem py_X6_persons : plainY mX6_persons.1 0 := ⟨by decide +kernel, by decide +kernel, by decide +kernel⟩
theorem py_X9_rewind : plainY mX9_rewind.1 0 := ⟨by decide +kernel, by decide +kernel, by decide +kernel⟩
theorem py_X11_lawAt : plainY mX11_lawAt.1 1 := ⟨by decide +kernel, by decide +kernel, by decide +kernel⟩
theorem py_X4_reads : plainY mX4_reads.1 2 := ⟨by decide +kernel, by decide +kernel, by decide +kernel⟩
theorem py_X11_calendarAt : plainY mX11_calendarAt.1 1 := ⟨by decide +kernel, by decide +kernel, by decide +kernel⟩
theorem py_X0_reads : plainY mX0_reads.1 1 := ⟨by decide +kernel, by decide +kernel, by decide +kernel⟩
theorem py_X6_reads : plainY mX6_reads.1 1 := ⟨by decide +kernel, by decide +kernel, by decide +kernel⟩
theorem py_X7_copy : plainY mX7_copy.1 1 := ⟨by decide +kernel, by decide +kernel, by decide +kernel⟩
theorem py_X8_begin : plainY mX8_begin.1 1 := ⟨by decide +kernel, by decide +kernel, by decide +kernel⟩
theorem py_X2_clear : plainY mX2_clear.1 0 := ⟨by decide +kernel, by decide +kernel, by decide +kernel⟩
theorem py_X10_forget : plainY mX10_forget.1 0 := ⟨by decide +kernel, by decide +kernel, by decide +kernel⟩
theorem py_X6_isKind : plainY mX6_isKind.1 1 := ⟨by decide +kernel, by decide +kernel, by decide +kernel⟩
theorem py_X7_get : plainY mX7_get.1 1 := ⟨by decide +kernel, by decide +kernel, by decide +kernel⟩
theorem py_X8_party : plainY mX8_party.1 2 := ⟨by decide +kernel, by decide +kernel, by decide +kernel⟩
theorem py_X6_isPerson : plainY mX6_isPerson.1 1 := ⟨by decide +kernel, by decide +kernel, by decide +kernel⟩
theorem py_X8_isInBed : plainY mX8_isInBed.1 1 := ⟨by decide +kernel, by decide +kernel, by decide +kernel⟩
theorem py_X1_setLaw : plainY mX1_setLaw.1 1 := ⟨by decide +kernel, by decide +kernel, by decide +kernel⟩
theorem py_X11_acted : plainY mX11_acted.1 3 := ⟨by decide +kernel, by decide +kernel, by decide +kernel⟩
theorem py_X1_whyNot : plainY mX1_whyNot.1 4 := ⟨by decide +kernel, by decide +kernel, by decide +kernel⟩
theorem py_X7_set : plainY mX7_set.1 2 := ⟨by decide +kernel, by decide +kernel, by decide +kernel⟩
theorem py_X2_keep : plainY mX2_keep.1 1 := ⟨by decide +kernel, by decide +kernel, by decide +kernel⟩
theorem py_X1_carryOut : plainY mX1_carryOut.1 4 := ⟨by decide +kernel, by decide +kernel, by decide +kernel⟩
theorem py_X11_isPort : plainY mX11_isPort.1 0 := ⟨by decide +kernel, by decide +kernel, by decide +kernel⟩
theorem py_X1_daysThatCanPass : plainY mX1_daysThatCanPass.1 1 := ⟨by decide +kernel, by decide +kernel, by decide +kernel⟩
theorem py_X1_setSeed : plainY mX1_setSeed.1 1 := ⟨by decide +kernel, by decide +kernel, by decide +kernel⟩
theorem py_X1_drawDay : plainY mX1_drawDay.1 2 := ⟨by decide +kernel, by decide +kernel, by decide +kernel⟩
theorem py_X1_passDay : plainY mX1_passDay.1 1 := ⟨by decide +kernel, by decide +kernel, by decide +kernel⟩
theorem py_X2_restores : plainY mX2_restores.1 1 := ⟨by decide +kernel, by decide +kernel, by decide +kernel⟩
theorem py_X2_size : plainY mX2_size.1 0 := ⟨by decide +kernel, by decide +kernel, by decide +kernel⟩
theorem py_X8_yearsLogged : plainY mX8_yearsLogged.1 0 := ⟨by decide +kernel, by decide +kernel, by decide +kernel⟩
theorem py_X8_logged : plainY mX8_logged.1 2 := ⟨by decide +kernel, by decide +kernel, by decide +kernel⟩
theorem py_X11_isCalendar : plainY mX11_isCalendar.1 1 := ⟨by decide +kernel, by decide +kernel, by decide +kernel⟩
theorem py_X0_steps : plainY mX0_steps.1 0 := ⟨by decide +kernel, by decide +kernel, by decide +kernel⟩
theorem py_X0_told : plainY mX0_told.1 2 := ⟨by decide +kernel, by decide +kernel, by decide +kernel⟩
theorem py_X5_runOf : plainY mX5_runOf.1 3 := ⟨by decide +kernel, by decide +kernel, by decide +kernel⟩
theorem py_X1_canStep : plainY mX1_canStep.1 3 := ⟨by decide +kernel, by decide +kernel, by decide +kernel⟩
theorem py_X6_isDay : plainY mX6_isDay.1 1 := ⟨by decide +kernel, by decide +kernel, by decide +kernel⟩
theorem py_X1_lightOf : plainY mX1_lightOf.1 2 := ⟨by decide +kernel, by decide +kernel, by decide +kernel⟩
theorem py_X8_upCount : plainY mX8_upCount.1 1 := ⟨by decide +kernel, by decide +kernel, by decide +kernel⟩
theorem py_X1_rulerOf : plainY mX1_rulerOf.1 2 := ⟨by decide +kernel, by decide +kernel, by decide +kernel⟩
theorem py_X5_maybeDarkest : plainY mX5_maybeDarkest.1 2 := ⟨by decide +kernel, by decide +kernel, by decide +kernel⟩
theorem py_X5_governorBehind : plainY mX5_governorBehind.1 2 := ⟨by decide +kernel, by decide +kernel, by decide +kernel⟩
theorem py_X5_comingRound : plainY mX5_comingRound.1 2 := ⟨by decide +kernel, by decide +kernel, by decide +kernel⟩
theorem py_X5_fewestSwings : plainY mX5_fewestSwings.1 2 := ⟨by decide +kernel, by decide +kernel, by decide +kernel⟩
theorem py_X5_fewestInBed : plainY mX5_fewestInBed.1 2 := ⟨by decide +kernel, by decide +kernel, by decide +kernel⟩
theorem py_X5_treasuryBehind : plainY mX5_treasuryBehind.1 2 := ⟨by decide +kernel, by decide +kernel, by decide +kernel⟩
theorem py_X10_isFull : plainY mX10_isFull.1 0 := ⟨by decide +kernel, by decide +kernel, by decide +kernel⟩
theorem py_X10_note : plainY mX10_note.1 3 := ⟨by decide +kernel, by decide +kernel, by decide +kernel⟩
theorem py_X10_size : plainY mX10_size.1 0 := ⟨by decide +kernel, by decide +kernel, by decide +kernel⟩
theorem py_X10_possibleHabits : plainY mX10_possibleHabits.1 1 := ⟨by decide +kernel, by decide +kernel, by decide +kernel⟩
theorem py_J6_bitCount_0f7a4 : plainY mJ6_bitCount_0f7a4.1 1 := ⟨by decide +kernel, by decide +kernel, by decide +kernel⟩
theorem py_X11_placeOfBit : plainY mX11_placeOfBit.1 2 := ⟨by decide +kernel, by decide +kernel, by decide +kernel⟩
theorem py_X11_hasBit : plainY mX11_hasBit.1 2 := ⟨by decide +kernel, by decide +kernel, by decide +kernel⟩
theorem py_X10_bestQuestion : plainY mX10_bestQuestion.1 1 := ⟨by decide +kernel, by decide +kernel, by decide +kernel⟩
theorem py_X11_canPlay : plainY mX11_canPlay.1 2 := ⟨by decide +kernel, by decide +kernel, by decide +kernel⟩
theorem py_X5_gameOf : plainY mX5_gameOf.1 6 := ⟨by decide +kernel, by decide +kernel, by decide +kernel⟩
theorem py_X5_restsOf : plainY mX5_restsOf.1 4 := ⟨by decide +kernel, by decide +kernel, by decide +kernel⟩
theorem py_X11_daysLeft : plainY mX11_daysLeft.1 0 := ⟨by decide +kernel, by decide +kernel, by decide +kernel⟩
theorem py_X5_oddsOf : plainY mX5_oddsOf.1 3 := ⟨by decide +kernel, by decide +kernel, by decide +kernel⟩
theorem py_X1_doersOf : plainY mX1_doersOf.1 2 := ⟨by decide +kernel, by decide +kernel, by decide +kernel⟩
theorem py_X7_placeOfMost : plainY mX7_placeOfMost.1 2 := ⟨by decide +kernel, by decide +kernel, by decide +kernel⟩
theorem py_X6_kinds : plainY mX6_kinds.1 0 := ⟨by decide +kernel, by decide +kernel, by decide +kernel⟩
theorem py_X8_upBits : plainY mX8_upBits.1 1 := ⟨by decide +kernel, by decide +kernel, by decide +kernel⟩
theorem py_X1_idle : plainY mX1_idle.1 1 := ⟨by decide +kernel, by decide +kernel, by decide +kernel⟩
theorem py_X8_darkestOver : plainY mX8_darkestOver.1 0 := ⟨by decide +kernel, by decide +kernel, by decide +kernel⟩
theorem py_X5_swayed : plainY mX5_swayed.1 1 := ⟨by decide +kernel, by decide +kernel, by decide +kernel⟩
theorem py_X0_readsStep : plainY mX0_readsStep.1 1 := ⟨by decide +kernel, by decide +kernel, by decide +kernel⟩
theorem py_X9_nextSign : plainY mX9_nextSign.1 0 := ⟨by decide +kernel, by decide +kernel, by decide +kernel⟩
theorem py_X9_advance : plainY mX9_advance.1 0 := ⟨by decide +kernel, by decide +kernel, by decide +kernel⟩
theorem py_X8_governingVoices : plainY mX8_governingVoices.1 0 := ⟨by decide +kernel, by decide +kernel, by decide +kernel⟩
theorem py_X3_worth : plainY mX3_worth.1 2 := ⟨by decide +kernel, by decide +kernel, by decide +kernel⟩
theorem py_X1_lightAhead : plainY mX1_lightAhead.1 4 := ⟨by decide +kernel, by decide +kernel, by decide +kernel⟩
theorem py_X1_doingsNow : plainY mX1_doingsNow.1 1 := ⟨by decide +kernel, by decide +kernel, by decide +kernel⟩
theorem py_X1_bringIn : plainY mX1_bringIn.1 3 := ⟨by decide +kernel, by decide +kernel, by decide +kernel⟩
theorem py_X1_endYear : plainY mX1_endYear.1 1 := ⟨by decide +kernel, by decide +kernel, by decide +kernel⟩
theorem py_X1_turnYear : plainY mX1_turnYear.1 2 := ⟨by decide +kernel, by decide +kernel, by decide +kernel⟩
theorem py_X8_writeLog : plainY mX8_writeLog.1 3 := ⟨by decide +kernel, by decide +kernel, by decide +kernel⟩
theorem py_X1_doingsOn : plainY mX1_doingsOn.1 2 := ⟨by decide +kernel, by decide +kernel, by decide +kernel⟩
theorem py_X1_whyNoHabit : plainY mX1_whyNoHabit.1 3 := ⟨by decide +kernel, by decide +kernel, by decide +kernel⟩
theorem py_X1_spend : plainY mX1_spend.1 2 := ⟨by decide +kernel, by decide +kernel, by decide +kernel⟩
theorem py_X1_draw : plainY mX1_draw.1 1 := ⟨by decide +kernel, by decide +kernel, by decide +kernel⟩
theorem py_X2_stateAt : plainY mX2_stateAt.1 1 := ⟨by decide +kernel, by decide +kernel, by decide +kernel⟩
theorem py_X3_joined : plainY mX3_joined.1 3 := ⟨by decide +kernel, by decide +kernel, by decide +kernel⟩
theorem py_X3_clear : plainY mX3_clear.1 0 := ⟨by decide +kernel, by decide +kernel, by decide +kernel⟩
theorem py_X4_begin : plainY mX4_begin.1 0 := ⟨by decide +kernel, by decide +kernel, by decide +kernel⟩
theorem py_X4_takes : plainY mX4_takes.1 3 := ⟨by decide +kernel, by decide +kernel, by decide +kernel⟩
theorem py_X4_fitsBehind : plainY mX4_fitsBehind.1 1 := ⟨by decide +kernel, by decide +kernel, by decide +kernel⟩
theorem py_X4_goOnBehind : plainY mX4_goOnBehind.1 2 := ⟨by decide +kernel, by decide +kernel, by decide +kernel⟩
theorem py_X4_mayEnd : plainY mX4_mayEnd.1 0 := ⟨by decide +kernel, by decide +kernel, by decide +kernel⟩
theorem py_X4_takesIf : plainY mX4_takesIf.1 3 := ⟨by decide +kernel, by decide +kernel, by decide +kernel⟩
theorem py_X4_opens : plainY mX4_opens.1 2 := ⟨by decide +kernel, by decide +kernel, by decide +kernel⟩
theorem py_X4_takesAtom : plainY mX4_takesAtom.1 3 := ⟨by decide +kernel, by decide +kernel, by decide +kernel⟩
theorem py_X4_await : plainY mX4_await.1 1 := ⟨by decide +kernel, by decide +kernel, by decide +kernel⟩
theorem py_X9_readsNumber : plainY mX9_readsNumber.1 3 := ⟨by decide +kernel, by decide +kernel, by decide +kernel⟩
theorem py_X9_number : plainY mX9_number.1 0 := ⟨by decide +kernel, by decide +kernel, by decide +kernel⟩
theorem py_X3_add : plainY mX3_add.1 1 := ⟨by decide +kernel, by decide +kernel, by decide +kernel⟩
theorem py_X4_strengthOf : plainY mX4_strengthOf.1 1 := ⟨by decide +kernel, by decide +kernel, by decide +kernel⟩
theorem py_X4_release : plainY mX4_release.1 2 := ⟨by decide +kernel, by decide +kernel, by decide +kernel⟩
theorem py_X4_closeBracket : plainY mX4_closeBracket.1 0 := ⟨by decide +kernel, by decide +kernel, by decide +kernel⟩
theorem py_X1_skipYear : plainY mX1_skipYear.1 1 := ⟨by decide +kernel, by decide +kernel, by decide +kernel⟩
theorem py_X5_packed : plainY mX5_packed.1 2 := ⟨by decide +kernel, by decide +kernel, by decide +kernel⟩
theorem py_X1_governorBy : plainY mX1_governorBy.1 1 := ⟨by decide +kernel, by decide +kernel, by decide +kernel⟩
theorem py_X5_layOut : plainY mX5_layOut.1 3 := ⟨by decide +kernel, by decide +kernel, by decide +kernel⟩
theorem py_X5_hasThen : plainY mX5_hasThen.1 3 := ⟨by decide +kernel, by decide +kernel, by decide +kernel⟩
theorem py_X5_isRest : plainY mX5_isRest.1 2 := ⟨by decide +kernel, by decide +kernel, by decide +kernel⟩
theorem py_X5_gainOf : plainY mX5_gainOf.1 3 := ⟨by decide +kernel, by decide +kernel, by decide +kernel⟩
theorem py_X5_rulerBy : plainY mX5_rulerBy.1 3 := ⟨by decide +kernel, by decide +kernel, by decide +kernel⟩
theorem py_X5_partOf : plainY mX5_partOf.1 3 := ⟨by decide +kernel, by decide +kernel, by decide +kernel⟩
theorem py_X6_fillUsual : plainY mX6_fillUsual.1 0 := ⟨by decide +kernel, by decide +kernel, by decide +kernel⟩
theorem py_X6_readsClause : plainY mX6_readsClause.1 1 := ⟨by decide +kernel, by decide +kernel, by decide +kernel⟩
theorem py_X6_isWhole : plainY mX6_isWhole.1 0 := ⟨by decide +kernel, by decide +kernel, by decide +kernel⟩
theorem py_X7_fill : plainY mX7_fill.1 1 := ⟨by decide +kernel, by decide +kernel, by decide +kernel⟩
theorem py_X6_readsItems : plainY mX6_readsItems.1 3 := ⟨by decide +kernel, by decide +kernel, by decide +kernel⟩
theorem py_X9_signAt : plainY mX9_signAt.1 1 := ⟨by decide +kernel, by decide +kernel, by decide +kernel⟩
theorem py_X10_followAll : plainY mX10_followAll.1 2 := ⟨by decide +kernel, by decide +kernel, by decide +kernel⟩
theorem py_X10_mostAlike : plainY mX10_mostAlike.1 2 := ⟨by decide +kernel, by decide +kernel, by decide +kernel⟩
theorem py_X10_treasuryOf : plainY mX10_treasuryOf.1 2 := ⟨by decide +kernel, by decide +kernel, by decide +kernel⟩
theorem py_X10_fits : plainY mX10_fits.1 1 := ⟨by decide +kernel, by decide +kernel, by decide +kernel⟩
theorem py_X11_person : plainY mX11_person.1 2 := ⟨by decide +kernel, by decide +kernel, by decide +kernel⟩
theorem py_X11_init : plainY mX11_init.1 0 := ⟨by decide +kernel, by decide +kernel, by decide +kernel⟩
theorem py_X12_init : plainY mX12_init.1 0 := ⟨by decide +kernel, by decide +kernel, by decide +kernel⟩
theorem py_X11_feed : plainY mX11_feed.1 5 := ⟨by decide +kernel, by decide +kernel, by decide +kernel⟩
theorem py_X12_feed : plainY mX12_feed.1 5 := ⟨by decide +kernel, by decide +kernel, by decide +kernel⟩
theorem py_X11_end : plainY mX11_end.1 1 := ⟨by decide +kernel, by decide +kernel, by decide +kernel⟩
theorem py_X12_end : plainY mX12_end.1 1 := ⟨by decide +kernel, by decide +kernel, by decide +kernel⟩
theorem py_X11_fault : plainY mX11_fault.1 1 := ⟨by decide +kernel, by decide +kernel, by decide +kernel⟩
theorem py_X12_fault : plainY mX12_fault.1 1 := ⟨by decide +kernel, by decide +kernel, by decide +kernel⟩
theorem py_X11_text : plainY mX11_text.1 1 := ⟨by decide +kernel, by decide +kernel, by decide +kernel⟩
theorem py_X12_text : plainY mX12_text.1 1 := ⟨by decide +kernel, by decide +kernel, by decide +kernel⟩
theorem py_X11_kind : plainY mX11_kind.1 2 := ⟨by decide +kernel, by decide +kernel, by decide +kernel⟩
theorem py_X12_kind : plainY mX12_kind.1 2 := ⟨by decide +kernel, by decide +kernel, by decide +kernel⟩
theorem py_X12_person : plainY mX12_person.1 2 := ⟨by decide +kernel, by decide +kernel, by decide +kernel⟩
theorem py_X12_thrown : plainY mX12_thrown.1 0 := ⟨by decide +kernel, by decide +kernel, by decide +kernel⟩
theorem py_X11_law : plainY mX11_law.1 1 := ⟨by decide +kernel, by decide +kernel, by decide +kernel⟩
theorem py_X12_law : plainY mX12_law.1 1 := ⟨by decide +kernel, by decide +kernel, by decide +kernel⟩
theorem py_X11_whim : plainY mX11_whim.1 1 := ⟨by decide +kernel, by decide +kernel, by decide +kernel⟩
theorem py_X12_whim : plainY mX12_whim.1 1 := ⟨by decide +kernel, by decide +kernel, by decide +kernel⟩
theorem py_X11_pass : plainY mX11_pass.1 0 := ⟨by decide +kernel, by decide +kernel, by decide +kernel⟩
theorem py_X12_pass : plainY mX12_pass.1 0 := ⟨by decide +kernel, by decide +kernel, by decide +kernel⟩
theorem py_X11_habit : plainY mX11_habit.1 2 := ⟨by decide +kernel, by decide +kernel, by decide +kernel⟩
theorem py_X12_habit : plainY mX12_habit.1 2 := ⟨by decide +kernel, by decide +kernel, by decide +kernel⟩
theorem py_X11_bed : plainY mX11_bed.1 1 := ⟨by decide +kernel, by decide +kernel, by decide +kernel⟩
theorem py_X12_bed : plainY mX12_bed.1 1 := ⟨by decide +kernel, by decide +kernel, by decide +kernel⟩
theorem py_X11_fog : plainY mX11_fog.1 1 := ⟨by decide +kernel, by decide +kernel, by decide +kernel⟩
theorem py_X12_fog : plainY mX12_fog.1 1 := ⟨by decide +kernel, by decide +kernel, by decide +kernel⟩
theorem py_X11_eclipse : plainY mX11_eclipse.1 0 := ⟨by decide +kernel, by decide +kernel, by decide +kernel⟩
theorem py_X12_eclipse : plainY mX12_eclipse.1 0 := ⟨by decide +kernel, by decide +kernel, by decide +kernel⟩
theorem py_X11_candles : plainY mX11_candles.1 1 := ⟨by decide +kernel, by decide +kernel, by decide +kernel⟩
theorem py_X12_candles : plainY mX12_candles.1 1 := ⟨by decide +kernel, by decide +kernel, by decide +kernel⟩
theorem py_X11_give : plainY mX11_give.1 1 := ⟨by decide +kernel, by decide +kernel, by decide +kernel⟩
theorem py_X12_give : plainY mX12_give.1 1 := ⟨by decide +kernel, by decide +kernel, by decide +kernel⟩
theorem py_X11_years : plainY mX11_years.1 2 := ⟨by decide +kernel, by decide +kernel, by decide +kernel⟩
theorem py_X12_years : plainY mX12_years.1 2 := ⟨by decide +kernel, by decide +kernel, by decide +kernel⟩
theorem py_X11_status : plainY mX11_status.1 1 := ⟨by decide +kernel, by decide +kernel, by decide +kernel⟩
theorem py_X12_status : plainY mX12_status.1 1 := ⟨by decide +kernel, by decide +kernel, by decide +kernel⟩
theorem py_X11_undo : plainY mX11_undo.1 0 := ⟨by decide +kernel, by decide +kernel, by decide +kernel⟩
theorem py_X12_undo : plainY mX12_undo.1 0 := ⟨by decide +kernel, by decide +kernel, by decide +kernel⟩
theorem py_X11_log : plainY mX11_log.1 2 := ⟨by decide +kernel, by decide +kernel, by decide +kernel⟩
theorem py_X12_log : plainY mX12_log.1 2 := ⟨by decide +kernel, by decide +kernel, by decide +kernel⟩
theorem py_X11_step : plainY mX11_step.1 3 := ⟨by decide +kernel, by decide +kernel, by decide +kernel⟩
theorem py_X12_step : plainY mX12_step.1 3 := ⟨by decide +kernel, by decide +kernel, by decide +kernel⟩
theorem py_X11_run : plainY mX11_run.1 2 := ⟨by decide +kernel, by decide +kernel, by decide +kernel⟩
theorem py_X12_run : plainY mX12_run.1 2 := ⟨by decide +kernel, by decide +kernel, by decide +kernel⟩
theorem py_X11_perform : plainY mX11_perform.1 1 := ⟨by decide +kernel, by decide +kernel, by decide +kernel⟩
theorem py_X12_perform : plainY mX12_perform.1 1 := ⟨by decide +kernel, by decide +kernel, by decide +kernel⟩
theorem py_X11_light : plainY mX11_light.1 1 := ⟨by decide +kernel, by decide +kernel, by decide +kernel⟩
theorem py_X12_light : plainY mX12_light.1 1 := ⟨by decide +kernel, by decide +kernel, by decide +kernel⟩
theorem py_X11_coming : plainY mX11_coming.1 1 := ⟨by decide +kernel, by decide +kernel, by decide +kernel⟩
theorem py_X12_coming : plainY mX12_coming.1 1 := ⟨by decide +kernel, by decide +kernel, by decide +kernel⟩
theorem py_X11_may : plainY mX11_may.1 1 := ⟨by decide +kernel, by decide +kernel, by decide +kernel⟩
theorem py_X12_may : plainY mX12_may.1 1 := ⟨by decide +kernel, by decide +kernel, by decide +kernel⟩
theorem py_X11_governs : plainY mX11_governs.1 1 := ⟨by decide +kernel, by decide +kernel, by decide +kernel⟩
theorem py_X12_governs : plainY mX12_governs.1 1 := ⟨by decide +kernel, by decide +kernel, by decide +kernel⟩
theorem py_X11_round : plainY mX11_round.1 1 := ⟨by decide +kernel, by decide +kernel, by decide +kernel⟩
theorem py_X12_round : plainY mX12_round.1 1 := ⟨by decide +kernel, by decide +kernel, by decide +kernel⟩
theorem py_X11_swings : plainY mX11_swings.1 1 := ⟨by decide +kernel, by decide +kernel, by decide +kernel⟩
theorem py_X12_swings : plainY mX12_swings.1 1 := ⟨by decide +kernel, by decide +kernel, by decide +kernel⟩
theorem py_X11_bedding : plainY mX11_bedding.1 1 := ⟨by decide +kernel, by decide +kernel, by decide +kernel⟩
theorem py_X12_bedding : plainY mX12_bedding.1 1 := ⟨by decide +kernel, by decide +kernel, by decide +kernel⟩
theorem py_X11_coins : plainY mX11_coins.1 1 := ⟨by decide +kernel, by decide +kernel, by decide +kernel⟩
theorem py_X12_coins : plainY mX12_coins.1 1 := ⟨by decide +kernel, by decide +kernel, by decide +kernel⟩
theorem py_X11_seen : plainY mX11_seen.1 3 := ⟨by decide +kernel, by decide +kernel, by decide +kernel⟩
theorem py_X12_seen : plainY mX12_seen.1 3 := ⟨by decide +kernel, by decide +kernel, by decide +kernel⟩
theorem py_X11_habits : plainY mX11_habits.1 2 := ⟨by decide +kernel, by decide +kernel, by decide +kernel⟩
theorem py_X12_habits : plainY mX12_habits.1 2 := ⟨by decide +kernel, by decide +kernel, by decide +kernel⟩
theorem py_X11_ask : plainY mX11_ask.1 1 := ⟨by decide +kernel, by decide +kernel, by decide +kernel⟩
theorem py_X12_ask : plainY mX12_ask.1 1 := ⟨by decide +kernel, by decide +kernel, by decide +kernel⟩
theorem py_X11_game : plainY mX11_game.1 5 := ⟨by decide +kernel, by decide +kernel, by decide +kernel⟩
theorem py_X12_game : plainY mX12_game.1 5 := ⟨by decide +kernel, by decide +kernel, by decide +kernel⟩
theorem py_X11_rests : plainY mX11_rests.1 3 := ⟨by decide +kernel, by decide +kernel, by decide +kernel⟩
theorem py_X12_rests : plainY mX12_rests.1 3 := ⟨by decide +kernel, by decide +kernel, by decide +kernel⟩
theorem py_X11_odds : plainY mX11_odds.1 2 := ⟨by decide +kernel, by decide +kernel, by decide +kernel⟩
theorem py_X12_odds : plainY mX12_odds.1 2 := ⟨by decide +kernel, by decide +kernel, by decide +kernel⟩
theorem py_X11_shares : plainY mX11_shares.1 2 := ⟨by decide +kernel, by decide +kernel, by decide +kernel⟩
theorem py_X12_shares : plainY mX12_shares.1 2 := ⟨by decide +kernel, by decide +kernel, by decide +kernel⟩
theorem py_X11_did : plainY mX11_did.1 2 := ⟨by decide +kernel, by decide +kernel, by decide +kernel⟩
theorem py_X12_did : plainY mX12_did.1 2 := ⟨by decide +kernel, by decide +kernel, by decide +kernel⟩
theorem py_X11_all : plainY mX11_all.1 1 := ⟨by decide +kernel, by decide +kernel, by decide +kernel⟩
theorem py_X12_all : plainY mX12_all.1 1 := ⟨by decide +kernel, by decide +kernel, by decide +kernel⟩
theorem py_X11_image : plainY mX11_image.1 0 := ⟨by decide +kernel, by decide +kernel, by decide +kernel⟩
theorem py_X12_image : plainY mX12_image.1 0 := ⟨by decide +kernel, by decide +kernel, by decide +kernel⟩
theorem py_X11_back : plainY mX11_back.1 0 := ⟨by decide +kernel, by decide +kernel, by decide +kernel⟩
theorem py_X12_back : plainY mX12_back.1 0 := ⟨by decide +kernel, by decide +kernel, by decide +kernel⟩
theorem py_X11_count : plainY mX11_count.1 1 := ⟨by decide +kernel, by decide +kernel, by decide +kernel⟩
theorem py_X12_count : plainY mX12_count.1 1 := ⟨by decide +kernel, by decide +kernel, by decide +kernel⟩
theorem py_J0_length_8abf5 : plainY mJ0_length_8abf5.1 0 := ⟨by decide +kernel, by decide +kernel, by decide +kernel⟩
theorem py_J0_charAt_5068e : plainY mJ0_charAt_5068e.1 1 := ⟨by decide +kernel, by decide +kernel, by decide +kernel⟩
theorem py_X12_bytesIn : plainY mX12_bytesIn.1 1 := ⟨by decide +kernel, by decide +kernel, by decide +kernel⟩
theorem py_X12_put : plainY mX12_put.1 1 := ⟨by decide +kernel, by decide +kernel, by decide +kernel⟩
theorem py_X12_fails : plainY mX12_fails.1 0 := ⟨by decide +kernel, by decide +kernel, by decide +kernel⟩
theorem py_X12_look : plainY mX12_look.1 0 := ⟨by decide +kernel, by decide +kernel, by decide +kernel⟩
theorem py_X12_isAmong : plainY mX12_isAmong.1 2 := ⟨by decide +kernel, by decide +kernel, by decide +kernel⟩
theorem py_X12_goesIn : plainY mX12_goesIn.1 0 := ⟨by decide +kernel, by decide +kernel, by decide +kernel⟩
theorem py_X12_sum : plainY mX12_sum.1 0 := ⟨by decide +kernel, by decide +kernel, by decide +kernel⟩
theorem py_X12_takes : plainY mX12_takes.1 1 := ⟨by decide +kernel, by decide +kernel, by decide +kernel⟩
theorem py_X12_isDigit : plainY mX12_isDigit.1 0 := ⟨by decide +kernel, by decide +kernel, by decide +kernel⟩
theorem py_X12_atom : plainY mX12_atom.1 0 := ⟨by decide +kernel, by decide +kernel, by decide +kernel⟩
theorem py_X12_within : plainY mX12_within.1 1 := ⟨by decide +kernel, by decide +kernel, by decide +kernel⟩
theorem py_X12_term : plainY mX12_term.1 0 := ⟨by decide +kernel, by decide +kernel, by decide +kernel⟩
theorem py_X12_isSign : plainY mX12_isSign.1 1 := ⟨by decide +kernel, by decide +kernel, by decide +kernel⟩
theorem py_X12_unit : plainY mX12_unit.1 0 := ⟨by decide +kernel, by decide +kernel, by decide +kernel⟩
theorem py_X12_condition : plainY mX12_condition.1 2 := ⟨by decide +kernel, by decide +kernel, by decide +kernel⟩
theorem py_X12_compares : plainY mX12_compares.1 2 := ⟨by decide +kernel, by decide +kernel, by decide +kernel⟩
theorem py_X12_part : plainY mX12_part.1 2 := ⟨by decide +kernel, by decide +kernel, by decide +kernel⟩
theorem py_X12_starts : plainY mX12_starts.1 3 := ⟨by decide +kernel, by decide +kernel, by decide +kernel⟩
theorem py_X12_clause : plainY mX12_clause.1 0 := ⟨by decide +kernel, by decide +kernel, by decide +kernel⟩
theorem py_X12_here : plainY mX12_here.1 0 := ⟨by decide +kernel, by decide +kernel, by decide +kernel⟩
theorem py_X12_isIn : plainY mX12_isIn.1 3 := ⟨by decide +kernel, by decide +kernel, by decide +kernel⟩
theorem py_X12_usual : plainY mX12_usual.1 2 := ⟨by decide +kernel, by decide +kernel, by decide +kernel⟩
theorem py_X12_spotOf : plainY mX12_spotOf.1 2 := ⟨by decide +kernel, by decide +kernel, by decide +kernel⟩
theorem py_X12_has : plainY mX12_has.1 2 := ⟨by decide +kernel, by decide +kernel, by decide +kernel⟩
theorem py_X12_mostOf : plainY mX12_mostOf.1 2 := ⟨by decide +kernel, by decide +kernel, by decide +kernel⟩
theorem py_X12_number : plainY mX12_number.1 2 := ⟨by decide +kernel, by decide +kernel, by decide +kernel⟩
theorem py_X12_readItems : plainY mX12_readItems.1 4 := ⟨by decide +kernel, by decide +kernel, by decide +kernel⟩
theorem py_X12_readClause : plainY mX12_readClause.1 0 := ⟨by decide +kernel, by decide +kernel, by decide +kernel⟩
theorem py_X12_isWhole : plainY mX12_isWhole.1 0 := ⟨by decide +kernel, by decide +kernel, by decide +kernel⟩
theorem py_X12_digit : plainY mX12_digit.1 0 := ⟨by decide +kernel, by decide +kernel, by decide +kernel⟩
theorem py_X12_readStep : plainY mX12_readStep.1 1 := ⟨by decide +kernel, by decide +kernel, by decide +kernel⟩
theorem py_X12_readPort : plainY mX12_readPort.1 0 := ⟨by decide +kernel, by decide +kernel, by decide +kernel⟩
theorem py_X12_goThrough : plainY mX12_goThrough.1 3 := ⟨by decide +kernel, by decide +kernel, by decide +kernel⟩
theorem py_X12_readPlan : plainY mX12_readPlan.1 0 := ⟨by decide +kernel, by decide +kernel, by decide +kernel⟩
theorem py_X12_lays : plainY mX12_lays.1 1 := ⟨by decide +kernel, by decide +kernel, by decide +kernel⟩
theorem py_X12_up : plainY mX12_up.1 1 := ⟨by decide +kernel, by decide +kernel, by decide +kernel⟩
theorem py_X12_worthOf : plainY mX12_worthOf.1 5 := ⟨by decide +kernel, by decide +kernel, by decide +kernel⟩
theorem py_X12_plainLight : plainY mX12_plainLight.1 3 := ⟨by decide +kernel, by decide +kernel, by decide +kernel⟩
theorem py_X12_lightBy : plainY mX12_lightBy.1 3 := ⟨by decide +kernel, by decide +kernel, by decide +kernel⟩
theorem py_X12_lightOf : plainY mX12_lightOf.1 2 := ⟨by decide +kernel, by decide +kernel, by decide +kernel⟩
theorem py_X12_endsYear : plainY mX12_endsYear.1 1 := ⟨by decide +kernel, by decide +kernel, by decide +kernel⟩
theorem py_X12_passes : plainY mX12_passes.1 1 := ⟨by decide +kernel, by decide +kernel, by decide +kernel⟩
theorem py_X12_isKind : plainY mX12_isKind.1 1 := ⟨by decide +kernel, by decide +kernel, by decide +kernel⟩
theorem py_X12_party : plainY mX12_party.1 1 := ⟨by decide +kernel, by decide +kernel, by decide +kernel⟩
theorem py_X12_isPerson : plainY mX12_isPerson.1 1 := ⟨by decide +kernel, by decide +kernel, by decide +kernel⟩
theorem py_X12_refused : plainY mX12_refused.1 1 := ⟨by decide +kernel, by decide +kernel, by decide +kernel⟩
theorem py_X12_canPass : plainY mX12_canPass.1 1 := ⟨by decide +kernel, by decide +kernel, by decide +kernel⟩
theorem py_X12_remember : plainY mX12_remember.1 0 := ⟨by decide +kernel, by decide +kernel, by decide +kernel⟩
theorem py_X12_goNow : plainY mX12_goNow.1 0 := ⟨by decide +kernel, by decide +kernel, by decide +kernel⟩
theorem py_X12_stopsHabit : plainY mX12_stopsHabit.1 3 := ⟨by decide +kernel, by decide +kernel, by decide +kernel⟩
theorem py_X12_stopsFog : plainY mX12_stopsFog.1 2 := ⟨by decide +kernel, by decide +kernel, by decide +kernel⟩
theorem py_X12_stopsEclipse : plainY mX12_stopsEclipse.1 1 := ⟨by decide +kernel, by decide +kernel, by decide +kernel⟩
theorem py_X12_stopsCandles : plainY mX12_stopsCandles.1 2 := ⟨by decide +kernel, by decide +kernel, by decide +kernel⟩
theorem py_X12_draw : plainY mX12_draw.1 1 := ⟨by decide +kernel, by decide +kernel, by decide +kernel⟩
theorem py_X12_isPlan : plainY mX12_isPlan.1 1 := ⟨by decide +kernel, by decide +kernel, by decide +kernel⟩
theorem py_X12_copy : plainY mX12_copy.1 2 := ⟨by decide +kernel, by decide +kernel, by decide +kernel⟩
theorem py_X12_canStep : plainY mX12_canStep.1 2 := ⟨by decide +kernel, by decide +kernel, by decide +kernel⟩
theorem py_X12_goStep : plainY mX12_goStep.1 2 := ⟨by decide +kernel, by decide +kernel, by decide +kernel⟩
theorem py_X12_darkest : plainY mX12_darkest.1 0 := ⟨by decide +kernel, by decide +kernel, by decide +kernel⟩
theorem py_X12_goYear : plainY mX12_goYear.1 0 := ⟨by decide +kernel, by decide +kernel, by decide +kernel⟩
theorem py_X12_soughtBy : plainY mX12_soughtBy.1 3 := ⟨by decide +kernel, by decide +kernel, by decide +kernel⟩
theorem py_X12_laysHabits : plainY mX12_laysHabits.1 1 := ⟨by decide +kernel, by decide +kernel, by decide +kernel⟩
theorem py_X12_canPlay : plainY mX12_canPlay.1 2 := ⟨by decide +kernel, by decide +kernel, by decide +kernel⟩
theorem py_X12_gameOf : plainY mX12_gameOf.1 5 := ⟨by decide +kernel, by decide +kernel, by decide +kernel⟩
theorem py_X12_oddsFrom : plainY mX12_oddsFrom.1 4 := ⟨by decide +kernel, by decide +kernel, by decide +kernel⟩
theorem py_X12_valueOf : plainY mX12_valueOf.1 2 := ⟨by decide +kernel, by decide +kernel, by decide +kernel⟩
theorem py_X12_greatest : plainY mX12_greatest.1 1 := ⟨by decide +kernel, by decide +kernel, by decide +kernel⟩
theorem py_X12_idle : plainY mX12_idle.1 0 := ⟨by decide +kernel, by decide +kernel, by decide +kernel⟩
theorem py_X12_dark : plainY mX12_dark.1 0 := ⟨by decide +kernel, by decide +kernel, by decide +kernel⟩
theorem py_X12_swayed : plainY mX12_swayed.1 0 := ⟨by decide +kernel, by decide +kernel, by decide +kernel⟩
theorem py_J0_coder_7d493 : plainY mJ0_coder_7d493.1 0 := ⟨by decide +kernel, by decide +kernel, by decide +kernel⟩
theorem py_J0_isLatin1_aae02 : plainY mJ0_isLatin1_aae02.1 0 := ⟨by decide +kernel, by decide +kernel, by decide +kernel⟩
theorem py_J1_charAt_3b067 : plainY mJ1_charAt_3b067.1 2 := ⟨by decide +kernel, by decide +kernel, by decide +kernel⟩
theorem py_J2_charAt_3b067 : plainY mJ2_charAt_3b067.1 2 := ⟨by decide +kernel, by decide +kernel, by decide +kernel⟩
theorem py_J3_checkIndex_8e157 : plainY mJ3_checkIndex_8e157.1 3 := ⟨by decide +kernel, by decide +kernel, by decide +kernel⟩
theorem py_J0_checkIndex_df160 : plainY mJ0_checkIndex_df160.1 2 := ⟨by decide +kernel, by decide +kernel, by decide +kernel⟩
theorem py_J2_length_9d52b : plainY mJ2_length_9d52b.1 1 := ⟨by decide +kernel, by decide +kernel, by decide +kernel⟩
theorem py_J2_checkIndex_2214a : plainY mJ2_checkIndex_2214a.1 2 := ⟨by decide +kernel, by decide +kernel, by decide +kernel⟩
theorem py_J2_getChar_3b067 : plainY mJ2_getChar_3b067.1 2 := ⟨by decide +kernel, by decide +kernel, by decide +kernel⟩
theorem py_X9_init : plainY mX9_init.1 0 := ⟨by decide +kernel, by decide +kernel, by decide +kernel⟩
theorem py_X4_init : plainY mX4_init.1 0 := ⟨by decide +kernel, by decide +kernel, by decide +kernel⟩
theorem py_X11_placeIn : plainY mX11_placeIn.1 2 := ⟨by decide +kernel, by decide +kernel, by decide +kernel⟩
theorem py_X11_entry : plainY mX11_entry.1 2 := ⟨by decide +kernel, by decide +kernel, by decide +kernel⟩
theorem py_X11_isDigit : plainY mX11_isDigit.1 1 := ⟨by decide +kernel, by decide +kernel, by decide +kernel⟩
theorem lkf_X11_10_11 : LkF RX11 10 11 0 2 := ⟨RX11, TX11, 18, rfl, by decide, uw_11, w_365, rfl, by decide, rfl⟩
theorem lkp_X11_10_11 : LkP RX11 10 11 0 2 true := ⟨RX11, TX11, 18, rfl, by decide, uw_11, w_365, rfl, by decide, rfl, tyX11_ok, nmX11, rfl, fun h => by first | rfl | cases h⟩
theorem lkf_X11_19_11 : LkF RX11 19 11 1 2 := ⟨RX11, TX11, 18, rfl, by decide, uw_11, w_366, rfl, by decide, rfl⟩
theorem lkp_X11_19_11 : LkP RX11 19 11 1 2 true := ⟨RX11, TX11, 18, rfl, by decide, uw_11, w_366, rfl, by decide, rfl, tyX11_ok, nmX11, rfl, fun h => by first | rfl | cases h⟩
theorem lkf_X11_23_11 : LkF RX11 23 11 2 2 := ⟨RX11, TX11, 18, rfl, by decide, uw_11, w_367, rfl, by decide, rfl⟩
theorem lkp_X11_23_11 : LkP RX11 23 11 2 2 true := ⟨RX11, TX11, 18, rfl, by decide, uw_11, w_367, rfl, by decide, rfl, tyX11_ok, nmX11, rfl, fun h => by first | rfl | cases h⟩
theorem lkf_X11_29_11 : LkF RX11 29 11 3 2 := ⟨RX11, TX11, 18, rfl, by decide, uw_11, w_368, rfl, by decide, rfl⟩
theorem lkp_X11_29_11 : LkP RX11 29 11 3 2 true := ⟨RX11, TX11, 18, rfl, by decide, uw_11, w_368, rfl, by decide, rfl, tyX11_ok, nmX11, rfl, fun h => by first | rfl | cases h⟩
theorem lkf_X11_35_11 : LkF RX11 35 11 4 2 := ⟨RX11, TX11, 18, rfl, by decide, uw_11, w_369, rfl, by decide, rfl⟩
theorem lkp_X11_35_11 : LkP RX11 35 11 4 2 true := ⟨RX11, TX11, 18, rfl, by decide, uw_11, w_369, rfl, by decide, rfl, tyX11_ok, nmX11, rfl, fun h => by first | rfl | cases h⟩
theorem lkf_X11_41_11 : LkF RX11 41 11 5 2 := ⟨RX11, TX11, 18, rfl, by decide, uw_11, w_370, rfl, by decide, rfl⟩
theorem lkp_X11_41_11 : LkP RX11 41 11 5 2 true := ⟨RX11, TX11, 18, rfl, by decide, uw_11, w_370, rfl, by decide, rfl, tyX11_ok, nmX11, rfl, fun h => by first | rfl | cases h⟩
theorem lkf_X11_50_11 : LkF RX11 50 11 6 2 := ⟨RX11, TX11, 18, rfl, by decide, uw_11, w_371, rfl, by decide, rfl⟩
theorem lkp_X11_50_11 : LkP RX11 50 11 6 2 true := ⟨RX11, TX11, 18, rfl, by decide, uw_11, w_371, rfl, by decide, rfl, tyX11_ok, nmX11, rfl, fun h => by first | rfl | cases h⟩
theorem lkf_X11_59_11 : LkF RX11 59 11 7 2 := ⟨RX11, TX11, 18, rfl, by decide, uw_11, w_372, rfl, by decide, rfl⟩
theorem lkp_X11_59_11 : LkP RX11 59 11 7 2 true := ⟨RX11, TX11, 18, rfl, by decide, uw_11, w_372, rfl, by decide, rfl, tyX11_ok, nmX11, rfl, fun h => by first | rfl | cases h⟩
theorem lkf_X11_68_11 : LkF RX11 68 11 8 2 := ⟨RX11, TX11, 18, rfl, by decide, uw_11, w_373, rfl, by decide, rfl⟩
theorem lkp_X11_68_11 : LkP RX11 68 11 8 2 true := ⟨RX11, TX11, 18, rfl, by decide, uw_11, w_373, rfl, by decide, rfl, tyX11_ok, nmX11, rfl, fun h => by first | rfl | cases h⟩
theorem lkf_X11_75_11 : LkF RX11 75 11 9 2 := ⟨RX11, TX11, 18, rfl, by decide, uw_11, w_374, rfl, by decide, rfl⟩
theorem lkp_X11_75_11 : LkP RX11 75 11 9 2 true := ⟨RX11, TX11, 18, rfl, by decide, uw_11, w_374, rfl, by decide, rfl, tyX11_ok, nmX11, rfl, fun h => by first | rfl | cases h⟩
theorem lkf_X11_82_11 : LkF RX11 82 11 10 2 := ⟨RX11, TX11, 18, rfl, by decide, uw_11, w_375, rfl, by decide, rfl⟩
theorem lkp_X11_82_11 : LkP RX11 82 11 10 2 true := ⟨RX11, TX11, 18, rfl, by decide, uw_11, w_375, rfl, by decide, rfl, tyX11_ok, nmX11, rfl, fun h => by first | rfl | cases h⟩
theorem lkf_X11_89_11 : LkF RX11 89 11 11 2 := ⟨RX11, TX11, 18, rfl, by decide, uw_11, w_376, rfl, by decide, rfl⟩
theorem lkp_X11_89_11 : LkP RX11 89 11 11 2 true := ⟨RX11, TX11, 18, rfl, by decide, uw_11, w_376, rfl, by decide, rfl, tyX11_ok, nmX11, rfl, fun h => by first | rfl | cases h⟩
theorem lkf_X11_93_11 : LkF RX11 93 11 12 2 := ⟨RX11, TX11, 18, rfl, by decide, uw_11, w_377, rfl, by decide, rfl⟩
theorem lkp_X11_93_11 : LkP RX11 93 11 12 2 true := ⟨RX11, TX11, 18, rfl, by decide, uw_11, w_377, rfl, by decide, rfl, tyX11_ok, nmX11, rfl, fun h => by first | rfl | cases h⟩
theorem lkf_X11_96_11 : LkF RX11 96 11 13 0 := ⟨RX11, TX11, 18, rfl, by decide, uw_11, w_378, rfl, by decide, rfl⟩
theorem lkp_X11_96_11 : LkP RX11 96 11 13 0 false := ⟨RX11, TX11, 18, rfl, by decide, uw_11, w_378, rfl, by decide, rfl, tyX11_ok, nmX11, rfl, fun h => by first | rfl | cases h⟩
theorem lkf_X11_100_11 : LkF RX11 100 11 14 0 := ⟨RX11, TX11, 18, rfl, by decide, uw_11, w_379, rfl, by decide, rfl⟩
theorem lkp_X11_100_11 : LkP RX11 100 11 14 0 false := ⟨RX11, TX11, 18, rfl, by decide, uw_11, w_379, rfl, by decide, rfl, tyX11_ok, nmX11, rfl, fun h => by first | rfl | cases h⟩
theorem lkf_X11_104_11 : LkF RX11 104 11 15 0 := ⟨RX11, TX11, 18, rfl, by decide, uw_11, w_380, rfl, by decide, rfl⟩
theorem lkp_X11_104_11 : LkP RX11 104 11 15 0 false := ⟨RX11, TX11, 18, rfl, by decide, uw_11, w_380, rfl, by decide, rfl, tyX11_ok, nmX11, rfl, fun h => by first | rfl | cases h⟩
theorem lkf_X11_107_11 : LkF RX11 107 11 16 0 := ⟨RX11, TX11, 18, rfl, by decide, uw_11, w_381, rfl, by decide, rfl⟩
theorem lkp_X11_107_11 : LkP RX11 107 11 16 0 false := ⟨RX11, TX11, 18, rfl, by decide, uw_11, w_381, rfl, by decide, rfl, tyX11_ok, nmX11, rfl, fun h => by first | rfl | cases h⟩
theorem lkf_X11_110_11 : LkF RX11 110 11 17 0 := ⟨RX11, TX11, 18, rfl, by decide, uw_11, w_382, rfl, by decide, rfl⟩
theorem lkp_X11_110_11 : LkP RX11 110 11 17 0 false := ⟨RX11, TX11, 18, rfl, by decide, uw_11, w_382, rfl, by decide, rfl, tyX11_ok, nmX11, rfl, fun h => by first | rfl | cases h⟩
theorem lkf_X0_11_0 : LkF RX0 11 0 1 0 := ⟨RX0, TX0, 2, rfl, by decide, uw_0, w_360, rfl, by decide, rfl⟩
theorem lkp_X0_11_0 : LkP RX0 11 0 1 0 false := ⟨RX0, TX0, 2, rfl, by decide, uw_0, w_360, rfl, by decide, rfl, tyX0_ok, nmX0, rfl, fun h => by first | rfl | cases h⟩
theorem lks_X0_33 : Cond.fieldLink RX0 33 "DarkestDay$Calendar" "LETTERS" "[C" ∈ TB := w_584
theorem lks_X0_45 : Cond.fieldLink RX0 45 "DarkestDay$Calendar" "DIGITS" "[I" ∈ TB := w_592
theorem lks_X1_11 : Cond.fieldLink RX1 11 "DarkestDay$Law" "LETTERS" "[C" ∈ TB := w_223
theorem lkf_X1_20_1 : LkF RX1 20 1 1 2 := ⟨RX1, TX1, 5, rfl, by decide, uw_1, w_227, rfl, by decide, rfl⟩
theorem lkp_X1_20_1 : LkP RX1 20 1 1 2 true := ⟨RX1, TX1, 5, rfl, by decide, uw_1, w_227, rfl, by decide, rfl, tyX1_ok, nmX1, rfl, fun h => by first | rfl | cases h⟩
theorem lkf_X1_26_1 : LkF RX1 26 1 2 2 := ⟨RX1, TX1, 5, rfl, by decide, uw_1, w_228, rfl, by decide, rfl⟩
theorem lkp_X1_26_1 : LkP RX1 26 1 2 2 true := ⟨RX1, TX1, 5, rfl, by decide, uw_1, w_228, rfl, by decide, rfl, tyX1_ok, nmX1, rfl, fun h => by first | rfl | cases h⟩
theorem lkf_X1_29_1 : LkF RX1 29 1 3 2 := ⟨RX1, TX1, 5, rfl, by decide, uw_1, w_229, rfl, by decide, rfl⟩
theorem lkp_X1_29_1 : LkP RX1 29 1 3 2 false := ⟨RX1, TX1, 5, rfl, by decide, uw_1, w_229, rfl, by decide, rfl, tyX1_ok, nmX1, rfl, fun h => by first | rfl | cases h⟩
theorem lkf_X1_33_1 : LkF RX1 33 1 4 1 := ⟨RX1, TX1, 5, rfl, by decide, uw_1, w_230, rfl, by decide, rfl⟩
theorem lkp_X1_33_1 : LkP RX1 33 1 4 1 false := ⟨RX1, TX1, 5, rfl, by decide, uw_1, w_230, rfl, by decide, rfl, tyX1_ok, nmX1, rfl, fun h => by first | rfl | cases h⟩
theorem lkf_X1_37_1 : LkF RX1 37 1 0 2 := ⟨RX1, TX1, 5, rfl, by decide, uw_1, w_226, rfl, by decide, rfl⟩
theorem lkp_X1_37_1 : LkP RX1 37 1 0 2 true := ⟨RX1, TX1, 5, rfl, by decide, uw_1, w_226, rfl, by decide, rfl, tyX1_ok, nmX1, rfl, fun h => by first | rfl | cases h⟩
theorem lkf_X2_11_2 : LkF RX2 11 2 0 2 := ⟨RX2, TX2, 3, rfl, by decide, uw_2, w_333, rfl, by decide, rfl⟩
theorem lkp_X2_11_2 : LkP RX2 11 2 0 2 true := ⟨RX2, TX2, 3, rfl, by decide, uw_2, w_333, rfl, by decide, rfl, tyX2_ok, nmX2, rfl, fun h => by first | rfl | cases h⟩
theorem lkf_X2_15_2 : LkF RX2 15 2 1 0 := ⟨RX2, TX2, 3, rfl, by decide, uw_2, w_334, rfl, by decide, rfl⟩
theorem lkp_X2_15_2 : LkP RX2 15 2 1 0 false := ⟨RX2, TX2, 3, rfl, by decide, uw_2, w_334, rfl, by decide, rfl, tyX2_ok, nmX2, rfl, fun h => by first | rfl | cases h⟩
theorem lkf_X2_19_2 : LkF RX2 19 2 2 0 := ⟨RX2, TX2, 3, rfl, by decide, uw_2, w_335, rfl, by decide, rfl⟩
theorem lkp_X2_19_2 : LkP RX2 19 2 2 0 false := ⟨RX2, TX2, 3, rfl, by decide, uw_2, w_335, rfl, by decide, rfl, tyX2_ok, nmX2, rfl, fun h => by first | rfl | cases h⟩
theorem lkf_X3_9_3 : LkF RX3 9 3 1 0 := ⟨RX3, TX3, 2, rfl, by decide, uw_3, w_350, rfl, by decide, rfl⟩
theorem lkp_X3_9_3 : LkP RX3 9 3 1 0 false := ⟨RX3, TX3, 2, rfl, by decide, uw_3, w_350, rfl, by decide, rfl, tyX3_ok, nmX3, rfl, fun h => by first | rfl | cases h⟩
theorem lkf_X4_16_4 : LkF RX4 16 4 0 2 := ⟨RX4, TX4, 9, rfl, by decide, uw_4, w_182, rfl, by decide, rfl⟩
theorem lkp_X4_16_4 : LkP RX4 16 4 0 2 true := ⟨RX4, TX4, 9, rfl, by decide, uw_4, w_182, rfl, by decide, rfl, tyX4_ok, nmX4, rfl, fun h => by first | rfl | cases h⟩
theorem lkf_X4_20_4 : LkF RX4 20 4 1 0 := ⟨RX4, TX4, 9, rfl, by decide, uw_4, w_183, rfl, by decide, rfl⟩
theorem lkp_X4_20_4 : LkP RX4 20 4 1 0 false := ⟨RX4, TX4, 9, rfl, by decide, uw_4, w_183, rfl, by decide, rfl, tyX4_ok, nmX4, rfl, fun h => by first | rfl | cases h⟩
theorem lkf_X4_24_4 : LkF RX4 24 4 2 0 := ⟨RX4, TX4, 9, rfl, by decide, uw_4, w_184, rfl, by decide, rfl⟩
theorem lkp_X4_24_4 : LkP RX4 24 4 2 0 false := ⟨RX4, TX4, 9, rfl, by decide, uw_4, w_184, rfl, by decide, rfl, tyX4_ok, nmX4, rfl, fun h => by first | rfl | cases h⟩
theorem lkf_X4_27_4 : LkF RX4 27 4 3 0 := ⟨RX4, TX4, 9, rfl, by decide, uw_4, w_185, rfl, by decide, rfl⟩
theorem lkp_X4_27_4 : LkP RX4 27 4 3 0 false := ⟨RX4, TX4, 9, rfl, by decide, uw_4, w_185, rfl, by decide, rfl, tyX4_ok, nmX4, rfl, fun h => by first | rfl | cases h⟩
theorem lkf_X4_30_4 : LkF RX4 30 4 4 0 := ⟨RX4, TX4, 9, rfl, by decide, uw_4, w_186, rfl, by decide, rfl⟩
theorem lkp_X4_30_4 : LkP RX4 30 4 4 0 false := ⟨RX4, TX4, 9, rfl, by decide, uw_4, w_186, rfl, by decide, rfl, tyX4_ok, nmX4, rfl, fun h => by first | rfl | cases h⟩
theorem lkf_X4_33_4 : LkF RX4 33 4 5 0 := ⟨RX4, TX4, 9, rfl, by decide, uw_4, w_187, rfl, by decide, rfl⟩
theorem lkp_X4_33_4 : LkP RX4 33 4 5 0 false := ⟨RX4, TX4, 9, rfl, by decide, uw_4, w_187, rfl, by decide, rfl, tyX4_ok, nmX4, rfl, fun h => by first | rfl | cases h⟩
theorem lkf_X4_36_4 : LkF RX4 36 4 6 0 := ⟨RX4, TX4, 9, rfl, by decide, uw_4, w_188, rfl, by decide, rfl⟩
theorem lkp_X4_36_4 : LkP RX4 36 4 6 0 false := ⟨RX4, TX4, 9, rfl, by decide, uw_4, w_188, rfl, by decide, rfl, tyX4_ok, nmX4, rfl, fun h => by first | rfl | cases h⟩
theorem lkf_X4_40_4 : LkF RX4 40 4 7 0 := ⟨RX4, TX4, 9, rfl, by decide, uw_4, w_189, rfl, by decide, rfl⟩
theorem lkp_X4_40_4 : LkP RX4 40 4 7 0 false := ⟨RX4, TX4, 9, rfl, by decide, uw_4, w_189, rfl, by decide, rfl, tyX4_ok, nmX4, rfl, fun h => by first | rfl | cases h⟩
theorem lkf_X4_43_4 : LkF RX4 43 4 8 0 := ⟨RX4, TX4, 9, rfl, by decide, uw_4, w_190, rfl, by decide, rfl⟩
theorem lkp_X4_43_4 : LkP RX4 43 4 8 0 false := ⟨RX4, TX4, 9, rfl, by decide, uw_4, w_190, rfl, by decide, rfl, tyX4_ok, nmX4, rfl, fun h => by first | rfl | cases h⟩
theorem lks_X4_106 : Cond.fieldLink RX4 106 "DarkestDay$Law" "LETTERS" "[C" ∈ TB := w_533
theorem lkf_X5_12_5 : LkF RX5 12 5 2 2 := ⟨RX5, TX5, 10, rfl, by decide, uw_5, w_260, rfl, by decide, rfl⟩
theorem lkp_X5_12_5 : LkP RX5 12 5 2 2 true := ⟨RX5, TX5, 10, rfl, by decide, uw_5, w_260, rfl, by decide, rfl, tyX5_ok, nmX5, rfl, fun h => by first | rfl | cases h⟩
theorem lkf_X5_23_5 : LkF RX5 23 5 3 2 := ⟨RX5, TX5, 10, rfl, by decide, uw_5, w_261, rfl, by decide, rfl⟩
theorem lkp_X5_23_5 : LkP RX5 23 5 3 2 true := ⟨RX5, TX5, 10, rfl, by decide, uw_5, w_261, rfl, by decide, rfl, tyX5_ok, nmX5, rfl, fun h => by first | rfl | cases h⟩
theorem lkf_X5_27_5 : LkF RX5 27 5 4 2 := ⟨RX5, TX5, 10, rfl, by decide, uw_5, w_262, rfl, by decide, rfl⟩
theorem lkp_X5_27_5 : LkP RX5 27 5 4 2 true := ⟨RX5, TX5, 10, rfl, by decide, uw_5, w_262, rfl, by decide, rfl, tyX5_ok, nmX5, rfl, fun h => by first | rfl | cases h⟩
theorem lkf_X5_30_5 : LkF RX5 30 5 5 2 := ⟨RX5, TX5, 10, rfl, by decide, uw_5, w_263, rfl, by decide, rfl⟩
theorem lkp_X5_30_5 : LkP RX5 30 5 5 2 true := ⟨RX5, TX5, 10, rfl, by decide, uw_5, w_263, rfl, by decide, rfl, tyX5_ok, nmX5, rfl, fun h => by first | rfl | cases h⟩
theorem lkf_X5_33_5 : LkF RX5 33 5 6 2 := ⟨RX5, TX5, 10, rfl, by decide, uw_5, w_264, rfl, by decide, rfl⟩
theorem lkp_X5_33_5 : LkP RX5 33 5 6 2 true := ⟨RX5, TX5, 10, rfl, by decide, uw_5, w_264, rfl, by decide, rfl, tyX5_ok, nmX5, rfl, fun h => by first | rfl | cases h⟩
theorem lkf_X5_36_5 : LkF RX5 36 5 7 2 := ⟨RX5, TX5, 10, rfl, by decide, uw_5, w_265, rfl, by decide, rfl⟩
theorem lkp_X5_36_5 : LkP RX5 36 5 7 2 true := ⟨RX5, TX5, 10, rfl, by decide, uw_5, w_265, rfl, by decide, rfl, tyX5_ok, nmX5, rfl, fun h => by first | rfl | cases h⟩
theorem lkf_X5_39_5 : LkF RX5 39 5 8 2 := ⟨RX5, TX5, 10, rfl, by decide, uw_5, w_266, rfl, by decide, rfl⟩
theorem lkp_X5_39_5 : LkP RX5 39 5 8 2 true := ⟨RX5, TX5, 10, rfl, by decide, uw_5, w_266, rfl, by decide, rfl, tyX5_ok, nmX5, rfl, fun h => by first | rfl | cases h⟩
theorem lkf_X5_42_5 : LkF RX5 42 5 9 2 := ⟨RX5, TX5, 10, rfl, by decide, uw_5, w_267, rfl, by decide, rfl⟩
theorem lkp_X5_42_5 : LkP RX5 42 5 9 2 true := ⟨RX5, TX5, 10, rfl, by decide, uw_5, w_267, rfl, by decide, rfl, tyX5_ok, nmX5, rfl, fun h => by first | rfl | cases h⟩
theorem lkf_X5_45_5 : LkF RX5 45 5 0 2 := ⟨RX5, TX5, 10, rfl, by decide, uw_5, w_258, rfl, by decide, rfl⟩
theorem lkp_X5_45_5 : LkP RX5 45 5 0 2 true := ⟨RX5, TX5, 10, rfl, by decide, uw_5, w_258, rfl, by decide, rfl, tyX5_ok, nmX5, rfl, fun h => by first | rfl | cases h⟩
theorem lkf_X5_49_5 : LkF RX5 49 5 1 2 := ⟨RX5, TX5, 10, rfl, by decide, uw_5, w_259, rfl, by decide, rfl⟩
theorem lkp_X5_49_5 : LkP RX5 49 5 1 2 true := ⟨RX5, TX5, 10, rfl, by decide, uw_5, w_259, rfl, by decide, rfl, tyX5_ok, nmX5, rfl, fun h => by first | rfl | cases h⟩
theorem lks_X6_39 : Cond.fieldLink RX6 39 "DarkestDay$Port" "CELLS" "[I" ∈ TB := w_612
theorem lks_X6_47 : Cond.fieldLink RX6 47 "DarkestDay$Port" "USUAL" "[I" ∈ TB := w_615
theorem lks_X6_68 : Cond.fieldLink RX6 68 "DarkestDay$Port" "LETTERS" "[C" ∈ TB := w_634
theorem lks_X6_76 : Cond.fieldLink RX6 76 "DarkestDay$Port" "CLAUSES" "[C" ∈ TB := w_637
theorem lks_X6_83 : Cond.fieldLink RX6 83 "DarkestDay$Port" "LEAST" "[I" ∈ TB := w_642
theorem lks_X6_86 : Cond.fieldLink RX6 86 "DarkestDay$Port" "MOST" "[I" ∈ TB := w_644
theorem lkf_X7_7_0 : LkF RX7 7 0 0 2 := ⟨RX0, TX0, 2, rfl, by decide, uw_0, w_167, rfl, by decide, rfl⟩
theorem lkp_X7_7_0 : LkP RX7 7 0 0 2 true := ⟨RX0, TX0, 2, rfl, by decide, uw_0, w_167, rfl, by decide, rfl, tyX0_ok, nmX0, rfl, fun h => by first | rfl | cases h⟩
theorem lkf_X7_7_3 : LkF RX7 7 3 0 2 := ⟨RX3, TX3, 2, rfl, by decide, uw_3, w_167, rfl, by decide, rfl⟩
theorem lkp_X7_7_3 : LkP RX7 7 3 0 2 true := ⟨RX3, TX3, 2, rfl, by decide, uw_3, w_167, rfl, by decide, rfl, tyX3_ok, nmX3, rfl, fun h => by first | rfl | cases h⟩
theorem lkf_X7_7_6 : LkF RX7 7 6 0 2 := ⟨RX6, TX6, 1, rfl, by decide, uw_6, w_167, rfl, by decide, rfl⟩
theorem lkp_X7_7_6 : LkP RX7 7 6 0 2 true := ⟨RX6, TX6, 1, rfl, by decide, uw_6, w_167, rfl, by decide, rfl, tyX6_ok, nmX6, rfl, fun h => by first | rfl | cases h⟩
theorem lkf_X7_7_7 : LkF RX7 7 7 0 2 := ⟨RX7, TX7, 1, rfl, by decide, uw_7, w_167, rfl, by decide, rfl⟩
theorem lkp_X7_7_7 : LkP RX7 7 7 0 2 true := ⟨RX7, TX7, 1, rfl, by decide, uw_7, w_167, rfl, by decide, rfl, tyX7_ok, nmX7, rfl, fun h => by first | rfl | cases h⟩
theorem lkf_X7_7_8 : LkF RX7 7 8 0 2 := ⟨RX8, TX8, 1, rfl, by decide, uw_8, w_167, rfl, by decide, rfl⟩
theorem lkp_X7_7_8 : LkP RX7 7 8 0 2 true := ⟨RX8, TX8, 1, rfl, by decide, uw_8, w_167, rfl, by decide, rfl, tyX8_ok, nmX8, rfl, fun h => by first | rfl | cases h⟩
theorem lkf_X9_9_9 : LkF RX9 9 9 0 2 := ⟨RX9, TX9, 4, rfl, by decide, uw_9, w_144, rfl, by decide, rfl⟩
theorem lkp_X9_9_9 : LkP RX9 9 9 0 2 true := ⟨RX9, TX9, 4, rfl, by decide, uw_9, w_144, rfl, by decide, rfl, tyX9_ok, nmX9, rfl, fun h => by first | rfl | cases h⟩
theorem lkf_X9_15_9 : LkF RX9 15 9 1 0 := ⟨RX9, TX9, 4, rfl, by decide, uw_9, w_145, rfl, by decide, rfl⟩
theorem lkp_X9_15_9 : LkP RX9 15 9 1 0 false := ⟨RX9, TX9, 4, rfl, by decide, uw_9, w_145, rfl, by decide, rfl, tyX9_ok, nmX9, rfl, fun h => by first | rfl | cases h⟩
theorem lkf_X9_19_9 : LkF RX9 19 9 2 0 := ⟨RX9, TX9, 4, rfl, by decide, uw_9, w_146, rfl, by decide, rfl⟩
theorem lkp_X9_19_9 : LkP RX9 19 9 2 0 false := ⟨RX9, TX9, 4, rfl, by decide, uw_9, w_146, rfl, by decide, rfl, tyX9_ok, nmX9, rfl, fun h => by first | rfl | cases h⟩
theorem lkf_X9_22_9 : LkF RX9 22 9 3 0 := ⟨RX9, TX9, 4, rfl, by decide, uw_9, w_147, rfl, by decide, rfl⟩
theorem lkp_X9_22_9 : LkP RX9 22 9 3 0 false := ⟨RX9, TX9, 4, rfl, by decide, uw_9, w_147, rfl, by decide, rfl, tyX9_ok, nmX9, rfl, fun h => by first | rfl | cases h⟩
theorem lkf_X10_12_10 : LkF RX10 12 10 2 2 := ⟨RX10, TX10, 8, rfl, by decide, uw_10, w_301, rfl, by decide, rfl⟩
theorem lkp_X10_12_10 : LkP RX10 12 10 2 2 true := ⟨RX10, TX10, 8, rfl, by decide, uw_10, w_301, rfl, by decide, rfl, tyX10_ok, nmX10, rfl, fun h => by first | rfl | cases h⟩
theorem lkf_X10_23_10 : LkF RX10 23 10 3 2 := ⟨RX10, TX10, 8, rfl, by decide, uw_10, w_302, rfl, by decide, rfl⟩
theorem lkp_X10_23_10 : LkP RX10 23 10 3 2 true := ⟨RX10, TX10, 8, rfl, by decide, uw_10, w_302, rfl, by decide, rfl, tyX10_ok, nmX10, rfl, fun h => by first | rfl | cases h⟩
theorem lkf_X10_27_10 : LkF RX10 27 10 4 2 := ⟨RX10, TX10, 8, rfl, by decide, uw_10, w_303, rfl, by decide, rfl⟩
theorem lkp_X10_27_10 : LkP RX10 27 10 4 2 true := ⟨RX10, TX10, 8, rfl, by decide, uw_10, w_303, rfl, by decide, rfl, tyX10_ok, nmX10, rfl, fun h => by first | rfl | cases h⟩
theorem lkf_X10_30_10 : LkF RX10 30 10 5 2 := ⟨RX10, TX10, 8, rfl, by decide, uw_10, w_304, rfl, by decide, rfl⟩
theorem lkp_X10_30_10 : LkP RX10 30 10 5 2 true := ⟨RX10, TX10, 8, rfl, by decide, uw_10, w_304, rfl, by decide, rfl, tyX10_ok, nmX10, rfl, fun h => by first | rfl | cases h⟩
theorem lkf_X10_33_10 : LkF RX10 33 10 6 2 := ⟨RX10, TX10, 8, rfl, by decide, uw_10, w_305, rfl, by decide, rfl⟩
theorem lkp_X10_33_10 : LkP RX10 33 10 6 2 true := ⟨RX10, TX10, 8, rfl, by decide, uw_10, w_305, rfl, by decide, rfl, tyX10_ok, nmX10, rfl, fun h => by first | rfl | cases h⟩
theorem lkf_X10_36_10 : LkF RX10 36 10 7 0 := ⟨RX10, TX10, 8, rfl, by decide, uw_10, w_306, rfl, by decide, rfl⟩
theorem lkp_X10_36_10 : LkP RX10 36 10 7 0 false := ⟨RX10, TX10, 8, rfl, by decide, uw_10, w_306, rfl, by decide, rfl, tyX10_ok, nmX10, rfl, fun h => by first | rfl | cases h⟩
theorem lkf_X10_40_10 : LkF RX10 40 10 0 2 := ⟨RX10, TX10, 8, rfl, by decide, uw_10, w_299, rfl, by decide, rfl⟩
theorem lkp_X10_40_10 : LkP RX10 40 10 0 2 true := ⟨RX10, TX10, 8, rfl, by decide, uw_10, w_299, rfl, by decide, rfl, tyX10_ok, nmX10, rfl, fun h => by first | rfl | cases h⟩
theorem lkf_X10_44_10 : LkF RX10 44 10 1 2 := ⟨RX10, TX10, 8, rfl, by decide, uw_10, w_300, rfl, by decide, rfl⟩
theorem lkp_X10_44_10 : LkP RX10 44 10 1 2 true := ⟨RX10, TX10, 8, rfl, by decide, uw_10, w_300, rfl, by decide, rfl, tyX10_ok, nmX10, rfl, fun h => by first | rfl | cases h⟩
theorem lkf_X12_9_12 : LkF RX12 9 12 1 2 := ⟨RX12, TX12, 52, rfl, by decide, uw_12, w_1343, rfl, by decide, rfl⟩
theorem lkp_X12_9_12 : LkP RX12 9 12 1 2 true := ⟨RX12, TX12, 52, rfl, by decide, uw_12, w_1343, rfl, by decide, rfl, tyX12_ok, nmX12, rfl, fun h => by first | rfl | cases h⟩
theorem lkf_X12_13_12 : LkF RX12 13 12 2 2 := ⟨RX12, TX12, 52, rfl, by decide, uw_12, w_1344, rfl, by decide, rfl⟩
theorem lkp_X12_13_12 : LkP RX12 13 12 2 2 true := ⟨RX12, TX12, 52, rfl, by decide, uw_12, w_1344, rfl, by decide, rfl, tyX12_ok, nmX12, rfl, fun h => by first | rfl | cases h⟩
theorem lkf_X12_16_12 : LkF RX12 16 12 3 2 := ⟨RX12, TX12, 52, rfl, by decide, uw_12, w_1345, rfl, by decide, rfl⟩
theorem lkp_X12_16_12 : LkP RX12 16 12 3 2 true := ⟨RX12, TX12, 52, rfl, by decide, uw_12, w_1345, rfl, by decide, rfl, tyX12_ok, nmX12, rfl, fun h => by first | rfl | cases h⟩
theorem lkf_X12_20_12 : LkF RX12 20 12 4 2 := ⟨RX12, TX12, 52, rfl, by decide, uw_12, w_1346, rfl, by decide, rfl⟩
theorem lkp_X12_20_12 : LkP RX12 20 12 4 2 true := ⟨RX12, TX12, 52, rfl, by decide, uw_12, w_1346, rfl, by decide, rfl, tyX12_ok, nmX12, rfl, fun h => by first | rfl | cases h⟩
theorem lkf_X12_23_12 : LkF RX12 23 12 5 2 := ⟨RX12, TX12, 52, rfl, by decide, uw_12, w_1347, rfl, by decide, rfl⟩
theorem lkp_X12_23_12 : LkP RX12 23 12 5 2 false := ⟨RX12, TX12, 52, rfl, by decide, uw_12, w_1347, rfl, by decide, rfl, tyX12_ok, nmX12, rfl, fun h => by first | rfl | cases h⟩
theorem lkf_X12_28_12 : LkF RX12 28 12 15 2 := ⟨RX12, TX12, 52, rfl, by decide, uw_12, w_1357, rfl, by decide, rfl⟩
theorem lkp_X12_28_12 : LkP RX12 28 12 15 2 true := ⟨RX12, TX12, 52, rfl, by decide, uw_12, w_1357, rfl, by decide, rfl, tyX12_ok, nmX12, rfl, fun h => by first | rfl | cases h⟩
theorem lkf_X12_34_12 : LkF RX12 34 12 16 2 := ⟨RX12, TX12, 52, rfl, by decide, uw_12, w_1358, rfl, by decide, rfl⟩
theorem lkp_X12_34_12 : LkP RX12 34 12 16 2 true := ⟨RX12, TX12, 52, rfl, by decide, uw_12, w_1358, rfl, by decide, rfl, tyX12_ok, nmX12, rfl, fun h => by first | rfl | cases h⟩
theorem lkf_X12_37_12 : LkF RX12 37 12 18 2 := ⟨RX12, TX12, 52, rfl, by decide, uw_12, w_1360, rfl, by decide, rfl⟩
theorem lkp_X12_37_12 : LkP RX12 37 12 18 2 true := ⟨RX12, TX12, 52, rfl, by decide, uw_12, w_1360, rfl, by decide, rfl, tyX12_ok, nmX12, rfl, fun h => by first | rfl | cases h⟩
theorem lkf_X12_40_12 : LkF RX12 40 12 19 2 := ⟨RX12, TX12, 52, rfl, by decide, uw_12, w_1361, rfl, by decide, rfl⟩
theorem lkp_X12_40_12 : LkP RX12 40 12 19 2 true := ⟨RX12, TX12, 52, rfl, by decide, uw_12, w_1361, rfl, by decide, rfl, tyX12_ok, nmX12, rfl, fun h => by first | rfl | cases h⟩
theorem lkf_X12_43_12 : LkF RX12 43 12 20 2 := ⟨RX12, TX12, 52, rfl, by decide, uw_12, w_1362, rfl, by decide, rfl⟩
theorem lkp_X12_43_12 : LkP RX12 43 12 20 2 true := ⟨RX12, TX12, 52, rfl, by decide, uw_12, w_1362, rfl, by decide, rfl, tyX12_ok, nmX12, rfl, fun h => by first | rfl | cases h⟩
theorem lkf_X12_46_12 : LkF RX12 46 12 21 2 := ⟨RX12, TX12, 52, rfl, by decide, uw_12, w_1363, rfl, by decide, rfl⟩
theorem lkp_X12_46_12 : LkP RX12 46 12 21 2 true := ⟨RX12, TX12, 52, rfl, by decide, uw_12, w_1363, rfl, by decide, rfl, tyX12_ok, nmX12, rfl, fun h => by first | rfl | cases h⟩
theorem lkf_X12_49_12 : LkF RX12 49 12 22 2 := ⟨RX12, TX12, 52, rfl, by decide, uw_12, w_1364, rfl, by decide, rfl⟩
theorem lkp_X12_49_12 : LkP RX12 49 12 22 2 true := ⟨RX12, TX12, 52, rfl, by decide, uw_12, w_1364, rfl, by decide, rfl, tyX12_ok, nmX12, rfl, fun h => by first | rfl | cases h⟩
theorem lkf_X12_52_12 : LkF RX12 52 12 23 2 := ⟨RX12, TX12, 52, rfl, by decide, uw_12, w_1365, rfl, by decide, rfl⟩
theorem lkp_X12_52_12 : LkP RX12 52 12 23 2 true := ⟨RX12, TX12, 52, rfl, by decide, uw_12, w_1365, rfl, by decide, rfl, tyX12_ok, nmX12, rfl, fun h => by first | rfl | cases h⟩
theorem lkf_X12_55_12 : LkF RX12 55 12 24 2 := ⟨RX12, TX12, 52, rfl, by decide, uw_12, w_1366, rfl, by decide, rfl⟩
theorem lkp_X12_55_12 : LkP RX12 55 12 24 2 true := ⟨RX12, TX12, 52, rfl, by decide, uw_12, w_1366, rfl, by decide, rfl, tyX12_ok, nmX12, rfl, fun h => by first | rfl | cases h⟩
theorem lkf_X12_58_12 : LkF RX12 58 12 25 2 := ⟨RX12, TX12, 52, rfl, by decide, uw_12, w_1367, rfl, by decide, rfl⟩
theorem lkp_X12_58_12 : LkP RX12 58 12 25 2 true := ⟨RX12, TX12, 52, rfl, by decide, uw_12, w_1367, rfl, by decide, rfl, tyX12_ok, nmX12, rfl, fun h => by first | rfl | cases h⟩
theorem lkf_X12_61_12 : LkF RX12 61 12 32 2 := ⟨RX12, TX12, 52, rfl, by decide, uw_12, w_1374, rfl, by decide, rfl⟩
theorem lkp_X12_61_12 : LkP RX12 61 12 32 2 true := ⟨RX12, TX12, 52, rfl, by decide, uw_12, w_1374, rfl, by decide, rfl, tyX12_ok, nmX12, rfl, fun h => by first | rfl | cases h⟩
theorem lkf_X12_64_12 : LkF RX12 64 12 33 2 := ⟨RX12, TX12, 52, rfl, by decide, uw_12, w_1375, rfl, by decide, rfl⟩
theorem lkp_X12_64_12 : LkP RX12 64 12 33 2 true := ⟨RX12, TX12, 52, rfl, by decide, uw_12, w_1375, rfl, by decide, rfl, tyX12_ok, nmX12, rfl, fun h => by first | rfl | cases h⟩
theorem lkf_X12_67_12 : LkF RX12 67 12 34 2 := ⟨RX12, TX12, 52, rfl, by decide, uw_12, w_1376, rfl, by decide, rfl⟩
theorem lkp_X12_67_12 : LkP RX12 67 12 34 2 true := ⟨RX12, TX12, 52, rfl, by decide, uw_12, w_1376, rfl, by decide, rfl, tyX12_ok, nmX12, rfl, fun h => by first | rfl | cases h⟩
theorem lkf_X12_70_12 : LkF RX12 70 12 35 0 := ⟨RX12, TX12, 52, rfl, by decide, uw_12, w_1377, rfl, by decide, rfl⟩
theorem lkp_X12_70_12 : LkP RX12 70 12 35 0 false := ⟨RX12, TX12, 52, rfl, by decide, uw_12, w_1377, rfl, by decide, rfl, tyX12_ok, nmX12, rfl, fun h => by first | rfl | cases h⟩
theorem lkf_X12_74_12 : LkF RX12 74 12 36 0 := ⟨RX12, TX12, 52, rfl, by decide, uw_12, w_1378, rfl, by decide, rfl⟩
theorem lkp_X12_74_12 : LkP RX12 74 12 36 0 false := ⟨RX12, TX12, 52, rfl, by decide, uw_12, w_1378, rfl, by decide, rfl, tyX12_ok, nmX12, rfl, fun h => by first | rfl | cases h⟩
theorem lkf_X12_77_12 : LkF RX12 77 12 37 2 := ⟨RX12, TX12, 52, rfl, by decide, uw_12, w_1379, rfl, by decide, rfl⟩
theorem lkp_X12_77_12 : LkP RX12 77 12 37 2 true := ⟨RX12, TX12, 52, rfl, by decide, uw_12, w_1379, rfl, by decide, rfl, tyX12_ok, nmX12, rfl, fun h => by first | rfl | cases h⟩
theorem lkf_X12_81_12 : LkF RX12 81 12 38 2 := ⟨RX12, TX12, 52, rfl, by decide, uw_12, w_1380, rfl, by decide, rfl⟩
theorem lkp_X12_81_12 : LkP RX12 81 12 38 2 true := ⟨RX12, TX12, 52, rfl, by decide, uw_12, w_1380, rfl, by decide, rfl, tyX12_ok, nmX12, rfl, fun h => by first | rfl | cases h⟩
theorem lkf_X12_84_12 : LkF RX12 84 12 40 2 := ⟨RX12, TX12, 52, rfl, by decide, uw_12, w_1382, rfl, by decide, rfl⟩
theorem lkp_X12_84_12 : LkP RX12 84 12 40 2 true := ⟨RX12, TX12, 52, rfl, by decide, uw_12, w_1382, rfl, by decide, rfl, tyX12_ok, nmX12, rfl, fun h => by first | rfl | cases h⟩
theorem lkf_X12_87_12 : LkF RX12 87 12 43 2 := ⟨RX12, TX12, 52, rfl, by decide, uw_12, w_1385, rfl, by decide, rfl⟩
theorem lkp_X12_87_12 : LkP RX12 87 12 43 2 true := ⟨RX12, TX12, 52, rfl, by decide, uw_12, w_1385, rfl, by decide, rfl, tyX12_ok, nmX12, rfl, fun h => by first | rfl | cases h⟩
theorem lkf_X12_90_12 : LkF RX12 90 12 44 2 := ⟨RX12, TX12, 52, rfl, by decide, uw_12, w_1386, rfl, by decide, rfl⟩
theorem lkp_X12_90_12 : LkP RX12 90 12 44 2 true := ⟨RX12, TX12, 52, rfl, by decide, uw_12, w_1386, rfl, by decide, rfl, tyX12_ok, nmX12, rfl, fun h => by first | rfl | cases h⟩
theorem lkf_X12_93_12 : LkF RX12 93 12 46 2 := ⟨RX12, TX12, 52, rfl, by decide, uw_12, w_1388, rfl, by decide, rfl⟩
theorem lkp_X12_93_12 : LkP RX12 93 12 46 2 true := ⟨RX12, TX12, 52, rfl, by decide, uw_12, w_1388, rfl, by decide, rfl, tyX12_ok, nmX12, rfl, fun h => by first | rfl | cases h⟩
theorem lkf_X12_96_12 : LkF RX12 96 12 47 2 := ⟨RX12, TX12, 52, rfl, by decide, uw_12, w_1389, rfl, by decide, rfl⟩
theorem lkp_X12_96_12 : LkP RX12 96 12 47 2 true := ⟨RX12, TX12, 52, rfl, by decide, uw_12, w_1389, rfl, by decide, rfl, tyX12_ok, nmX12, rfl, fun h => by first | rfl | cases h⟩
theorem lkf_X12_100_12 : LkF RX12 100 12 48 2 := ⟨RX12, TX12, 52, rfl, by decide, uw_12, w_1390, rfl, by decide, rfl⟩
theorem lkp_X12_100_12 : LkP RX12 100 12 48 2 true := ⟨RX12, TX12, 52, rfl, by decide, uw_12, w_1390, rfl, by decide, rfl, tyX12_ok, nmX12, rfl, fun h => by first | rfl | cases h⟩
theorem lkf_X12_103_12 : LkF RX12 103 12 49 2 := ⟨RX12, TX12, 52, rfl, by decide, uw_12, w_1391, rfl, by decide, rfl⟩
theorem lkp_X12_103_12 : LkP RX12 103 12 49 2 true := ⟨RX12, TX12, 52, rfl, by decide, uw_12, w_1391, rfl, by decide, rfl, tyX12_ok, nmX12, rfl, fun h => by first | rfl | cases h⟩
theorem lkf_X12_106_12 : LkF RX12 106 12 50 2 := ⟨RX12, TX12, 52, rfl, by decide, uw_12, w_1392, rfl, by decide, rfl⟩
theorem lkp_X12_106_12 : LkP RX12 106 12 50 2 true := ⟨RX12, TX12, 52, rfl, by decide, uw_12, w_1392, rfl, by decide, rfl, tyX12_ok, nmX12, rfl, fun h => by first | rfl | cases h⟩
theorem lkf_X12_109_12 : LkF RX12 109 12 0 0 := ⟨RX12, TX12, 52, rfl, by decide, uw_12, w_1342, rfl, by decide, rfl⟩
theorem lkp_X12_109_12 : LkP RX12 109 12 0 0 false := ⟨RX12, TX12, 52, rfl, by decide, uw_12, w_1342, rfl, by decide, rfl, tyX12_ok, nmX12, rfl, fun h => by first | rfl | cases h⟩
theorem lkf_X12_122_12 : LkF RX12 122 12 6 0 := ⟨RX12, TX12, 52, rfl, by decide, uw_12, w_1348, rfl, by decide, rfl⟩
theorem lkp_X12_122_12 : LkP RX12 122 12 6 0 false := ⟨RX12, TX12, 52, rfl, by decide, uw_12, w_1348, rfl, by decide, rfl, tyX12_ok, nmX12, rfl, fun h => by first | rfl | cases h⟩
theorem lkf_X12_132_12 : LkF RX12 132 12 10 0 := ⟨RX12, TX12, 52, rfl, by decide, uw_12, w_1352, rfl, by decide, rfl⟩
theorem lkp_X12_132_12 : LkP RX12 132 12 10 0 false := ⟨RX12, TX12, 52, rfl, by decide, uw_12, w_1352, rfl, by decide, rfl, tyX12_ok, nmX12, rfl, fun h => by first | rfl | cases h⟩
theorem lkf_X12_135_12 : LkF RX12 135 12 9 0 := ⟨RX12, TX12, 52, rfl, by decide, uw_12, w_1351, rfl, by decide, rfl⟩
theorem lkp_X12_135_12 : LkP RX12 135 12 9 0 false := ⟨RX12, TX12, 52, rfl, by decide, uw_12, w_1351, rfl, by decide, rfl, tyX12_ok, nmX12, rfl, fun h => by first | rfl | cases h⟩
theorem lkf_X12_138_12 : LkF RX12 138 12 8 0 := ⟨RX12, TX12, 52, rfl, by decide, uw_12, w_1350, rfl, by decide, rfl⟩
theorem lkp_X12_138_12 : LkP RX12 138 12 8 0 false := ⟨RX12, TX12, 52, rfl, by decide, uw_12, w_1350, rfl, by decide, rfl, tyX12_ok, nmX12, rfl, fun h => by first | rfl | cases h⟩
theorem lkf_X12_141_12 : LkF RX12 141 12 11 0 := ⟨RX12, TX12, 52, rfl, by decide, uw_12, w_1353, rfl, by decide, rfl⟩
theorem lkp_X12_141_12 : LkP RX12 141 12 11 0 false := ⟨RX12, TX12, 52, rfl, by decide, uw_12, w_1353, rfl, by decide, rfl, tyX12_ok, nmX12, rfl, fun h => by first | rfl | cases h⟩
theorem lkf_X12_144_12 : LkF RX12 144 12 12 0 := ⟨RX12, TX12, 52, rfl, by decide, uw_12, w_1354, rfl, by decide, rfl⟩
theorem lkp_X12_144_12 : LkP RX12 144 12 12 0 false := ⟨RX12, TX12, 52, rfl, by decide, uw_12, w_1354, rfl, by decide, rfl, tyX12_ok, nmX12, rfl, fun h => by first | rfl | cases h⟩
theorem lkf_X12_210_12 : LkF RX12 210 12 17 0 := ⟨RX12, TX12, 52, rfl, by decide, uw_12, w_1359, rfl, by decide, rfl⟩
theorem lkp_X12_210_12 : LkP RX12 210 12 17 0 false := ⟨RX12, TX12, 52, rfl, by decide, uw_12, w_1359, rfl, by decide, rfl, tyX12_ok, nmX12, rfl, fun h => by first | rfl | cases h⟩
theorem lkf_X12_214_12 : LkF RX12 214 12 13 0 := ⟨RX12, TX12, 52, rfl, by decide, uw_12, w_1355, rfl, by decide, rfl⟩
theorem lkp_X12_214_12 : LkP RX12 214 12 13 0 false := ⟨RX12, TX12, 52, rfl, by decide, uw_12, w_1355, rfl, by decide, rfl, tyX12_ok, nmX12, rfl, fun h => by first | rfl | cases h⟩
theorem lkf_X12_217_12 : LkF RX12 217 12 14 0 := ⟨RX12, TX12, 52, rfl, by decide, uw_12, w_1356, rfl, by decide, rfl⟩
theorem lkp_X12_217_12 : LkP RX12 217 12 14 0 false := ⟨RX12, TX12, 52, rfl, by decide, uw_12, w_1356, rfl, by decide, rfl, tyX12_ok, nmX12, rfl, fun h => by first | rfl | cases h⟩
theorem lkf_X12_252_12 : LkF RX12 252 12 31 0 := ⟨RX12, TX12, 52, rfl, by decide, uw_12, w_1373, rfl, by decide, rfl⟩
theorem lkp_X12_252_12 : LkP RX12 252 12 31 0 false := ⟨RX12, TX12, 52, rfl, by decide, uw_12, w_1373, rfl, by decide, rfl, tyX12_ok, nmX12, rfl, fun h => by first | rfl | cases h⟩
theorem lkf_X12_255_12 : LkF RX12 255 12 28 0 := ⟨RX12, TX12, 52, rfl, by decide, uw_12, w_1370, rfl, by decide, rfl⟩
theorem lkp_X12_255_12 : LkP RX12 255 12 28 0 false := ⟨RX12, TX12, 52, rfl, by decide, uw_12, w_1370, rfl, by decide, rfl, tyX12_ok, nmX12, rfl, fun h => by first | rfl | cases h⟩
theorem lkf_X12_258_12 : LkF RX12 258 12 29 0 := ⟨RX12, TX12, 52, rfl, by decide, uw_12, w_1371, rfl, by decide, rfl⟩
theorem lkp_X12_258_12 : LkP RX12 258 12 29 0 false := ⟨RX12, TX12, 52, rfl, by decide, uw_12, w_1371, rfl, by decide, rfl, tyX12_ok, nmX12, rfl, fun h => by first | rfl | cases h⟩
theorem lkf_X12_296_12 : LkF RX12 296 12 7 0 := ⟨RX12, TX12, 52, rfl, by decide, uw_12, w_1349, rfl, by decide, rfl⟩
theorem lkp_X12_296_12 : LkP RX12 296 12 7 0 false := ⟨RX12, TX12, 52, rfl, by decide, uw_12, w_1349, rfl, by decide, rfl, tyX12_ok, nmX12, rfl, fun h => by first | rfl | cases h⟩
theorem lkf_X12_299_12 : LkF RX12 299 12 30 0 := ⟨RX12, TX12, 52, rfl, by decide, uw_12, w_1372, rfl, by decide, rfl⟩
theorem lkp_X12_299_12 : LkP RX12 299 12 30 0 false := ⟨RX12, TX12, 52, rfl, by decide, uw_12, w_1372, rfl, by decide, rfl, tyX12_ok, nmX12, rfl, fun h => by first | rfl | cases h⟩
theorem lkf_X12_304_12 : LkF RX12 304 12 26 0 := ⟨RX12, TX12, 52, rfl, by decide, uw_12, w_1368, rfl, by decide, rfl⟩
theorem lkp_X12_304_12 : LkP RX12 304 12 26 0 false := ⟨RX12, TX12, 52, rfl, by decide, uw_12, w_1368, rfl, by decide, rfl, tyX12_ok, nmX12, rfl, fun h => by first | rfl | cases h⟩
theorem lkf_X12_307_12 : LkF RX12 307 12 27 0 := ⟨RX12, TX12, 52, rfl, by decide, uw_12, w_1369, rfl, by decide, rfl⟩
theorem lkp_X12_307_12 : LkP RX12 307 12 27 0 false := ⟨RX12, TX12, 52, rfl, by decide, uw_12, w_1369, rfl, by decide, rfl, tyX12_ok, nmX12, rfl, fun h => by first | rfl | cases h⟩
theorem lkf_X12_314_12 : LkF RX12 314 12 45 0 := ⟨RX12, TX12, 52, rfl, by decide, uw_12, w_1387, rfl, by decide, rfl⟩
theorem lkp_X12_314_12 : LkP RX12 314 12 45 0 false := ⟨RX12, TX12, 52, rfl, by decide, uw_12, w_1387, rfl, by decide, rfl, tyX12_ok, nmX12, rfl, fun h => by first | rfl | cases h⟩
theorem lkf_X12_317_12 : LkF RX12 317 12 41 0 := ⟨RX12, TX12, 52, rfl, by decide, uw_12, w_1383, rfl, by decide, rfl⟩
theorem lkp_X12_317_12 : LkP RX12 317 12 41 0 false := ⟨RX12, TX12, 52, rfl, by decide, uw_12, w_1383, rfl, by decide, rfl, tyX12_ok, nmX12, rfl, fun h => by first | rfl | cases h⟩
theorem lkf_X12_320_12 : LkF RX12 320 12 51 0 := ⟨RX12, TX12, 52, rfl, by decide, uw_12, w_1393, rfl, by decide, rfl⟩
theorem lkp_X12_320_12 : LkP RX12 320 12 51 0 false := ⟨RX12, TX12, 52, rfl, by decide, uw_12, w_1393, rfl, by decide, rfl, tyX12_ok, nmX12, rfl, fun h => by first | rfl | cases h⟩
theorem lkf_X12_362_12 : LkF RX12 362 12 39 0 := ⟨RX12, TX12, 52, rfl, by decide, uw_12, w_1381, rfl, by decide, rfl⟩
theorem lkp_X12_362_12 : LkP RX12 362 12 39 0 false := ⟨RX12, TX12, 52, rfl, by decide, uw_12, w_1381, rfl, by decide, rfl, tyX12_ok, nmX12, rfl, fun h => by first | rfl | cases h⟩
theorem lkf_X12_416_12 : LkF RX12 416 12 42 1 := ⟨RX12, TX12, 52, rfl, by decide, uw_12, w_1384, rfl, by decide, rfl⟩
theorem lkp_X12_416_12 : LkP RX12 416 12 42 1 false := ⟨RX12, TX12, 52, rfl, by decide, uw_12, w_1384, rfl, by decide, rfl, tyX12_ok, nmX12, rfl, fun h => by first | rfl | cases h⟩
theorem lks_J0_9 : Cond.fieldLink RJ0 9 "java/lang/String" "value" "[B" ∈ TB := w_2046
theorem lks_J0_15 : Cond.fieldLink RJ0 15 "java/lang/String" "coder" "B" ∈ TB := w_2047
theorem lks_J0_38 : Cond.fieldLink RJ0 38 "java/lang/String" "COMPACT_STRINGS" "Z" ∈ TB := w_1565
theorem lks_J0_1053 : Cond.fieldLink RJ0 1053 "jdk/internal/util/Preconditions" "SIOOBE_FORMATTER" "Ljava/util/function/BiFunction;" ∈ TB := w_1584
theorem lks_J2_44 : Cond.fieldLink RJ2 44 "java/lang/StringUTF16" "$assertionsDisabled" "Z" ∈ TB := w_1602
theorem lks_J2_59 : Cond.fieldLink RJ2 59 "java/lang/StringUTF16" "HI_BYTE_SHIFT" "I" ∈ TB := w_1604
theorem lks_J2_63 : Cond.fieldLink RJ2 63 "java/lang/StringUTF16" "LO_BYTE_SHIFT" "I" ∈ TB := w_1606
theorem lko_X11_1 : Cond.methodLink RX11 1 Lib.objectInit ∈ TB := w_135
theorem lki_X11_18 : LkI RX11 18 mX6_init 0 := ⟨w_160, rfl, w_161, w_109, w_162, rfl, py_X6_init⟩
theorem lki_X11_47 : LkI RX11 47 mX7_init 1 := ⟨w_215, rfl, w_164, w_108, w_165, rfl, py_X7_init⟩
theorem lki_X11_56 : LkI RX11 56 mX1_init 1 := ⟨w_218, rfl, w_219, w_111, w_220, rfl, py_X1_init⟩
theorem lki_X11_65 : LkI RX11 65 mX5_init 2 := ⟨w_244, rfl, w_245, w_113, w_246, rfl, py_X5_init⟩
theorem lki_X11_74 : LkI RX11 74 mX10_init 2 := ⟨w_291, rfl, w_292, w_115, w_293, rfl, py_X10_init⟩
theorem lki_X11_81 : LkI RX11 81 mX2_init 0 := ⟨w_326, rfl, w_327, w_116, w_328, rfl, py_X2_init⟩
theorem lki_X11_88 : LkI RX11 88 mX8_init 0 := ⟨w_344, rfl, w_251, w_114, w_252, rfl, py_X8_init⟩
theorem lki_X11_113 : LkI RX11 113 mX3_init 0 := ⟨w_346, rfl, w_347, w_112, w_348, rfl, py_X3_init⟩
theorem lki_X11_114 : LkI RX11 114 mX0_init 0 := ⟨w_356, rfl, w_357, w_117, w_358, rfl, py_X0_init⟩
theorem lkc_X11_115 : LkS RX11 115 mX9_bytesIn 1 := ⟨w_424, w_425, w_107, w_426, py_X9_bytesIn⟩
theorem lkv_X11_119 : LkV RX11 119 mX9_length 0 := ⟨w_427, w_428, w_429, w_107, w_430, py_X9_length⟩
theorem lkv_X11_123 : LkV RX11 123 mX9_append 1 := ⟨w_431, w_432, w_433, w_107, w_434, py_X9_append⟩
theorem lkv_X11_126 : LkV RX11 126 mX9_cut 1 := ⟨w_439, w_440, w_441, w_107, w_442, py_X9_cut⟩
theorem lkv_X11_129 : LkV RX11 129 mX11_readsAs 1 := ⟨w_447, w_449, w_0, w_106, w_450, py_X11_readsAs⟩
theorem lkv_X11_133 : LkV RX11 133 mX9_cursor 0 := ⟨w_664, w_665, w_666, w_107, w_667, py_X9_cursor⟩
theorem lkv_X11_136 : LkV RX11 136 mX11_hasPlaceFor 1 := ⟨w_672, w_674, w_20, w_106, w_675, py_X11_hasPlaceFor⟩
theorem lkv_X11_139 : LkV RX11 139 mX11_openPort 0 := ⟨w_676, w_678, w_21, w_106, w_679, py_X11_openPort⟩
theorem lkv_X11_142 : LkV RX11 142 mX6_persons 0 := ⟨w_711, w_657, w_658, w_109, w_659, py_X6_persons⟩
theorem lkv_X11_145 : LkV RX11 145 mX9_rewind 0 := ⟨w_451, w_452, w_453, w_107, w_454, py_X9_rewind⟩
theorem lkv_X11_148 : LkV RX11 148 mX11_lawAt 1 := ⟨w_455, w_457, w_1, w_106, w_458, py_X11_lawAt⟩
theorem lkv_X11_152 : LkV RX11 152 mX4_reads 2 := ⟨w_459, w_460, w_461, w_110, w_462, py_X4_reads⟩
theorem lkv_X11_156 : LkV RX11 156 mX11_calendarAt 1 := ⟨w_572, w_574, w_14, w_106, w_575, py_X11_calendarAt⟩
theorem lkv_X11_160 : LkV RX11 160 mX0_reads 1 := ⟨w_576, w_577, w_578, w_117, w_579, py_X0_reads⟩
theorem lkv_X11_163 : LkV RX11 163 mX6_reads 1 := ⟨w_598, w_599, w_600, w_109, w_601, py_X6_reads⟩
theorem lku_X11_164 : LkU RX11 164 "DarkestDay$Port" "DarkestDay$Row" ⟨"DarkestDay$Port", "copy", "(LDarkestDay$Row;)V"⟩ mX7_copy 1 := ⟨w_680, w_681, w_683, w_684, w_108, w_685, rfl, py_X7_copy⟩
theorem lkv_X11_168 : LkV RX11 168 mX8_begin 1 := ⟨w_692, w_693, w_694, w_114, w_695, py_X8_begin⟩
theorem lkv_X11_171 : LkV RX11 171 mX2_clear 0 := ⟨w_703, w_704, w_705, w_116, w_706, py_X2_clear⟩
theorem lkv_X11_174 : LkV RX11 174 mX10_forget 0 := ⟨w_707, w_708, w_709, w_115, w_710, py_X10_forget⟩
theorem lkv_X11_177 : LkV RX11 177 mX6_isKind 1 := ⟨w_716, w_661, w_662, w_109, w_663, py_X6_isKind⟩
theorem lku_X11_181 : LkU RX11 181 "DarkestDay$Port" "DarkestDay$Row" ⟨"DarkestDay$Port", "get", "(I)I"⟩ mX7_get 1 := ⟨w_718, w_626, w_628, w_560, w_108, w_567, rfl, py_X7_get⟩
theorem lku_X11_184 : LkU RX11 184 "DarkestDay$State" "DarkestDay$Row" ⟨"DarkestDay$State", "get", "(I)I"⟩ mX7_get 1 := ⟨w_719, w_720, w_721, w_560, w_108, w_567, rfl, py_X7_get⟩
theorem lkv_X11_185 : LkV RX11 185 mX8_party 2 := ⟨w_722, w_723, w_724, w_114, w_725, py_X8_party⟩
theorem lkv_X11_189 : LkV RX11 189 mX6_isPerson 1 := ⟨w_881, w_763, w_764, w_109, w_765, py_X6_isPerson⟩
theorem lkv_X11_195 : LkV RX11 195 mX8_isInBed 1 := ⟨w_886, w_839, w_840, w_114, w_841, py_X8_isInBed⟩
theorem lkv_X11_198 : LkV RX11 198 mX1_setLaw 1 := ⟨w_731, w_732, w_733, w_111, w_734, py_X1_setLaw⟩
theorem lkv_X11_202 : LkV RX11 202 mX11_acted 3 := ⟨w_743, w_745, w_22, w_106, w_746, py_X11_acted⟩
theorem lkv_X11_206 : LkV RX11 206 mX1_whyNot 4 := ⟨w_747, w_748, w_749, w_111, w_750, py_X1_whyNot⟩
theorem lkv_X11_210 : LkV RX11 210 mX7_get 1 := ⟨w_767, w_560, w_561, w_108, w_567, py_X7_get⟩
theorem lkv_X11_211 : LkV RX11 211 mX7_set 2 := ⟨w_768, w_496, w_497, w_108, w_503, py_X7_set⟩
theorem lkv_X11_215 : LkV RX11 215 mX2_keep 1 := ⟨w_769, w_770, w_771, w_116, w_772, py_X2_keep⟩
theorem lkv_X11_219 : LkV RX11 219 mX1_carryOut 4 := ⟨w_781, w_782, w_783, w_111, w_784, py_X1_carryOut⟩
theorem lkv_X11_223 : LkV RX11 223 mX11_isPort 0 := ⟨w_907, w_909, w_29, w_106, w_910, py_X11_isPort⟩
theorem lkv_X11_227 : LkV RX11 227 mX1_daysThatCanPass 1 := ⟨w_911, w_754, w_755, w_111, w_756, py_X1_daysThatCanPass⟩
theorem lkv_X11_231 : LkV RX11 231 mX1_setSeed 1 := ⟨w_912, w_913, w_914, w_111, w_915, py_X1_setSeed⟩
theorem lkv_X11_235 : LkV RX11 235 mX1_drawDay 2 := ⟨w_916, w_917, w_918, w_111, w_919, py_X1_drawDay⟩
theorem lkv_X11_239 : LkV RX11 239 mX1_passDay 1 := ⟨w_927, w_786, w_787, w_111, w_788, py_X1_passDay⟩
theorem lkv_X11_242 : LkV RX11 242 mX2_restores 1 := ⟨w_936, w_937, w_938, w_116, w_939, py_X2_restores⟩
theorem lkv_X11_246 : LkV RX11 246 mX2_size 0 := ⟨w_940, w_941, w_942, w_116, w_943, py_X2_size⟩
theorem lkv_X11_249 : LkV RX11 249 mX8_yearsLogged 0 := ⟨w_948, w_949, w_950, w_114, w_951, py_X8_yearsLogged⟩
theorem lkv_X11_252 : LkV RX11 252 mX8_logged 2 := ⟨w_953, w_954, w_955, w_114, w_956, py_X8_logged⟩
theorem lkv_X11_255 : LkV RX11 255 mX11_isCalendar 1 := ⟨w_961, w_963, w_31, w_106, w_964, py_X11_isCalendar⟩
theorem lkv_X11_258 : LkV RX11 258 mX0_steps 0 := ⟨w_965, w_966, w_967, w_117, w_968, py_X0_steps⟩
theorem lkv_X11_261 : LkV RX11 261 mX0_told 2 := ⟨w_969, w_970, w_971, w_117, w_972, py_X0_told⟩
theorem lkv_X11_264 : LkV RX11 264 mX5_runOf 3 := ⟨w_980, w_981, w_982, w_113, w_983, py_X5_runOf⟩
theorem lkv_X11_268 : LkV RX11 268 mX1_canStep 3 := ⟨w_1000, w_988, w_989, w_111, w_990, py_X1_canStep⟩
theorem lkv_X11_272 : LkV RX11 272 mX6_isDay 1 := ⟨w_1005, w_1006, w_1007, w_109, w_1008, py_X6_isDay⟩
theorem lkv_X11_275 : LkV RX11 275 mX1_lightOf 2 := ⟨w_1009, w_1010, w_1011, w_111, w_1012, py_X1_lightOf⟩
theorem lkv_X11_279 : LkV RX11 279 mX8_upCount 1 := ⟨w_1017, w_790, w_791, w_114, w_792, py_X8_upCount⟩
theorem lkv_X11_282 : LkV RX11 282 mX1_rulerOf 2 := ⟨w_1018, w_1019, w_1020, w_111, w_1021, py_X1_rulerOf⟩
theorem lkv_X11_285 : LkV RX11 285 mX5_maybeDarkest 2 := ⟨w_1026, w_1027, w_1028, w_113, w_1029, py_X5_maybeDarkest⟩
theorem lkv_X11_288 : LkV RX11 288 mX5_governorBehind 2 := ⟨w_1039, w_1040, w_1041, w_113, w_1042, py_X5_governorBehind⟩
theorem lkv_X11_291 : LkV RX11 291 mX5_comingRound 2 := ⟨w_1056, w_1057, w_1058, w_113, w_1059, py_X5_comingRound⟩
theorem lkv_X11_294 : LkV RX11 294 mX5_fewestSwings 2 := ⟨w_1070, w_1071, w_1072, w_113, w_1073, py_X5_fewestSwings⟩
theorem lkv_X11_297 : LkV RX11 297 mX5_fewestInBed 2 := ⟨w_1088, w_1089, w_1090, w_113, w_1091, py_X5_fewestInBed⟩
theorem lkv_X11_300 : LkV RX11 300 mX5_treasuryBehind 2 := ⟨w_1097, w_1098, w_1099, w_113, w_1100, py_X5_treasuryBehind⟩
theorem lkv_X11_303 : LkV RX11 303 mX10_isFull 0 := ⟨w_1106, w_1107, w_1108, w_115, w_1109, py_X10_isFull⟩
theorem lkv_X11_306 : LkV RX11 306 mX10_note 3 := ⟨w_1110, w_1111, w_1112, w_115, w_1113, py_X10_note⟩
theorem lkv_X11_310 : LkV RX11 310 mX10_size 0 := ⟨w_1115, w_1116, w_1117, w_115, w_1118, py_X10_size⟩
theorem lkv_X11_311 : LkV RX11 311 mX10_possibleHabits 1 := ⟨w_1123, w_1124, w_1125, w_115, w_1126, py_X10_possibleHabits⟩
theorem lkc_X11_314 : LkS RX11 314 mJ6_bitCount_0f7a4 1 := ⟨w_1146, w_798, w_129, w_799, py_J6_bitCount_0f7a4⟩
theorem lkc_X11_319 : LkS RX11 319 mX11_placeOfBit 2 := ⟨w_1147, w_1148, w_106, w_1149, py_X11_placeOfBit⟩
theorem lkc_X11_322 : LkS RX11 322 mX11_hasBit 2 := ⟨w_1150, w_640, w_106, w_641, py_X11_hasBit⟩
theorem lkv_X11_326 : LkV RX11 326 mX10_bestQuestion 1 := ⟨w_1155, w_1156, w_1157, w_115, w_1158, py_X10_bestQuestion⟩
theorem lkv_X11_329 : LkV RX11 329 mX11_canPlay 2 := ⟨w_1168, w_1170, w_37, w_106, w_1171, py_X11_canPlay⟩
theorem lkv_X11_332 : LkV RX11 332 mX5_gameOf 6 := ⟨w_1172, w_1173, w_1174, w_113, w_1175, py_X5_gameOf⟩
theorem lkv_X11_336 : LkV RX11 336 mX5_restsOf 4 := ⟨w_1192, w_1193, w_1194, w_113, w_1195, py_X5_restsOf⟩
theorem lkv_X11_339 : LkV RX11 339 mX11_daysLeft 0 := ⟨w_1204, w_1206, w_42, w_106, w_1207, py_X11_daysLeft⟩
theorem lkv_X11_342 : LkV RX11 342 mX5_oddsOf 3 := ⟨w_1208, w_1209, w_1210, w_113, w_1211, py_X5_oddsOf⟩
theorem lkc_X11_346 : LkS RX11 346 mX1_doersOf 2 := ⟨w_1231, w_860, w_111, w_861, py_X1_doersOf⟩
theorem lku_X11_349 : LkU RX11 349 "DarkestDay$State" "DarkestDay$Row" ⟨"DarkestDay$State", "placeOfMost", "(II)I"⟩ mX7_placeOfMost 2 := ⟨w_1236, w_864, w_866, w_867, w_108, w_868, rfl, py_X7_placeOfMost⟩
theorem lku_X11_352 : LkU RX11 352 "DarkestDay$Port" "DarkestDay$Row" ⟨"DarkestDay$Port", "placeOfMost", "(II)I"⟩ mX7_placeOfMost 2 := ⟨w_1237, w_1238, w_1239, w_867, w_108, w_868, rfl, py_X7_placeOfMost⟩
theorem lkv_X11_353 : LkV RX11 353 mX6_kinds 0 := ⟨w_1240, w_653, w_654, w_109, w_655, py_X6_kinds⟩
theorem lkv_X11_356 : LkV RX11 356 mX8_upBits 1 := ⟨w_1241, w_794, w_795, w_114, w_796, py_X8_upBits⟩
theorem lkv_X11_359 : LkV RX11 359 mX1_idle 1 := ⟨w_1242, w_1243, w_1244, w_111, w_1245, py_X1_idle⟩
theorem lkv_X11_362 : LkV RX11 362 mX8_darkestOver 0 := ⟨w_1247, w_852, w_853, w_114, w_854, py_X8_darkestOver⟩
theorem lkv_X11_365 : LkV RX11 365 mX5_swayed 1 := ⟨w_1248, w_1249, w_1250, w_113, w_1251, py_X5_swayed⟩
theorem lku_X11_368 : LkU RX11 368 "DarkestDay$State" "DarkestDay$Row" ⟨"DarkestDay$State", "copy", "(LDarkestDay$Row;)V"⟩ mX7_copy 1 := ⟨w_1256, w_778, w_779, w_684, w_108, w_685, rfl, py_X7_copy⟩
theorem lki_X0_5 : LkI RX0 5 mX7_init 1 := ⟨w_359, rfl, w_164, w_108, w_165, rfl, py_X7_init⟩
theorem lku_X0_15 : LkU RX0 15 "DarkestDay$Calendar" "DarkestDay$Row" ⟨"DarkestDay$Calendar", "get", "(I)I"⟩ mX7_get 1 := ⟨w_973, w_974, w_975, w_560, w_108, w_567, rfl, py_X7_get⟩
theorem lkv_X0_19 : LkV RX0 19 mX0_readsStep 1 := ⟨w_580, w_582, w_15, w_117, w_583, py_X0_readsStep⟩
theorem lkv_X0_23 : LkV RX0 23 mX9_nextSign 0 := ⟨w_586, w_472, w_473, w_107, w_474, py_X9_nextSign⟩
theorem lkv_X0_29 : LkV RX0 29 mX9_advance 0 := ⟨w_588, w_484, w_485, w_107, w_486, py_X9_advance⟩
theorem lku_X0_41 : LkU RX0 41 "DarkestDay$Calendar" "DarkestDay$Row" ⟨"DarkestDay$Calendar", "set", "(II)V"⟩ mX7_set 2 := ⟨w_589, w_590, w_591, w_496, w_108, w_503, rfl, py_X7_set⟩
theorem lko_X1_3 : Cond.methodLink RX1 3 Lib.objectInit ∈ TB := w_221
theorem lki_X1_17 : LkI RX1 17 mX7_init 1 := ⟨w_225, rfl, w_164, w_108, w_165, rfl, py_X7_init⟩
theorem lku_X1_43 : LkU RX1 43 "DarkestDay$State" "DarkestDay$Row" ⟨"DarkestDay$State", "get", "(I)I"⟩ mX7_get 1 := ⟨w_752, w_720, w_721, w_560, w_108, w_567, rfl, py_X7_get⟩
theorem lku_X1_49 : LkU RX1 49 "DarkestDay$Port" "DarkestDay$Row" ⟨"DarkestDay$Port", "get", "(I)I"⟩ mX7_get 1 := ⟨w_757, w_626, w_628, w_560, w_108, w_567, rfl, py_X7_get⟩
theorem lkm_X1_50 : Cond.methodLink RX1 50 Lib.Math.abs.name ∈ TB := w_807
theorem lkv_X1_55 : LkV RX1 55 mX7_set 2 := ⟨w_810, w_496, w_497, w_108, w_503, py_X7_set⟩
theorem lkv_X1_59 : LkV RX1 59 mX8_governingVoices 0 := ⟨w_811, w_812, w_813, w_114, w_814, py_X8_governingVoices⟩
theorem lkv_X1_63 : LkV RX1 63 mX3_worth 2 := ⟨w_815, w_816, w_817, w_112, w_818, py_X3_worth⟩
theorem lkm_X1_67 : Cond.methodLink RX1 67 Lib.Math.min.name ∈ TB := w_831
theorem lkm_X1_71 : Cond.methodLink RX1 71 Lib.Math.max.name ∈ TB := w_832
theorem lkv_X1_74 : LkV RX1 74 mX6_persons 0 := ⟨w_751, w_657, w_658, w_109, w_659, py_X6_persons⟩
theorem lkv_X1_77 : LkV RX1 77 mX8_upCount 1 := ⟨w_789, w_790, w_791, w_114, w_792, py_X8_upCount⟩
theorem lkv_X1_80 : LkV RX1 80 mX1_lightAhead 4 := ⟨w_803, w_804, w_805, w_111, w_806, py_X1_lightAhead⟩
theorem lkv_X1_84 : LkV RX1 84 mX8_darkestOver 0 := ⟨w_851, w_852, w_853, w_114, w_854, py_X8_darkestOver⟩
theorem lkv_X1_87 : LkV RX1 87 mX1_lightOf 2 := ⟨w_1246, w_1010, w_1011, w_111, w_1012, py_X1_lightOf⟩
theorem lkv_X1_91 : LkV RX1 91 mX8_isInBed 1 := ⟨w_838, w_839, w_840, w_114, w_841, py_X8_isInBed⟩
theorem lkv_X1_95 : LkV RX1 95 mX1_doingsNow 1 := ⟨w_834, w_835, w_836, w_111, w_837, py_X1_doingsNow⟩
theorem lkc_X1_99 : LkS RX1 99 mX1_doersOf 2 := ⟨w_859, w_860, w_111, w_861, py_X1_doersOf⟩
theorem lkc_X1_102 : LkS RX1 102 mJ6_bitCount_0f7a4 1 := ⟨w_862, w_798, w_129, w_799, py_J6_bitCount_0f7a4⟩
theorem lku_X1_107 : LkU RX1 107 "DarkestDay$State" "DarkestDay$Row" ⟨"DarkestDay$State", "set", "(II)V"⟩ mX7_set 2 := ⟨w_833, w_701, w_702, w_496, w_108, w_503, rfl, py_X7_set⟩
theorem lkv_X1_108 : LkV RX1 108 mX1_bringIn 3 := ⟨w_843, w_845, w_25, w_111, w_846, py_X1_bringIn⟩
theorem lkv_X1_112 : LkV RX1 112 mX1_endYear 1 := ⟨w_847, w_849, w_26, w_111, w_850, py_X1_endYear⟩
theorem lkv_X1_116 : LkV RX1 116 mX1_turnYear 2 := ⟨w_855, w_857, w_27, w_111, w_858, py_X1_turnYear⟩
theorem lkv_X1_120 : LkV RX1 120 mX8_writeLog 3 := ⟨w_869, w_870, w_871, w_114, w_872, py_X8_writeLog⟩
theorem lkv_X1_124 : LkV RX1 124 mX1_rulerOf 2 := ⟨w_1047, w_1019, w_1020, w_111, w_1021, py_X1_rulerOf⟩
theorem lkv_X1_127 : LkV RX1 127 mX1_doingsOn 2 := ⟨w_1048, w_1049, w_1050, w_111, w_1051, py_X1_doingsOn⟩
theorem lku_X1_130 : LkU RX1 130 "DarkestDay$State" "DarkestDay$Row" ⟨"DarkestDay$State", "placeOfMost", "(II)I"⟩ mX7_placeOfMost 2 := ⟨w_863, w_864, w_866, w_867, w_108, w_868, rfl, py_X7_placeOfMost⟩
theorem lkv_X1_133 : LkV RX1 133 mX1_daysThatCanPass 1 := ⟨w_753, w_754, w_755, w_111, w_756, py_X1_daysThatCanPass⟩
theorem lkv_X1_136 : LkV RX1 136 mX1_whyNoHabit 3 := ⟨w_758, w_760, w_23, w_111, w_761, py_X1_whyNoHabit⟩
theorem lkv_X1_140 : LkV RX1 140 mX6_isPerson 1 := ⟨w_762, w_763, w_764, w_109, w_765, py_X6_isPerson⟩
theorem lkv_X1_143 : LkV RX1 143 mX6_isKind 1 := ⟨w_766, w_661, w_662, w_109, w_663, py_X6_isKind⟩
theorem lkv_X1_146 : LkV RX1 146 mX1_passDay 1 := ⟨w_785, w_786, w_787, w_111, w_788, py_X1_passDay⟩
theorem lkv_X1_149 : LkV RX1 149 mX1_spend 2 := ⟨w_873, w_875, w_28, w_111, w_876, py_X1_spend⟩
theorem lkv_X1_152 : LkV RX1 152 mX0_told 2 := ⟨w_991, w_970, w_971, w_117, w_972, py_X0_told⟩
theorem lkv_X1_157 : LkV RX1 157 mX1_whyNot 4 := ⟨w_992, w_748, w_749, w_111, w_750, py_X1_whyNot⟩
theorem lkv_X1_160 : LkV RX1 160 mX1_draw 1 := ⟨w_920, w_922, w_30, w_111, w_923, py_X1_draw⟩
theorem lkv_X1_163 : LkV RX1 163 mX6_kinds 0 := ⟨w_926, w_653, w_654, w_109, w_655, py_X6_kinds⟩
theorem lko_X2_1 : Cond.methodLink RX2 1 Lib.objectInit ∈ TB := w_329
theorem lki_X2_22 : LkI RX2 22 mX8_init 0 := ⟨w_332, rfl, w_251, w_114, w_252, rfl, py_X8_init⟩
theorem lkv_X2_23 : LkV RX2 23 mX2_stateAt 1 := ⟨w_773, w_775, w_24, w_116, w_776, py_X2_stateAt⟩
theorem lku_X2_27 : LkU RX2 27 "DarkestDay$State" "DarkestDay$Row" ⟨"DarkestDay$State", "copy", "(LDarkestDay$Row;)V"⟩ mX7_copy 1 := ⟨w_777, w_778, w_779, w_684, w_108, w_685, rfl, py_X7_copy⟩
theorem lkm_X2_31 : Cond.methodLink RX2 31 Lib.Math.min.name ∈ TB := w_780
theorem lki_X3_3 : LkI RX3 3 mX7_init 1 := ⟨w_349, rfl, w_164, w_108, w_165, rfl, py_X7_init⟩
theorem lku_X3_15 : LkU RX3 15 "DarkestDay$Law" "DarkestDay$Row" ⟨"DarkestDay$Law", "set", "(II)V"⟩ mX7_set 2 := ⟨w_529, w_530, w_532, w_496, w_108, w_503, rfl, py_X7_set⟩
theorem lku_X3_19 : LkU RX3 19 "DarkestDay$Law" "DarkestDay$Row" ⟨"DarkestDay$Law", "get", "(I)I"⟩ mX7_get 1 := ⟨w_819, w_820, w_821, w_560, w_108, w_567, rfl, py_X7_get⟩
theorem lkv_X3_23 : LkV RX3 23 mX7_set 2 := ⟨w_822, w_496, w_497, w_108, w_503, py_X7_set⟩
theorem lkv_X3_24 : LkV RX3 24 mX7_get 1 := ⟨w_823, w_560, w_561, w_108, w_567, py_X7_get⟩
theorem lkc_X3_25 : LkS RX3 25 mX3_joined 3 := ⟨w_824, w_825, w_112, w_826, py_X3_joined⟩
theorem lko_X4_3 : Cond.methodLink RX4 3 Lib.objectInit ∈ TB := w_176
theorem lki_X4_13 : LkI RX4 13 mX7_init 1 := ⟨w_179, rfl, w_164, w_108, w_165, rfl, py_X7_init⟩
theorem lkv_X4_46 : LkV RX4 46 mX3_clear 0 := ⟨w_463, w_464, w_465, w_112, w_466, py_X3_clear⟩
theorem lkv_X4_51 : LkV RX4 51 mX4_begin 0 := ⟨w_467, w_469, w_2, w_110, w_470, py_X4_begin⟩
theorem lkv_X4_54 : LkV RX4 54 mX9_nextSign 0 := ⟨w_471, w_472, w_473, w_107, w_474, py_X9_nextSign⟩
theorem lkv_X4_60 : LkV RX4 60 mX4_takes 3 := ⟨w_475, w_477, w_3, w_110, w_478, py_X4_takes⟩
theorem lkv_X4_64 : LkV RX4 64 mX4_fitsBehind 1 := ⟨w_537, w_539, w_9, w_110, w_540, py_X4_fitsBehind⟩
theorem lkv_X4_68 : LkV RX4 68 mX9_advance 0 := ⟨w_483, w_484, w_485, w_107, w_486, py_X9_advance⟩
theorem lkv_X4_71 : LkV RX4 71 mX4_goOnBehind 2 := ⟨w_545, w_547, w_11, w_110, w_548, py_X4_goOnBehind⟩
theorem lkv_X4_75 : LkV RX4 75 mX4_mayEnd 0 := ⟨w_541, w_543, w_10, w_110, w_544, py_X4_mayEnd⟩
theorem lkv_X4_79 : LkV RX4 79 mX4_takesIf 3 := ⟨w_479, w_481, w_4, w_110, w_482, py_X4_takesIf⟩
theorem lkv_X4_83 : LkV RX4 83 mX4_opens 2 := ⟨w_487, w_489, w_5, w_110, w_490, py_X4_opens⟩
theorem lkv_X4_87 : LkV RX4 87 mX4_takesAtom 3 := ⟨w_504, w_506, w_7, w_110, w_507, py_X4_takesAtom⟩
theorem lkv_X4_90 : LkV RX4 90 mX4_await 1 := ⟨w_491, w_493, w_6, w_110, w_494, py_X4_await⟩
theorem lkv_X4_96 : LkV RX4 96 mX9_readsNumber 3 := ⟨w_511, w_512, w_513, w_107, w_514, py_X9_readsNumber⟩
theorem lkv_X4_100 : LkV RX4 100 mX9_number 0 := ⟨w_521, w_522, w_523, w_107, w_524, py_X9_number⟩
theorem lkv_X4_103 : LkV RX4 103 mX3_add 1 := ⟨w_525, w_526, w_527, w_112, w_528, py_X3_add⟩
theorem lkc_X4_114 : LkS RX4 114 mX4_strengthOf 1 := ⟨w_549, w_550, w_110, w_551, py_X4_strengthOf⟩
theorem lkm_X4_118 : Cond.methodLink RX4 118 Lib.Math.max.name ∈ TB := w_552
theorem lkv_X4_124 : LkV RX4 124 mX4_release 2 := ⟨w_555, w_557, w_12, w_110, w_558, py_X4_release⟩
theorem lkv_X4_127 : LkV RX4 127 mX4_closeBracket 0 := ⟨w_568, w_570, w_13, w_110, w_571, py_X4_closeBracket⟩
theorem lkv_X4_130 : LkV RX4 130 mX7_set 2 := ⟨w_495, w_496, w_497, w_108, w_503, py_X7_set⟩
theorem lkv_X4_134 : LkV RX4 134 mX7_get 1 := ⟨w_559, w_560, w_561, w_108, w_567, py_X7_get⟩
theorem lko_X5_3 : Cond.methodLink RX5 3 Lib.objectInit ∈ TB := w_247
theorem lki_X5_11 : LkI RX5 11 mX8_init 0 := ⟨w_250, rfl, w_251, w_114, w_252, rfl, py_X8_init⟩
theorem lki_X5_20 : LkI RX5 20 mX7_init 1 := ⟨w_257, rfl, w_164, w_108, w_165, rfl, py_X7_init⟩
theorem lku_X5_54 : LkU RX5 54 "DarkestDay$State" "DarkestDay$Row" ⟨"DarkestDay$State", "copy", "(LDarkestDay$Row;)V"⟩ mX7_copy 1 := ⟨w_985, w_778, w_779, w_684, w_108, w_685, rfl, py_X7_copy⟩
theorem lkv_X5_58 : LkV RX5 58 mX0_steps 0 := ⟨w_986, w_966, w_967, w_117, w_968, py_X0_steps⟩
theorem lkv_X5_64 : LkV RX5 64 mX1_canStep 3 := ⟨w_987, w_988, w_989, w_111, w_990, py_X1_canStep⟩
theorem lkv_X5_70 : LkV RX5 70 mX0_told 2 := ⟨w_993, w_970, w_971, w_117, w_972, py_X0_told⟩
theorem lkv_X5_74 : LkV RX5 74 mX1_carryOut 4 := ⟨w_994, w_782, w_783, w_111, w_784, py_X1_carryOut⟩
theorem lku_X5_78 : LkU RX5 78 "DarkestDay$State" "DarkestDay$Row" ⟨"DarkestDay$State", "get", "(I)I"⟩ mX7_get 1 := ⟨w_995, w_720, w_721, w_560, w_108, w_567, rfl, py_X7_get⟩
theorem lku_X5_84 : LkU RX5 84 "DarkestDay$Port" "DarkestDay$Row" ⟨"DarkestDay$Port", "get", "(I)I"⟩ mX7_get 1 := ⟨w_1030, w_626, w_628, w_560, w_108, w_567, rfl, py_X7_get⟩
theorem lkv_X5_85 : LkV RX5 85 mX1_lightOf 2 := ⟨w_1031, w_1010, w_1011, w_111, w_1012, py_X1_lightOf⟩
theorem lkv_X5_89 : LkV RX5 89 mX7_set 2 := ⟨w_1032, w_496, w_497, w_108, w_503, py_X7_set⟩
theorem lkv_X5_93 : LkV RX5 93 mX7_get 1 := ⟨w_1033, w_560, w_561, w_108, w_567, py_X7_get⟩
theorem lkm_X5_94 : Cond.methodLink RX5 94 Lib.Math.min.name ∈ TB := w_1034
theorem lkv_X5_99 : LkV RX5 99 mX1_skipYear 1 := ⟨w_1043, w_1044, w_1045, w_111, w_1046, py_X1_skipYear⟩
theorem lkv_X5_103 : LkV RX5 103 mX6_persons 0 := ⟨w_1060, w_657, w_658, w_109, w_659, py_X6_persons⟩
theorem lkv_X5_106 : LkV RX5 106 mX5_packed 2 := ⟨w_1061, w_1063, w_32, w_113, w_1064, py_X5_packed⟩
theorem lkv_X5_109 : LkV RX5 109 mX6_kinds 0 := ⟨w_1065, w_653, w_654, w_109, w_655, py_X6_kinds⟩
theorem lkv_X5_112 : LkV RX5 112 mX8_upCount 1 := ⟨w_1074, w_790, w_791, w_114, w_792, py_X8_upCount⟩
theorem lkv_X5_115 : LkV RX5 115 mX1_rulerOf 2 := ⟨w_1075, w_1019, w_1020, w_111, w_1021, py_X1_rulerOf⟩
theorem lkc_X5_118 : LkS RX5 118 mJ6_bitCount_0f7a4 1 := ⟨w_1076, w_798, w_129, w_799, py_J6_bitCount_0f7a4⟩
theorem lku_X5_127 : LkU RX5 127 "DarkestDay$State" "DarkestDay$Row" ⟨"DarkestDay$State", "set", "(II)V"⟩ mX7_set 2 := ⟨w_1078, w_701, w_702, w_496, w_108, w_503, rfl, py_X7_set⟩
theorem lkv_X5_128 : LkV RX5 128 mX1_doingsOn 2 := ⟨w_1079, w_1049, w_1050, w_111, w_1051, py_X1_doingsOn⟩
theorem lkv_X5_131 : LkV RX5 131 mX1_governorBy 1 := ⟨w_1080, w_1081, w_1082, w_111, w_1083, py_X1_governorBy⟩
theorem lkv_X5_134 : LkV RX5 134 mX8_upBits 1 := ⟨w_1092, w_794, w_795, w_114, w_796, py_X8_upBits⟩
theorem lkv_X5_137 : LkV RX5 137 mX1_passDay 1 := ⟨w_1101, w_786, w_787, w_111, w_788, py_X1_passDay⟩
theorem lkv_X5_140 : LkV RX5 140 mX5_layOut 3 := ⟨w_1176, w_1178, w_38, w_113, w_1179, py_X5_layOut⟩
theorem lkv_X5_144 : LkV RX5 144 mX5_hasThen 3 := ⟨w_1184, w_1186, w_40, w_113, w_1187, py_X5_hasThen⟩
theorem lkv_X5_148 : LkV RX5 148 mX5_isRest 2 := ⟨w_1196, w_1198, w_41, w_113, w_1199, py_X5_isRest⟩
theorem lkv_X5_151 : LkV RX5 151 mX5_gainOf 3 := ⟨w_1180, w_1182, w_39, w_113, w_1183, py_X5_gainOf⟩
theorem lkv_X5_155 : LkV RX5 155 mX1_lightAhead 4 := ⟨w_1212, w_804, w_805, w_111, w_806, py_X1_lightAhead⟩
theorem lkv_X5_159 : LkV RX5 159 mX5_rulerBy 3 := ⟨w_1213, w_1215, w_43, w_113, w_1216, py_X5_rulerBy⟩
theorem lkc_X5_162 : LkS RX5 162 mX5_partOf 3 := ⟨w_1218, w_1219, w_113, w_1220, py_X5_partOf⟩
theorem lkv_X5_165 : LkV RX5 165 mX8_darkestOver 0 := ⟨w_1217, w_852, w_853, w_114, w_854, py_X8_darkestOver⟩
theorem lki_X6_5 : LkI RX6 5 mX7_init 1 := ⟨w_163, rfl, w_164, w_108, w_165, rfl, py_X7_init⟩
theorem lku_X6_11 : LkU RX6 11 "DarkestDay$Port" "DarkestDay$Row" ⟨"DarkestDay$Port", "get", "(I)I"⟩ mX7_get 1 := ⟨w_625, w_626, w_628, w_560, w_108, w_567, rfl, py_X7_get⟩
theorem lkv_X6_15 : LkV RX6 15 mX6_fillUsual 0 := ⟨w_602, w_604, w_16, w_109, w_605, py_X6_fillUsual⟩
theorem lkv_X6_19 : LkV RX6 19 mX6_readsClause 1 := ⟨w_620, w_622, w_17, w_109, w_623, py_X6_readsClause⟩
theorem lkv_X6_23 : LkV RX6 23 mX9_nextSign 0 := ⟨w_624, w_472, w_473, w_107, w_474, py_X9_nextSign⟩
theorem lkv_X6_29 : LkV RX6 29 mX6_isWhole 0 := ⟨w_648, w_650, w_19, w_109, w_651, py_X6_isWhole⟩
theorem lkv_X6_33 : LkV RX6 33 mX9_advance 0 := ⟨w_629, w_484, w_485, w_107, w_486, py_X9_advance⟩
theorem lku_X6_36 : LkU RX6 36 "DarkestDay$Port" "DarkestDay$Row" ⟨"DarkestDay$Port", "fill", "(I)V"⟩ mX7_fill 1 := ⟨w_606, w_607, w_609, w_610, w_108, w_611, rfl, py_X7_fill⟩
theorem lku_X6_50 : LkU RX6 50 "DarkestDay$Port" "DarkestDay$Row" ⟨"DarkestDay$Port", "set", "(II)V"⟩ mX7_set 2 := ⟨w_617, w_618, w_619, w_496, w_108, w_503, rfl, py_X7_set⟩
theorem lkv_X6_54 : LkV RX6 54 mX6_kinds 0 := ⟨w_652, w_653, w_654, w_109, w_655, py_X6_kinds⟩
theorem lkv_X6_57 : LkV RX6 57 mX6_persons 0 := ⟨w_656, w_657, w_658, w_109, w_659, py_X6_persons⟩
theorem lkv_X6_60 : LkV RX6 60 mX6_isKind 1 := ⟨w_660, w_661, w_662, w_109, w_663, py_X6_isKind⟩
theorem lkv_X6_64 : LkV RX6 64 mX6_readsItems 3 := ⟨w_630, w_632, w_18, w_109, w_633, py_X6_readsItems⟩
theorem lkv_X6_89 : LkV RX6 89 mX9_readsNumber 3 := ⟨w_646, w_512, w_513, w_107, w_514, py_X9_readsNumber⟩
theorem lkv_X6_93 : LkV RX6 93 mX9_number 0 := ⟨w_647, w_522, w_523, w_107, w_524, py_X9_number⟩
theorem lko_X7_1 : Cond.methodLink RX7 1 Lib.objectInit ∈ TB := w_166
theorem lkm_X7_13 : Cond.methodLink RX7 13 Lib.Math.min.name ∈ TB := w_686
theorem lkn_X7_19 : Cond.methodLink RX7 19 arraycopyName ∈ TB := w_689
theorem lki_X8_5 : LkI RX8 5 mX7_init 1 := ⟨w_253, rfl, w_164, w_108, w_165, rfl, py_X7_init⟩
theorem lku_X8_11 : LkU RX8 11 "DarkestDay$State" "DarkestDay$Row" ⟨"DarkestDay$State", "fill", "(I)V"⟩ mX7_fill 1 := ⟨w_696, w_697, w_698, w_610, w_108, w_611, rfl, py_X7_fill⟩
theorem lku_X8_16 : LkU RX8 16 "DarkestDay$Port" "DarkestDay$Row" ⟨"DarkestDay$Port", "get", "(I)I"⟩ mX7_get 1 := ⟨w_699, w_626, w_628, w_560, w_108, w_567, rfl, py_X7_get⟩
theorem lku_X8_20 : LkU RX8 20 "DarkestDay$State" "DarkestDay$Row" ⟨"DarkestDay$State", "set", "(II)V"⟩ mX7_set 2 := ⟨w_700, w_701, w_702, w_496, w_108, w_503, rfl, py_X7_set⟩
theorem lku_X8_24 : LkU RX8 24 "DarkestDay$State" "DarkestDay$Row" ⟨"DarkestDay$State", "get", "(I)I"⟩ mX7_get 1 := ⟨w_726, w_720, w_721, w_560, w_108, w_567, rfl, py_X7_get⟩
theorem lkv_X8_29 : LkV RX8 29 mX8_upBits 1 := ⟨w_793, w_794, w_795, w_114, w_796, py_X8_upBits⟩
theorem lkc_X8_32 : LkS RX8 32 mJ6_bitCount_0f7a4 1 := ⟨w_797, w_798, w_129, w_799, py_J6_bitCount_0f7a4⟩
theorem lkm_X8_37 : Cond.methodLink RX8 37 Lib.Math.min.name ∈ TB := w_952
theorem lko_X9_3 : Cond.methodLink RX9 3 Lib.objectInit ∈ TB := w_143
theorem lkv_X9_25 : LkV RX9 25 mX9_nextSign 0 := ⟨w_515, w_472, w_473, w_107, w_474, py_X9_nextSign⟩
theorem lkv_X9_33 : LkV RX9 33 mX9_signAt 1 := ⟨w_517, w_519, w_8, w_107, w_520, py_X9_signAt⟩
theorem lko_X10_3 : Cond.methodLink RX10 3 Lib.objectInit ∈ TB := w_294
theorem lki_X10_11 : LkI RX10 11 mX8_init 0 := ⟨w_296, rfl, w_251, w_114, w_252, rfl, py_X8_init⟩
theorem lki_X10_20 : LkI RX10 20 mX7_init 1 := ⟨w_298, rfl, w_164, w_108, w_165, rfl, py_X7_init⟩
theorem lkv_X10_48 : LkV RX10 48 mX7_set 2 := ⟨w_1114, w_496, w_497, w_108, w_503, py_X7_set⟩
theorem lkv_X10_52 : LkV RX10 52 mX7_get 1 := ⟨w_1127, w_560, w_561, w_108, w_567, py_X7_get⟩
theorem lkm_X10_56 : Cond.methodLink RX10 56 Lib.Math.max.name ∈ TB := w_1128
theorem lkv_X10_62 : LkV RX10 62 mX10_followAll 2 := ⟨w_1129, w_1131, w_33, w_115, w_1132, py_X10_followAll⟩
theorem lkv_X10_65 : LkV RX10 65 mX10_mostAlike 2 := ⟨w_1159, w_1161, w_36, w_115, w_1162, py_X10_mostAlike⟩
theorem lkv_X10_72 : LkV RX10 72 mX10_treasuryOf 2 := ⟨w_1142, w_1144, w_35, w_115, w_1145, py_X10_treasuryOf⟩
theorem lkv_X10_75 : LkV RX10 75 mX6_kinds 0 := ⟨w_1133, w_653, w_654, w_109, w_655, py_X6_kinds⟩
theorem lkv_X10_81 : LkV RX10 81 mX8_begin 1 := ⟨w_1134, w_693, w_694, w_114, w_695, py_X8_begin⟩
theorem lku_X10_85 : LkU RX10 85 "DarkestDay$State" "DarkestDay$Row" ⟨"DarkestDay$State", "set", "(II)V"⟩ mX7_set 2 := ⟨w_1135, w_701, w_702, w_496, w_108, w_503, rfl, py_X7_set⟩
theorem lkv_X10_86 : LkV RX10 86 mX1_passDay 1 := ⟨w_1136, w_786, w_787, w_111, w_788, py_X1_passDay⟩
theorem lku_X10_92 : LkU RX10 92 "DarkestDay$State" "DarkestDay$Row" ⟨"DarkestDay$State", "get", "(I)I"⟩ mX7_get 1 := ⟨w_1137, w_720, w_721, w_560, w_108, w_567, rfl, py_X7_get⟩
theorem lkv_X10_93 : LkV RX10 93 mX10_fits 1 := ⟨w_1138, w_1140, w_34, w_115, w_1141, py_X10_fits⟩
theorem lkv_L_7 : LkV RL 7 mX11_person 2 := ⟨w_1269, w_1270, w_1271, w_106, w_1272, py_X11_person⟩
theorem lki_L_15 : LkI RL 15 mX11_init 0 := ⟨w_132, rfl, w_133, w_106, w_134, rfl, py_X11_init⟩
theorem lki_L_18 : LkI RL 18 mX12_init 0 := ⟨w_1336, rfl, w_1337, w_118, w_1338, rfl, py_X12_init⟩
theorem lkv_L_19 : LkV RL 19 mX11_feed 5 := ⟨w_420, w_421, w_422, w_106, w_423, py_X11_feed⟩
theorem lkv_L_23 : LkV RL 23 mX12_feed 5 := ⟨w_1506, w_1507, w_1508, w_118, w_1509, py_X12_feed⟩
theorem lkv_L_24 : LkV RL 24 mX11_end 1 := ⟨w_435, w_436, w_437, w_106, w_438, py_X11_end⟩
theorem lkv_L_28 : LkV RL 28 mX12_end 1 := ⟨w_1517, w_1518, w_1519, w_118, w_1520, py_X12_end⟩
theorem lkv_L_29 : LkV RL 29 mX11_fault 1 := ⟨w_443, w_444, w_445, w_106, w_446, py_X11_fault⟩
theorem lkv_L_33 : LkV RL 33 mX12_fault 1 := ⟨w_1521, w_1522, w_1523, w_118, w_1524, py_X12_fault⟩
theorem lkv_L_34 : LkV RL 34 mX11_text 1 := ⟨w_668, w_669, w_670, w_106, w_671, py_X11_text⟩
theorem lkv_L_37 : LkV RL 37 mX12_text 1 := ⟨w_1706, w_1707, w_1708, w_118, w_1709, py_X12_text⟩
theorem lkv_L_38 : LkV RL 38 mX11_kind 2 := ⟨w_712, w_713, w_714, w_106, w_715, py_X11_kind⟩
theorem lkv_L_41 : LkV RL 41 mX12_kind 2 := ⟨w_1715, w_1716, w_1717, w_118, w_1718, py_X12_kind⟩
theorem lkv_L_47 : LkV RL 47 mX12_person 2 := ⟨w_1729, w_1730, w_1731, w_118, w_1732, py_X12_person⟩
theorem lkv_L_48 : LkV RL 48 mX12_thrown 0 := ⟨w_1502, w_1503, w_1504, w_118, w_1505, py_X12_thrown⟩
theorem lkv_L_52 : LkV RL 52 mX11_law 1 := ⟨w_727, w_728, w_729, w_106, w_730, py_X11_law⟩
theorem lkv_L_55 : LkV RL 55 mX12_law 1 := ⟨w_1737, w_1738, w_1739, w_118, w_1740, py_X12_law⟩
theorem lkv_L_56 : LkV RL 56 mX11_whim 1 := ⟨w_735, w_736, w_737, w_106, w_738, py_X11_whim⟩
theorem lkv_L_59 : LkV RL 59 mX12_whim 1 := ⟨w_1741, w_1742, w_1743, w_118, w_1744, py_X12_whim⟩
theorem lkv_L_60 : LkV RL 60 mX11_pass 0 := ⟨w_739, w_740, w_741, w_106, w_742, py_X11_pass⟩
theorem lkv_L_63 : LkV RL 63 mX12_pass 0 := ⟨w_1746, w_1747, w_1748, w_118, w_1749, py_X12_pass⟩
theorem lkv_L_64 : LkV RL 64 mX11_habit 2 := ⟨w_877, w_878, w_879, w_106, w_880, py_X11_habit⟩
theorem lkv_L_67 : LkV RL 67 mX12_habit 2 := ⟨w_1804, w_1805, w_1806, w_118, w_1807, py_X12_habit⟩
theorem lkv_L_68 : LkV RL 68 mX11_bed 1 := ⟨w_882, w_883, w_884, w_106, w_885, py_X11_bed⟩
theorem lkv_L_71 : LkV RL 71 mX12_bed 1 := ⟨w_1812, w_1813, w_1814, w_118, w_1815, py_X12_bed⟩
theorem lkv_L_72 : LkV RL 72 mX11_fog 1 := ⟨w_887, w_888, w_889, w_106, w_890, py_X11_fog⟩
theorem lkv_L_75 : LkV RL 75 mX12_fog 1 := ⟨w_1816, w_1817, w_1818, w_118, w_1819, py_X12_fog⟩
theorem lkv_L_76 : LkV RL 76 mX11_eclipse 0 := ⟨w_891, w_892, w_893, w_106, w_894, py_X11_eclipse⟩
theorem lkv_L_79 : LkV RL 79 mX12_eclipse 0 := ⟨w_1824, w_1825, w_1826, w_118, w_1827, py_X12_eclipse⟩
theorem lkv_L_80 : LkV RL 80 mX11_candles 1 := ⟨w_895, w_896, w_897, w_106, w_898, py_X11_candles⟩
theorem lkv_L_83 : LkV RL 83 mX12_candles 1 := ⟨w_1832, w_1833, w_1834, w_118, w_1835, py_X12_candles⟩
theorem lkv_L_84 : LkV RL 84 mX11_give 1 := ⟨w_899, w_900, w_901, w_106, w_902, py_X11_give⟩
theorem lkv_L_87 : LkV RL 87 mX12_give 1 := ⟨w_1840, w_1841, w_1842, w_118, w_1843, py_X12_give⟩
theorem lkv_L_90 : LkV RL 90 mX11_years 2 := ⟨w_903, w_904, w_905, w_106, w_906, py_X11_years⟩
theorem lkv_L_94 : LkV RL 94 mX12_years 2 := ⟨w_1845, w_1846, w_1847, w_118, w_1848, py_X12_years⟩
theorem lkv_L_95 : LkV RL 95 mX11_status 1 := ⟨w_928, w_929, w_930, w_106, w_931, py_X11_status⟩
theorem lkv_L_98 : LkV RL 98 mX12_status 1 := ⟨w_1856, w_1857, w_1858, w_118, w_1859, py_X12_status⟩
theorem lkv_L_99 : LkV RL 99 mX11_undo 0 := ⟨w_932, w_933, w_934, w_106, w_935, py_X11_undo⟩
theorem lkv_L_102 : LkV RL 102 mX12_undo 0 := ⟨w_1861, w_1862, w_1863, w_118, w_1864, py_X12_undo⟩
theorem lkv_L_103 : LkV RL 103 mX11_log 2 := ⟨w_944, w_945, w_946, w_106, w_947, py_X11_log⟩
theorem lkv_L_106 : LkV RL 106 mX12_log 2 := ⟨w_1865, w_1866, w_1867, w_118, w_1868, py_X12_log⟩
theorem lkv_L_107 : LkV RL 107 mX11_step 3 := ⟨w_957, w_958, w_959, w_106, w_960, py_X11_step⟩
theorem lkv_L_111 : LkV RL 111 mX12_step 3 := ⟨w_1869, w_1870, w_1871, w_118, w_1872, py_X12_step⟩
theorem lkv_L_112 : LkV RL 112 mX11_run 2 := ⟨w_976, w_977, w_978, w_106, w_979, py_X11_run⟩
theorem lkv_L_115 : LkV RL 115 mX12_run 2 := ⟨w_1877, w_1878, w_1879, w_118, w_1880, py_X12_run⟩
theorem lkv_L_116 : LkV RL 116 mX11_perform 1 := ⟨w_996, w_997, w_998, w_106, w_999, py_X11_perform⟩
theorem lkv_L_119 : LkV RL 119 mX12_perform 1 := ⟨w_1892, w_1893, w_1894, w_118, w_1895, py_X12_perform⟩
theorem lkv_L_120 : LkV RL 120 mX11_light 1 := ⟨w_1001, w_1002, w_1003, w_106, w_1004, py_X11_light⟩
theorem lkv_L_123 : LkV RL 123 mX12_light 1 := ⟨w_1896, w_1897, w_1898, w_118, w_1899, py_X12_light⟩
theorem lkv_L_124 : LkV RL 124 mX11_coming 1 := ⟨w_1013, w_1014, w_1015, w_106, w_1016, py_X11_coming⟩
theorem lkv_L_127 : LkV RL 127 mX12_coming 1 := ⟨w_1900, w_1901, w_1902, w_118, w_1903, py_X12_coming⟩
theorem lkv_L_128 : LkV RL 128 mX11_may 1 := ⟨w_1022, w_1023, w_1024, w_106, w_1025, py_X11_may⟩
theorem lkv_L_131 : LkV RL 131 mX12_may 1 := ⟨w_1908, w_1909, w_1910, w_118, w_1911, py_X12_may⟩
theorem lkv_L_132 : LkV RL 132 mX11_governs 1 := ⟨w_1035, w_1036, w_1037, w_106, w_1038, py_X11_governs⟩
theorem lkv_L_135 : LkV RL 135 mX12_governs 1 := ⟨w_1913, w_1914, w_1915, w_118, w_1916, py_X12_governs⟩
theorem lkv_L_136 : LkV RL 136 mX11_round 1 := ⟨w_1052, w_1053, w_1054, w_106, w_1055, py_X11_round⟩
theorem lkv_L_139 : LkV RL 139 mX12_round 1 := ⟨w_1921, w_1922, w_1923, w_118, w_1924, py_X12_round⟩
theorem lkv_L_140 : LkV RL 140 mX11_swings 1 := ⟨w_1066, w_1067, w_1068, w_106, w_1069, py_X11_swings⟩
theorem lkv_L_143 : LkV RL 143 mX12_swings 1 := ⟨w_1925, w_1926, w_1927, w_118, w_1928, py_X12_swings⟩
theorem lkv_L_144 : LkV RL 144 mX11_bedding 1 := ⟨w_1084, w_1085, w_1086, w_106, w_1087, py_X11_bedding⟩
theorem lkv_L_147 : LkV RL 147 mX12_bedding 1 := ⟨w_1933, w_1934, w_1935, w_118, w_1936, py_X12_bedding⟩
theorem lkv_L_148 : LkV RL 148 mX11_coins 1 := ⟨w_1093, w_1094, w_1095, w_106, w_1096, py_X11_coins⟩
theorem lkv_L_151 : LkV RL 151 mX12_coins 1 := ⟨w_1937, w_1938, w_1939, w_118, w_1940, py_X12_coins⟩
theorem lkv_L_152 : LkV RL 152 mX11_seen 3 := ⟨w_1102, w_1103, w_1104, w_106, w_1105, py_X11_seen⟩
theorem lkv_L_156 : LkV RL 156 mX12_seen 3 := ⟨w_1942, w_1943, w_1944, w_118, w_1945, py_X12_seen⟩
theorem lkv_L_157 : LkV RL 157 mX11_habits 2 := ⟨w_1119, w_1120, w_1121, w_106, w_1122, py_X11_habits⟩
theorem lkv_L_160 : LkV RL 160 mX12_habits 2 := ⟨w_1947, w_1948, w_1949, w_118, w_1950, py_X12_habits⟩
theorem lkv_L_161 : LkV RL 161 mX11_ask 1 := ⟨w_1151, w_1152, w_1153, w_106, w_1154, py_X11_ask⟩
theorem lkv_L_164 : LkV RL 164 mX12_ask 1 := ⟨w_1955, w_1956, w_1957, w_118, w_1958, py_X12_ask⟩
theorem lkv_L_165 : LkV RL 165 mX11_game 5 := ⟨w_1164, w_1165, w_1166, w_106, w_1167, py_X11_game⟩
theorem lkv_L_168 : LkV RL 168 mX12_game 5 := ⟨w_1959, w_1960, w_1961, w_118, w_1962, py_X12_game⟩
theorem lkv_L_169 : LkV RL 169 mX11_rests 3 := ⟨w_1188, w_1189, w_1190, w_106, w_1191, py_X11_rests⟩
theorem lkv_L_172 : LkV RL 172 mX12_rests 3 := ⟨w_1971, w_1972, w_1973, w_118, w_1974, py_X12_rests⟩
theorem lkv_L_173 : LkV RL 173 mX11_odds 2 := ⟨w_1200, w_1201, w_1202, w_106, w_1203, py_X11_odds⟩
theorem lkv_L_176 : LkV RL 176 mX12_odds 2 := ⟨w_1975, w_1976, w_1977, w_118, w_1978, py_X12_odds⟩
theorem lkv_L_177 : LkV RL 177 mX11_shares 2 := ⟨w_1223, w_1224, w_1225, w_106, w_1226, py_X11_shares⟩
theorem lkv_L_180 : LkV RL 180 mX12_shares 2 := ⟨w_1984, w_1985, w_1986, w_118, w_1987, py_X12_shares⟩
theorem lkv_L_181 : LkV RL 181 mX11_did 2 := ⟨w_1227, w_1228, w_1229, w_106, w_1230, py_X11_did⟩
theorem lkv_L_184 : LkV RL 184 mX12_did 2 := ⟨w_1988, w_1989, w_1990, w_118, w_1991, py_X12_did⟩
theorem lkv_L_185 : LkV RL 185 mX11_all 1 := ⟨w_1232, w_1233, w_1234, w_106, w_1235, py_X11_all⟩
theorem lkv_L_188 : LkV RL 188 mX12_all 1 := ⟨w_1992, w_1993, w_1994, w_118, w_1995, py_X12_all⟩
theorem lkv_L_189 : LkV RL 189 mX11_image 0 := ⟨w_1252, w_1253, w_1254, w_106, w_1255, py_X11_image⟩
theorem lkv_L_192 : LkV RL 192 mX12_image 0 := ⟨w_2016, w_2017, w_2018, w_118, w_2019, py_X12_image⟩
theorem lkv_L_193 : LkV RL 193 mX11_back 0 := ⟨w_1257, w_1258, w_1259, w_106, w_1260, py_X11_back⟩
theorem lkv_L_196 : LkV RL 196 mX12_back 0 := ⟨w_2020, w_2021, w_2022, w_118, w_2023, py_X12_back⟩
theorem lkv_L_197 : LkV RL 197 mX11_count 1 := ⟨w_1261, w_1262, w_1263, w_106, w_1264, py_X11_count⟩
theorem lkv_L_200 : LkV RL 200 mX12_count 1 := ⟨w_2024, w_2025, w_2026, w_118, w_2027, py_X12_count⟩
theorem lko_X12_3 : Cond.methodLink RX12 3 Lib.objectInit ∈ TB := w_1339
theorem lkv_X12_112 : LkV RX12 112 mJ0_length_8abf5 0 := ⟨w_1557, w_1558, w_1559, w_120, w_1560, py_J0_length_8abf5⟩
theorem lkv_X12_118 : LkV RX12 118 mJ0_charAt_5068e 1 := ⟨w_1570, w_1571, w_1572, w_120, w_1573, py_J0_charAt_5068e⟩
theorem lkc_X12_124 : LkS RX12 124 mX12_bytesIn 1 := ⟨w_1510, w_1511, w_118, w_1512, py_X12_bytesIn⟩
theorem lkv_X12_128 : LkV RX12 128 mX12_put 1 := ⟨w_1513, w_1515, w_45, w_118, w_1516, py_X12_put⟩
theorem lkv_X12_147 : LkV RX12 147 mX12_fails 0 := ⟨w_1548, w_1550, w_50, w_118, w_1551, py_X12_fails⟩
theorem lkv_X12_151 : LkV RX12 151 mX12_look 0 := ⟨w_1544, w_1546, w_49, w_118, w_1547, py_X12_look⟩
theorem lkm_X12_158 : Cond.methodLink RX12 158 Lib.MathLoose.min_long.x ∈ TB := w_1680
theorem lkm_X12_164 : Cond.methodLink RX12 164 Lib.MathLoose.max_long.x ∈ TB := w_1683
theorem lkc_X12_167 : LkS RX12 167 mX12_isAmong 2 := ⟨w_1640, w_1641, w_118, w_1642, py_X12_isAmong⟩
theorem lkv_X12_171 : LkV RX12 171 mX12_goesIn 0 := ⟨w_1671, w_1673, w_65, w_118, w_1674, py_X12_goesIn⟩
theorem lkv_X12_174 : LkV RX12 174 mX12_sum 0 := ⟨w_1659, w_1661, w_62, w_118, w_1662, py_X12_sum⟩
theorem lkv_X12_177 : LkV RX12 177 mX12_takes 1 := ⟨w_1643, w_1645, w_58, w_118, w_1646, py_X12_takes⟩
theorem lkv_X12_181 : LkV RX12 181 mX12_isDigit 0 := ⟨w_1618, w_1620, w_53, w_118, w_1621, py_X12_isDigit⟩
theorem lkv_X12_184 : LkV RX12 184 mX12_atom 0 := ⟨w_1667, w_1669, w_64, w_118, w_1670, py_X12_atom⟩
theorem lkc_X12_187 : LkS RX12 187 mX12_within 1 := ⟨w_1675, w_1676, w_118, w_1677, py_X12_within⟩
theorem lkv_X12_191 : LkV RX12 191 mX12_term 0 := ⟨w_1663, w_1665, w_63, w_118, w_1666, py_X12_term⟩
theorem lkc_X12_194 : LkS RX12 194 mX12_isSign 1 := ⟨w_1686, w_1687, w_118, w_1688, py_X12_isSign⟩
theorem lkv_X12_197 : LkV RX12 197 mX12_unit 0 := ⟨w_1689, w_1691, w_66, w_118, w_1692, py_X12_unit⟩
theorem lkv_X12_200 : LkV RX12 200 mX12_condition 2 := ⟨w_1647, w_1649, w_59, w_118, w_1650, py_X12_condition⟩
theorem lkv_X12_204 : LkV RX12 204 mX12_compares 2 := ⟨w_1655, w_1657, w_61, w_118, w_1658, py_X12_compares⟩
theorem lkv_X12_207 : LkV RX12 207 mX12_part 2 := ⟨w_1651, w_1653, w_60, w_118, w_1654, py_X12_part⟩
theorem lkv_X12_220 : LkV RX12 220 mX12_starts 3 := ⟨w_1533, w_1535, w_47, w_118, w_1536, py_X12_starts⟩
theorem lkv_X12_224 : LkV RX12 224 mX12_clause 0 := ⟨w_1636, w_1638, w_57, w_118, w_1639, py_X12_clause⟩
theorem lkv_X12_227 : LkV RX12 227 mX12_here 0 := ⟨w_1622, w_1624, w_54, w_118, w_1625, py_X12_here⟩
theorem lkc_X12_230 : LkS RX12 230 mX12_isIn 3 := ⟨w_1526, w_1527, w_118, w_1528, py_X12_isIn⟩
theorem lkc_X12_234 : LkS RX12 234 mX12_usual 2 := ⟨w_1537, w_1538, w_118, w_1539, py_X12_usual⟩
theorem lkc_X12_238 : LkS RX12 238 mX12_spotOf 2 := ⟨w_1567, w_1568, w_118, w_1569, py_X12_spotOf⟩
theorem lkc_X12_242 : LkS RX12 242 mX12_has 2 := ⟨w_1608, w_1609, w_118, w_1610, py_X12_has⟩
theorem lkc_X12_246 : LkS RX12 246 mX12_mostOf 2 := ⟨w_1611, w_1612, w_118, w_1613, py_X12_mostOf⟩
theorem lkv_X12_249 : LkV RX12 249 mX12_number 2 := ⟨w_1614, w_1616, w_52, w_118, w_1617, py_X12_number⟩
theorem lkv_X12_263 : LkV RX12 263 mX12_readItems 4 := ⟨w_1553, w_1555, w_51, w_118, w_1556, py_X12_readItems⟩
theorem lkv_X12_271 : LkV RX12 271 mX12_readClause 0 := ⟨w_1540, w_1542, w_48, w_118, w_1543, py_X12_readClause⟩
theorem lkv_X12_274 : LkV RX12 274 mX12_isWhole 0 := ⟨w_1628, w_1630, w_55, w_118, w_1631, py_X12_isWhole⟩
theorem lkv_X12_279 : LkV RX12 279 mX12_digit 0 := ⟨w_1702, w_1704, w_69, w_118, w_1705, py_X12_digit⟩
theorem lkv_X12_282 : LkV RX12 282 mX12_readStep 1 := ⟨w_1697, w_1699, w_68, w_118, w_1700, py_X12_readStep⟩
theorem lkv_X12_287 : LkV RX12 287 mX12_readPort 0 := ⟨w_1529, w_1531, w_46, w_118, w_1532, py_X12_readPort⟩
theorem lkv_X12_290 : LkV RX12 290 mX12_goThrough 3 := ⟨w_1632, w_1634, w_56, w_118, w_1635, py_X12_goThrough⟩
theorem lkv_X12_293 : LkV RX12 293 mX12_readPlan 0 := ⟨w_1693, w_1695, w_67, w_118, w_1696, py_X12_readPlan⟩
theorem lkv_X12_302 : LkV RX12 302 mX12_fault 1 := ⟨w_1710, w_1522, w_1523, w_118, w_1524, py_X12_fault⟩
theorem lkv_X12_310 : LkV RX12 310 mX12_lays 1 := ⟨w_1711, w_1713, w_70, w_118, w_1714, py_X12_lays⟩
theorem lkm_X12_335 : Cond.methodLink RX12 335 Lib.Math.abs.name ∈ TB := w_1782
theorem lkv_X12_338 : LkV RX12 338 mX12_up 1 := ⟨w_1783, w_1785, w_82, w_118, w_1786, py_X12_up⟩
theorem lkc_X12_342 : LkS RX12 342 mJ6_bitCount_0f7a4 1 := ⟨w_1787, w_798, w_129, w_799, py_J6_bitCount_0f7a4⟩
theorem lkv_X12_347 : LkV RX12 347 mX12_worthOf 5 := ⟨w_1788, w_1790, w_83, w_118, w_1791, py_X12_worthOf⟩
theorem lkm_X12_351 : Cond.methodLink RX12 351 Lib.Math.min.name ∈ TB := w_1798
theorem lkm_X12_353 : Cond.methodLink RX12 353 Lib.Math.max.name ∈ TB := w_1799
theorem lkv_X12_355 : LkV RX12 355 mX12_plainLight 3 := ⟨w_1778, w_1780, w_81, w_118, w_1781, py_X12_plainLight⟩
theorem lkv_X12_359 : LkV RX12 359 mX12_lightBy 3 := ⟨w_1774, w_1776, w_80, w_118, w_1777, py_X12_lightBy⟩
theorem lkv_X12_365 : LkV RX12 365 mX12_lightOf 2 := ⟨w_1770, w_1772, w_79, w_118, w_1773, py_X12_lightOf⟩
theorem lkv_X12_369 : LkV RX12 369 mX12_endsYear 1 := ⟨w_1800, w_1802, w_84, w_118, w_1803, py_X12_endsYear⟩
theorem lkv_X12_372 : LkV RX12 372 mX12_passes 1 := ⟨w_1766, w_1768, w_78, w_118, w_1769, py_X12_passes⟩
theorem lkv_X12_375 : LkV RX12 375 mX12_isKind 1 := ⟨w_1719, w_1721, w_71, w_118, w_1722, py_X12_isKind⟩
theorem lkv_X12_381 : LkV RX12 381 mX12_party 1 := ⟨w_1725, w_1727, w_72, w_118, w_1728, py_X12_party⟩
theorem lkv_X12_384 : LkV RX12 384 mX12_isPerson 1 := ⟨w_1733, w_1735, w_73, w_118, w_1736, py_X12_isPerson⟩
theorem lkv_X12_389 : LkV RX12 389 mX12_refused 1 := ⟨w_1750, w_1752, w_74, w_118, w_1753, py_X12_refused⟩
theorem lkv_X12_392 : LkV RX12 392 mX12_canPass 1 := ⟨w_1754, w_1756, w_75, w_118, w_1757, py_X12_canPass⟩
theorem lkv_X12_396 : LkV RX12 396 mX12_remember 0 := ⟨w_1758, w_1760, w_76, w_118, w_1761, py_X12_remember⟩
theorem lkv_X12_399 : LkV RX12 399 mX12_goNow 0 := ⟨w_1762, w_1764, w_77, w_118, w_1765, py_X12_goNow⟩
theorem lkv_X12_402 : LkV RX12 402 mX12_stopsHabit 3 := ⟨w_1808, w_1810, w_85, w_118, w_1811, py_X12_stopsHabit⟩
theorem lkv_X12_405 : LkV RX12 405 mX12_stopsFog 2 := ⟨w_1820, w_1822, w_86, w_118, w_1823, py_X12_stopsFog⟩
theorem lkv_X12_408 : LkV RX12 408 mX12_stopsEclipse 1 := ⟨w_1828, w_1830, w_87, w_118, w_1831, py_X12_stopsEclipse⟩
theorem lkv_X12_411 : LkV RX12 411 mX12_stopsCandles 2 := ⟨w_1836, w_1838, w_88, w_118, w_1839, py_X12_stopsCandles⟩
theorem lkv_X12_426 : LkV RX12 426 mX12_draw 1 := ⟨w_1850, w_1852, w_89, w_118, w_1853, py_X12_draw⟩
theorem lkv_X12_431 : LkV RX12 431 mX12_isPlan 1 := ⟨w_1873, w_1875, w_90, w_118, w_1876, py_X12_isPlan⟩
theorem lkc_X12_434 : LkS RX12 434 mX12_copy 2 := ⟨w_1881, w_1882, w_118, w_1883, py_X12_copy⟩
theorem lkv_X12_438 : LkV RX12 438 mX12_canStep 2 := ⟨w_1884, w_1886, w_91, w_118, w_1887, py_X12_canStep⟩
theorem lkv_X12_442 : LkV RX12 442 mX12_goStep 2 := ⟨w_1888, w_1890, w_92, w_118, w_1891, py_X12_goStep⟩
theorem lkv_X12_446 : LkV RX12 446 mX12_darkest 0 := ⟨w_1904, w_1906, w_93, w_118, w_1907, py_X12_darkest⟩
theorem lkv_X12_451 : LkV RX12 451 mX12_goYear 0 := ⟨w_1917, w_1919, w_94, w_118, w_1920, py_X12_goYear⟩
theorem lkv_X12_454 : LkV RX12 454 mX12_soughtBy 3 := ⟨w_1929, w_1931, w_95, w_118, w_1932, py_X12_soughtBy⟩
theorem lkv_X12_462 : LkV RX12 462 mX12_laysHabits 1 := ⟨w_1951, w_1953, w_96, w_118, w_1954, py_X12_laysHabits⟩
theorem lkv_X12_465 : LkV RX12 465 mX12_canPlay 2 := ⟨w_1963, w_1965, w_97, w_118, w_1966, py_X12_canPlay⟩
theorem lkv_X12_468 : LkV RX12 468 mX12_gameOf 5 := ⟨w_1967, w_1969, w_98, w_118, w_1970, py_X12_gameOf⟩
theorem lkv_X12_471 : LkV RX12 471 mX12_oddsFrom 4 := ⟨w_1980, w_1982, w_99, w_118, w_1983, py_X12_oddsFrom⟩
theorem lkv_X12_476 : LkV RX12 476 mX12_valueOf 2 := ⟨w_2000, w_2002, w_101, w_118, w_2003, py_X12_valueOf⟩
theorem lkv_X12_479 : LkV RX12 479 mX12_greatest 1 := ⟨w_1996, w_1998, w_100, w_118, w_1999, py_X12_greatest⟩
theorem lkv_X12_482 : LkV RX12 482 mX12_idle 0 := ⟨w_2004, w_2006, w_102, w_118, w_2007, py_X12_idle⟩
theorem lkv_X12_485 : LkV RX12 485 mX12_dark 0 := ⟨w_2008, w_2010, w_103, w_118, w_2011, py_X12_dark⟩
theorem lkv_X12_488 : LkV RX12 488 mX12_swayed 0 := ⟨w_2012, w_2014, w_104, w_118, w_2015, py_X12_swayed⟩
theorem lkv_J0_335 : LkV RJ0 335 mJ0_coder_7d493 0 := ⟨w_1561, w_1562, w_1563, w_120, w_1564, py_J0_coder_7d493⟩
theorem lkv_J0_492 : LkV RJ0 492 mJ0_isLatin1_aae02 0 := ⟨w_1574, w_1575, w_1576, w_120, w_1577, py_J0_isLatin1_aae02⟩
theorem lkc_J0_495 : LkS RJ0 495 mJ1_charAt_3b067 2 := ⟨w_1578, w_1579, w_121, w_1580, py_J1_charAt_3b067⟩
theorem lkc_J0_498 : LkS RJ0 498 mJ2_charAt_3b067 2 := ⟨w_1589, w_1590, w_123, w_1591, py_J2_charAt_3b067⟩
theorem lkc_J0_1059 : LkS RJ0 1059 mJ3_checkIndex_8e157 3 := ⟨w_1586, w_1587, w_122, w_1588, py_J3_checkIndex_8e157⟩
theorem lkc_J1_9 : LkS RJ1 9 mJ0_checkIndex_df160 2 := ⟨w_1581, w_1582, w_120, w_1583, py_J0_checkIndex_df160⟩
theorem lkc_J2_48 : LkS RJ2 48 mJ2_length_9d52b 1 := ⟨w_1595, w_1596, w_123, w_1597, py_J2_length_9d52b⟩
theorem lkc_J2_67 : LkS RJ2 67 mJ2_checkIndex_2214a 2 := ⟨w_1592, w_1593, w_123, w_1594, py_J2_checkIndex_2214a⟩
theorem lkc_J2_71 : LkS RJ2 71 mJ2_getChar_3b067 2 := ⟨w_1599, w_1600, w_123, w_1601, py_J2_getChar_3b067⟩
theorem lkc_J2_414 : LkS RJ2 414 mJ0_checkIndex_df160 2 := ⟨w_1598, w_1582, w_120, w_1583, py_J0_checkIndex_df160⟩
theorem lki_X11_9 : LkIN RX11 9 mX9_init "DarkestDay" 0 := ⟨w_140, rfl, w_141, w_107, w_142, rfl, py_X9_init⟩
theorem lki_X11_28 : LkIN RX11 28 mX4_init "DarkestDay" 0 := ⟨w_173, rfl, w_174, w_110, w_175, rfl, py_X4_init⟩
theorem lkc_X0_37 : LkSN RX0 37 mX11_placeIn "DarkestDay" 2 := ⟨w_587, w_535, w_106, w_536, py_X11_placeIn⟩
theorem lkc_X0_49 : LkSN RX0 49 mX11_entry "DarkestDay" 2 := ⟨w_594, w_595, w_106, w_596, py_X11_entry⟩
theorem lkc_X0_53 : LkSN RX0 53 mX11_isDigit "DarkestDay" 1 := ⟨w_597, w_509, w_106, w_510, py_X11_isDigit⟩
theorem lkc_X4_93 : LkSN RX4 93 mX11_isDigit "DarkestDay" 1 := ⟨w_508, w_509, w_106, w_510, py_X11_isDigit⟩
theorem lkc_X4_110 : LkSN RX4 110 mX11_placeIn "DarkestDay" 2 := ⟨w_534, w_535, w_106, w_536, py_X11_placeIn⟩
theorem lkc_X5_123 : LkSN RX5 123 mX11_hasBit "DarkestDay" 2 := ⟨w_1077, w_640, w_106, w_641, py_X11_hasBit⟩
theorem lkc_X6_43 : LkSN RX6 43 mX11_entry "DarkestDay" 2 := ⟨w_614, w_595, w_106, w_596, py_X11_entry⟩
theorem lkc_X6_72 : LkSN RX6 72 mX11_placeIn "DarkestDay" 2 := ⟨w_636, w_535, w_106, w_536, py_X11_placeIn⟩
theorem lkc_X6_79 : LkSN RX6 79 mX11_hasBit "DarkestDay" 2 := ⟨w_639, w_640, w_106, w_641, py_X11_hasBit⟩
theorem lkc_X8_25 : LkSN RX8 25 mX11_hasBit "DarkestDay" 2 := ⟨w_842, w_640, w_106, w_641, py_X11_hasBit⟩
theorem lkc_X9_29 : LkSN RX9 29 mX11_isDigit "DarkestDay" 1 := ⟨w_516, w_509, w_106, w_510, py_X11_isDigit⟩
theorem lkc_X10_68 : LkSN RX10 68 mX11_hasBit "DarkestDay" 2 := ⟨w_1163, w_640, w_106, w_641, py_X11_hasBit⟩
theorem lkn_X11_7 : LkN RX11 7 9 := ⟨RX9, TX9, 4, rfl, rfl, by decide, uw_9, tyX9_ok, w_138, w_139, w_107, by decide +kernel⟩
theorem lkx_X11_7 : Cond.classLink "DarkestDay" 7 "DarkestDay$Tape" ∈ TB := w_138
theorem lkn_X11_16 : LkN RX11 16 6 := ⟨RX6, TX6, 1, rfl, rfl, by decide, uw_6, tyX6_ok, w_158, w_159, w_109, by decide +kernel⟩
theorem lkx_X11_16 : Cond.classLink "DarkestDay" 16 "DarkestDay$Port" ∈ TB := w_158
theorem lkn_X11_26 : LkN RX11 26 4 := ⟨RX4, TX4, 9, rfl, rfl, by decide, uw_4, tyX4_ok, w_171, w_172, w_110, by decide +kernel⟩
theorem lkx_X11_26 : Cond.classLink "DarkestDay" 26 "DarkestDay$LawReader" ∈ TB := w_171
theorem lkn_X11_33 : LkN RX11 33 3 := ⟨RX3, TX3, 2, rfl, rfl, by decide, uw_3, tyX3_ok, w_210, w_345, w_112, by decide +kernel⟩
theorem lkx_X11_33 : Cond.classLink "DarkestDay" 33 "DarkestDay$Law" ∈ TB := w_210
theorem lkn_X11_39 : LkN RX11 39 0 := ⟨RX0, TX0, 2, rfl, rfl, by decide, uw_0, tyX0_ok, w_212, w_355, w_117, by decide +kernel⟩
theorem lkx_X11_39 : Cond.classLink "DarkestDay" 39 "DarkestDay$Calendar" ∈ TB := w_212
theorem lkn_X11_45 : LkN RX11 45 7 := ⟨RX7, TX7, 1, rfl, rfl, by decide, uw_7, tyX7_ok, w_214, w_178, w_108, by decide +kernel⟩
theorem lkx_X11_45 : Cond.classLink "DarkestDay" 45 "DarkestDay$Row" ∈ TB := w_214
theorem lkn_X11_54 : LkN RX11 54 1 := ⟨RX1, TX1, 5, rfl, rfl, by decide, uw_1, tyX1_ok, w_216, w_217, w_111, by decide +kernel⟩
theorem lkx_X11_54 : Cond.classLink "DarkestDay" 54 "DarkestDay$Course" ∈ TB := w_216
theorem lkn_X11_63 : LkN RX11 63 5 := ⟨RX5, TX5, 10, rfl, rfl, by decide, uw_5, tyX5_ok, w_242, w_243, w_113, by decide +kernel⟩
theorem lkx_X11_63 : Cond.classLink "DarkestDay" 63 "DarkestDay$Outlook" ∈ TB := w_242
theorem lkn_X11_72 : LkN RX11 72 10 := ⟨RX10, TX10, 8, rfl, rfl, by decide, uw_10, tyX10_ok, w_289, w_290, w_115, by decide +kernel⟩
theorem lkx_X11_72 : Cond.classLink "DarkestDay" 72 "DarkestDay$Witness" ∈ TB := w_289
theorem lkn_X11_79 : LkN RX11 79 2 := ⟨RX2, TX2, 3, rfl, rfl, by decide, uw_2, tyX2_ok, w_324, w_325, w_116, by decide +kernel⟩
theorem lkx_X11_79 : Cond.classLink "DarkestDay" 79 "DarkestDay$History" ∈ TB := w_324
theorem lkn_X11_86 : LkN RX11 86 8 := ⟨RX8, TX8, 1, rfl, rfl, by decide, uw_8, tyX8_ok, w_343, w_249, w_114, by decide +kernel⟩
theorem lkx_X11_86 : Cond.classLink "DarkestDay" 86 "DarkestDay$State" ∈ TB := w_343
theorem lkx_X11_192 : Cond.classLink "DarkestDay" 192 "java/util/NoSuchElementException" ∈ TB := w_1273
theorem lkn_X1_9 : LkN RX1 9 7 := ⟨RX7, TX7, 1, rfl, rfl, by decide, uw_7, tyX7_ok, w_222, w_178, w_108, by decide +kernel⟩
theorem lkx_X1_9 : Cond.classLink "DarkestDay$Course" 9 "DarkestDay$Row" ∈ TB := w_222
theorem lkn_X2_9 : LkN RX2 9 8 := ⟨RX8, TX8, 1, rfl, rfl, by decide, uw_8, tyX8_ok, w_330, w_249, w_114, by decide +kernel⟩
theorem lkx_X2_9 : Cond.classLink "DarkestDay$History" 9 "DarkestDay$State" ∈ TB := w_330
theorem lkn_X4_9 : LkN RX4 9 7 := ⟨RX7, TX7, 1, rfl, rfl, by decide, uw_7, tyX7_ok, w_177, w_178, w_108, by decide +kernel⟩
theorem lkx_X4_9 : Cond.classLink "DarkestDay$LawReader" 9 "DarkestDay$Row" ∈ TB := w_177
theorem lkn_X5_9 : LkN RX5 9 8 := ⟨RX8, TX8, 1, rfl, rfl, by decide, uw_8, tyX8_ok, w_248, w_249, w_114, by decide +kernel⟩
theorem lkx_X5_9 : Cond.classLink "DarkestDay$Outlook" 9 "DarkestDay$State" ∈ TB := w_248
theorem lkn_X5_18 : LkN RX5 18 7 := ⟨RX7, TX7, 1, rfl, rfl, by decide, uw_7, tyX7_ok, w_256, w_178, w_108, by decide +kernel⟩
theorem lkx_X5_18 : Cond.classLink "DarkestDay$Outlook" 18 "DarkestDay$Row" ∈ TB := w_256
theorem lkn_X10_9 : LkN RX10 9 8 := ⟨RX8, TX8, 1, rfl, rfl, by decide, uw_8, tyX8_ok, w_295, w_249, w_114, by decide +kernel⟩
theorem lkx_X10_9 : Cond.classLink "DarkestDay$Witness" 9 "DarkestDay$State" ∈ TB := w_295
theorem lkn_X10_18 : LkN RX10 18 7 := ⟨RX7, TX7, 1, rfl, rfl, by decide, uw_7, tyX7_ok, w_297, w_178, w_108, by decide +kernel⟩
theorem lkx_X10_18 : Cond.classLink "DarkestDay$Witness" 18 "DarkestDay$Row" ∈ TB := w_297
theorem lkn_L_8 : LkN RL 8 11 := ⟨RX11, TX11, 18, rfl, rfl, by decide, uw_11, tyX11_ok, w_130, w_131, w_106, by decide +kernel⟩
theorem lkx_L_8 : Cond.classLink "DarkestDayLaw" 8 "DarkestDay" ∈ TB := w_130
theorem lkx_L_13 : Cond.classLink "DarkestDayLaw" 13 "java/util/NoSuchElementException" ∈ TB := w_1268
theorem lkn_L_16 : LkN RL 16 12 := ⟨RX12, TX12, 52, rfl, rfl, by decide, uw_12, tyX12_ok, w_1334, w_1335, w_118, by decide +kernel⟩
theorem lkx_L_16 : Cond.classLink "DarkestDayLaw" 16 "DarkestDayModel" ∈ TB := w_1334
theorem lkk_X11_180 : Cond.constant RX11 180 (-1000000 : Int32) ∈ TB := w_717
theorem lkk_J6_265 : Cond.constant RJ6 265 (1431655765 : Int32) ∈ TB := w_800
theorem lkk_J6_266 : Cond.constant RJ6 266 (858993459 : Int32) ∈ TB := w_801
theorem lkk_J6_267 : Cond.constant RJ6 267 (252645135 : Int32) ∈ TB := w_802
theorem lkk_X3_31 : Cond.constant RX3 31 (-1000000 : Int32) ∈ TB := w_828
theorem lkk_X3_34 : Cond.constant RX3 34 (1000000 : Int32) ∈ TB := w_830
theorem lkk_X5_53 : Cond.constant RX5 53 (-1000000 : Int32) ∈ TB := w_984
theorem lkk_X12_380 : Cond.constant RX12 380 (-1000000 : Int32) ∈ TB := w_1724
theorem lkk_X12_475 : Cond.constant RX12 475 (1000000000 : Int32) ∈ TB := w_1979
theorem lkk_X3_29 : Cond.constantLong RX3 29 (-1000000 : Int64) ∈ TB := w_827
theorem lkk_X3_32 : Cond.constantLong RX3 32 (1000000 : Int64) ∈ TB := w_829
theorem lkk_X1_166 : Cond.constantLong RX1 166 (6364136223846793005 : Int64) ∈ TB := w_924
theorem lkk_X1_168 : Cond.constantLong RX1 168 (1442695040888963407 : Int64) ∈ TB := w_925
theorem lkk_X5_168 : Cond.constantLong RX5 168 (1000000000 : Int64) ∈ TB := w_1221
theorem lkk_X5_170 : Cond.constantLong RX5 170 (100 : Int64) ∈ TB := w_1222
theorem lkk_X12_285 : Cond.constantLong RX12 285 (2 : Int64) ∈ TB := w_1525
theorem lkk_X12_154 : Cond.constantLong RX12 154 (-1000000 : Int64) ∈ TB := w_1678
theorem lkk_X12_156 : Cond.constantLong RX12 156 (1000000 : Int64) ∈ TB := w_1679
theorem lkk_X12_378 : Cond.constantLong RX12 378 (3 : Int64) ∈ TB := w_1723
theorem lkk_X12_387 : Cond.constantLong RX12 387 (9 : Int64) ∈ TB := w_1745
theorem lkk_X12_323 : Cond.constantLong RX12 323 (30 : Int64) ∈ TB := w_1792
theorem lkk_X12_325 : Cond.constantLong RX12 325 (31 : Int64) ∈ TB := w_1793
theorem lkk_X12_327 : Cond.constantLong RX12 327 (10 : Int64) ∈ TB := w_1794
theorem lkk_X12_329 : Cond.constantLong RX12 329 (7 : Int64) ∈ TB := w_1795
theorem lkk_X12_331 : Cond.constantLong RX12 331 (100 : Int64) ∈ TB := w_1796
theorem lkk_X12_333 : Cond.constantLong RX12 333 (8191 : Int64) ∈ TB := w_1797
theorem lkk_X12_414 : Cond.constantLong RX12 414 (50 : Int64) ∈ TB := w_1844
theorem lkk_X12_424 : Cond.constantLong RX12 424 (60 : Int64) ∈ TB := w_1849
theorem lkk_X12_420 : Cond.constantLong RX12 420 (6364136223846793005 : Int64) ∈ TB := w_1854
theorem lkk_X12_422 : Cond.constantLong RX12 422 (1442695040888963407 : Int64) ∈ TB := w_1855
theorem lkk_X12_429 : Cond.constantLong RX12 429 (4 : Int64) ∈ TB := w_1860
theorem lkk_X12_449 : Cond.constantLong RX12 449 (20 : Int64) ∈ TB := w_1912
theorem lkk_X12_458 : Cond.constantLong RX12 458 (99 : Int64) ∈ TB := w_1941
theorem lkk_X12_460 : Cond.constantLong RX12 460 (999 : Int64) ∈ TB := w_1946
theorem lkk_L_88 : Cond.constantLong RL 88 (4294967295 : Int64) ∈ TB := w_2028
theorem wac_int : Cond.arrayClass Jvm.ClassFile.FieldType.int ∈ TB := w_157
theorem wac_byte : Cond.arrayClass Jvm.ClassFile.FieldType.byte ∈ TB := w_1499
theorem wac_long : Cond.arrayClass Jvm.ClassFile.FieldType.long ∈ TB := w_1500
theorem wac_boolean : Cond.arrayClass Jvm.ClassFile.FieldType.boolean ∈ TB := w_1501
theorem wac_char : Cond.arrayClass Jvm.ClassFile.FieldType.char ∈ TB := w_2048
theorem wao_Law : Cond.arrayOver (Jvm.ClassFile.FieldType.object "DarkestDay$Law") ∈ lw_tbl := w_211
theorem wao_Calendar : Cond.arrayOver (Jvm.ClassFile.FieldType.object "DarkestDay$Calendar") ∈ lw_tbl := w_213
theorem wao_State : Cond.arrayOver (Jvm.ClassFile.FieldType.object "DarkestDay$State") ∈ lw_tbl := w_331
theorem wnat : Cond.native arraycopyName ∈ TB := w_691
theorem wnatS : Cond.static arraycopyName ∈ TB := w_690
theorem wnatI : Cond.initialized "java/lang/System" ∈ TB := w_124
theorem wmiabsS : Cond.static Lib.Math.abs.name ∈ TB := w_808
theorem wmiabsC : Cond.code Lib.Math.abs.name Lib.Math.abs.code 1 (some .int) ∈ TB := w_809
theorem wmimaxS : Cond.static Lib.Math.max.name ∈ TB := w_553
theorem wmimaxC : Cond.code Lib.Math.max.name Lib.Math.max.code 2 (some .int) ∈ TB := w_554
theorem wmlmaxS : Cond.static Lib.MathLoose.max_long.x ∈ TB := w_1684
theorem wmlmaxC : Cond.code Lib.MathLoose.max_long.x Lib.MathLoose.max_long.code 4 (some .long) ∈ TB := w_1685
theorem wmiminS : Cond.static Lib.Math.min.name ∈ TB := w_687
theorem wmiminC : Cond.code Lib.Math.min.name Lib.Math.min.code 2 (some .int) ∈ TB := w_688
theorem wmlminS : Cond.static Lib.MathLoose.min_long.x ∈ TB := w_1681
theorem wmlminC : Cond.code Lib.MathLoose.min_long.x Lib.MathLoose.min_long.code 4 (some .long) ∈ TB := w_1682
theorem wmI : Cond.initialized "java/lang/Math" ∈ TB := w_119
theorem woI : Cond.instanceMethod Lib.objectInit ∈ TB := w_136
theorem woC : Cond.code Lib.objectInit ⟨#[0xb1]⟩ 1 none ∈ TB := w_137
