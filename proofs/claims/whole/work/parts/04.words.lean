/-- words on private members of nest mates: they outlast a call by rows of their own -/
def isNest : Cond → Bool
  | .fieldLinkNest .. => true
  | .methodLinkNest .. => true
  | .castable .. => true
  | .declares .. => true
  | _ => false
def NESTW : List Cond := lw_tbl.filter isNest
theorem anw {w : Cond} {L : List Cond} (hL : ∀ v ∈ L, v ∈ lw_tbl) (i : Nat) (h : L[i]? = some w) (hg : isNest w = true) : w ∈ NESTW := List.mem_filter.mpr ⟨hL w (List.mem_of_getElem? h), hg⟩
theorem anw_in {w : Cond} (h : w ∈ NESTW) : w ∈ lw_tbl := (List.mem_filter.mp h).1
theorem anw_warm {w : Cond} (h : w ∈ NESTW) {s U : State} (hW : s.WarmedH U.vm) (hZ : va_Nw w s) : va_Nw w U := by
  have h1 := (List.mem_filter.mp h).2
  cases w with
  | fieldLinkNest a i b n d c => exact va_Nw.warmF hW hZ
  | methodLinkNest a i x c => exact va_Nw.warmM hW hZ
  | castable a b => exact va_Nw.warmC hW hZ
  | declares x => exact va_Nw.warmD hW hZ
  | _ => cases h1
theorem anw_on {w : Cond} (h : w ∈ NESTW) : w.onTables = true := by
  have h1 := (List.mem_filter.mp h).2
  cases w with
  | fieldLinkNest a i b n d c => rfl
  | methodLinkNest a i x c => rfl
  | castable a b => rfl
  | declares x => rfl
  | _ => cases h1
theorem w_0 : (Cond.selects "ShadeBeams$Law" (⟨"ShadeBeams$Law", "add", "(II)V"⟩ : MethodName) (⟨"ShadeBeams$Law", "add", "(II)V"⟩ : MethodName)) ∈ ALLW := aw tp_1 0 rfl rfl
theorem w_1 : (Cond.selects "ShadeBeams" (⟨"ShadeBeams", "refresh", "()V"⟩ : MethodName) (⟨"ShadeBeams", "refresh", "()V"⟩ : MethodName)) ∈ ALLW := aw tp_1 1 rfl rfl
theorem w_2 : (Cond.selects "ShadeBeams$Ground" (⟨"ShadeBeams$Ground", "setLight", "(LShadeBeams$Street;II)V"⟩ : MethodName) (⟨"ShadeBeams$Ground", "setLight", "(LShadeBeams$Street;II)V"⟩ : MethodName)) ∈ ALLW := aw tp_1 2 rfl rfl
theorem w_3 : (Cond.selects "ShadeBeams$Ground" (⟨"ShadeBeams$Ground", "shadowOf", "(II)J"⟩ : MethodName) (⟨"ShadeBeams$Ground", "shadowOf", "(II)J"⟩ : MethodName)) ∈ ALLW := aw tp_1 3 rfl rfl
theorem w_4 : (Cond.selects "ShadeBeams$DayRun" (⟨"ShadeBeams$DayRun", "moveBeams", "(LShadeBeams$Lines;I)V"⟩ : MethodName) (⟨"ShadeBeams$DayRun", "moveBeams", "(LShadeBeams$Lines;I)V"⟩ : MethodName)) ∈ ALLW := aw tp_1 4 rfl rfl
theorem w_5 : (Cond.selects "ShadeBeams$DayRun" (⟨"ShadeBeams$DayRun", "weighCells", "(LShadeBeams$Beams;)V"⟩ : MethodName) (⟨"ShadeBeams$DayRun", "weighCells", "(LShadeBeams$Beams;)V"⟩ : MethodName)) ∈ ALLW := aw tp_1 5 rfl rfl
theorem w_6 : (Cond.selects "ShadeBeams$DayRun" (⟨"ShadeBeams$DayRun", "addWeight", "(LShadeBeams$Beams;II)V"⟩ : MethodName) (⟨"ShadeBeams$DayRun", "addWeight", "(LShadeBeams$Beams;II)V"⟩ : MethodName)) ∈ ALLW := aw tp_1 6 rfl rfl
theorem w_7 : (Cond.selects "ShadeBeams$DayRun" (⟨"ShadeBeams$DayRun", "dropBeams", "(LShadeBeams$Ground;LShadeBeams$Beams;I)V"⟩ : MethodName) (⟨"ShadeBeams$DayRun", "dropBeams", "(LShadeBeams$Ground;LShadeBeams$Beams;I)V"⟩ : MethodName)) ∈ ALLW := aw tp_1 7 rfl rfl
theorem w_8 : (Cond.selects "ShadeBeams$Ground" (⟨"ShadeBeams$Ground", "isLampLit", "(I)Z"⟩ : MethodName) (⟨"ShadeBeams$Ground", "isLampLit", "(I)Z"⟩ : MethodName)) ∈ ALLW := aw tp_1 8 rfl rfl
theorem w_9 : (Cond.selects "ShadeBeams$Ground" (⟨"ShadeBeams$Ground", "shadesIf", "(IIZ)I"⟩ : MethodName) (⟨"ShadeBeams$Ground", "shadesIf", "(IIZ)I"⟩ : MethodName)) ∈ ALLW := aw tp_1 9 rfl rfl
theorem w_10 : (Cond.selects "ShadeBeams$Ground" (⟨"ShadeBeams$Ground", "tallest", "(I)I"⟩ : MethodName) (⟨"ShadeBeams$Ground", "tallest", "(I)I"⟩ : MethodName)) ∈ ALLW := aw tp_1 10 rfl rfl
theorem w_11 : (Cond.selects "ShadeBeams" (⟨"ShadeBeams", "rightLines", "(LShadeBeams$DayRun;)I"⟩ : MethodName) (⟨"ShadeBeams", "rightLines", "(LShadeBeams$DayRun;)I"⟩ : MethodName)) ∈ ALLW := aw tp_1 11 rfl rfl
theorem w_12 : (Cond.selects "ShadeBeams" (⟨"ShadeBeams", "isRight", "(LShadeBeams$DayRun;I)Z"⟩ : MethodName) (⟨"ShadeBeams", "isRight", "(LShadeBeams$DayRun;I)Z"⟩ : MethodName)) ∈ ALLW := aw tp_1 12 rfl rfl
theorem w_13 : (Cond.selects "ShadeBeams$Beams" (⟨"ShadeBeams$Beams", "isCell", "(II)Z"⟩ : MethodName) (⟨"ShadeBeams$Beams", "isCell", "(II)Z"⟩ : MethodName)) ∈ ALLW := aw tp_1 13 rfl rfl
theorem w_14 : (Cond.selects "ShadeBeams" (⟨"ShadeBeams", "openText", "(II)V"⟩ : MethodName) (⟨"ShadeBeams", "openText", "(II)V"⟩ : MethodName)) ∈ ALLW := aw tp_1 14 rfl rfl
theorem w_15 : (Cond.selects "ShadeBeams" (⟨"ShadeBeams", "need", "(Z)V"⟩ : MethodName) (⟨"ShadeBeams", "need", "(Z)V"⟩ : MethodName)) ∈ ALLW := aw tp_1 15 rfl rfl
theorem w_16 : (Cond.selects "java/lang/Throwable" (⟨"java/lang/Throwable", "fillInStackTrace", "(I)Ljava/lang/Throwable;"⟩ : MethodName) (⟨"java/lang/Throwable", "fillInStackTrace", "(I)Ljava/lang/Throwable;"⟩ : MethodName)) ∈ ALLW := aw tp_2 0 rfl rfl
theorem w_17 : (Cond.selects "ShadeBeams$Tape" (⟨"ShadeBeams$Tape", "skipBlanks", "()V"⟩ : MethodName) (⟨"ShadeBeams$Tape", "skipBlanks", "()V"⟩ : MethodName)) ∈ ALLW := aw tp_2 1 rfl rfl
theorem w_18 : (Cond.selects "ShadeBeams$Street" (⟨"ShadeBeams$Street", "readClause", "(LShadeBeams$Tape;I)V"⟩ : MethodName) (⟨"ShadeBeams$Street", "readClause", "(LShadeBeams$Tape;I)V"⟩ : MethodName)) ∈ ALLW := aw tp_2 2 rfl rfl
theorem w_19 : (Cond.selects "ShadeBeams$Tape" (⟨"ShadeBeams$Tape", "isAt", "(CC)Z"⟩ : MethodName) (⟨"ShadeBeams$Tape", "isAt", "(CC)Z"⟩ : MethodName)) ∈ ALLW := aw tp_2 3 rfl rfl
theorem w_20 : (Cond.selects "ShadeBeams$Street" (⟨"ShadeBeams$Street", "isFull", "(I)Z"⟩ : MethodName) (⟨"ShadeBeams$Street", "isFull", "(I)Z"⟩ : MethodName)) ∈ ALLW := aw tp_2 4 rfl rfl
theorem w_21 : (Cond.selects "ShadeBeams$Street" (⟨"ShadeBeams$Street", "readNumbers", "(LShadeBeams$Tape;I)V"⟩ : MethodName) (⟨"ShadeBeams$Street", "readNumbers", "(LShadeBeams$Tape;I)V"⟩ : MethodName)) ∈ ALLW := aw tp_2 5 rfl rfl
theorem w_22 : (Cond.selects "ShadeBeams$Street" (⟨"ShadeBeams$Street", "readPost", "(LShadeBeams$Tape;)V"⟩ : MethodName) (⟨"ShadeBeams$Street", "readPost", "(LShadeBeams$Tape;)V"⟩ : MethodName)) ∈ ALLW := aw tp_2 6 rfl rfl
theorem w_23 : (Cond.selects "ShadeBeams$Street" (⟨"ShadeBeams$Street", "readSun", "(LShadeBeams$Tape;)V"⟩ : MethodName) (⟨"ShadeBeams$Street", "readSun", "(LShadeBeams$Tape;)V"⟩ : MethodName)) ∈ ALLW := aw tp_2 7 rfl rfl
theorem w_24 : (Cond.selects "ShadeBeams$Street" (⟨"ShadeBeams$Street", "readMoon", "(LShadeBeams$Tape;)V"⟩ : MethodName) (⟨"ShadeBeams$Street", "readMoon", "(LShadeBeams$Tape;)V"⟩ : MethodName)) ∈ ALLW := aw tp_2 8 rfl rfl
theorem w_25 : (Cond.selects "ShadeBeams$Street" (⟨"ShadeBeams$Street", "readCloud", "(LShadeBeams$Tape;)V"⟩ : MethodName) (⟨"ShadeBeams$Street", "readCloud", "(LShadeBeams$Tape;)V"⟩ : MethodName)) ∈ ALLW := aw tp_2 9 rfl rfl
theorem w_26 : (Cond.selects "ShadeBeams$Street" (⟨"ShadeBeams$Street", "readLamp", "(LShadeBeams$Tape;)V"⟩ : MethodName) (⟨"ShadeBeams$Street", "readLamp", "(LShadeBeams$Tape;)V"⟩ : MethodName)) ∈ ALLW := aw tp_2 10 rfl rfl
theorem w_27 : (Cond.selects "ShadeBeams$Street" (⟨"ShadeBeams$Street", "readBeam", "(LShadeBeams$Tape;)V"⟩ : MethodName) (⟨"ShadeBeams$Street", "readBeam", "(LShadeBeams$Tape;)V"⟩ : MethodName)) ∈ ALLW := aw tp_2 11 rfl rfl
theorem w_28 : (Cond.selects "ShadeBeams$Street" (⟨"ShadeBeams$Street", "readLoad", "(LShadeBeams$Tape;)V"⟩ : MethodName) (⟨"ShadeBeams$Street", "readLoad", "(LShadeBeams$Tape;)V"⟩ : MethodName)) ∈ ALLW := aw tp_2 12 rfl rfl
theorem w_29 : (Cond.selects "ShadeBeams" (⟨"ShadeBeams", "forgetStreet", "()V"⟩ : MethodName) (⟨"ShadeBeams", "forgetStreet", "()V"⟩ : MethodName)) ∈ ALLW := aw tp_2 13 rfl rfl
theorem w_30 : (Cond.selects "ShadeBeams$Law" (⟨"ShadeBeams$Law", "readSum", "(LShadeBeams$Tape;I)V"⟩ : MethodName) (⟨"ShadeBeams$Law", "readSum", "(LShadeBeams$Tape;I)V"⟩ : MethodName)) ∈ ALLW := aw tp_2 14 rfl rfl
theorem w_31 : (Cond.selects "ShadeBeams$Law" (⟨"ShadeBeams$Law", "readProduct", "(LShadeBeams$Tape;I)V"⟩ : MethodName) (⟨"ShadeBeams$Law", "readProduct", "(LShadeBeams$Tape;I)V"⟩ : MethodName)) ∈ ALLW := aw tp_2 15 rfl rfl
theorem w_32 : (Cond.selects "ShadeBeams$Law" (⟨"ShadeBeams$Law", "readUnit", "(LShadeBeams$Tape;I)V"⟩ : MethodName) (⟨"ShadeBeams$Law", "readUnit", "(LShadeBeams$Tape;I)V"⟩ : MethodName)) ∈ ALLW := aw tp_3 0 rfl rfl
theorem w_33 : (Cond.selects "ShadeBeams$Lines" (⟨"ShadeBeams$Lines", "add", "(III)V"⟩ : MethodName) (⟨"ShadeBeams$Lines", "add", "(III)V"⟩ : MethodName)) ∈ ALLW := aw tp_3 1 rfl rfl
theorem w_34 : (Cond.selects "ShadeBeams" (⟨"ShadeBeams", "needPost", "(I)V"⟩ : MethodName) (⟨"ShadeBeams", "needPost", "(I)V"⟩ : MethodName)) ∈ ALLW := aw tp_3 2 rfl rfl
theorem w_35 : (Cond.selects "ShadeBeams" (⟨"ShadeBeams", "needWhat", "(II)V"⟩ : MethodName) (⟨"ShadeBeams", "needWhat", "(II)V"⟩ : MethodName)) ∈ ALLW := aw tp_3 3 rfl rfl
theorem w_36 : (Cond.selects "ShadeBeams" (⟨"ShadeBeams", "needBeam", "(I)V"⟩ : MethodName) (⟨"ShadeBeams", "needBeam", "(I)V"⟩ : MethodName)) ∈ ALLW := aw tp_3 4 rfl rfl
theorem w_37 : (Cond.selects "ShadeBeams" (⟨"ShadeBeams", "needHour", "(I)V"⟩ : MethodName) (⟨"ShadeBeams", "needHour", "(I)V"⟩ : MethodName)) ∈ ALLW := aw tp_3 5 rfl rfl
theorem w_38 : (Cond.selects "ShadeBeams" (⟨"ShadeBeams", "needCell", "(I)V"⟩ : MethodName) (⟨"ShadeBeams", "needCell", "(I)V"⟩ : MethodName)) ∈ ALLW := aw tp_3 6 rfl rfl
theorem w_39 : (Cond.selects "ShadeBeams" (⟨"ShadeBeams", "needDay", "(I)V"⟩ : MethodName) (⟨"ShadeBeams", "needDay", "(I)V"⟩ : MethodName)) ∈ ALLW := aw tp_3 7 rfl rfl
theorem w_40 : (Cond.selects "ShadeBeams" (⟨"ShadeBeams", "needHours", "(II)V"⟩ : MethodName) (⟨"ShadeBeams", "needHours", "(II)V"⟩ : MethodName)) ∈ ALLW := aw tp_3 8 rfl rfl
theorem w_41 : (Cond.selects "ShadeBeams$Carrier" (⟨"ShadeBeams$Carrier", "cheapest", "(II)I"⟩ : MethodName) (⟨"ShadeBeams$Carrier", "cheapest", "(II)I"⟩ : MethodName)) ∈ ALLW := aw tp_3 9 rfl rfl
theorem w_42 : (Cond.selects "ShadeBeams$Carrier" (⟨"ShadeBeams$Carrier", "costBy", "(III)I"⟩ : MethodName) (⟨"ShadeBeams$Carrier", "costBy", "(III)I"⟩ : MethodName)) ∈ ALLW := aw tp_3 10 rfl rfl
theorem w_43 : (Cond.selects "ShadeBeams$Carrier" (⟨"ShadeBeams$Carrier", "firstCheapest", "(II)I"⟩ : MethodName) (⟨"ShadeBeams$Carrier", "firstCheapest", "(II)I"⟩ : MethodName)) ∈ ALLW := aw tp_3 11 rfl rfl
theorem w_44 : (Cond.selects "ShadeBeams" (⟨"ShadeBeams", "prepareTrial", "()V"⟩ : MethodName) (⟨"ShadeBeams", "prepareTrial", "()V"⟩ : MethodName)) ∈ ALLW := aw tp_3 12 rfl rfl
theorem w_45 : (Cond.selects "ShadeBeams$Lamplighter" (⟨"ShadeBeams$Lamplighter", "isGathered", "(J)Z"⟩ : MethodName) (⟨"ShadeBeams$Lamplighter", "isGathered", "(J)Z"⟩ : MethodName)) ∈ ALLW := aw tp_3 13 rfl rfl
theorem w_46 : (Cond.selects "ShadeBeams$Lamplighter" (⟨"ShadeBeams$Lamplighter", "weighWatched", "(LShadeBeams$Beams;I)V"⟩ : MethodName) (⟨"ShadeBeams$Lamplighter", "weighWatched", "(LShadeBeams$Beams;I)V"⟩ : MethodName)) ∈ ALLW := aw tp_3 14 rfl rfl
theorem w_47 : (Cond.selects "ShadeBeams" (⟨"ShadeBeams", "findLamps", "(II)Z"⟩ : MethodName) (⟨"ShadeBeams", "findLamps", "(II)Z"⟩ : MethodName)) ∈ ALLW := aw tp_3 15 rfl rfl
theorem w_48 : (Cond.selects "ShadeBeams$Lamplighter" (⟨"ShadeBeams$Lamplighter", "isPicked", "(I)Z"⟩ : MethodName) (⟨"ShadeBeams$Lamplighter", "isPicked", "(I)Z"⟩ : MethodName)) ∈ ALLW := aw tp_4 0 rfl rfl
theorem w_49 : (Cond.selects "ShadeBeams" (⟨"ShadeBeams", "keepsUp", "(IJ)Z"⟩ : MethodName) (⟨"ShadeBeams", "keepsUp", "(IJ)Z"⟩ : MethodName)) ∈ ALLW := aw tp_4 1 rfl rfl
theorem w_50 : (Cond.selects "ShadeBeams" (⟨"ShadeBeams", "goWithPost", "(II)V"⟩ : MethodName) (⟨"ShadeBeams", "goWithPost", "(II)V"⟩ : MethodName)) ∈ ALLW := aw tp_4 2 rfl rfl
theorem w_51 : (Cond.selects "ShadeBeams" (⟨"ShadeBeams", "wholeKinds", "()I"⟩ : MethodName) (⟨"ShadeBeams", "wholeKinds", "()I"⟩ : MethodName)) ∈ ALLW := aw tp_4 3 rfl rfl
theorem w_52 : (Cond.selects "ShadeBeams" (⟨"ShadeBeams", "kindOf", "(I)I"⟩ : MethodName) (⟨"ShadeBeams", "kindOf", "(I)I"⟩ : MethodName)) ∈ ALLW := aw tp_4 4 rfl rfl
theorem w_53 : (Cond.selects "ShadeBeams" (⟨"ShadeBeams", "goUnderDrawnClouds", "(II)V"⟩ : MethodName) (⟨"ShadeBeams", "goUnderDrawnClouds", "(II)V"⟩ : MethodName)) ∈ ALLW := aw tp_4 5 rfl rfl
theorem w_54 : (Cond.selects "ShadeBeamsModel" (⟨"ShadeBeamsModel", "tellsNothing", "()V"⟩ : MethodName) (⟨"ShadeBeamsModel", "tellsNothing", "()V"⟩ : MethodName)) ∈ ALLW := aw tp_4 6 rfl rfl
theorem w_55 : (Cond.selects "ShadeBeamsModel" (⟨"ShadeBeamsModel", "stands", "()V"⟩ : MethodName) (⟨"ShadeBeamsModel", "stands", "()V"⟩ : MethodName)) ∈ ALLW := aw tp_4 7 rfl rfl
theorem w_56 : (Cond.selects "ShadeBeamsModel" (⟨"ShadeBeamsModel", "bad", "(ZII)Z"⟩ : MethodName) (⟨"ShadeBeamsModel", "bad", "(ZII)Z"⟩ : MethodName)) ∈ ALLW := aw tp_4 8 rfl rfl
theorem w_57 : (Cond.selects "ShadeBeamsModel" (⟨"ShadeBeamsModel", "starts", "(I)V"⟩ : MethodName) (⟨"ShadeBeamsModel", "starts", "(I)V"⟩ : MethodName)) ∈ ALLW := aw tp_4 9 rfl rfl
theorem w_58 : (Cond.selects "ShadeBeamsModel" (⟨"ShadeBeamsModel", "blanks", "()V"⟩ : MethodName) (⟨"ShadeBeamsModel", "blanks", "()V"⟩ : MethodName)) ∈ ALLW := aw tp_4 10 rfl rfl
theorem w_59 : (Cond.selects "ShadeBeamsModel" (⟨"ShadeBeamsModel", "byteAt", "(I)I"⟩ : MethodName) (⟨"ShadeBeamsModel", "byteAt", "(I)I"⟩ : MethodName)) ∈ ALLW := aw tp_4 11 rfl rfl
theorem w_60 : (Cond.selects "ShadeBeamsModel" (⟨"ShadeBeamsModel", "clause", "()V"⟩ : MethodName) (⟨"ShadeBeamsModel", "clause", "()V"⟩ : MethodName)) ∈ ALLW := aw tp_4 12 rfl rfl
theorem w_61 : (Cond.selects "ShadeBeamsModel" (⟨"ShadeBeamsModel", "kindHere", "()I"⟩ : MethodName) (⟨"ShadeBeamsModel", "kindHere", "()I"⟩ : MethodName)) ∈ ALLW := aw tp_4 13 rfl rfl
theorem w_62 : (Cond.selects "ShadeBeamsModel" (⟨"ShadeBeamsModel", "isWord", "(IIIIII)Z"⟩ : MethodName) (⟨"ShadeBeamsModel", "isWord", "(IIIIII)Z"⟩ : MethodName)) ∈ ALLW := aw tp_4 14 rfl rfl
theorem w_63 : (Cond.selects "ShadeBeamsModel" (⟨"ShadeBeamsModel", "wordHere", "()I"⟩ : MethodName) (⟨"ShadeBeamsModel", "wordHere", "()I"⟩ : MethodName)) ∈ ALLW := aw tp_4 15 rfl rfl
theorem w_64 : (Cond.selects "ShadeBeamsModel" (⟨"ShadeBeamsModel", "wrong", "(II)V"⟩ : MethodName) (⟨"ShadeBeamsModel", "wrong", "(II)V"⟩ : MethodName)) ∈ ALLW := aw tp_5 0 rfl rfl
theorem w_65 : (Cond.selects "ShadeBeamsModel" (⟨"ShadeBeamsModel", "isFull", "(I)Z"⟩ : MethodName) (⟨"ShadeBeamsModel", "isFull", "(I)Z"⟩ : MethodName)) ∈ ALLW := aw tp_5 1 rfl rfl
theorem w_66 : (Cond.selects "ShadeBeamsModel" (⟨"ShadeBeamsModel", "skipWord", "()V"⟩ : MethodName) (⟨"ShadeBeamsModel", "skipWord", "()V"⟩ : MethodName)) ∈ ALLW := aw tp_5 2 rfl rfl
theorem w_67 : (Cond.selects "ShadeBeamsModel" (⟨"ShadeBeamsModel", "number", "(II)I"⟩ : MethodName) (⟨"ShadeBeamsModel", "number", "(II)I"⟩ : MethodName)) ∈ ALLW := aw tp_5 3 rfl rfl
theorem w_68 : (Cond.selects "ShadeBeamsModel" (⟨"ShadeBeamsModel", "postHere", "([I)V"⟩ : MethodName) (⟨"ShadeBeamsModel", "postHere", "([I)V"⟩ : MethodName)) ∈ ALLW := aw tp_5 4 rfl rfl
theorem w_69 : (Cond.selects "ShadeBeamsModel" (⟨"ShadeBeamsModel", "cellHere", "()I"⟩ : MethodName) (⟨"ShadeBeamsModel", "cellHere", "()I"⟩ : MethodName)) ∈ ALLW := aw tp_5 5 rfl rfl
theorem w_70 : (Cond.selects "ShadeBeamsModel" (⟨"ShadeBeamsModel", "sunHere", "()V"⟩ : MethodName) (⟨"ShadeBeamsModel", "sunHere", "()V"⟩ : MethodName)) ∈ ALLW := aw tp_5 6 rfl rfl
theorem w_71 : (Cond.selects "ShadeBeamsModel" (⟨"ShadeBeamsModel", "beamHere", "([I)V"⟩ : MethodName) (⟨"ShadeBeamsModel", "beamHere", "([I)V"⟩ : MethodName)) ∈ ALLW := aw tp_5 7 rfl rfl
theorem w_72 : (Cond.selects "ShadeBeamsModel" (⟨"ShadeBeamsModel", "sign", "(I)V"⟩ : MethodName) (⟨"ShadeBeamsModel", "sign", "(I)V"⟩ : MethodName)) ∈ ALLW := aw tp_5 8 rfl rfl
theorem w_73 : (Cond.selects "ShadeBeamsModel" (⟨"ShadeBeamsModel", "sum", "()V"⟩ : MethodName) (⟨"ShadeBeamsModel", "sum", "()V"⟩ : MethodName)) ∈ ALLW := aw tp_5 9 rfl rfl
theorem w_74 : (Cond.selects "ShadeBeamsModel" (⟨"ShadeBeamsModel", "product", "()V"⟩ : MethodName) (⟨"ShadeBeamsModel", "product", "()V"⟩ : MethodName)) ∈ ALLW := aw tp_5 10 rfl rfl
theorem w_75 : (Cond.selects "ShadeBeamsModel" (⟨"ShadeBeamsModel", "one", "()V"⟩ : MethodName) (⟨"ShadeBeamsModel", "one", "()V"⟩ : MethodName)) ∈ ALLW := aw tp_5 11 rfl rfl
theorem w_76 : (Cond.selects "ShadeBeamsModel" (⟨"ShadeBeamsModel", "opens", "()Z"⟩ : MethodName) (⟨"ShadeBeamsModel", "opens", "()Z"⟩ : MethodName)) ∈ ALLW := aw tp_5 12 rfl rfl
theorem w_77 : (Cond.selects "ShadeBeamsModel" (⟨"ShadeBeamsModel", "says", "(II)V"⟩ : MethodName) (⟨"ShadeBeamsModel", "says", "(II)V"⟩ : MethodName)) ∈ ALLW := aw tp_5 13 rfl rfl
theorem w_78 : (Cond.selects "ShadeBeamsModel" (⟨"ShadeBeamsModel", "takes", "(IIIIII)Z"⟩ : MethodName) (⟨"ShadeBeamsModel", "takes", "(IIIIII)Z"⟩ : MethodName)) ∈ ALLW := aw tp_5 14 rfl rfl
theorem w_79 : (Cond.selects "ShadeBeamsModel" (⟨"ShadeBeamsModel", "takesSign", "(I)Z"⟩ : MethodName) (⟨"ShadeBeamsModel", "takesSign", "(I)Z"⟩ : MethodName)) ∈ ALLW := aw tp_5 15 rfl rfl
theorem w_80 : (Cond.selects "ShadeBeamsModel" (⟨"ShadeBeamsModel", "bearingOf", "(IIII)I"⟩ : MethodName) (⟨"ShadeBeamsModel", "bearingOf", "(IIII)I"⟩ : MethodName)) ∈ ALLW := aw tp_6 0 rfl rfl
theorem w_81 : (Cond.selects "ShadeBeamsModel" (⟨"ShadeBeamsModel", "byLaw", "()I"⟩ : MethodName) (⟨"ShadeBeamsModel", "byLaw", "()I"⟩ : MethodName)) ∈ ALLW := aw tp_6 1 rfl rfl
theorem w_82 : (Cond.selects "ShadeBeamsModel" (⟨"ShadeBeamsModel", "isPost", "(I)Z"⟩ : MethodName) (⟨"ShadeBeamsModel", "isPost", "(I)Z"⟩ : MethodName)) ∈ ALLW := aw tp_6 2 rfl rfl
theorem w_83 : (Cond.selects "ShadeBeamsModel" (⟨"ShadeBeamsModel", "isBeam", "(I)Z"⟩ : MethodName) (⟨"ShadeBeamsModel", "isBeam", "(I)Z"⟩ : MethodName)) ∈ ALLW := aw tp_6 3 rfl rfl
theorem w_84 : (Cond.selects "ShadeBeamsModel" (⟨"ShadeBeamsModel", "weightOf", "(I)I"⟩ : MethodName) (⟨"ShadeBeamsModel", "weightOf", "(I)I"⟩ : MethodName)) ∈ ALLW := aw tp_6 4 rfl rfl
theorem w_85 : (Cond.selects "ShadeBeamsModel" (⟨"ShadeBeamsModel", "cloudsTold", "()I"⟩ : MethodName) (⟨"ShadeBeamsModel", "cloudsTold", "()I"⟩ : MethodName)) ∈ ALLW := aw tp_6 5 rfl rfl
theorem w_86 : (Cond.selects "ShadeBeamsModel" (⟨"ShadeBeamsModel", "lightOf", "(III)I"⟩ : MethodName) (⟨"ShadeBeamsModel", "lightOf", "(III)I"⟩ : MethodName)) ∈ ALLW := aw tp_6 6 rfl rfl
theorem w_87 : (Cond.selects "ShadeBeamsModel" (⟨"ShadeBeamsModel", "sunAt", "(I)I"⟩ : MethodName) (⟨"ShadeBeamsModel", "sunAt", "(I)I"⟩ : MethodName)) ∈ ALLW := aw tp_6 7 rfl rfl
theorem w_88 : (Cond.selects "ShadeBeamsModel" (⟨"ShadeBeamsModel", "moonOf", "(I)I"⟩ : MethodName) (⟨"ShadeBeamsModel", "moonOf", "(I)I"⟩ : MethodName)) ∈ ALLW := aw tp_6 8 rfl rfl
theorem w_89 : (Cond.selects "ShadeBeamsModel" (⟨"ShadeBeamsModel", "isCell", "(I)Z"⟩ : MethodName) (⟨"ShadeBeamsModel", "isCell", "(I)Z"⟩ : MethodName)) ∈ ALLW := aw tp_6 9 rfl rfl
theorem w_90 : (Cond.selects "ShadeBeamsModel" (⟨"ShadeBeamsModel", "laysNow", "()V"⟩ : MethodName) (⟨"ShadeBeamsModel", "laysNow", "()V"⟩ : MethodName)) ∈ ALLW := aw tp_6 10 rfl rfl
theorem w_91 : (Cond.selects "ShadeBeamsModel" (⟨"ShadeBeamsModel", "asTold", "()V"⟩ : MethodName) (⟨"ShadeBeamsModel", "asTold", "()V"⟩ : MethodName)) ∈ ALLW := aw tp_6 11 rfl rfl
theorem w_92 : (Cond.selects "ShadeBeamsModel" (⟨"ShadeBeamsModel", "lays", "(I)V"⟩ : MethodName) (⟨"ShadeBeamsModel", "lays", "(I)V"⟩ : MethodName)) ∈ ALLW := aw tp_6 12 rfl rfl
theorem w_93 : (Cond.selects "ShadeBeamsModel" (⟨"ShadeBeamsModel", "laysRaw", "(I)V"⟩ : MethodName) (⟨"ShadeBeamsModel", "laysRaw", "(I)V"⟩ : MethodName)) ∈ ALLW := aw tp_6 13 rfl rfl
theorem w_94 : (Cond.selects "ShadeBeamsModel" (⟨"ShadeBeamsModel", "laysShades", "()V"⟩ : MethodName) (⟨"ShadeBeamsModel", "laysShades", "()V"⟩ : MethodName)) ∈ ALLW := aw tp_6 14 rfl rfl
theorem w_95 : (Cond.selects "ShadeBeamsModel" (⟨"ShadeBeamsModel", "isLit", "(I)Z"⟩ : MethodName) (⟨"ShadeBeamsModel", "isLit", "(I)Z"⟩ : MethodName)) ∈ ALLW := aw tp_6 15 rfl rfl
theorem w_96 : (Cond.selects "ShadeBeamsModel" (⟨"ShadeBeamsModel", "isPosted", "(I)Z"⟩ : MethodName) (⟨"ShadeBeamsModel", "isPosted", "(I)Z"⟩ : MethodName)) ∈ ALLW := aw tp_7 0 rfl rfl
theorem w_97 : (Cond.selects "ShadeBeamsModel" (⟨"ShadeBeamsModel", "tallOf", "(I)I"⟩ : MethodName) (⟨"ShadeBeamsModel", "tallOf", "(I)I"⟩ : MethodName)) ∈ ALLW := aw tp_7 1 rfl rfl
theorem w_98 : (Cond.selects "ShadeBeamsModel" (⟨"ShadeBeamsModel", "runsNow", "()I"⟩ : MethodName) (⟨"ShadeBeamsModel", "runsNow", "()I"⟩ : MethodName)) ∈ ALLW := aw tp_7 2 rfl rfl
theorem w_99 : (Cond.selects "ShadeBeamsModel" (⟨"ShadeBeamsModel", "runs", "()I"⟩ : MethodName) (⟨"ShadeBeamsModel", "runs", "()I"⟩ : MethodName)) ∈ ALLW := aw tp_7 3 rfl rfl
theorem w_100 : (Cond.selects "ShadeBeamsModel" (⟨"ShadeBeamsModel", "rest", "(I)V"⟩ : MethodName) (⟨"ShadeBeamsModel", "rest", "(I)V"⟩ : MethodName)) ∈ ALLW := aw tp_7 4 rfl rfl
theorem w_101 : (Cond.selects "ShadeBeamsModel" (⟨"ShadeBeamsModel", "putsOf", "(II)J"⟩ : MethodName) (⟨"ShadeBeamsModel", "putsOf", "(II)J"⟩ : MethodName)) ∈ ALLW := aw tp_7 5 rfl rfl
theorem w_102 : (Cond.selects "ShadeBeamsModel" (⟨"ShadeBeamsModel", "isOver", "(II)Z"⟩ : MethodName) (⟨"ShadeBeamsModel", "isOver", "(II)Z"⟩ : MethodName)) ∈ ALLW := aw tp_7 6 rfl rfl
theorem w_103 : (Cond.selects "ShadeBeamsModel" (⟨"ShadeBeamsModel", "fallenBits", "()I"⟩ : MethodName) (⟨"ShadeBeamsModel", "fallenBits", "()I"⟩ : MethodName)) ∈ ALLW := aw tp_7 7 rfl rfl
theorem w_104 : (Cond.selects "ShadeBeamsModel" (⟨"ShadeBeamsModel", "laysCarries", "(III)V"⟩ : MethodName) (⟨"ShadeBeamsModel", "laysCarries", "(III)V"⟩ : MethodName)) ∈ ALLW := aw tp_7 8 rfl rfl
theorem w_105 : (Cond.selects "ShadeBeamsModel" (⟨"ShadeBeamsModel", "endsOf", "(I)I"⟩ : MethodName) (⟨"ShadeBeamsModel", "endsOf", "(I)I"⟩ : MethodName)) ∈ ALLW := aw tp_7 9 rfl rfl
theorem w_106 : (Cond.selects "ShadeBeamsModel" (⟨"ShadeBeamsModel", "standsAt", "(III)Z"⟩ : MethodName) (⟨"ShadeBeamsModel", "standsAt", "(III)Z"⟩ : MethodName)) ∈ ALLW := aw tp_7 10 rfl rfl
theorem w_107 : (Cond.selects "ShadeBeamsModel" (⟨"ShadeBeamsModel", "nextEnd", "(III)I"⟩ : MethodName) (⟨"ShadeBeamsModel", "nextEnd", "(III)I"⟩ : MethodName)) ∈ ALLW := aw tp_7 11 rfl rfl
theorem w_108 : (Cond.selects "ShadeBeamsModel" (⟨"ShadeBeamsModel", "lights", "(IIIIII)V"⟩ : MethodName) (⟨"ShadeBeamsModel", "lights", "(IIIIII)V"⟩ : MethodName)) ∈ ALLW := aw tp_7 12 rfl rfl
theorem w_109 : (Cond.selects "ShadeBeamsModel" (⟨"ShadeBeamsModel", "isToldPost", "(I)Z"⟩ : MethodName) (⟨"ShadeBeamsModel", "isToldPost", "(I)Z"⟩ : MethodName)) ∈ ALLW := aw tp_7 13 rfl rfl
theorem w_110 : (Cond.selects "ShadeBeamsModel" (⟨"ShadeBeamsModel", "fallsWith", "(II)I"⟩ : MethodName) (⟨"ShadeBeamsModel", "fallsWith", "(II)I"⟩ : MethodName)) ∈ ALLW := aw tp_7 14 rfl rfl
theorem w_111 : (Cond.selects "ShadeBeamsModel" (⟨"ShadeBeamsModel", "rightLines", "()I"⟩ : MethodName) (⟨"ShadeBeamsModel", "rightLines", "()I"⟩ : MethodName)) ∈ ALLW := aw tp_7 15 rfl rfl
theorem w_112 : (Cond.selects "ShadeBeamsModel" (⟨"ShadeBeamsModel", "isWhole", "(I)Z"⟩ : MethodName) (⟨"ShadeBeamsModel", "isWhole", "(I)Z"⟩ : MethodName)) ∈ ALLW := aw tp_8 0 rfl rfl
theorem w_113 : (Cond.selects "ShadeBeamsModel" (⟨"ShadeBeamsModel", "standsBy", "(III)Z"⟩ : MethodName) (⟨"ShadeBeamsModel", "standsBy", "(III)Z"⟩ : MethodName)) ∈ ALLW := aw tp_8 1 rfl rfl
theorem w_114 : (Cond.selects "ShadeBeamsModel" (⟨"ShadeBeamsModel", "drawnBits", "(II)I"⟩ : MethodName) (⟨"ShadeBeamsModel", "drawnBits", "(II)I"⟩ : MethodName)) ∈ ALLW := aw tp_8 2 rfl rfl
theorem w_115 : (Cond.selects "ShadeBeamsModel" (⟨"ShadeBeamsModel", "placesOf", "(II)I"⟩ : MethodName) (⟨"ShadeBeamsModel", "placesOf", "(II)I"⟩ : MethodName)) ∈ ALLW := aw tp_8 3 rfl rfl
theorem w_116 : (Cond.selects "ShadeBeamsModel" (⟨"ShadeBeamsModel", "changes", "()V"⟩ : MethodName) (⟨"ShadeBeamsModel", "changes", "()V"⟩ : MethodName)) ∈ ALLW := aw tp_8 4 rfl rfl
theorem w_117 : (Cond.selects "ShadeBeamsModel" (⟨"ShadeBeamsModel", "putsChanged", "([IZ)V"⟩ : MethodName) (⟨"ShadeBeamsModel", "putsChanged", "([IZ)V"⟩ : MethodName)) ∈ ALLW := aw tp_8 5 rfl rfl
theorem w_118 : (Cond.selects "ShadeBeamsModel" (⟨"ShadeBeamsModel", "keeps", "([IIZ)I"⟩ : MethodName) (⟨"ShadeBeamsModel", "keeps", "([IIZ)I"⟩ : MethodName)) ∈ ALLW := aw tp_8 6 rfl rfl
theorem w_119 : (Cond.selects "ShadeBeamsModel" (⟨"ShadeBeamsModel", "putsAll", "([IZ)V"⟩ : MethodName) (⟨"ShadeBeamsModel", "putsAll", "([IZ)V"⟩ : MethodName)) ∈ ALLW := aw tp_8 7 rfl rfl
theorem w_120 : (Jvm.Cond.initialized "ShadeBeamsLaw") ∈ ALLW := aw tb_1 0 rfl rfl
theorem w_121 : (Jvm.Cond.initialized "ShadeBeams") ∈ ALLW := aw tb_1 1 rfl rfl
theorem w_122 : (Jvm.Cond.initialized "ShadeBeams$Tape") ∈ ALLW := aw tb_1 2 rfl rfl
theorem w_123 : (Jvm.Cond.initialized "ShadeBeams$Law") ∈ ALLW := aw tb_1 3 rfl rfl
theorem w_124 : (Jvm.Cond.initialized "ShadeBeams$Lines") ∈ ALLW := aw tb_1 4 rfl rfl
theorem w_125 : (Jvm.Cond.initialized "ShadeBeams$Changes") ∈ ALLW := aw tb_1 5 rfl rfl
theorem w_126 : (Jvm.Cond.initialized "ShadeBeams$Ground") ∈ ALLW := aw tb_1 6 rfl rfl
theorem w_127 : (Jvm.Cond.initialized "ShadeBeams$DayRun") ∈ ALLW := aw tb_1 7 rfl rfl
theorem w_128 : (Jvm.Cond.initialized "ShadeBeams$Carrier") ∈ ALLW := aw tb_1 8 rfl rfl
theorem w_129 : (Jvm.Cond.initialized "ShadeBeams$Lamplighter") ∈ ALLW := aw tb_1 9 rfl rfl
theorem w_130 : (Jvm.Cond.initialized "ShadeBeams$Street") ∈ ALLW := aw tb_1 10 rfl rfl
theorem w_131 : (Jvm.Cond.initialized "ShadeBeams$Beams") ∈ ALLW := aw tb_1 11 rfl rfl
theorem w_132 : (Jvm.Cond.initialized "java/util/Arrays") ∈ ALLW := aw tb_1 12 rfl rfl
theorem w_133 : (Jvm.Cond.initialized "ShadeBeams$Image") ∈ ALLW := aw tb_1 13 rfl rfl
theorem w_134 : (Jvm.Cond.initialized "ShadeBeamsModel") ∈ ALLW := aw tb_1 14 rfl rfl
theorem w_135 : (Jvm.Cond.initialized "java/lang/Throwable") ∈ ALLW := aw tb_1 15 rfl rfl
theorem w_136 : (Jvm.Cond.initialized "java/lang/Exception") ∈ ALLW := aw tb_1 16 rfl rfl
theorem w_137 : (Jvm.Cond.initialized "java/lang/RuntimeException") ∈ ALLW := aw tb_1 17 rfl rfl
theorem w_138 : (Jvm.Cond.initialized "java/lang/IllegalArgumentException") ∈ ALLW := aw tb_1 18 rfl rfl
theorem w_139 : (Jvm.Cond.initialized "java/lang/Math") ∈ ALLW := aw tb_1 19 rfl rfl
theorem w_140 : (Jvm.Cond.initialized "java/lang/String") ∈ ALLW := aw tb_1 20 rfl rfl
theorem w_141 : (Jvm.Cond.initialized "java/lang/StringLatin1") ∈ ALLW := aw tb_1 21 rfl rfl
theorem w_142 : (Jvm.Cond.initialized "jdk/internal/util/Preconditions") ∈ ALLW := aw tb_1 22 rfl rfl
theorem w_143 : (Jvm.Cond.initialized "java/lang/StringUTF16") ∈ ALLW := aw tb_1 23 rfl rfl
theorem w_144 : (Jvm.Cond.initialized "java/lang/System") ∈ ALLW := aw tb_1 24 rfl rfl
theorem w_145 : (Jvm.Cond.initialized "java/util/NoSuchElementException") ∈ ALLW := aw tb_1 25 rfl rfl
theorem w_146 : (Jvm.Cond.initialized "java/lang/Number") ∈ ALLW := aw tb_1 26 rfl rfl
theorem w_147 : (Jvm.Cond.initialized "java/lang/Integer") ∈ ALLW := aw tb_1 27 rfl rfl
theorem w_148 : (Jvm.Cond.initialized "java/lang/IndexOutOfBoundsException") ∈ ALLW := aw tb_1 28 rfl rfl
theorem w_149 : (Jvm.Cond.initialized "java/lang/Long") ∈ ALLW := aw tb_1 29 rfl rfl
theorem w_150 : (Jvm.Cond.classLink "ShadeBeamsLaw" (8 : Nat) "ShadeBeams") ∈ ALLW := aw tb_1 30 rfl rfl
theorem w_151 : (Jvm.Cond.instantiable "ShadeBeams" (20 : Nat)) ∈ ALLW := aw tb_1 31 rfl rfl
theorem w_152 : (Jvm.Cond.methodLink "ShadeBeamsLaw" (146 : Nat) ({ cls := "ShadeBeams", name := "<init>", desc := "()V" } : Jvm.MethodName)) ∈ ALLW := aw tb_1 32 rfl rfl
theorem w_153 : (Jvm.Cond.instanceMethod ({ cls := "ShadeBeams", name := "<init>", desc := "()V" } : Jvm.MethodName)) ∈ ALLW := aw tb_1 33 rfl rfl
theorem w_154 : (Jvm.Cond.code ({ cls := "ShadeBeams", name := "<init>", desc := "()V" } : Jvm.MethodName) prog_1_method_1_code (2 : Nat) (Option.none : Option Jvm.ClassFile.FieldType)) ∈ ALLW := aw tb_1 34 rfl rfl
theorem w_155 : (Jvm.Cond.methodLink "ShadeBeams" (3 : Nat) ({ cls := "java/lang/Object", name := "<init>", desc := "()V" } : Jvm.MethodName)) ∈ ALLW := aw tb_1 35 rfl rfl
theorem w_156 : (Jvm.Cond.instanceMethod ({ cls := "java/lang/Object", name := "<init>", desc := "()V" } : Jvm.MethodName)) ∈ ALLW := aw tb_1 36 rfl rfl
theorem w_157 : (Jvm.Cond.code ({ cls := "java/lang/Object", name := "<init>", desc := "()V" } : Jvm.MethodName) object_method_1_code (1 : Nat) (Option.none : Option Jvm.ClassFile.FieldType)) ∈ ALLW := aw tb_1 37 rfl rfl
theorem w_158 : (Jvm.Cond.classLink "ShadeBeams" (9 : Nat) "ShadeBeams$Tape") ∈ ALLW := aw tb_1 38 rfl rfl
theorem w_159 : (Jvm.Cond.instantiable "ShadeBeams$Tape" (7 : Nat)) ∈ ALLW := aw tb_1 39 rfl rfl
theorem w_160 : (Jvm.Cond.methodLinkNest "ShadeBeams" (11 : Nat) ({ cls := "ShadeBeams$Tape", name := "<init>", desc := "()V" } : Jvm.MethodName) "ShadeBeams") ∈ NESTW := anw tb_1 40 rfl rfl
theorem w_161 : (Jvm.Cond.instanceMethod ({ cls := "ShadeBeams$Tape", name := "<init>", desc := "()V" } : Jvm.MethodName)) ∈ ALLW := aw tb_1 41 rfl rfl
theorem w_162 : (Jvm.Cond.code ({ cls := "ShadeBeams$Tape", name := "<init>", desc := "()V" } : Jvm.MethodName) prog_12_method_1_code (1 : Nat) (Option.none : Option Jvm.ClassFile.FieldType)) ∈ ALLW := aw tb_1 42 rfl rfl
theorem w_163 : (Jvm.Cond.methodLink "ShadeBeams$Tape" (3 : Nat) ({ cls := "java/lang/Object", name := "<init>", desc := "()V" } : Jvm.MethodName)) ∈ ALLW := aw tb_1 43 rfl rfl
theorem w_164 : (Jvm.Cond.fieldLink "ShadeBeams$Tape" (9 : Nat) "ShadeBeams$Tape" "bytes" "[B") ∈ ALLW := aw tb_1 44 rfl rfl
theorem w_165 : (Jvm.Cond.fieldLink "ShadeBeams$Tape" (19 : Nat) "ShadeBeams$Tape" "size" "I") ∈ ALLW := aw tb_1 45 rfl rfl
theorem w_166 : (Jvm.Cond.fieldLinkNest "ShadeBeams" (113 : Nat) "ShadeBeams$Tape" "size" "I" "ShadeBeams") ∈ NESTW := anw tb_1 46 rfl rfl
theorem w_167 : (Jvm.Cond.fieldLink "ShadeBeams$Tape" (28 : Nat) "ShadeBeams$Tape" "end" "I") ∈ ALLW := aw tb_1 47 rfl rfl
theorem w_168 : (Jvm.Cond.fieldLink "ShadeBeams$Tape" (31 : Nat) "ShadeBeams$Tape" "at" "I") ∈ ALLW := aw tb_1 48 rfl rfl
theorem w_169 : (Jvm.Cond.fieldLink "ShadeBeams$Tape" (34 : Nat) "ShadeBeams$Tape" "start" "I") ∈ ALLW := aw tb_1 49 rfl rfl
theorem w_170 : (Jvm.Cond.fieldLink "ShadeBeams$Tape" (37 : Nat) "ShadeBeams$Tape" "faultKind" "I") ∈ ALLW := aw tb_1 50 rfl rfl
theorem w_171 : (Jvm.Cond.fieldLink "ShadeBeams$Tape" (15 : Nat) "ShadeBeams$Tape" "faultPlace" "I") ∈ ALLW := aw tb_1 51 rfl rfl
theorem w_172 : (Jvm.Cond.fieldLinkNest "ShadeBeams" (161 : Nat) "ShadeBeams$Tape" "faultPlace" "I" "ShadeBeams") ∈ NESTW := anw tb_1 52 rfl rfl
theorem w_173 : (Jvm.Cond.laysFinal "ShadeBeams$Tape" "ShadeBeams$Tape" "bytes" "[B") ∈ ALLW := aw tb_1 53 rfl rfl
theorem w_175 : (Jvm.Cond.lays "ShadeBeams$Tape" "ShadeBeams$Tape" "size" "I") ∈ ALLW := aw tb_1 55 rfl rfl
theorem w_177 : (Jvm.Cond.lays "ShadeBeams$Tape" "ShadeBeams$Tape" "end" "I") ∈ ALLW := aw tb_1 57 rfl rfl
theorem w_179 : (Jvm.Cond.lays "ShadeBeams$Tape" "ShadeBeams$Tape" "at" "I") ∈ ALLW := aw tb_1 59 rfl rfl
theorem w_181 : (Jvm.Cond.lays "ShadeBeams$Tape" "ShadeBeams$Tape" "start" "I") ∈ ALLW := aw tb_1 61 rfl rfl
theorem w_183 : (Jvm.Cond.lays "ShadeBeams$Tape" "ShadeBeams$Tape" "faultKind" "I") ∈ ALLW := aw tb_1 63 rfl rfl
theorem w_185 : (Jvm.Cond.lays "ShadeBeams$Tape" "ShadeBeams$Tape" "faultPlace" "I") ∈ ALLW := aw tb_1 65 rfl rfl
theorem w_187 : (Jvm.Cond.superclass "ShadeBeams$Tape" "java/lang/Object") ∈ ALLW := aw tb_1 67 rfl rfl
theorem w_188 : (Jvm.Cond.arrayClass Jvm.ClassFile.FieldType.byte) ∈ ALLW := aw tb_1 68 rfl rfl
theorem w_189 : (Jvm.Cond.classLink "ShadeBeams" (20 : Nat) "ShadeBeams$Law") ∈ ALLW := aw tb_1 69 rfl rfl
theorem w_190 : (Jvm.Cond.instantiable "ShadeBeams$Law" (4 : Nat)) ∈ ALLW := aw tb_1 70 rfl rfl
theorem w_191 : (Jvm.Cond.methodLink "ShadeBeams" (22 : Nat) ({ cls := "ShadeBeams$Law", name := "<init>", desc := "()V" } : Jvm.MethodName)) ∈ ALLW := aw tb_1 71 rfl rfl
theorem w_192 : (Jvm.Cond.instanceMethod ({ cls := "ShadeBeams$Law", name := "<init>", desc := "()V" } : Jvm.MethodName)) ∈ ALLW := aw tb_1 72 rfl rfl
theorem w_193 : (Jvm.Cond.code ({ cls := "ShadeBeams$Law", name := "<init>", desc := "()V" } : Jvm.MethodName) prog_9_method_1_code (1 : Nat) (Option.none : Option Jvm.ClassFile.FieldType)) ∈ ALLW := aw tb_1 73 rfl rfl
theorem w_194 : (Jvm.Cond.methodLink "ShadeBeams$Law" (3 : Nat) ({ cls := "java/lang/Object", name := "<init>", desc := "()V" } : Jvm.MethodName)) ∈ ALLW := aw tb_1 74 rfl rfl
theorem w_195 : (Jvm.Cond.methodLink "ShadeBeams$Law" (21 : Nat) ({ cls := "ShadeBeams$Law", name := "setPlain", desc := "()V" } : Jvm.MethodName)) ∈ ALLW := aw tb_1 75 rfl rfl
theorem w_196 : (Jvm.Cond.instanceMethod ({ cls := "ShadeBeams$Law", name := "setPlain", desc := "()V" } : Jvm.MethodName)) ∈ ALLW := aw tb_1 76 rfl rfl
theorem w_197 : (Jvm.Cond.selects "ShadeBeams$Law" ({ cls := "ShadeBeams$Law", name := "setPlain", desc := "()V" } : Jvm.MethodName) ({ cls := "ShadeBeams$Law", name := "setPlain", desc := "()V" } : Jvm.MethodName)) ∈ ALLW := aw tb_1 77 rfl rfl
theorem w_198 : (Jvm.Cond.code ({ cls := "ShadeBeams$Law", name := "setPlain", desc := "()V" } : Jvm.MethodName) prog_9_method_2_code (1 : Nat) (Option.none : Option Jvm.ClassFile.FieldType)) ∈ ALLW := aw tb_1 78 rfl rfl
theorem w_199 : (Jvm.Cond.methodLink "ShadeBeams$Law" (28 : Nat) ({ cls := "ShadeBeams$Law", name := "add", desc := "(II)V" } : Jvm.MethodName)) ∈ ALLW := aw tb_1 79 rfl rfl
theorem w_201 : (Jvm.Cond.instanceMethod ({ cls := "ShadeBeams$Law", name := "add", desc := "(II)V" } : Jvm.MethodName)) ∈ ALLW := aw tb_1 81 rfl rfl
theorem w_202 : (Jvm.Cond.code ({ cls := "ShadeBeams$Law", name := "add", desc := "(II)V" } : Jvm.MethodName) prog_9_method_4_code (3 : Nat) (Option.none : Option Jvm.ClassFile.FieldType)) ∈ ALLW := aw tb_1 82 rfl rfl
theorem w_203 : (Jvm.Cond.fieldLink "ShadeBeams$Law" (9 : Nat) "ShadeBeams$Law" "step" "[I") ∈ ALLW := aw tb_1 83 rfl rfl
theorem w_204 : (Jvm.Cond.fieldLink "ShadeBeams$Law" (15 : Nat) "ShadeBeams$Law" "number" "[I") ∈ ALLW := aw tb_1 84 rfl rfl
theorem w_205 : (Jvm.Cond.fieldLink "ShadeBeams$Law" (18 : Nat) "ShadeBeams$Law" "stack" "[I") ∈ ALLW := aw tb_1 85 rfl rfl
theorem w_206 : (Jvm.Cond.fieldLink "ShadeBeams$Law" (24 : Nat) "ShadeBeams$Law" "steps" "I") ∈ ALLW := aw tb_1 86 rfl rfl
theorem w_207 : (Jvm.Cond.laysFinal "ShadeBeams$Law" "ShadeBeams$Law" "step" "[I") ∈ ALLW := aw tb_1 87 rfl rfl
theorem w_209 : (Jvm.Cond.laysFinal "ShadeBeams$Law" "ShadeBeams$Law" "number" "[I") ∈ ALLW := aw tb_1 89 rfl rfl
theorem w_211 : (Jvm.Cond.laysFinal "ShadeBeams$Law" "ShadeBeams$Law" "stack" "[I") ∈ ALLW := aw tb_1 91 rfl rfl
theorem w_213 : (Jvm.Cond.lays "ShadeBeams$Law" "ShadeBeams$Law" "steps" "I") ∈ ALLW := aw tb_1 93 rfl rfl
theorem w_215 : (Jvm.Cond.superclass "ShadeBeams$Law" "java/lang/Object") ∈ ALLW := aw tb_1 95 rfl rfl
theorem w_216 : (Jvm.Cond.arrayClass Jvm.ClassFile.FieldType.int) ∈ ALLW := aw tb_1 96 rfl rfl
theorem w_217 : (Jvm.Cond.classLink "ShadeBeams" (30 : Nat) "ShadeBeams$Lines") ∈ ALLW := aw tb_1 97 rfl rfl
theorem w_218 : (Jvm.Cond.instantiable "ShadeBeams$Lines" (4 : Nat)) ∈ ALLW := aw tb_1 98 rfl rfl
theorem w_219 : (Jvm.Cond.methodLinkNest "ShadeBeams" (32 : Nat) ({ cls := "ShadeBeams$Lines", name := "<init>", desc := "()V" } : Jvm.MethodName) "ShadeBeams") ∈ NESTW := anw tb_1 99 rfl rfl
theorem w_220 : (Jvm.Cond.instanceMethod ({ cls := "ShadeBeams$Lines", name := "<init>", desc := "()V" } : Jvm.MethodName)) ∈ ALLW := aw tb_1 100 rfl rfl
theorem w_221 : (Jvm.Cond.code ({ cls := "ShadeBeams$Lines", name := "<init>", desc := "()V" } : Jvm.MethodName) prog_10_method_1_code (1 : Nat) (Option.none : Option Jvm.ClassFile.FieldType)) ∈ ALLW := aw tb_1 101 rfl rfl
theorem w_222 : (Jvm.Cond.methodLink "ShadeBeams$Lines" (3 : Nat) ({ cls := "java/lang/Object", name := "<init>", desc := "()V" } : Jvm.MethodName)) ∈ ALLW := aw tb_1 102 rfl rfl
theorem w_223 : (Jvm.Cond.fieldLink "ShadeBeams$Lines" (9 : Nat) "ShadeBeams$Lines" "first" "[I") ∈ ALLW := aw tb_1 103 rfl rfl
theorem w_224 : (Jvm.Cond.fieldLinkNest "ShadeBeams$DayRun" (67 : Nat) "ShadeBeams$Lines" "first" "[I" "ShadeBeams") ∈ NESTW := anw tb_1 104 rfl rfl
theorem w_225 : (Jvm.Cond.fieldLinkNest "ShadeBeams$Lamplighter" (98 : Nat) "ShadeBeams$Lines" "first" "[I" "ShadeBeams") ∈ NESTW := anw tb_1 105 rfl rfl
theorem w_226 : (Jvm.Cond.fieldLinkNest "ShadeBeams" (394 : Nat) "ShadeBeams$Lines" "first" "[I" "ShadeBeams") ∈ NESTW := anw tb_1 106 rfl rfl
theorem w_227 : (Jvm.Cond.fieldLink "ShadeBeams$Lines" (15 : Nat) "ShadeBeams$Lines" "second" "[I") ∈ ALLW := aw tb_1 107 rfl rfl
theorem w_228 : (Jvm.Cond.fieldLinkNest "ShadeBeams$DayRun" (64 : Nat) "ShadeBeams$Lines" "second" "[I" "ShadeBeams") ∈ NESTW := anw tb_1 108 rfl rfl
theorem w_229 : (Jvm.Cond.fieldLinkNest "ShadeBeams$Lamplighter" (75 : Nat) "ShadeBeams$Lines" "second" "[I" "ShadeBeams") ∈ NESTW := anw tb_1 109 rfl rfl
theorem w_230 : (Jvm.Cond.fieldLinkNest "ShadeBeams" (397 : Nat) "ShadeBeams$Lines" "second" "[I" "ShadeBeams") ∈ NESTW := anw tb_1 110 rfl rfl
theorem w_231 : (Jvm.Cond.fieldLink "ShadeBeams$Lines" (18 : Nat) "ShadeBeams$Lines" "third" "[I") ∈ ALLW := aw tb_1 111 rfl rfl
theorem w_232 : (Jvm.Cond.fieldLinkNest "ShadeBeams$DayRun" (70 : Nat) "ShadeBeams$Lines" "third" "[I" "ShadeBeams") ∈ NESTW := anw tb_1 112 rfl rfl
theorem w_233 : (Jvm.Cond.fieldLinkNest "ShadeBeams$Lamplighter" (72 : Nat) "ShadeBeams$Lines" "third" "[I" "ShadeBeams") ∈ NESTW := anw tb_1 113 rfl rfl
theorem w_234 : (Jvm.Cond.fieldLink "ShadeBeams$Lines" (21 : Nat) "ShadeBeams$Lines" "number" "I") ∈ ALLW := aw tb_1 114 rfl rfl
theorem w_235 : (Jvm.Cond.fieldLinkNest "ShadeBeams$DayRun" (61 : Nat) "ShadeBeams$Lines" "number" "I" "ShadeBeams") ∈ NESTW := anw tb_1 115 rfl rfl
theorem w_236 : (Jvm.Cond.fieldLinkNest "ShadeBeams$Lamplighter" (69 : Nat) "ShadeBeams$Lines" "number" "I" "ShadeBeams") ∈ NESTW := anw tb_1 116 rfl rfl
theorem w_237 : (Jvm.Cond.fieldLinkNest "ShadeBeams" (156 : Nat) "ShadeBeams$Lines" "number" "I" "ShadeBeams") ∈ NESTW := anw tb_1 117 rfl rfl
theorem w_238 : (Jvm.Cond.laysFinal "ShadeBeams$Lines" "ShadeBeams$Lines" "first" "[I") ∈ ALLW := aw tb_1 118 rfl rfl
theorem w_240 : (Jvm.Cond.laysFinal "ShadeBeams$Lines" "ShadeBeams$Lines" "second" "[I") ∈ ALLW := aw tb_1 120 rfl rfl
theorem w_242 : (Jvm.Cond.laysFinal "ShadeBeams$Lines" "ShadeBeams$Lines" "third" "[I") ∈ ALLW := aw tb_1 122 rfl rfl
theorem w_244 : (Jvm.Cond.lays "ShadeBeams$Lines" "ShadeBeams$Lines" "number" "I") ∈ ALLW := aw tb_1 124 rfl rfl
theorem w_246 : (Jvm.Cond.superclass "ShadeBeams$Lines" "java/lang/Object") ∈ ALLW := aw tb_1 126 rfl rfl
theorem w_247 : (Jvm.Cond.classLink "ShadeBeams" (43 : Nat) "ShadeBeams$Changes") ∈ ALLW := aw tb_1 127 rfl rfl
theorem w_248 : (Jvm.Cond.instantiable "ShadeBeams$Changes" (5 : Nat)) ∈ ALLW := aw tb_1 128 rfl rfl
theorem w_249 : (Jvm.Cond.methodLinkNest "ShadeBeams" (45 : Nat) ({ cls := "ShadeBeams$Changes", name := "<init>", desc := "()V" } : Jvm.MethodName) "ShadeBeams") ∈ NESTW := anw tb_1 129 rfl rfl
theorem w_250 : (Jvm.Cond.instanceMethod ({ cls := "ShadeBeams$Changes", name := "<init>", desc := "()V" } : Jvm.MethodName)) ∈ ALLW := aw tb_1 130 rfl rfl
theorem w_251 : (Jvm.Cond.code ({ cls := "ShadeBeams$Changes", name := "<init>", desc := "()V" } : Jvm.MethodName) prog_4_method_1_code (1 : Nat) (Option.none : Option Jvm.ClassFile.FieldType)) ∈ ALLW := aw tb_1 131 rfl rfl
theorem w_252 : (Jvm.Cond.methodLink "ShadeBeams$Changes" (3 : Nat) ({ cls := "java/lang/Object", name := "<init>", desc := "()V" } : Jvm.MethodName)) ∈ ALLW := aw tb_1 132 rfl rfl
theorem w_253 : (Jvm.Cond.fieldLink "ShadeBeams$Changes" (9 : Nat) "ShadeBeams$Changes" "kind" "[I") ∈ ALLW := aw tb_1 133 rfl rfl
theorem w_254 : (Jvm.Cond.fieldLink "ShadeBeams$Changes" (15 : Nat) "ShadeBeams$Changes" "which" "[I") ∈ ALLW := aw tb_1 134 rfl rfl
theorem w_255 : (Jvm.Cond.fieldLink "ShadeBeams$Changes" (18 : Nat) "ShadeBeams$Changes" "at" "[I") ∈ ALLW := aw tb_1 135 rfl rfl
theorem w_256 : (Jvm.Cond.fieldLink "ShadeBeams$Changes" (21 : Nat) "ShadeBeams$Changes" "was" "[I") ∈ ALLW := aw tb_1 136 rfl rfl
theorem w_257 : (Jvm.Cond.fieldLink "ShadeBeams$Changes" (24 : Nat) "ShadeBeams$Changes" "number" "I") ∈ ALLW := aw tb_1 137 rfl rfl
theorem w_258 : (Jvm.Cond.fieldLinkNest "ShadeBeams" (177 : Nat) "ShadeBeams$Changes" "number" "I" "ShadeBeams") ∈ NESTW := anw tb_1 138 rfl rfl
theorem w_259 : (Jvm.Cond.laysFinal "ShadeBeams$Changes" "ShadeBeams$Changes" "kind" "[I") ∈ ALLW := aw tb_1 139 rfl rfl
theorem w_261 : (Jvm.Cond.laysFinal "ShadeBeams$Changes" "ShadeBeams$Changes" "which" "[I") ∈ ALLW := aw tb_1 141 rfl rfl
theorem w_263 : (Jvm.Cond.laysFinal "ShadeBeams$Changes" "ShadeBeams$Changes" "at" "[I") ∈ ALLW := aw tb_1 143 rfl rfl
theorem w_265 : (Jvm.Cond.laysFinal "ShadeBeams$Changes" "ShadeBeams$Changes" "was" "[I") ∈ ALLW := aw tb_1 145 rfl rfl
theorem w_267 : (Jvm.Cond.lays "ShadeBeams$Changes" "ShadeBeams$Changes" "number" "I") ∈ ALLW := aw tb_1 147 rfl rfl
theorem w_269 : (Jvm.Cond.superclass "ShadeBeams$Changes" "java/lang/Object") ∈ ALLW := aw tb_1 149 rfl rfl
theorem w_270 : (Jvm.Cond.classLink "ShadeBeams" (50 : Nat) "ShadeBeams$Image") ∈ ALLW := aw tb_1 150 rfl rfl
theorem w_272 : (Jvm.Cond.classLink "ShadeBeams" (56 : Nat) "ShadeBeams$Ground") ∈ ALLW := aw tb_1 152 rfl rfl
theorem w_273 : (Jvm.Cond.instantiable "ShadeBeams$Ground" (14 : Nat)) ∈ ALLW := aw tb_1 153 rfl rfl
theorem w_274 : (Jvm.Cond.methodLinkNest "ShadeBeams" (58 : Nat) ({ cls := "ShadeBeams$Ground", name := "<init>", desc := "()V" } : Jvm.MethodName) "ShadeBeams") ∈ NESTW := anw tb_1 154 rfl rfl
theorem w_275 : (Jvm.Cond.instanceMethod ({ cls := "ShadeBeams$Ground", name := "<init>", desc := "()V" } : Jvm.MethodName)) ∈ ALLW := aw tb_1 155 rfl rfl
theorem w_276 : (Jvm.Cond.code ({ cls := "ShadeBeams$Ground", name := "<init>", desc := "()V" } : Jvm.MethodName) prog_6_method_1_code (1 : Nat) (Option.none : Option Jvm.ClassFile.FieldType)) ∈ ALLW := aw tb_1 156 rfl rfl
theorem w_277 : (Jvm.Cond.methodLink "ShadeBeams$Ground" (3 : Nat) ({ cls := "java/lang/Object", name := "<init>", desc := "()V" } : Jvm.MethodName)) ∈ ALLW := aw tb_1 157 rfl rfl
theorem w_278 : (Jvm.Cond.fieldLink "ShadeBeams$Ground" (9 : Nat) "ShadeBeams$Ground" "postX" "[I") ∈ ALLW := aw tb_1 158 rfl rfl
theorem w_279 : (Jvm.Cond.fieldLink "ShadeBeams$Ground" (15 : Nat) "ShadeBeams$Ground" "postHigh" "[I") ∈ ALLW := aw tb_1 159 rfl rfl
theorem w_280 : (Jvm.Cond.fieldLink "ShadeBeams$Ground" (18 : Nat) "ShadeBeams$Ground" "lightKind" "[I") ∈ ALLW := aw tb_1 160 rfl rfl
theorem w_281 : (Jvm.Cond.fieldLinkNest "ShadeBeams" (234 : Nat) "ShadeBeams$Ground" "lightKind" "[I" "ShadeBeams") ∈ NESTW := anw tb_1 161 rfl rfl
theorem w_282 : (Jvm.Cond.fieldLink "ShadeBeams$Ground" (21 : Nat) "ShadeBeams$Ground" "lightLong" "[I") ∈ ALLW := aw tb_1 162 rfl rfl
theorem w_283 : (Jvm.Cond.fieldLinkNest "ShadeBeams" (237 : Nat) "ShadeBeams$Ground" "lightLong" "[I" "ShadeBeams") ∈ NESTW := anw tb_1 163 rfl rfl
theorem w_284 : (Jvm.Cond.fieldLink "ShadeBeams$Ground" (24 : Nat) "ShadeBeams$Ground" "lightWay" "[I") ∈ ALLW := aw tb_1 164 rfl rfl
theorem w_285 : (Jvm.Cond.fieldLinkNest "ShadeBeams" (240 : Nat) "ShadeBeams$Ground" "lightWay" "[I" "ShadeBeams") ∈ NESTW := anw tb_1 165 rfl rfl
theorem w_286 : (Jvm.Cond.fieldLink "ShadeBeams$Ground" (27 : Nat) "ShadeBeams$Ground" "clearShadow" "[J") ∈ ALLW := aw tb_1 166 rfl rfl
theorem w_287 : (Jvm.Cond.fieldLink "ShadeBeams$Ground" (31 : Nat) "ShadeBeams$Ground" "shadesFrom" "[I") ∈ ALLW := aw tb_1 167 rfl rfl
theorem w_288 : (Jvm.Cond.fieldLink "ShadeBeams$Ground" (34 : Nat) "ShadeBeams$Ground" "known" "[I") ∈ ALLW := aw tb_1 168 rfl rfl
theorem w_289 : (Jvm.Cond.fieldLink "ShadeBeams$Ground" (37 : Nat) "ShadeBeams$Ground" "law" "LShadeBeams$Law;") ∈ ALLW := aw tb_1 169 rfl rfl
theorem w_290 : (Jvm.Cond.fieldLink "ShadeBeams$Ground" (47 : Nat) "ShadeBeams$Ground" "wide" "I") ∈ ALLW := aw tb_1 170 rfl rfl
theorem w_291 : (Jvm.Cond.fieldLinkNest "ShadeBeams$Carrier" (24 : Nat) "ShadeBeams$Ground" "wide" "I" "ShadeBeams") ∈ NESTW := anw tb_1 171 rfl rfl
theorem w_292 : (Jvm.Cond.fieldLinkNest "ShadeBeams$Lamplighter" (48 : Nat) "ShadeBeams$Ground" "wide" "I" "ShadeBeams") ∈ NESTW := anw tb_1 172 rfl rfl
theorem w_293 : (Jvm.Cond.fieldLink "ShadeBeams$Ground" (53 : Nat) "ShadeBeams$Ground" "posts" "I") ∈ ALLW := aw tb_1 173 rfl rfl
theorem w_294 : (Jvm.Cond.fieldLink "ShadeBeams$Ground" (106 : Nat) "ShadeBeams$Ground" "cloudHours" "I") ∈ ALLW := aw tb_1 174 rfl rfl
theorem w_295 : (Jvm.Cond.fieldLink "ShadeBeams$Ground" (56 : Nat) "ShadeBeams$Ground" "postCells" "J") ∈ ALLW := aw tb_1 175 rfl rfl
theorem w_296 : (Jvm.Cond.fieldLinkNest "ShadeBeams$Lamplighter" (32 : Nat) "ShadeBeams$Ground" "lampCells" "J" "ShadeBeams") ∈ NESTW := anw tb_1 176 rfl rfl
theorem w_297 : (Jvm.Cond.fieldLink "ShadeBeams$Ground" (52 : Nat) "ShadeBeams$Ground" "lampCells" "J") ∈ ALLW := aw tb_1 177 rfl rfl
theorem w_298 : (Jvm.Cond.fieldLinkNest "ShadeBeams" (349 : Nat) "ShadeBeams$Ground" "lampCells" "J" "ShadeBeams") ∈ NESTW := anw tb_1 178 rfl rfl
theorem w_299 : (Jvm.Cond.laysFinal "ShadeBeams$Ground" "ShadeBeams$Ground" "postX" "[I") ∈ ALLW := aw tb_1 179 rfl rfl
theorem w_301 : (Jvm.Cond.laysFinal "ShadeBeams$Ground" "ShadeBeams$Ground" "postHigh" "[I") ∈ ALLW := aw tb_1 181 rfl rfl
theorem w_303 : (Jvm.Cond.laysFinal "ShadeBeams$Ground" "ShadeBeams$Ground" "lightKind" "[I") ∈ ALLW := aw tb_1 183 rfl rfl
theorem w_305 : (Jvm.Cond.laysFinal "ShadeBeams$Ground" "ShadeBeams$Ground" "lightLong" "[I") ∈ ALLW := aw tb_1 185 rfl rfl
theorem w_307 : (Jvm.Cond.laysFinal "ShadeBeams$Ground" "ShadeBeams$Ground" "lightWay" "[I") ∈ ALLW := aw tb_1 187 rfl rfl
theorem w_309 : (Jvm.Cond.laysFinal "ShadeBeams$Ground" "ShadeBeams$Ground" "clearShadow" "[J") ∈ ALLW := aw tb_1 189 rfl rfl
theorem w_311 : (Jvm.Cond.laysFinal "ShadeBeams$Ground" "ShadeBeams$Ground" "shadesFrom" "[I") ∈ ALLW := aw tb_1 191 rfl rfl
theorem w_313 : (Jvm.Cond.laysFinal "ShadeBeams$Ground" "ShadeBeams$Ground" "known" "[I") ∈ ALLW := aw tb_1 193 rfl rfl
theorem w_315 : (Jvm.Cond.lays "ShadeBeams$Ground" "ShadeBeams$Ground" "law" "LShadeBeams$Law;") ∈ ALLW := aw tb_1 195 rfl rfl
theorem w_317 : (Jvm.Cond.lays "ShadeBeams$Ground" "ShadeBeams$Ground" "wide" "I") ∈ ALLW := aw tb_1 197 rfl rfl
theorem w_319 : (Jvm.Cond.lays "ShadeBeams$Ground" "ShadeBeams$Ground" "posts" "I") ∈ ALLW := aw tb_1 199 rfl rfl
theorem w_321 : (Jvm.Cond.lays "ShadeBeams$Ground" "ShadeBeams$Ground" "cloudHours" "I") ∈ ALLW := aw tb_1 201 rfl rfl
theorem w_323 : (Jvm.Cond.lays "ShadeBeams$Ground" "ShadeBeams$Ground" "postCells" "J") ∈ ALLW := aw tb_1 203 rfl rfl
theorem w_325 : (Jvm.Cond.lays "ShadeBeams$Ground" "ShadeBeams$Ground" "lampCells" "J") ∈ ALLW := aw tb_1 205 rfl rfl
theorem w_327 : (Jvm.Cond.superclass "ShadeBeams$Ground" "java/lang/Object") ∈ ALLW := aw tb_1 207 rfl rfl
theorem w_328 : (Jvm.Cond.arrayClass Jvm.ClassFile.FieldType.long) ∈ ALLW := aw tb_1 208 rfl rfl
theorem w_329 : (Jvm.Cond.classLink "ShadeBeams" (66 : Nat) "ShadeBeams$DayRun") ∈ ALLW := aw tb_1 209 rfl rfl
theorem w_330 : (Jvm.Cond.instantiable "ShadeBeams$DayRun" (7 : Nat)) ∈ ALLW := aw tb_1 210 rfl rfl
theorem w_331 : (Jvm.Cond.methodLinkNest "ShadeBeams" (68 : Nat) ({ cls := "ShadeBeams$DayRun", name := "<init>", desc := "()V" } : Jvm.MethodName) "ShadeBeams") ∈ NESTW := anw tb_1 211 rfl rfl
theorem w_332 : (Jvm.Cond.instanceMethod ({ cls := "ShadeBeams$DayRun", name := "<init>", desc := "()V" } : Jvm.MethodName)) ∈ ALLW := aw tb_1 212 rfl rfl
theorem w_333 : (Jvm.Cond.code ({ cls := "ShadeBeams$DayRun", name := "<init>", desc := "()V" } : Jvm.MethodName) prog_5_method_1_code (1 : Nat) (Option.none : Option Jvm.ClassFile.FieldType)) ∈ ALLW := aw tb_1 213 rfl rfl
theorem w_334 : (Jvm.Cond.methodLink "ShadeBeams$DayRun" (3 : Nat) ({ cls := "java/lang/Object", name := "<init>", desc := "()V" } : Jvm.MethodName)) ∈ ALLW := aw tb_1 214 rfl rfl
theorem w_335 : (Jvm.Cond.fieldLink "ShadeBeams$DayRun" (9 : Nat) "ShadeBeams$DayRun" "place" "[I") ∈ ALLW := aw tb_1 215 rfl rfl
theorem w_336 : (Jvm.Cond.fieldLink "ShadeBeams$DayRun" (15 : Nat) "ShadeBeams$DayRun" "fallHour" "[I") ∈ ALLW := aw tb_1 216 rfl rfl
theorem w_337 : (Jvm.Cond.fieldLinkNest "ShadeBeams" (278 : Nat) "ShadeBeams$DayRun" "fallHour" "[I" "ShadeBeams") ∈ NESTW := anw tb_1 217 rfl rfl
theorem w_338 : (Jvm.Cond.fieldLink "ShadeBeams$DayRun" (18 : Nat) "ShadeBeams$DayRun" "fallOrder" "[I") ∈ ALLW := aw tb_1 218 rfl rfl
theorem w_339 : (Jvm.Cond.fieldLinkNest "ShadeBeams" (290 : Nat) "ShadeBeams$DayRun" "fallOrder" "[I" "ShadeBeams") ∈ NESTW := anw tb_1 219 rfl rfl
theorem w_340 : (Jvm.Cond.fieldLink "ShadeBeams$DayRun" (21 : Nat) "ShadeBeams$DayRun" "placesBehind" "[I") ∈ ALLW := aw tb_1 220 rfl rfl
theorem w_341 : (Jvm.Cond.fieldLink "ShadeBeams$DayRun" (24 : Nat) "ShadeBeams$DayRun" "rest" "[J") ∈ ALLW := aw tb_1 221 rfl rfl
theorem w_342 : (Jvm.Cond.fieldLink "ShadeBeams$DayRun" (28 : Nat) "ShadeBeams$DayRun" "fallenNumber" "I") ∈ ALLW := aw tb_1 222 rfl rfl
theorem w_343 : (Jvm.Cond.fieldLinkNest "ShadeBeams" (287 : Nat) "ShadeBeams$DayRun" "fallenNumber" "I" "ShadeBeams") ∈ NESTW := anw tb_1 223 rfl rfl
theorem w_344 : (Jvm.Cond.fieldLink "ShadeBeams$DayRun" (32 : Nat) "ShadeBeams$DayRun" "fallenBits" "I") ∈ ALLW := aw tb_1 224 rfl rfl
theorem w_345 : (Jvm.Cond.fieldLinkNest "ShadeBeams" (284 : Nat) "ShadeBeams$DayRun" "fallenBits" "I" "ShadeBeams") ∈ NESTW := anw tb_1 225 rfl rfl
theorem w_346 : (Jvm.Cond.laysFinal "ShadeBeams$DayRun" "ShadeBeams$DayRun" "place" "[I") ∈ ALLW := aw tb_1 226 rfl rfl
theorem w_348 : (Jvm.Cond.laysFinal "ShadeBeams$DayRun" "ShadeBeams$DayRun" "fallHour" "[I") ∈ ALLW := aw tb_1 228 rfl rfl
theorem w_350 : (Jvm.Cond.laysFinal "ShadeBeams$DayRun" "ShadeBeams$DayRun" "fallOrder" "[I") ∈ ALLW := aw tb_1 230 rfl rfl
theorem w_352 : (Jvm.Cond.laysFinal "ShadeBeams$DayRun" "ShadeBeams$DayRun" "placesBehind" "[I") ∈ ALLW := aw tb_1 232 rfl rfl
theorem w_354 : (Jvm.Cond.laysFinal "ShadeBeams$DayRun" "ShadeBeams$DayRun" "rest" "[J") ∈ ALLW := aw tb_1 234 rfl rfl
theorem w_356 : (Jvm.Cond.lays "ShadeBeams$DayRun" "ShadeBeams$DayRun" "fallenNumber" "I") ∈ ALLW := aw tb_1 236 rfl rfl
theorem w_358 : (Jvm.Cond.lays "ShadeBeams$DayRun" "ShadeBeams$DayRun" "fallenBits" "I") ∈ ALLW := aw tb_1 238 rfl rfl
theorem w_360 : (Jvm.Cond.superclass "ShadeBeams$DayRun" "java/lang/Object") ∈ ALLW := aw tb_2 0 rfl rfl
theorem w_361 : (Jvm.Cond.classLink "ShadeBeams" (76 : Nat) "ShadeBeams$Carrier") ∈ ALLW := aw tb_2 1 rfl rfl
theorem w_362 : (Jvm.Cond.instantiable "ShadeBeams$Carrier" (4 : Nat)) ∈ ALLW := aw tb_2 2 rfl rfl
theorem w_363 : (Jvm.Cond.methodLinkNest "ShadeBeams" (78 : Nat) ({ cls := "ShadeBeams$Carrier", name := "<init>", desc := "()V" } : Jvm.MethodName) "ShadeBeams") ∈ NESTW := anw tb_2 3 rfl rfl
theorem w_364 : (Jvm.Cond.instanceMethod ({ cls := "ShadeBeams$Carrier", name := "<init>", desc := "()V" } : Jvm.MethodName)) ∈ ALLW := aw tb_2 4 rfl rfl
theorem w_365 : (Jvm.Cond.code ({ cls := "ShadeBeams$Carrier", name := "<init>", desc := "()V" } : Jvm.MethodName) prog_3_method_1_code (1 : Nat) (Option.none : Option Jvm.ClassFile.FieldType)) ∈ ALLW := aw tb_2 5 rfl rfl
theorem w_366 : (Jvm.Cond.methodLink "ShadeBeams$Carrier" (3 : Nat) ({ cls := "java/lang/Object", name := "<init>", desc := "()V" } : Jvm.MethodName)) ∈ ALLW := aw tb_2 6 rfl rfl
theorem w_367 : (Jvm.Cond.fieldLink "ShadeBeams$Carrier" (9 : Nat) "ShadeBeams$Carrier" "cost" "[I") ∈ ALLW := aw tb_2 7 rfl rfl
theorem w_368 : (Jvm.Cond.fieldLink "ShadeBeams$Carrier" (20 : Nat) "ShadeBeams$Carrier" "start" "I") ∈ ALLW := aw tb_2 8 rfl rfl
theorem w_369 : (Jvm.Cond.fieldLink "ShadeBeams$Carrier" (38 : Nat) "ShadeBeams$Carrier" "lefts" "I") ∈ ALLW := aw tb_2 9 rfl rfl
theorem w_370 : (Jvm.Cond.fieldLink "ShadeBeams$Carrier" (41 : Nat) "ShadeBeams$Carrier" "from" "I") ∈ ALLW := aw tb_2 10 rfl rfl
theorem w_371 : (Jvm.Cond.laysFinal "ShadeBeams$Carrier" "ShadeBeams$Carrier" "cost" "[I") ∈ ALLW := aw tb_2 11 rfl rfl
theorem w_373 : (Jvm.Cond.lays "ShadeBeams$Carrier" "ShadeBeams$Carrier" "start" "I") ∈ ALLW := aw tb_2 13 rfl rfl
theorem w_375 : (Jvm.Cond.lays "ShadeBeams$Carrier" "ShadeBeams$Carrier" "lefts" "I") ∈ ALLW := aw tb_2 15 rfl rfl
theorem w_377 : (Jvm.Cond.lays "ShadeBeams$Carrier" "ShadeBeams$Carrier" "from" "I") ∈ ALLW := aw tb_2 17 rfl rfl
theorem w_379 : (Jvm.Cond.superclass "ShadeBeams$Carrier" "java/lang/Object") ∈ ALLW := aw tb_2 19 rfl rfl
theorem w_380 : (Jvm.Cond.classLink "ShadeBeams" (83 : Nat) "ShadeBeams$Lamplighter") ∈ ALLW := aw tb_2 20 rfl rfl
theorem w_381 : (Jvm.Cond.instantiable "ShadeBeams$Lamplighter" (8 : Nat)) ∈ ALLW := aw tb_2 21 rfl rfl
theorem w_382 : (Jvm.Cond.methodLinkNest "ShadeBeams" (85 : Nat) ({ cls := "ShadeBeams$Lamplighter", name := "<init>", desc := "()V" } : Jvm.MethodName) "ShadeBeams") ∈ NESTW := anw tb_2 22 rfl rfl
theorem w_383 : (Jvm.Cond.instanceMethod ({ cls := "ShadeBeams$Lamplighter", name := "<init>", desc := "()V" } : Jvm.MethodName)) ∈ ALLW := aw tb_2 23 rfl rfl
theorem w_384 : (Jvm.Cond.code ({ cls := "ShadeBeams$Lamplighter", name := "<init>", desc := "()V" } : Jvm.MethodName) prog_8_method_1_code (1 : Nat) (Option.none : Option Jvm.ClassFile.FieldType)) ∈ ALLW := aw tb_2 24 rfl rfl
theorem w_385 : (Jvm.Cond.methodLink "ShadeBeams$Lamplighter" (3 : Nat) ({ cls := "java/lang/Object", name := "<init>", desc := "()V" } : Jvm.MethodName)) ∈ ALLW := aw tb_2 25 rfl rfl
theorem w_386 : (Jvm.Cond.fieldLink "ShadeBeams$Lamplighter" (9 : Nat) "ShadeBeams$Lamplighter" "cell" "[I") ∈ ALLW := aw tb_2 26 rfl rfl
theorem w_387 : (Jvm.Cond.fieldLink "ShadeBeams$Lamplighter" (15 : Nat) "ShadeBeams$Lamplighter" "reached" "[J") ∈ ALLW := aw tb_2 27 rfl rfl
theorem w_388 : (Jvm.Cond.fieldLink "ShadeBeams$Lamplighter" (19 : Nat) "ShadeBeams$Lamplighter" "picked" "[I") ∈ ALLW := aw tb_2 28 rfl rfl
theorem w_389 : (Jvm.Cond.fieldLink "ShadeBeams$Lamplighter" (22 : Nat) "ShadeBeams$Lamplighter" "place" "[I") ∈ ALLW := aw tb_2 29 rfl rfl
theorem w_390 : (Jvm.Cond.fieldLink "ShadeBeams$Lamplighter" (25 : Nat) "ShadeBeams$Lamplighter" "rest" "[J") ∈ ALLW := aw tb_2 30 rfl rfl
theorem w_391 : (Jvm.Cond.fieldLink "ShadeBeams$Lamplighter" (44 : Nat) "ShadeBeams$Lamplighter" "number" "I") ∈ ALLW := aw tb_2 31 rfl rfl
theorem w_392 : (Jvm.Cond.fieldLink "ShadeBeams$Lamplighter" (86 : Nat) "ShadeBeams$Lamplighter" "neededLit" "J") ∈ ALLW := aw tb_2 32 rfl rfl
theorem w_393 : (Jvm.Cond.fieldLink "ShadeBeams$Lamplighter" (89 : Nat) "ShadeBeams$Lamplighter" "neededDark" "J") ∈ ALLW := aw tb_2 33 rfl rfl
theorem w_394 : (Jvm.Cond.laysFinal "ShadeBeams$Lamplighter" "ShadeBeams$Lamplighter" "cell" "[I") ∈ ALLW := aw tb_2 34 rfl rfl
theorem w_396 : (Jvm.Cond.laysFinal "ShadeBeams$Lamplighter" "ShadeBeams$Lamplighter" "reached" "[J") ∈ ALLW := aw tb_2 36 rfl rfl
theorem w_398 : (Jvm.Cond.laysFinal "ShadeBeams$Lamplighter" "ShadeBeams$Lamplighter" "picked" "[I") ∈ ALLW := aw tb_2 38 rfl rfl
theorem w_400 : (Jvm.Cond.laysFinal "ShadeBeams$Lamplighter" "ShadeBeams$Lamplighter" "place" "[I") ∈ ALLW := aw tb_2 40 rfl rfl
theorem w_402 : (Jvm.Cond.laysFinal "ShadeBeams$Lamplighter" "ShadeBeams$Lamplighter" "rest" "[J") ∈ ALLW := aw tb_2 42 rfl rfl
theorem w_404 : (Jvm.Cond.lays "ShadeBeams$Lamplighter" "ShadeBeams$Lamplighter" "number" "I") ∈ ALLW := aw tb_2 44 rfl rfl
theorem w_406 : (Jvm.Cond.lays "ShadeBeams$Lamplighter" "ShadeBeams$Lamplighter" "neededLit" "J") ∈ ALLW := aw tb_2 46 rfl rfl
theorem w_408 : (Jvm.Cond.lays "ShadeBeams$Lamplighter" "ShadeBeams$Lamplighter" "neededDark" "J") ∈ ALLW := aw tb_2 48 rfl rfl
theorem w_410 : (Jvm.Cond.superclass "ShadeBeams$Lamplighter" "java/lang/Object") ∈ ALLW := aw tb_2 50 rfl rfl
theorem w_411 : (Jvm.Cond.classLink "ShadeBeams" (90 : Nat) "ShadeBeams$Street") ∈ ALLW := aw tb_2 51 rfl rfl
theorem w_412 : (Jvm.Cond.instantiable "ShadeBeams$Street" (17 : Nat)) ∈ ALLW := aw tb_2 52 rfl rfl
theorem w_413 : (Jvm.Cond.methodLink "ShadeBeams" (92 : Nat) ({ cls := "ShadeBeams$Street", name := "<init>", desc := "()V" } : Jvm.MethodName)) ∈ ALLW := aw tb_2 53 rfl rfl
theorem w_414 : (Jvm.Cond.instanceMethod ({ cls := "ShadeBeams$Street", name := "<init>", desc := "()V" } : Jvm.MethodName)) ∈ ALLW := aw tb_2 54 rfl rfl
theorem w_415 : (Jvm.Cond.code ({ cls := "ShadeBeams$Street", name := "<init>", desc := "()V" } : Jvm.MethodName) prog_11_method_1_code (1 : Nat) (Option.none : Option Jvm.ClassFile.FieldType)) ∈ ALLW := aw tb_2 55 rfl rfl
theorem w_416 : (Jvm.Cond.methodLink "ShadeBeams$Street" (3 : Nat) ({ cls := "java/lang/Object", name := "<init>", desc := "()V" } : Jvm.MethodName)) ∈ ALLW := aw tb_2 56 rfl rfl
theorem w_417 : (Jvm.Cond.classLink "ShadeBeams$Street" (33 : Nat) "ShadeBeams$Beams") ∈ ALLW := aw tb_2 57 rfl rfl
theorem w_418 : (Jvm.Cond.instantiable "ShadeBeams$Beams" (7 : Nat)) ∈ ALLW := aw tb_2 58 rfl rfl
theorem w_419 : (Jvm.Cond.methodLinkNest "ShadeBeams$Street" (35 : Nat) ({ cls := "ShadeBeams$Beams", name := "<init>", desc := "()V" } : Jvm.MethodName) "ShadeBeams") ∈ NESTW := anw tb_2 59 rfl rfl
theorem w_420 : (Jvm.Cond.instanceMethod ({ cls := "ShadeBeams$Beams", name := "<init>", desc := "()V" } : Jvm.MethodName)) ∈ ALLW := aw tb_2 60 rfl rfl
theorem w_421 : (Jvm.Cond.code ({ cls := "ShadeBeams$Beams", name := "<init>", desc := "()V" } : Jvm.MethodName) prog_2_method_1_code (1 : Nat) (Option.none : Option Jvm.ClassFile.FieldType)) ∈ ALLW := aw tb_2 61 rfl rfl
theorem w_422 : (Jvm.Cond.methodLink "ShadeBeams$Beams" (3 : Nat) ({ cls := "java/lang/Object", name := "<init>", desc := "()V" } : Jvm.MethodName)) ∈ ALLW := aw tb_2 62 rfl rfl
theorem w_423 : (Jvm.Cond.fieldLink "ShadeBeams$Beams" (9 : Nat) "ShadeBeams$Beams" "x" "[I") ∈ ALLW := aw tb_2 63 rfl rfl
theorem w_424 : (Jvm.Cond.fieldLinkNest "ShadeBeams$Carrier" (15 : Nat) "ShadeBeams$Beams" "x" "[I" "ShadeBeams") ∈ NESTW := anw tb_2 64 rfl rfl
theorem w_425 : (Jvm.Cond.fieldLinkNest "ShadeBeams$Image" (43 : Nat) "ShadeBeams$Beams" "x" "[I" "ShadeBeams") ∈ NESTW := anw tb_2 65 rfl rfl
theorem w_426 : (Jvm.Cond.fieldLinkNest "ShadeBeams$DayRun" (40 : Nat) "ShadeBeams$Beams" "x" "[I" "ShadeBeams") ∈ NESTW := anw tb_2 66 rfl rfl
theorem w_427 : (Jvm.Cond.fieldLinkNest "ShadeBeams$Changes" (37 : Nat) "ShadeBeams$Beams" "x" "[I" "ShadeBeams") ∈ NESTW := anw tb_2 67 rfl rfl
theorem w_428 : (Jvm.Cond.fieldLinkNest "ShadeBeams$Lamplighter" (62 : Nat) "ShadeBeams$Beams" "x" "[I" "ShadeBeams") ∈ NESTW := anw tb_2 68 rfl rfl
theorem w_429 : (Jvm.Cond.fieldLinkNest "ShadeBeams" (211 : Nat) "ShadeBeams$Beams" "x" "[I" "ShadeBeams") ∈ NESTW := anw tb_2 69 rfl rfl
theorem w_430 : (Jvm.Cond.fieldLink "ShadeBeams$Beams" (15 : Nat) "ShadeBeams$Beams" "cells" "[I") ∈ ALLW := aw tb_2 70 rfl rfl
theorem w_431 : (Jvm.Cond.fieldLinkNest "ShadeBeams$Carrier" (29 : Nat) "ShadeBeams$Beams" "cells" "[I" "ShadeBeams") ∈ NESTW := anw tb_2 71 rfl rfl
theorem w_432 : (Jvm.Cond.fieldLinkNest "ShadeBeams$Lines" (57 : Nat) "ShadeBeams$Beams" "cells" "[I" "ShadeBeams") ∈ NESTW := anw tb_2 72 rfl rfl
theorem w_433 : (Jvm.Cond.fieldLinkNest "ShadeBeams" (214 : Nat) "ShadeBeams$Beams" "cells" "[I" "ShadeBeams") ∈ NESTW := anw tb_2 73 rfl rfl
theorem w_434 : (Jvm.Cond.fieldLinkNest "ShadeBeams$Street" (179 : Nat) "ShadeBeams$Beams" "cells" "[I" "ShadeBeams") ∈ NESTW := anw tb_2 74 rfl rfl
theorem w_435 : (Jvm.Cond.fieldLinkNest "ShadeBeams$Ground" (159 : Nat) "ShadeBeams$Beams" "cells" "[I" "ShadeBeams") ∈ NESTW := anw tb_2 75 rfl rfl
theorem w_436 : (Jvm.Cond.fieldLink "ShadeBeams$Beams" (18 : Nat) "ShadeBeams$Beams" "heavy" "[I") ∈ ALLW := aw tb_2 76 rfl rfl
theorem w_437 : (Jvm.Cond.fieldLinkNest "ShadeBeams" (217 : Nat) "ShadeBeams$Beams" "heavy" "[I" "ShadeBeams") ∈ NESTW := anw tb_2 77 rfl rfl
theorem w_438 : (Jvm.Cond.fieldLink "ShadeBeams$Beams" (21 : Nat) "ShadeBeams$Beams" "loads" "[I") ∈ ALLW := aw tb_2 78 rfl rfl
theorem w_439 : (Jvm.Cond.fieldLinkNest "ShadeBeams$Image" (48 : Nat) "ShadeBeams$Beams" "loads" "[I" "ShadeBeams") ∈ NESTW := anw tb_2 79 rfl rfl
theorem w_440 : (Jvm.Cond.fieldLink "ShadeBeams$Beams" (24 : Nat) "ShadeBeams$Beams" "onLeft" "[J") ∈ ALLW := aw tb_2 80 rfl rfl
theorem w_441 : (Jvm.Cond.fieldLinkNest "ShadeBeams$DayRun" (87 : Nat) "ShadeBeams$Beams" "onLeft" "[J" "ShadeBeams") ∈ NESTW := anw tb_2 81 rfl rfl
theorem w_442 : (Jvm.Cond.fieldLinkNest "ShadeBeams$Lamplighter" (113 : Nat) "ShadeBeams$Beams" "onLeft" "[J" "ShadeBeams") ∈ NESTW := anw tb_2 82 rfl rfl
theorem w_443 : (Jvm.Cond.fieldLinkNest "ShadeBeams$Ground" (153 : Nat) "ShadeBeams$Beams" "onLeft" "[J" "ShadeBeams") ∈ NESTW := anw tb_2 83 rfl rfl
theorem w_444 : (Jvm.Cond.fieldLinkNest "ShadeBeams" (271 : Nat) "ShadeBeams$Beams" "onLeft" "[J" "ShadeBeams") ∈ NESTW := anw tb_2 84 rfl rfl
theorem w_445 : (Jvm.Cond.fieldLink "ShadeBeams$Beams" (28 : Nat) "ShadeBeams$Beams" "onRight" "[J") ∈ ALLW := aw tb_2 85 rfl rfl
theorem w_446 : (Jvm.Cond.fieldLinkNest "ShadeBeams$DayRun" (90 : Nat) "ShadeBeams$Beams" "onRight" "[J" "ShadeBeams") ∈ NESTW := anw tb_2 86 rfl rfl
theorem w_447 : (Jvm.Cond.fieldLinkNest "ShadeBeams$Lamplighter" (116 : Nat) "ShadeBeams$Beams" "onRight" "[J" "ShadeBeams") ∈ NESTW := anw tb_2 87 rfl rfl
theorem w_448 : (Jvm.Cond.fieldLinkNest "ShadeBeams$Ground" (156 : Nat) "ShadeBeams$Beams" "onRight" "[J" "ShadeBeams") ∈ NESTW := anw tb_2 88 rfl rfl
theorem w_449 : (Jvm.Cond.fieldLinkNest "ShadeBeams" (275 : Nat) "ShadeBeams$Beams" "onRight" "[J" "ShadeBeams") ∈ NESTW := anw tb_2 89 rfl rfl
theorem w_450 : (Jvm.Cond.fieldLink "ShadeBeams$Beams" (31 : Nat) "ShadeBeams$Beams" "number" "I") ∈ ALLW := aw tb_2 90 rfl rfl
theorem w_451 : (Jvm.Cond.fieldLinkNest "ShadeBeams$DayRun" (35 : Nat) "ShadeBeams$Beams" "number" "I" "ShadeBeams") ∈ NESTW := anw tb_2 91 rfl rfl
theorem w_452 : (Jvm.Cond.fieldLinkNest "ShadeBeams$Lines" (51 : Nat) "ShadeBeams$Beams" "number" "I" "ShadeBeams") ∈ NESTW := anw tb_2 92 rfl rfl
theorem w_453 : (Jvm.Cond.fieldLinkNest "ShadeBeams$Image" (57 : Nat) "ShadeBeams$Beams" "number" "I" "ShadeBeams") ∈ NESTW := anw tb_2 93 rfl rfl
theorem w_454 : (Jvm.Cond.fieldLinkNest "ShadeBeams" (139 : Nat) "ShadeBeams$Beams" "number" "I" "ShadeBeams") ∈ NESTW := anw tb_2 94 rfl rfl
theorem w_455 : (Jvm.Cond.fieldLinkNest "ShadeBeams$Lamplighter" (59 : Nat) "ShadeBeams$Beams" "number" "I" "ShadeBeams") ∈ NESTW := anw tb_2 95 rfl rfl
theorem w_456 : (Jvm.Cond.fieldLinkNest "ShadeBeams$Street" (134 : Nat) "ShadeBeams$Beams" "number" "I" "ShadeBeams") ∈ NESTW := anw tb_2 96 rfl rfl
theorem w_457 : (Jvm.Cond.laysFinal "ShadeBeams$Beams" "ShadeBeams$Beams" "x" "[I") ∈ ALLW := aw tb_2 97 rfl rfl
theorem w_459 : (Jvm.Cond.laysFinal "ShadeBeams$Beams" "ShadeBeams$Beams" "cells" "[I") ∈ ALLW := aw tb_2 99 rfl rfl
theorem w_461 : (Jvm.Cond.laysFinal "ShadeBeams$Beams" "ShadeBeams$Beams" "heavy" "[I") ∈ ALLW := aw tb_2 101 rfl rfl
theorem w_463 : (Jvm.Cond.laysFinal "ShadeBeams$Beams" "ShadeBeams$Beams" "loads" "[I") ∈ ALLW := aw tb_2 103 rfl rfl
theorem w_465 : (Jvm.Cond.laysFinal "ShadeBeams$Beams" "ShadeBeams$Beams" "onLeft" "[J") ∈ ALLW := aw tb_2 105 rfl rfl
theorem w_467 : (Jvm.Cond.laysFinal "ShadeBeams$Beams" "ShadeBeams$Beams" "onRight" "[J") ∈ ALLW := aw tb_2 107 rfl rfl
theorem w_469 : (Jvm.Cond.lays "ShadeBeams$Beams" "ShadeBeams$Beams" "number" "I") ∈ ALLW := aw tb_2 109 rfl rfl
theorem w_471 : (Jvm.Cond.superclass "ShadeBeams$Beams" "java/lang/Object") ∈ ALLW := aw tb_2 111 rfl rfl
theorem w_472 : (Jvm.Cond.methodLink "ShadeBeams$Street" (40 : Nat) ({ cls := "ShadeBeams$Street", name := "clear", desc := "()V" } : Jvm.MethodName)) ∈ ALLW := aw tb_2 112 rfl rfl
theorem w_473 : (Jvm.Cond.instanceMethod ({ cls := "ShadeBeams$Street", name := "clear", desc := "()V" } : Jvm.MethodName)) ∈ ALLW := aw tb_2 113 rfl rfl
theorem w_474 : (Jvm.Cond.selects "ShadeBeams$Street" ({ cls := "ShadeBeams$Street", name := "clear", desc := "()V" } : Jvm.MethodName) ({ cls := "ShadeBeams$Street", name := "clear", desc := "()V" } : Jvm.MethodName)) ∈ ALLW := aw tb_2 114 rfl rfl
theorem w_475 : (Jvm.Cond.code ({ cls := "ShadeBeams$Street", name := "clear", desc := "()V" } : Jvm.MethodName) prog_11_method_2_code (1 : Nat) (Option.none : Option Jvm.ClassFile.FieldType)) ∈ ALLW := aw tb_2 115 rfl rfl
theorem w_476 : (Jvm.Cond.methodLink "ShadeBeams$Street" (72 : Nat) ({ cls := "java/util/Arrays", name := "fill", desc := "([II)V" } : Jvm.MethodName)) ∈ ALLW := aw tb_2 116 rfl rfl
theorem w_477 : (Jvm.Cond.static ({ cls := "java/util/Arrays", name := "fill", desc := "([II)V" } : Jvm.MethodName)) ∈ ALLW := aw tb_2 117 rfl rfl
theorem w_478 : (Jvm.Cond.code ({ cls := "java/util/Arrays", name := "fill", desc := "([II)V" } : Jvm.MethodName) prog_33_method_103_code (4 : Nat) (Option.none : Option Jvm.ClassFile.FieldType)) ∈ ALLW := aw tb_2 118 rfl rfl
theorem w_479 : (Jvm.Cond.methodLink "ShadeBeams$Street" (78 : Nat) ({ cls := "ShadeBeams$Beams", name := "clear", desc := "()V" } : Jvm.MethodName)) ∈ ALLW := aw tb_2 119 rfl rfl
theorem w_480 : (Jvm.Cond.instanceMethod ({ cls := "ShadeBeams$Beams", name := "clear", desc := "()V" } : Jvm.MethodName)) ∈ ALLW := aw tb_2 120 rfl rfl
theorem w_481 : (Jvm.Cond.selects "ShadeBeams$Beams" ({ cls := "ShadeBeams$Beams", name := "clear", desc := "()V" } : Jvm.MethodName) ({ cls := "ShadeBeams$Beams", name := "clear", desc := "()V" } : Jvm.MethodName)) ∈ ALLW := aw tb_2 121 rfl rfl
theorem w_482 : (Jvm.Cond.code ({ cls := "ShadeBeams$Beams", name := "clear", desc := "()V" } : Jvm.MethodName) prog_2_method_2_code (1 : Nat) (Option.none : Option Jvm.ClassFile.FieldType)) ∈ ALLW := aw tb_2 122 rfl rfl
theorem w_483 : (Jvm.Cond.methodLink "ShadeBeams$Beams" (35 : Nat) ({ cls := "java/util/Arrays", name := "fill", desc := "([II)V" } : Jvm.MethodName)) ∈ ALLW := aw tb_2 123 rfl rfl
theorem w_484 : (Jvm.Cond.fieldLink "ShadeBeams$Street" (9 : Nat) "ShadeBeams$Street" "postX" "[I") ∈ ALLW := aw tb_2 124 rfl rfl
theorem w_485 : (Jvm.Cond.fieldLinkNest "ShadeBeams$Ground" (60 : Nat) "ShadeBeams$Street" "postX" "[I" "ShadeBeams") ∈ NESTW := anw tb_2 125 rfl rfl
theorem w_486 : (Jvm.Cond.fieldLinkNest "ShadeBeams" (202 : Nat) "ShadeBeams$Street" "postX" "[I" "ShadeBeams") ∈ NESTW := anw tb_2 126 rfl rfl
theorem w_487 : (Jvm.Cond.fieldLink "ShadeBeams$Street" (15 : Nat) "ShadeBeams$Street" "postHigh" "[I") ∈ ALLW := aw tb_2 127 rfl rfl
theorem w_488 : (Jvm.Cond.fieldLinkNest "ShadeBeams$Image" (28 : Nat) "ShadeBeams$Street" "postHigh" "[I" "ShadeBeams") ∈ NESTW := anw tb_2 128 rfl rfl
theorem w_489 : (Jvm.Cond.fieldLinkNest "ShadeBeams$Ground" (61 : Nat) "ShadeBeams$Street" "postHigh" "[I" "ShadeBeams") ∈ NESTW := anw tb_2 129 rfl rfl
theorem w_490 : (Jvm.Cond.fieldLinkNest "ShadeBeams$Changes" (28 : Nat) "ShadeBeams$Street" "postHigh" "[I" "ShadeBeams") ∈ NESTW := anw tb_2 130 rfl rfl
theorem w_491 : (Jvm.Cond.fieldLinkNest "ShadeBeams" (205 : Nat) "ShadeBeams$Street" "postHigh" "[I" "ShadeBeams") ∈ NESTW := anw tb_2 131 rfl rfl
theorem w_492 : (Jvm.Cond.fieldLink "ShadeBeams$Street" (18 : Nat) "ShadeBeams$Street" "sunLong" "[I") ∈ ALLW := aw tb_2 132 rfl rfl
theorem w_493 : (Jvm.Cond.fieldLinkNest "ShadeBeams$Ground" (78 : Nat) "ShadeBeams$Street" "sunLong" "[I" "ShadeBeams") ∈ NESTW := anw tb_2 133 rfl rfl
theorem w_494 : (Jvm.Cond.fieldLink "ShadeBeams$Street" (21 : Nat) "ShadeBeams$Street" "sunWay" "[I") ∈ ALLW := aw tb_2 134 rfl rfl
theorem w_495 : (Jvm.Cond.fieldLinkNest "ShadeBeams$Ground" (81 : Nat) "ShadeBeams$Street" "sunWay" "[I" "ShadeBeams") ∈ NESTW := anw tb_2 135 rfl rfl
theorem w_496 : (Jvm.Cond.fieldLink "ShadeBeams$Street" (24 : Nat) "ShadeBeams$Street" "moonBy" "[I") ∈ ALLW := aw tb_2 136 rfl rfl
theorem w_497 : (Jvm.Cond.fieldLink "ShadeBeams$Street" (27 : Nat) "ShadeBeams$Street" "moonLeft" "[I") ∈ ALLW := aw tb_2 137 rfl rfl
theorem w_498 : (Jvm.Cond.fieldLink "ShadeBeams$Street" (30 : Nat) "ShadeBeams$Street" "moonLong" "[I") ∈ ALLW := aw tb_2 138 rfl rfl
theorem w_499 : (Jvm.Cond.fieldLinkNest "ShadeBeams$Ground" (84 : Nat) "ShadeBeams$Street" "moonLong" "[I" "ShadeBeams") ∈ NESTW := anw tb_2 139 rfl rfl
theorem w_500 : (Jvm.Cond.fieldLink "ShadeBeams$Street" (36 : Nat) "ShadeBeams$Street" "beams" "LShadeBeams$Beams;") ∈ ALLW := aw tb_2 140 rfl rfl
theorem w_501 : (Jvm.Cond.fieldLinkNest "ShadeBeams$Image" (39 : Nat) "ShadeBeams$Street" "beams" "LShadeBeams$Beams;" "ShadeBeams") ∈ NESTW := anw tb_2 141 rfl rfl
theorem w_502 : (Jvm.Cond.fieldLinkNest "ShadeBeams$Lines" (45 : Nat) "ShadeBeams$Street" "beams" "LShadeBeams$Beams;" "ShadeBeams") ∈ NESTW := anw tb_2 142 rfl rfl
theorem w_503 : (Jvm.Cond.fieldLinkNest "ShadeBeams" (135 : Nat) "ShadeBeams$Street" "beams" "LShadeBeams$Beams;" "ShadeBeams") ∈ NESTW := anw tb_2 143 rfl rfl
theorem w_504 : (Jvm.Cond.fieldLinkNest "ShadeBeams$Changes" (33 : Nat) "ShadeBeams$Street" "beams" "LShadeBeams$Beams;" "ShadeBeams") ∈ NESTW := anw tb_2 144 rfl rfl
theorem w_505 : (Jvm.Cond.fieldLink "ShadeBeams$Street" (43 : Nat) "ShadeBeams$Street" "wide" "I") ∈ ALLW := aw tb_2 145 rfl rfl
theorem w_506 : (Jvm.Cond.fieldLinkNest "ShadeBeams$Ground" (41 : Nat) "ShadeBeams$Street" "wide" "I" "ShadeBeams") ∈ NESTW := anw tb_2 146 rfl rfl
theorem w_507 : (Jvm.Cond.fieldLinkNest "ShadeBeams$Lines" (54 : Nat) "ShadeBeams$Street" "wide" "I" "ShadeBeams") ∈ NESTW := anw tb_2 147 rfl rfl
theorem w_508 : (Jvm.Cond.fieldLinkNest "ShadeBeams" (181 : Nat) "ShadeBeams$Street" "wide" "I" "ShadeBeams") ∈ NESTW := anw tb_2 148 rfl rfl
theorem w_509 : (Jvm.Cond.fieldLink "ShadeBeams$Street" (47 : Nat) "ShadeBeams$Street" "dusk" "I") ∈ ALLW := aw tb_2 149 rfl rfl
theorem w_510 : (Jvm.Cond.fieldLink "ShadeBeams$Street" (50 : Nat) "ShadeBeams$Street" "posts" "I") ∈ ALLW := aw tb_2 150 rfl rfl
theorem w_511 : (Jvm.Cond.fieldLinkNest "ShadeBeams$Ground" (59 : Nat) "ShadeBeams$Street" "posts" "I" "ShadeBeams") ∈ NESTW := anw tb_2 151 rfl rfl
theorem w_512 : (Jvm.Cond.fieldLinkNest "ShadeBeams" (184 : Nat) "ShadeBeams$Street" "posts" "I" "ShadeBeams") ∈ NESTW := anw tb_2 152 rfl rfl
theorem w_513 : (Jvm.Cond.fieldLink "ShadeBeams$Street" (53 : Nat) "ShadeBeams$Street" "suns" "I") ∈ ALLW := aw tb_2 153 rfl rfl
theorem w_514 : (Jvm.Cond.fieldLink "ShadeBeams$Street" (56 : Nat) "ShadeBeams$Street" "moons" "I") ∈ ALLW := aw tb_2 154 rfl rfl
theorem w_515 : (Jvm.Cond.fieldLinkNest "ShadeBeams" (193 : Nat) "ShadeBeams$Street" "moons" "I" "ShadeBeams") ∈ NESTW := anw tb_2 155 rfl rfl
theorem w_516 : (Jvm.Cond.fieldLink "ShadeBeams$Street" (59 : Nat) "ShadeBeams$Street" "clouds" "I") ∈ ALLW := aw tb_2 156 rfl rfl
theorem w_517 : (Jvm.Cond.fieldLinkNest "ShadeBeams" (190 : Nat) "ShadeBeams$Street" "clouds" "I" "ShadeBeams") ∈ NESTW := anw tb_2 157 rfl rfl
theorem w_518 : (Jvm.Cond.fieldLink "ShadeBeams$Street" (62 : Nat) "ShadeBeams$Street" "lamps" "I") ∈ ALLW := aw tb_2 158 rfl rfl
theorem w_519 : (Jvm.Cond.fieldLinkNest "ShadeBeams" (187 : Nat) "ShadeBeams$Street" "lamps" "I" "ShadeBeams") ∈ NESTW := anw tb_2 159 rfl rfl
theorem w_520 : (Jvm.Cond.fieldLink "ShadeBeams$Street" (65 : Nat) "ShadeBeams$Street" "cloudHours" "I") ∈ ALLW := aw tb_2 160 rfl rfl
theorem w_521 : (Jvm.Cond.fieldLinkNest "ShadeBeams" (369 : Nat) "ShadeBeams$Street" "cloudHours" "I" "ShadeBeams") ∈ NESTW := anw tb_2 161 rfl rfl
theorem w_522 : (Jvm.Cond.fieldLinkNest "ShadeBeams$Ground" (48 : Nat) "ShadeBeams$Street" "lampCells" "J" "ShadeBeams") ∈ NESTW := anw tb_2 162 rfl rfl
theorem w_523 : (Jvm.Cond.fieldLink "ShadeBeams$Street" (68 : Nat) "ShadeBeams$Street" "lampCells" "J") ∈ ALLW := aw tb_2 163 rfl rfl
theorem w_524 : (Jvm.Cond.fieldLinkNest "ShadeBeams" (330 : Nat) "ShadeBeams$Street" "lampCells" "J" "ShadeBeams") ∈ NESTW := anw tb_2 164 rfl rfl
theorem w_525 : (Jvm.Cond.laysFinal "ShadeBeams$Street" "ShadeBeams$Street" "postX" "[I") ∈ ALLW := aw tb_2 165 rfl rfl
theorem w_527 : (Jvm.Cond.laysFinal "ShadeBeams$Street" "ShadeBeams$Street" "postHigh" "[I") ∈ ALLW := aw tb_2 167 rfl rfl
theorem w_529 : (Jvm.Cond.laysFinal "ShadeBeams$Street" "ShadeBeams$Street" "sunLong" "[I") ∈ ALLW := aw tb_2 169 rfl rfl
theorem w_531 : (Jvm.Cond.laysFinal "ShadeBeams$Street" "ShadeBeams$Street" "sunWay" "[I") ∈ ALLW := aw tb_2 171 rfl rfl
theorem w_533 : (Jvm.Cond.laysFinal "ShadeBeams$Street" "ShadeBeams$Street" "moonBy" "[I") ∈ ALLW := aw tb_2 173 rfl rfl
theorem w_535 : (Jvm.Cond.laysFinal "ShadeBeams$Street" "ShadeBeams$Street" "moonLeft" "[I") ∈ ALLW := aw tb_2 175 rfl rfl
theorem w_537 : (Jvm.Cond.laysFinal "ShadeBeams$Street" "ShadeBeams$Street" "moonLong" "[I") ∈ ALLW := aw tb_2 177 rfl rfl
theorem w_539 : (Jvm.Cond.laysFinal "ShadeBeams$Street" "ShadeBeams$Street" "beams" "LShadeBeams$Beams;") ∈ ALLW := aw tb_2 179 rfl rfl
theorem w_541 : (Jvm.Cond.lays "ShadeBeams$Street" "ShadeBeams$Street" "wide" "I") ∈ ALLW := aw tb_2 181 rfl rfl
theorem w_543 : (Jvm.Cond.lays "ShadeBeams$Street" "ShadeBeams$Street" "dusk" "I") ∈ ALLW := aw tb_2 183 rfl rfl
theorem w_545 : (Jvm.Cond.lays "ShadeBeams$Street" "ShadeBeams$Street" "posts" "I") ∈ ALLW := aw tb_2 185 rfl rfl
theorem w_547 : (Jvm.Cond.lays "ShadeBeams$Street" "ShadeBeams$Street" "suns" "I") ∈ ALLW := aw tb_2 187 rfl rfl
theorem w_549 : (Jvm.Cond.lays "ShadeBeams$Street" "ShadeBeams$Street" "moons" "I") ∈ ALLW := aw tb_2 189 rfl rfl
theorem w_551 : (Jvm.Cond.lays "ShadeBeams$Street" "ShadeBeams$Street" "clouds" "I") ∈ ALLW := aw tb_2 191 rfl rfl
theorem w_553 : (Jvm.Cond.lays "ShadeBeams$Street" "ShadeBeams$Street" "lamps" "I") ∈ ALLW := aw tb_2 193 rfl rfl
theorem w_555 : (Jvm.Cond.lays "ShadeBeams$Street" "ShadeBeams$Street" "cloudHours" "I") ∈ ALLW := aw tb_2 195 rfl rfl
theorem w_557 : (Jvm.Cond.lays "ShadeBeams$Street" "ShadeBeams$Street" "lampCells" "J") ∈ ALLW := aw tb_2 197 rfl rfl
theorem w_559 : (Jvm.Cond.superclass "ShadeBeams$Street" "java/lang/Object") ∈ ALLW := aw tb_2 199 rfl rfl
theorem w_560 : (Jvm.Cond.instantiable "ShadeBeams$Image" (5 : Nat)) ∈ ALLW := aw tb_2 200 rfl rfl
theorem w_561 : (Jvm.Cond.methodLinkNest "ShadeBeams" (104 : Nat) ({ cls := "ShadeBeams$Image", name := "<init>", desc := "()V" } : Jvm.MethodName) "ShadeBeams") ∈ NESTW := anw tb_2 201 rfl rfl
theorem w_562 : (Jvm.Cond.instanceMethod ({ cls := "ShadeBeams$Image", name := "<init>", desc := "()V" } : Jvm.MethodName)) ∈ ALLW := aw tb_2 202 rfl rfl
theorem w_563 : (Jvm.Cond.code ({ cls := "ShadeBeams$Image", name := "<init>", desc := "()V" } : Jvm.MethodName) prog_7_method_1_code (1 : Nat) (Option.none : Option Jvm.ClassFile.FieldType)) ∈ ALLW := aw tb_2 203 rfl rfl
theorem w_564 : (Jvm.Cond.methodLink "ShadeBeams$Image" (3 : Nat) ({ cls := "java/lang/Object", name := "<init>", desc := "()V" } : Jvm.MethodName)) ∈ ALLW := aw tb_2 204 rfl rfl
theorem w_565 : (Jvm.Cond.classLink "ShadeBeams$Image" (21 : Nat) "ShadeBeams$Changes") ∈ ALLW := aw tb_2 205 rfl rfl
theorem w_566 : (Jvm.Cond.methodLinkNest "ShadeBeams$Image" (23 : Nat) ({ cls := "ShadeBeams$Changes", name := "<init>", desc := "()V" } : Jvm.MethodName) "ShadeBeams") ∈ NESTW := anw tb_2 206 rfl rfl
theorem w_567 : (Jvm.Cond.fieldLink "ShadeBeams$Image" (9 : Nat) "ShadeBeams$Image" "high" "[I") ∈ ALLW := aw tb_2 207 rfl rfl
theorem w_568 : (Jvm.Cond.fieldLink "ShadeBeams$Image" (15 : Nat) "ShadeBeams$Image" "left" "[I") ∈ ALLW := aw tb_2 208 rfl rfl
theorem w_569 : (Jvm.Cond.fieldLink "ShadeBeams$Image" (18 : Nat) "ShadeBeams$Image" "loads" "[I") ∈ ALLW := aw tb_2 209 rfl rfl
theorem w_570 : (Jvm.Cond.fieldLink "ShadeBeams$Image" (24 : Nat) "ShadeBeams$Image" "changes" "LShadeBeams$Changes;") ∈ ALLW := aw tb_2 210 rfl rfl
theorem w_571 : (Jvm.Cond.fieldLink "ShadeBeams$Image" (53 : Nat) "ShadeBeams$Image" "day" "I") ∈ ALLW := aw tb_2 211 rfl rfl
theorem w_572 : (Jvm.Cond.fieldLinkNest "ShadeBeams" (472 : Nat) "ShadeBeams$Image" "day" "I" "ShadeBeams") ∈ NESTW := anw tb_2 212 rfl rfl
theorem w_573 : (Jvm.Cond.laysFinal "ShadeBeams$Image" "ShadeBeams$Image" "high" "[I") ∈ ALLW := aw tb_2 213 rfl rfl
theorem w_575 : (Jvm.Cond.laysFinal "ShadeBeams$Image" "ShadeBeams$Image" "left" "[I") ∈ ALLW := aw tb_2 215 rfl rfl
theorem w_577 : (Jvm.Cond.laysFinal "ShadeBeams$Image" "ShadeBeams$Image" "loads" "[I") ∈ ALLW := aw tb_2 217 rfl rfl
theorem w_579 : (Jvm.Cond.laysFinal "ShadeBeams$Image" "ShadeBeams$Image" "changes" "LShadeBeams$Changes;") ∈ ALLW := aw tb_2 219 rfl rfl
theorem w_581 : (Jvm.Cond.lays "ShadeBeams$Image" "ShadeBeams$Image" "day" "I") ∈ ALLW := aw tb_2 221 rfl rfl
theorem w_583 : (Jvm.Cond.superclass "ShadeBeams$Image" "java/lang/Object") ∈ ALLW := aw tb_2 223 rfl rfl
theorem w_584 : (Jvm.Cond.fieldLink "ShadeBeams" (12 : Nat) "ShadeBeams" "tape" "LShadeBeams$Tape;") ∈ ALLW := aw tb_2 224 rfl rfl
theorem w_585 : (Jvm.Cond.fieldLink "ShadeBeams" (16 : Nat) "ShadeBeams" "refused" "[I") ∈ ALLW := aw tb_2 225 rfl rfl
theorem w_586 : (Jvm.Cond.fieldLink "ShadeBeams" (23 : Nat) "ShadeBeams" "law" "LShadeBeams$Law;") ∈ ALLW := aw tb_2 226 rfl rfl
theorem w_587 : (Jvm.Cond.fieldLink "ShadeBeams" (27 : Nat) "ShadeBeams" "lawDraft" "LShadeBeams$Law;") ∈ ALLW := aw tb_2 227 rfl rfl
theorem w_588 : (Jvm.Cond.fieldLink "ShadeBeams" (33 : Nat) "ShadeBeams" "moveLines" "LShadeBeams$Lines;") ∈ ALLW := aw tb_2 228 rfl rfl
theorem w_589 : (Jvm.Cond.fieldLink "ShadeBeams" (37 : Nat) "ShadeBeams" "bookLines" "LShadeBeams$Lines;") ∈ ALLW := aw tb_2 229 rfl rfl
theorem w_590 : (Jvm.Cond.fieldLink "ShadeBeams" (40 : Nat) "ShadeBeams" "linesDraft" "LShadeBeams$Lines;") ∈ ALLW := aw tb_2 230 rfl rfl
theorem w_591 : (Jvm.Cond.fieldLink "ShadeBeams" (46 : Nat) "ShadeBeams" "changes" "LShadeBeams$Changes;") ∈ ALLW := aw tb_2 231 rfl rfl
theorem w_592 : (Jvm.Cond.fieldLink "ShadeBeams" (52 : Nat) "ShadeBeams" "images" "[LShadeBeams$Image;") ∈ ALLW := aw tb_2 232 rfl rfl
theorem w_593 : (Jvm.Cond.fieldLink "ShadeBeams" (59 : Nat) "ShadeBeams" "ground" "LShadeBeams$Ground;") ∈ ALLW := aw tb_2 233 rfl rfl
theorem w_594 : (Jvm.Cond.fieldLink "ShadeBeams" (63 : Nat) "ShadeBeams" "trialGround" "LShadeBeams$Ground;") ∈ ALLW := aw tb_2 234 rfl rfl
theorem w_595 : (Jvm.Cond.fieldLink "ShadeBeams" (69 : Nat) "ShadeBeams" "run" "LShadeBeams$DayRun;") ∈ ALLW := aw tb_2 235 rfl rfl
theorem w_596 : (Jvm.Cond.fieldLink "ShadeBeams" (73 : Nat) "ShadeBeams" "trialRun" "LShadeBeams$DayRun;") ∈ ALLW := aw tb_2 236 rfl rfl
theorem w_597 : (Jvm.Cond.fieldLink "ShadeBeams" (79 : Nat) "ShadeBeams" "carrier" "LShadeBeams$Carrier;") ∈ ALLW := aw tb_2 237 rfl rfl
theorem w_598 : (Jvm.Cond.fieldLink "ShadeBeams" (86 : Nat) "ShadeBeams" "lamplighter" "LShadeBeams$Lamplighter;") ∈ ALLW := aw tb_2 238 rfl rfl
theorem w_599 : (Jvm.Cond.fieldLink "ShadeBeams" (93 : Nat) "ShadeBeams" "now" "LShadeBeams$Street;") ∈ ALLW := aw tb_2 239 rfl rfl
theorem w_600 : (Jvm.Cond.fieldLink "ShadeBeams" (97 : Nat) "ShadeBeams" "draft" "LShadeBeams$Street;") ∈ ALLW := aw tb_3 0 rfl rfl
theorem w_601 : (Jvm.Cond.fieldLink "ShadeBeams" (171 : Nat) "ShadeBeams" "today" "I") ∈ ALLW := aw tb_3 1 rfl rfl
theorem w_602 : (Jvm.Cond.fieldLink "ShadeBeams" (178 : Nat) "ShadeBeams" "imageCount" "I") ∈ ALLW := aw tb_3 2 rfl rfl
theorem w_603 : (Jvm.Cond.fieldLink "ShadeBeams" (100 : Nat) "ShadeBeams" "stale" "Z") ∈ ALLW := aw tb_3 3 rfl rfl
theorem w_604 : (Jvm.Cond.laysFinal "ShadeBeams" "ShadeBeams" "tape" "LShadeBeams$Tape;") ∈ ALLW := aw tb_3 4 rfl rfl
theorem w_606 : (Jvm.Cond.laysFinal "ShadeBeams" "ShadeBeams" "refused" "[I") ∈ ALLW := aw tb_3 6 rfl rfl
theorem w_608 : (Jvm.Cond.laysFinal "ShadeBeams" "ShadeBeams" "law" "LShadeBeams$Law;") ∈ ALLW := aw tb_3 8 rfl rfl
theorem w_610 : (Jvm.Cond.laysFinal "ShadeBeams" "ShadeBeams" "lawDraft" "LShadeBeams$Law;") ∈ ALLW := aw tb_3 10 rfl rfl
theorem w_612 : (Jvm.Cond.laysFinal "ShadeBeams" "ShadeBeams" "moveLines" "LShadeBeams$Lines;") ∈ ALLW := aw tb_3 12 rfl rfl
theorem w_614 : (Jvm.Cond.laysFinal "ShadeBeams" "ShadeBeams" "bookLines" "LShadeBeams$Lines;") ∈ ALLW := aw tb_3 14 rfl rfl
theorem w_616 : (Jvm.Cond.laysFinal "ShadeBeams" "ShadeBeams" "linesDraft" "LShadeBeams$Lines;") ∈ ALLW := aw tb_3 16 rfl rfl
theorem w_618 : (Jvm.Cond.laysFinal "ShadeBeams" "ShadeBeams" "changes" "LShadeBeams$Changes;") ∈ ALLW := aw tb_3 18 rfl rfl
theorem w_620 : (Jvm.Cond.laysFinal "ShadeBeams" "ShadeBeams" "images" "[LShadeBeams$Image;") ∈ ALLW := aw tb_3 20 rfl rfl
theorem w_622 : (Jvm.Cond.laysFinal "ShadeBeams" "ShadeBeams" "ground" "LShadeBeams$Ground;") ∈ ALLW := aw tb_3 22 rfl rfl
theorem w_624 : (Jvm.Cond.laysFinal "ShadeBeams" "ShadeBeams" "trialGround" "LShadeBeams$Ground;") ∈ ALLW := aw tb_3 24 rfl rfl
theorem w_626 : (Jvm.Cond.laysFinal "ShadeBeams" "ShadeBeams" "run" "LShadeBeams$DayRun;") ∈ ALLW := aw tb_3 26 rfl rfl
theorem w_628 : (Jvm.Cond.laysFinal "ShadeBeams" "ShadeBeams" "trialRun" "LShadeBeams$DayRun;") ∈ ALLW := aw tb_3 28 rfl rfl
theorem w_630 : (Jvm.Cond.laysFinal "ShadeBeams" "ShadeBeams" "carrier" "LShadeBeams$Carrier;") ∈ ALLW := aw tb_3 30 rfl rfl
theorem w_632 : (Jvm.Cond.laysFinal "ShadeBeams" "ShadeBeams" "lamplighter" "LShadeBeams$Lamplighter;") ∈ ALLW := aw tb_3 32 rfl rfl
theorem w_634 : (Jvm.Cond.lays "ShadeBeams" "ShadeBeams" "now" "LShadeBeams$Street;") ∈ ALLW := aw tb_3 34 rfl rfl
theorem w_636 : (Jvm.Cond.lays "ShadeBeams" "ShadeBeams" "draft" "LShadeBeams$Street;") ∈ ALLW := aw tb_3 36 rfl rfl
theorem w_638 : (Jvm.Cond.lays "ShadeBeams" "ShadeBeams" "today" "I") ∈ ALLW := aw tb_3 38 rfl rfl
theorem w_640 : (Jvm.Cond.lays "ShadeBeams" "ShadeBeams" "imageCount" "I") ∈ ALLW := aw tb_3 40 rfl rfl
theorem w_642 : (Jvm.Cond.lays "ShadeBeams" "ShadeBeams" "stale" "Z") ∈ ALLW := aw tb_3 42 rfl rfl
theorem w_644 : (Jvm.Cond.superclass "ShadeBeams" "java/lang/Object") ∈ ALLW := aw tb_3 44 rfl rfl
theorem w_645 : (Jvm.Cond.methodLink "ShadeBeamsLaw" (150 : Nat) ({ cls := "ShadeBeams", name := "feed", desc := "(IIIII)I" } : Jvm.MethodName)) ∈ ALLW := aw tb_3 45 rfl rfl
theorem w_646 : (Jvm.Cond.instanceMethod ({ cls := "ShadeBeams", name := "feed", desc := "(IIIII)I" } : Jvm.MethodName)) ∈ ALLW := aw tb_3 46 rfl rfl
theorem w_647 : (Jvm.Cond.selects "ShadeBeams" ({ cls := "ShadeBeams", name := "feed", desc := "(IIIII)I" } : Jvm.MethodName) ({ cls := "ShadeBeams", name := "feed", desc := "(IIIII)I" } : Jvm.MethodName)) ∈ ALLW := aw tb_3 47 rfl rfl
theorem w_648 : (Jvm.Cond.code ({ cls := "ShadeBeams", name := "feed", desc := "(IIIII)I" } : Jvm.MethodName) prog_1_method_2_code (6 : Nat) (Option.some Jvm.ClassFile.FieldType.int)) ∈ ALLW := aw tb_3 48 rfl rfl
theorem w_649 : (Jvm.Cond.methodLink "ShadeBeams" (105 : Nat) ({ cls := "ShadeBeams$Tape", name := "hasRoom", desc := "()Z" } : Jvm.MethodName)) ∈ ALLW := aw tb_3 49 rfl rfl
theorem w_650 : (Jvm.Cond.instanceMethod ({ cls := "ShadeBeams$Tape", name := "hasRoom", desc := "()Z" } : Jvm.MethodName)) ∈ ALLW := aw tb_3 50 rfl rfl
theorem w_651 : (Jvm.Cond.selects "ShadeBeams$Tape" ({ cls := "ShadeBeams$Tape", name := "hasRoom", desc := "()Z" } : Jvm.MethodName) ({ cls := "ShadeBeams$Tape", name := "hasRoom", desc := "()Z" } : Jvm.MethodName)) ∈ ALLW := aw tb_3 51 rfl rfl
theorem w_652 : (Jvm.Cond.code ({ cls := "ShadeBeams$Tape", name := "hasRoom", desc := "()Z" } : Jvm.MethodName) prog_12_method_2_code (1 : Nat) (Option.some Jvm.ClassFile.FieldType.boolean)) ∈ ALLW := aw tb_3 52 rfl rfl
theorem w_653 : (Jvm.Cond.methodLink "ShadeBeams" (109 : Nat) ({ cls := "ShadeBeams$Tape", name := "add", desc := "(I)V" } : Jvm.MethodName)) ∈ ALLW := aw tb_3 53 rfl rfl
theorem w_654 : (Jvm.Cond.instanceMethod ({ cls := "ShadeBeams$Tape", name := "add", desc := "(I)V" } : Jvm.MethodName)) ∈ ALLW := aw tb_3 54 rfl rfl
theorem w_655 : (Jvm.Cond.selects "ShadeBeams$Tape" ({ cls := "ShadeBeams$Tape", name := "add", desc := "(I)V" } : Jvm.MethodName) ({ cls := "ShadeBeams$Tape", name := "add", desc := "(I)V" } : Jvm.MethodName)) ∈ ALLW := aw tb_3 55 rfl rfl
theorem w_656 : (Jvm.Cond.code ({ cls := "ShadeBeams$Tape", name := "add", desc := "(I)V" } : Jvm.MethodName) prog_12_method_3_code (3 : Nat) (Option.none : Option Jvm.ClassFile.FieldType)) ∈ ALLW := aw tb_3 56 rfl rfl
theorem w_657 : (Jvm.Cond.methodLink "ShadeBeamsLaw" (173 : Nat) ({ cls := "ShadeBeams", name := "fault", desc := "()I" } : Jvm.MethodName)) ∈ ALLW := aw tb_3 57 rfl rfl
theorem w_658 : (Jvm.Cond.instanceMethod ({ cls := "ShadeBeams", name := "fault", desc := "()I" } : Jvm.MethodName)) ∈ ALLW := aw tb_3 58 rfl rfl
theorem w_659 : (Jvm.Cond.selects "ShadeBeams" ({ cls := "ShadeBeams", name := "fault", desc := "()I" } : Jvm.MethodName) ({ cls := "ShadeBeams", name := "fault", desc := "()I" } : Jvm.MethodName)) ∈ ALLW := aw tb_3 59 rfl rfl
theorem w_660 : (Jvm.Cond.code ({ cls := "ShadeBeams", name := "fault", desc := "()I" } : Jvm.MethodName) prog_1_method_7_code (1 : Nat) (Option.some Jvm.ClassFile.FieldType.int)) ∈ ALLW := aw tb_3 60 rfl rfl
theorem w_661 : (Jvm.Cond.methodLink "ShadeBeamsLaw" (213 : Nat) ({ cls := "ShadeBeams", name := "fallen", desc := "()I" } : Jvm.MethodName)) ∈ ALLW := aw tb_3 61 rfl rfl
theorem w_662 : (Jvm.Cond.instanceMethod ({ cls := "ShadeBeams", name := "fallen", desc := "()I" } : Jvm.MethodName)) ∈ ALLW := aw tb_3 62 rfl rfl
theorem w_663 : (Jvm.Cond.selects "ShadeBeams" ({ cls := "ShadeBeams", name := "fallen", desc := "()I" } : Jvm.MethodName) ({ cls := "ShadeBeams", name := "fallen", desc := "()I" } : Jvm.MethodName)) ∈ ALLW := aw tb_3 63 rfl rfl
theorem w_664 : (Jvm.Cond.code ({ cls := "ShadeBeams", name := "fallen", desc := "()I" } : Jvm.MethodName) prog_1_method_21_code (1 : Nat) (Option.some Jvm.ClassFile.FieldType.int)) ∈ ALLW := aw tb_3 64 rfl rfl
theorem w_665 : (Jvm.Cond.methodLink "ShadeBeams" (227 : Nat) ({ cls := "ShadeBeams", name := "refresh", desc := "()V" } : Jvm.MethodName)) ∈ ALLW := aw tb_3 65 rfl rfl
theorem w_667 : (Jvm.Cond.instanceMethod ({ cls := "ShadeBeams", name := "refresh", desc := "()V" } : Jvm.MethodName)) ∈ ALLW := aw tb_3 67 rfl rfl
theorem w_668 : (Jvm.Cond.code ({ cls := "ShadeBeams", name := "refresh", desc := "()V" } : Jvm.MethodName) prog_1_method_64_code (1 : Nat) (Option.none : Option Jvm.ClassFile.FieldType)) ∈ ALLW := aw tb_3 68 rfl rfl
theorem w_669 : (Jvm.Cond.methodLink "ShadeBeams" (359 : Nat) ({ cls := "ShadeBeams$Street", name := "moonOf", desc := "(I)I" } : Jvm.MethodName)) ∈ ALLW := aw tb_3 69 rfl rfl
theorem w_670 : (Jvm.Cond.instanceMethod ({ cls := "ShadeBeams$Street", name := "moonOf", desc := "(I)I" } : Jvm.MethodName)) ∈ ALLW := aw tb_3 70 rfl rfl
theorem w_671 : (Jvm.Cond.selects "ShadeBeams$Street" ({ cls := "ShadeBeams$Street", name := "moonOf", desc := "(I)I" } : Jvm.MethodName) ({ cls := "ShadeBeams$Street", name := "moonOf", desc := "(I)I" } : Jvm.MethodName)) ∈ ALLW := aw tb_3 71 rfl rfl
theorem w_672 : (Jvm.Cond.code ({ cls := "ShadeBeams$Street", name := "moonOf", desc := "(I)I" } : Jvm.MethodName) prog_11_method_4_code (3 : Nat) (Option.some Jvm.ClassFile.FieldType.int)) ∈ ALLW := aw tb_3 72 rfl rfl
theorem w_673 : (Jvm.Cond.methodLink "ShadeBeams" (362 : Nat) ({ cls := "ShadeBeams$Ground", name := "takeStreet", desc := "(LShadeBeams$Street;LShadeBeams$Law;I)V" } : Jvm.MethodName)) ∈ ALLW := aw tb_3 73 rfl rfl
theorem w_674 : (Jvm.Cond.instanceMethod ({ cls := "ShadeBeams$Ground", name := "takeStreet", desc := "(LShadeBeams$Street;LShadeBeams$Law;I)V" } : Jvm.MethodName)) ∈ ALLW := aw tb_3 74 rfl rfl
theorem w_675 : (Jvm.Cond.selects "ShadeBeams$Ground" ({ cls := "ShadeBeams$Ground", name := "takeStreet", desc := "(LShadeBeams$Street;LShadeBeams$Law;I)V" } : Jvm.MethodName) ({ cls := "ShadeBeams$Ground", name := "takeStreet", desc := "(LShadeBeams$Street;LShadeBeams$Law;I)V" } : Jvm.MethodName)) ∈ ALLW := aw tb_3 75 rfl rfl
theorem w_676 : (Jvm.Cond.code ({ cls := "ShadeBeams$Ground", name := "takeStreet", desc := "(LShadeBeams$Street;LShadeBeams$Law;I)V" } : Jvm.MethodName) prog_6_method_2_code (5 : Nat) (Option.none : Option Jvm.ClassFile.FieldType)) ∈ ALLW := aw tb_3 76 rfl rfl
theorem w_677 : (Jvm.Cond.methodLink "ShadeBeams$Ground" (62 : Nat) ({ cls := "ShadeBeams$Ground", name := "addPost", desc := "(II)V" } : Jvm.MethodName)) ∈ ALLW := aw tb_3 77 rfl rfl
theorem w_678 : (Jvm.Cond.instanceMethod ({ cls := "ShadeBeams$Ground", name := "addPost", desc := "(II)V" } : Jvm.MethodName)) ∈ ALLW := aw tb_3 78 rfl rfl
theorem w_679 : (Jvm.Cond.selects "ShadeBeams$Ground" ({ cls := "ShadeBeams$Ground", name := "addPost", desc := "(II)V" } : Jvm.MethodName) ({ cls := "ShadeBeams$Ground", name := "addPost", desc := "(II)V" } : Jvm.MethodName)) ∈ ALLW := aw tb_3 79 rfl rfl
theorem w_680 : (Jvm.Cond.code ({ cls := "ShadeBeams$Ground", name := "addPost", desc := "(II)V" } : Jvm.MethodName) prog_6_method_4_code (3 : Nat) (Option.none : Option Jvm.ClassFile.FieldType)) ∈ ALLW := aw tb_3 80 rfl rfl
theorem w_681 : (Jvm.Cond.methodLink "ShadeBeams$Ground" (66 : Nat) ({ cls := "ShadeBeams$Ground", name := "setLight", desc := "(LShadeBeams$Street;II)V" } : Jvm.MethodName)) ∈ ALLW := aw tb_3 81 rfl rfl
theorem w_683 : (Jvm.Cond.instanceMethod ({ cls := "ShadeBeams$Ground", name := "setLight", desc := "(LShadeBeams$Street;II)V" } : Jvm.MethodName)) ∈ ALLW := aw tb_3 83 rfl rfl
theorem w_684 : (Jvm.Cond.code ({ cls := "ShadeBeams$Ground", name := "setLight", desc := "(LShadeBeams$Street;II)V" } : Jvm.MethodName) prog_6_method_3_code (5 : Nat) (Option.none : Option Jvm.ClassFile.FieldType)) ∈ ALLW := aw tb_3 84 rfl rfl
theorem w_685 : (Jvm.Cond.methodLink "ShadeBeams$Ground" (70 : Nat) ({ cls := "ShadeBeams$Street", name := "sunOf", desc := "(I)I" } : Jvm.MethodName)) ∈ ALLW := aw tb_3 85 rfl rfl
theorem w_686 : (Jvm.Cond.instanceMethod ({ cls := "ShadeBeams$Street", name := "sunOf", desc := "(I)I" } : Jvm.MethodName)) ∈ ALLW := aw tb_3 86 rfl rfl
theorem w_687 : (Jvm.Cond.selects "ShadeBeams$Street" ({ cls := "ShadeBeams$Street", name := "sunOf", desc := "(I)I" } : Jvm.MethodName) ({ cls := "ShadeBeams$Street", name := "sunOf", desc := "(I)I" } : Jvm.MethodName)) ∈ ALLW := aw tb_3 87 rfl rfl
theorem w_688 : (Jvm.Cond.code ({ cls := "ShadeBeams$Street", name := "sunOf", desc := "(I)I" } : Jvm.MethodName) prog_11_method_5_code (3 : Nat) (Option.some Jvm.ClassFile.FieldType.int)) ∈ ALLW := aw tb_3 88 rfl rfl
theorem w_689 : (Jvm.Cond.methodLinkNest "ShadeBeams$Ground" (74 : Nat) ({ cls := "ShadeBeams", name := "isWithin", desc := "(III)Z" } : Jvm.MethodName) "ShadeBeams") ∈ NESTW := anw tb_3 89 rfl rfl
theorem w_690 : (Jvm.Cond.static ({ cls := "ShadeBeams", name := "isWithin", desc := "(III)Z" } : Jvm.MethodName)) ∈ ALLW := aw tb_3 90 rfl rfl
theorem w_691 : (Jvm.Cond.code ({ cls := "ShadeBeams", name := "isWithin", desc := "(III)Z" } : Jvm.MethodName) prog_1_method_74_code (3 : Nat) (Option.some Jvm.ClassFile.FieldType.boolean)) ∈ ALLW := aw tb_3 91 rfl rfl
theorem w_692 : (Jvm.Cond.methodLink "ShadeBeams" (372 : Nat) ({ cls := "ShadeBeams$Ground", name := "settle", desc := "(I)V" } : Jvm.MethodName)) ∈ ALLW := aw tb_3 92 rfl rfl
theorem w_693 : (Jvm.Cond.instanceMethod ({ cls := "ShadeBeams$Ground", name := "settle", desc := "(I)V" } : Jvm.MethodName)) ∈ ALLW := aw tb_3 93 rfl rfl
theorem w_694 : (Jvm.Cond.selects "ShadeBeams$Ground" ({ cls := "ShadeBeams$Ground", name := "settle", desc := "(I)V" } : Jvm.MethodName) ({ cls := "ShadeBeams$Ground", name := "settle", desc := "(I)V" } : Jvm.MethodName)) ∈ ALLW := aw tb_3 94 rfl rfl
theorem w_695 : (Jvm.Cond.code ({ cls := "ShadeBeams$Ground", name := "settle", desc := "(I)V" } : Jvm.MethodName) prog_6_method_6_code (4 : Nat) (Option.none : Option Jvm.ClassFile.FieldType)) ∈ ALLW := aw tb_3 95 rfl rfl
theorem w_696 : (Jvm.Cond.methodLink "ShadeBeams$Ground" (89 : Nat) ({ cls := "ShadeBeams$Ground", name := "shadowOf", desc := "(II)J" } : Jvm.MethodName)) ∈ ALLW := aw tb_3 96 rfl rfl
theorem w_698 : (Jvm.Cond.instanceMethod ({ cls := "ShadeBeams$Ground", name := "shadowOf", desc := "(II)J" } : Jvm.MethodName)) ∈ ALLW := aw tb_3 98 rfl rfl
theorem w_699 : (Jvm.Cond.code ({ cls := "ShadeBeams$Ground", name := "shadowOf", desc := "(II)J" } : Jvm.MethodName) prog_6_method_7_code (8 : Nat) (Option.some Jvm.ClassFile.FieldType.long)) ∈ ALLW := aw tb_3 99 rfl rfl
theorem w_700 : (Jvm.Cond.methodLink "ShadeBeams$Ground" (97 : Nat) ({ cls := "java/lang/Math", name := "max", desc := "(II)I" } : Jvm.MethodName)) ∈ ALLW := aw tb_3 100 rfl rfl
theorem w_701 : (Jvm.Cond.static ({ cls := "java/lang/Math", name := "max", desc := "(II)I" } : Jvm.MethodName)) ∈ ALLW := aw tb_3 101 rfl rfl
theorem w_702 : (Jvm.Cond.code ({ cls := "java/lang/Math", name := "max", desc := "(II)I" } : Jvm.MethodName) prog_23_method_65_code (2 : Nat) (Option.some Jvm.ClassFile.FieldType.int)) ∈ ALLW := aw tb_3 102 rfl rfl
theorem w_703 : (Jvm.Cond.methodLink "ShadeBeams$Ground" (103 : Nat) ({ cls := "java/lang/Math", name := "min", desc := "(II)I" } : Jvm.MethodName)) ∈ ALLW := aw tb_3 103 rfl rfl
theorem w_704 : (Jvm.Cond.static ({ cls := "java/lang/Math", name := "min", desc := "(II)I" } : Jvm.MethodName)) ∈ ALLW := aw tb_3 104 rfl rfl
theorem w_705 : (Jvm.Cond.code ({ cls := "java/lang/Math", name := "min", desc := "(II)I" } : Jvm.MethodName) prog_23_method_69_code (2 : Nat) (Option.some Jvm.ClassFile.FieldType.int)) ∈ ALLW := aw tb_3 105 rfl rfl
theorem w_706 : (Jvm.Cond.methodLink "ShadeBeams$Ground" (93 : Nat) ({ cls := "ShadeBeams$Ground", name := "cover", desc := "(I)V" } : Jvm.MethodName)) ∈ ALLW := aw tb_3 106 rfl rfl
theorem w_707 : (Jvm.Cond.instanceMethod ({ cls := "ShadeBeams$Ground", name := "cover", desc := "(I)V" } : Jvm.MethodName)) ∈ ALLW := aw tb_3 107 rfl rfl
theorem w_708 : (Jvm.Cond.selects "ShadeBeams$Ground" ({ cls := "ShadeBeams$Ground", name := "cover", desc := "(I)V" } : Jvm.MethodName) ({ cls := "ShadeBeams$Ground", name := "cover", desc := "(I)V" } : Jvm.MethodName)) ∈ ALLW := aw tb_3 108 rfl rfl
theorem w_709 : (Jvm.Cond.code ({ cls := "ShadeBeams$Ground", name := "cover", desc := "(I)V" } : Jvm.MethodName) prog_6_method_8_code (4 : Nat) (Option.none : Option Jvm.ClassFile.FieldType)) ∈ ALLW := aw tb_3 109 rfl rfl
theorem w_710 : (Jvm.Cond.methodLink "ShadeBeams$Ground" (109 : Nat) ({ cls := "ShadeBeams$Ground", name := "isCloudy", desc := "(I)Z" } : Jvm.MethodName)) ∈ ALLW := aw tb_3 110 rfl rfl
theorem w_711 : (Jvm.Cond.instanceMethod ({ cls := "ShadeBeams$Ground", name := "isCloudy", desc := "(I)Z" } : Jvm.MethodName)) ∈ ALLW := aw tb_3 111 rfl rfl
theorem w_712 : (Jvm.Cond.selects "ShadeBeams$Ground" ({ cls := "ShadeBeams$Ground", name := "isCloudy", desc := "(I)Z" } : Jvm.MethodName) ({ cls := "ShadeBeams$Ground", name := "isCloudy", desc := "(I)Z" } : Jvm.MethodName)) ∈ ALLW := aw tb_3 112 rfl rfl
theorem w_713 : (Jvm.Cond.code ({ cls := "ShadeBeams$Ground", name := "isCloudy", desc := "(I)Z" } : Jvm.MethodName) prog_6_method_9_code (2 : Nat) (Option.some Jvm.ClassFile.FieldType.boolean)) ∈ ALLW := aw tb_3 113 rfl rfl
theorem w_714 : (Jvm.Cond.methodLink "ShadeBeams$Ground" (113 : Nat) ({ cls := "java/util/Arrays", name := "fill", desc := "([II)V" } : Jvm.MethodName)) ∈ ALLW := aw tb_3 114 rfl rfl
theorem w_715 : (Jvm.Cond.methodLink "ShadeBeams" (350 : Nat) ({ cls := "ShadeBeams$DayRun", name := "go", desc := "(LShadeBeams$Ground;LShadeBeams$Beams;LShadeBeams$Lines;I)V" } : Jvm.MethodName)) ∈ ALLW := aw tb_3 115 rfl rfl
theorem w_716 : (Jvm.Cond.instanceMethod ({ cls := "ShadeBeams$DayRun", name := "go", desc := "(LShadeBeams$Ground;LShadeBeams$Beams;LShadeBeams$Lines;I)V" } : Jvm.MethodName)) ∈ ALLW := aw tb_3 116 rfl rfl
theorem w_717 : (Jvm.Cond.selects "ShadeBeams$DayRun" ({ cls := "ShadeBeams$DayRun", name := "go", desc := "(LShadeBeams$Ground;LShadeBeams$Beams;LShadeBeams$Lines;I)V" } : Jvm.MethodName) ({ cls := "ShadeBeams$DayRun", name := "go", desc := "(LShadeBeams$Ground;LShadeBeams$Beams;LShadeBeams$Lines;I)V" } : Jvm.MethodName)) ∈ ALLW := aw tb_3 117 rfl rfl
theorem w_718 : (Jvm.Cond.code ({ cls := "ShadeBeams$DayRun", name := "go", desc := "(LShadeBeams$Ground;LShadeBeams$Beams;LShadeBeams$Lines;I)V" } : Jvm.MethodName) prog_5_method_2_code (6 : Nat) (Option.none : Option Jvm.ClassFile.FieldType)) ∈ ALLW := aw tb_3 118 rfl rfl
theorem w_719 : (Jvm.Cond.methodLink "ShadeBeams$DayRun" (43 : Nat) ({ cls := "ShadeBeams$DayRun", name := "moveBeams", desc := "(LShadeBeams$Lines;I)V" } : Jvm.MethodName)) ∈ ALLW := aw tb_3 119 rfl rfl
theorem w_721 : (Jvm.Cond.instanceMethod ({ cls := "ShadeBeams$DayRun", name := "moveBeams", desc := "(LShadeBeams$Lines;I)V" } : Jvm.MethodName)) ∈ ALLW := aw tb_3 121 rfl rfl
theorem w_722 : (Jvm.Cond.code ({ cls := "ShadeBeams$DayRun", name := "moveBeams", desc := "(LShadeBeams$Lines;I)V" } : Jvm.MethodName) prog_5_method_3_code (5 : Nat) (Option.none : Option Jvm.ClassFile.FieldType)) ∈ ALLW := aw tb_3 122 rfl rfl
theorem w_723 : (Jvm.Cond.methodLink "ShadeBeams$DayRun" (47 : Nat) ({ cls := "ShadeBeams$DayRun", name := "weighCells", desc := "(LShadeBeams$Beams;)V" } : Jvm.MethodName)) ∈ ALLW := aw tb_3 123 rfl rfl
theorem w_725 : (Jvm.Cond.instanceMethod ({ cls := "ShadeBeams$DayRun", name := "weighCells", desc := "(LShadeBeams$Beams;)V" } : Jvm.MethodName)) ∈ ALLW := aw tb_3 125 rfl rfl
theorem w_726 : (Jvm.Cond.code ({ cls := "ShadeBeams$DayRun", name := "weighCells", desc := "(LShadeBeams$Beams;)V" } : Jvm.MethodName) prog_5_method_4_code (3 : Nat) (Option.none : Option Jvm.ClassFile.FieldType)) ∈ ALLW := aw tb_3 126 rfl rfl
theorem w_727 : (Jvm.Cond.methodLink "ShadeBeams$DayRun" (73 : Nat) ({ cls := "java/util/Arrays", name := "fill", desc := "([JJ)V" } : Jvm.MethodName)) ∈ ALLW := aw tb_3 127 rfl rfl
theorem w_728 : (Jvm.Cond.static ({ cls := "java/util/Arrays", name := "fill", desc := "([JJ)V" } : Jvm.MethodName)) ∈ ALLW := aw tb_3 128 rfl rfl
theorem w_729 : (Jvm.Cond.code ({ cls := "java/util/Arrays", name := "fill", desc := "([JJ)V" } : Jvm.MethodName) prog_33_method_101_code (5 : Nat) (Option.none : Option Jvm.ClassFile.FieldType)) ∈ ALLW := aw tb_3 129 rfl rfl
theorem w_730 : (Jvm.Cond.methodLink "ShadeBeams$DayRun" (79 : Nat) ({ cls := "ShadeBeams$DayRun", name := "addWeight", desc := "(LShadeBeams$Beams;II)V" } : Jvm.MethodName)) ∈ ALLW := aw tb_3 130 rfl rfl
theorem w_732 : (Jvm.Cond.instanceMethod ({ cls := "ShadeBeams$DayRun", name := "addWeight", desc := "(LShadeBeams$Beams;II)V" } : Jvm.MethodName)) ∈ ALLW := aw tb_3 132 rfl rfl
theorem w_733 : (Jvm.Cond.code ({ cls := "ShadeBeams$DayRun", name := "addWeight", desc := "(LShadeBeams$Beams;II)V" } : Jvm.MethodName) prog_5_method_5_code (5 : Nat) (Option.none : Option Jvm.ClassFile.FieldType)) ∈ ALLW := aw tb_3 133 rfl rfl
theorem w_734 : (Jvm.Cond.methodLink "ShadeBeams$DayRun" (83 : Nat) ({ cls := "ShadeBeams$Beams", name := "rightEnd", desc := "(II)I" } : Jvm.MethodName)) ∈ ALLW := aw tb_3 134 rfl rfl
theorem w_735 : (Jvm.Cond.instanceMethod ({ cls := "ShadeBeams$Beams", name := "rightEnd", desc := "(II)I" } : Jvm.MethodName)) ∈ ALLW := aw tb_3 135 rfl rfl
theorem w_736 : (Jvm.Cond.selects "ShadeBeams$Beams" ({ cls := "ShadeBeams$Beams", name := "rightEnd", desc := "(II)I" } : Jvm.MethodName) ({ cls := "ShadeBeams$Beams", name := "rightEnd", desc := "(II)I" } : Jvm.MethodName)) ∈ ALLW := aw tb_3 136 rfl rfl
theorem w_737 : (Jvm.Cond.code ({ cls := "ShadeBeams$Beams", name := "rightEnd", desc := "(II)I" } : Jvm.MethodName) prog_2_method_8_code (3 : Nat) (Option.some Jvm.ClassFile.FieldType.int)) ∈ ALLW := aw tb_3 137 rfl rfl
theorem w_738 : (Jvm.Cond.methodLink "ShadeBeams$DayRun" (51 : Nat) ({ cls := "ShadeBeams$DayRun", name := "dropBeams", desc := "(LShadeBeams$Ground;LShadeBeams$Beams;I)V" } : Jvm.MethodName)) ∈ ALLW := aw tb_3 138 rfl rfl
theorem w_740 : (Jvm.Cond.instanceMethod ({ cls := "ShadeBeams$DayRun", name := "dropBeams", desc := "(LShadeBeams$Ground;LShadeBeams$Beams;I)V" } : Jvm.MethodName)) ∈ ALLW := aw tb_3 140 rfl rfl
theorem w_741 : (Jvm.Cond.code ({ cls := "ShadeBeams$DayRun", name := "dropBeams", desc := "(LShadeBeams$Ground;LShadeBeams$Beams;I)V" } : Jvm.MethodName) prog_5_method_6_code (7 : Nat) (Option.none : Option Jvm.ClassFile.FieldType)) ∈ ALLW := aw tb_3 141 rfl rfl
theorem w_742 : (Jvm.Cond.methodLink "ShadeBeams$DayRun" (93 : Nat) ({ cls := "ShadeBeams$Ground", name := "borneOn", desc := "(II)I" } : Jvm.MethodName)) ∈ ALLW := aw tb_3 142 rfl rfl
theorem w_743 : (Jvm.Cond.instanceMethod ({ cls := "ShadeBeams$Ground", name := "borneOn", desc := "(II)I" } : Jvm.MethodName)) ∈ ALLW := aw tb_3 143 rfl rfl
theorem w_744 : (Jvm.Cond.selects "ShadeBeams$Ground" ({ cls := "ShadeBeams$Ground", name := "borneOn", desc := "(II)I" } : Jvm.MethodName) ({ cls := "ShadeBeams$Ground", name := "borneOn", desc := "(II)I" } : Jvm.MethodName)) ∈ ALLW := aw tb_3 144 rfl rfl
theorem w_745 : (Jvm.Cond.code ({ cls := "ShadeBeams$Ground", name := "borneOn", desc := "(II)I" } : Jvm.MethodName) prog_6_method_13_code (3 : Nat) (Option.some Jvm.ClassFile.FieldType.int)) ∈ ALLW := aw tb_3 145 rfl rfl
theorem w_746 : (Jvm.Cond.methodLink "ShadeBeams$Ground" (119 : Nat) ({ cls := "ShadeBeams$Ground", name := "isLampLit", desc := "(I)Z" } : Jvm.MethodName)) ∈ ALLW := aw tb_3 146 rfl rfl
theorem w_748 : (Jvm.Cond.instanceMethod ({ cls := "ShadeBeams$Ground", name := "isLampLit", desc := "(I)Z" } : Jvm.MethodName)) ∈ ALLW := aw tb_3 148 rfl rfl
theorem w_749 : (Jvm.Cond.code ({ cls := "ShadeBeams$Ground", name := "isLampLit", desc := "(I)Z" } : Jvm.MethodName) prog_6_method_10_code (2 : Nat) (Option.some Jvm.ClassFile.FieldType.boolean)) ∈ ALLW := aw tb_3 149 rfl rfl
theorem w_750 : (Jvm.Cond.methodLink "ShadeBeams$Ground" (126 : Nat) ({ cls := "ShadeBeams$Ground", name := "borneIf", desc := "(IIZ)I" } : Jvm.MethodName)) ∈ ALLW := aw tb_3 150 rfl rfl
theorem w_751 : (Jvm.Cond.instanceMethod ({ cls := "ShadeBeams$Ground", name := "borneIf", desc := "(IIZ)I" } : Jvm.MethodName)) ∈ ALLW := aw tb_3 151 rfl rfl
theorem w_752 : (Jvm.Cond.selects "ShadeBeams$Ground" ({ cls := "ShadeBeams$Ground", name := "borneIf", desc := "(IIZ)I" } : Jvm.MethodName) ({ cls := "ShadeBeams$Ground", name := "borneIf", desc := "(IIZ)I" } : Jvm.MethodName)) ∈ ALLW := aw tb_3 152 rfl rfl
theorem w_753 : (Jvm.Cond.code ({ cls := "ShadeBeams$Ground", name := "borneIf", desc := "(IIZ)I" } : Jvm.MethodName) prog_6_method_14_code (6 : Nat) (Option.some Jvm.ClassFile.FieldType.int)) ∈ ALLW := aw tb_3 153 rfl rfl
theorem w_754 : (Jvm.Cond.methodLink "ShadeBeams$Ground" (122 : Nat) ({ cls := "ShadeBeams$Ground", name := "shadesIf", desc := "(IIZ)I" } : Jvm.MethodName)) ∈ ALLW := aw tb_3 154 rfl rfl
theorem w_756 : (Jvm.Cond.instanceMethod ({ cls := "ShadeBeams$Ground", name := "shadesIf", desc := "(IIZ)I" } : Jvm.MethodName)) ∈ ALLW := aw tb_3 156 rfl rfl
theorem w_757 : (Jvm.Cond.code ({ cls := "ShadeBeams$Ground", name := "shadesIf", desc := "(IIZ)I" } : Jvm.MethodName) prog_6_method_12_code (8 : Nat) (Option.some Jvm.ClassFile.FieldType.int)) ∈ ALLW := aw tb_3 157 rfl rfl
theorem w_758 : (Jvm.Cond.methodLink "ShadeBeams$Ground" (129 : Nat) ({ cls := "java/lang/Integer", name := "bitCount", desc := "(I)I" } : Jvm.MethodName)) ∈ ALLW := aw tb_3 158 rfl rfl
theorem w_759 : (Jvm.Cond.static ({ cls := "java/lang/Integer", name := "bitCount", desc := "(I)I" } : Jvm.MethodName)) ∈ ALLW := aw tb_3 159 rfl rfl
theorem w_760 : (Jvm.Cond.code ({ cls := "java/lang/Integer", name := "bitCount", desc := "(I)I" } : Jvm.MethodName) prog_21_method_49_code (1 : Nat) (Option.some Jvm.ClassFile.FieldType.int)) ∈ ALLW := aw tb_3 160 rfl rfl
theorem w_761 : (Jvm.Cond.constant "java/lang/Integer" (265 : Nat) (1431655765 : Int32)) ∈ ALLW := aw tb_3 161 rfl rfl
theorem w_762 : (Jvm.Cond.constant "java/lang/Integer" (266 : Nat) (858993459 : Int32)) ∈ ALLW := aw tb_3 162 rfl rfl
theorem w_763 : (Jvm.Cond.constant "java/lang/Integer" (267 : Nat) (252645135 : Int32)) ∈ ALLW := aw tb_3 163 rfl rfl
theorem w_764 : (Jvm.Cond.methodLink "ShadeBeams$Ground" (134 : Nat) ({ cls := "ShadeBeams$Ground", name := "tallest", desc := "(I)I" } : Jvm.MethodName)) ∈ ALLW := aw tb_3 164 rfl rfl
theorem w_766 : (Jvm.Cond.instanceMethod ({ cls := "ShadeBeams$Ground", name := "tallest", desc := "(I)I" } : Jvm.MethodName)) ∈ ALLW := aw tb_3 166 rfl rfl
theorem w_767 : (Jvm.Cond.code ({ cls := "ShadeBeams$Ground", name := "tallest", desc := "(I)I" } : Jvm.MethodName) prog_6_method_15_code (4 : Nat) (Option.some Jvm.ClassFile.FieldType.int)) ∈ ALLW := aw tb_3 167 rfl rfl
theorem w_768 : (Jvm.Cond.methodLink "ShadeBeams$Ground" (137 : Nat) ({ cls := "ShadeBeams$Law", name := "borne", desc := "(IIII)I" } : Jvm.MethodName)) ∈ ALLW := aw tb_3 168 rfl rfl
theorem w_769 : (Jvm.Cond.instanceMethod ({ cls := "ShadeBeams$Law", name := "borne", desc := "(IIII)I" } : Jvm.MethodName)) ∈ ALLW := aw tb_3 169 rfl rfl
theorem w_770 : (Jvm.Cond.selects "ShadeBeams$Law" ({ cls := "ShadeBeams$Law", name := "borne", desc := "(IIII)I" } : Jvm.MethodName) ({ cls := "ShadeBeams$Law", name := "borne", desc := "(IIII)I" } : Jvm.MethodName)) ∈ ALLW := aw tb_3 170 rfl rfl
theorem w_771 : (Jvm.Cond.code ({ cls := "ShadeBeams$Law", name := "borne", desc := "(IIII)I" } : Jvm.MethodName) prog_9_method_10_code (9 : Nat) (Option.some Jvm.ClassFile.FieldType.int)) ∈ ALLW := aw tb_3 171 rfl rfl
theorem w_772 : (Jvm.Cond.constantLong "ShadeBeams$DayRun" (98 : Nat) (232792560 : Int64)) ∈ ALLW := aw tb_3 172 rfl rfl
theorem w_773 : (Jvm.Cond.methodLink "ShadeBeams$DayRun" (55 : Nat) ({ cls := "java/lang/System", name := "arraycopy", desc := "(Ljava/lang/Object;ILjava/lang/Object;II)V" } : Jvm.MethodName)) ∈ ALLW := aw tb_3 173 rfl rfl
theorem w_774 : (Jvm.Cond.static ({ cls := "java/lang/System", name := "arraycopy", desc := "(Ljava/lang/Object;ILjava/lang/Object;II)V" } : Jvm.MethodName)) ∈ ALLW := aw tb_3 174 rfl rfl
theorem w_775 : (Jvm.Cond.native ({ cls := "java/lang/System", name := "arraycopy", desc := "(Ljava/lang/Object;ILjava/lang/Object;II)V" } : Jvm.MethodName)) ∈ ALLW := aw tb_3 175 rfl rfl
theorem w_776 : (Jvm.Cond.methodLink "ShadeBeamsLaw" (217 : Nat) ({ cls := "ShadeBeams", name := "order", desc := "(I)I" } : Jvm.MethodName)) ∈ ALLW := aw tb_3 176 rfl rfl
theorem w_777 : (Jvm.Cond.instanceMethod ({ cls := "ShadeBeams", name := "order", desc := "(I)I" } : Jvm.MethodName)) ∈ ALLW := aw tb_3 177 rfl rfl
theorem w_778 : (Jvm.Cond.selects "ShadeBeams" ({ cls := "ShadeBeams", name := "order", desc := "(I)I" } : Jvm.MethodName) ({ cls := "ShadeBeams", name := "order", desc := "(I)I" } : Jvm.MethodName)) ∈ ALLW := aw tb_3 178 rfl rfl
theorem w_779 : (Jvm.Cond.code ({ cls := "ShadeBeams", name := "order", desc := "(I)I" } : Jvm.MethodName) prog_1_method_22_code (2 : Nat) (Option.some Jvm.ClassFile.FieldType.int)) ∈ ALLW := aw tb_3 179 rfl rfl
theorem w_780 : (Jvm.Cond.methodLink "ShadeBeamsLaw" (245 : Nat) ({ cls := "ShadeBeams", name := "right", desc := "()I" } : Jvm.MethodName)) ∈ ALLW := aw tb_3 180 rfl rfl
theorem w_781 : (Jvm.Cond.instanceMethod ({ cls := "ShadeBeams", name := "right", desc := "()I" } : Jvm.MethodName)) ∈ ALLW := aw tb_3 181 rfl rfl
theorem w_782 : (Jvm.Cond.selects "ShadeBeams" ({ cls := "ShadeBeams", name := "right", desc := "()I" } : Jvm.MethodName) ({ cls := "ShadeBeams", name := "right", desc := "()I" } : Jvm.MethodName)) ∈ ALLW := aw tb_3 182 rfl rfl
theorem w_783 : (Jvm.Cond.code ({ cls := "ShadeBeams", name := "right", desc := "()I" } : Jvm.MethodName) prog_1_method_33_code (1 : Nat) (Option.some Jvm.ClassFile.FieldType.int)) ∈ ALLW := aw tb_3 183 rfl rfl
theorem w_784 : (Jvm.Cond.methodLink "ShadeBeams" (383 : Nat) ({ cls := "ShadeBeams", name := "rightLines", desc := "(LShadeBeams$DayRun;)I" } : Jvm.MethodName)) ∈ ALLW := aw tb_3 184 rfl rfl
theorem w_786 : (Jvm.Cond.instanceMethod ({ cls := "ShadeBeams", name := "rightLines", desc := "(LShadeBeams$DayRun;)I" } : Jvm.MethodName)) ∈ ALLW := aw tb_3 186 rfl rfl
theorem w_787 : (Jvm.Cond.code ({ cls := "ShadeBeams", name := "rightLines", desc := "(LShadeBeams$DayRun;)I" } : Jvm.MethodName) prog_1_method_35_code (3 : Nat) (Option.some Jvm.ClassFile.FieldType.int)) ∈ ALLW := aw tb_3 187 rfl rfl
theorem w_788 : (Jvm.Cond.methodLink "ShadeBeams" (390 : Nat) ({ cls := "ShadeBeams", name := "isRight", desc := "(LShadeBeams$DayRun;I)Z" } : Jvm.MethodName)) ∈ ALLW := aw tb_3 188 rfl rfl
theorem w_790 : (Jvm.Cond.instanceMethod ({ cls := "ShadeBeams", name := "isRight", desc := "(LShadeBeams$DayRun;I)Z" } : Jvm.MethodName)) ∈ ALLW := aw tb_3 190 rfl rfl
theorem w_791 : (Jvm.Cond.code ({ cls := "ShadeBeams", name := "isRight", desc := "(LShadeBeams$DayRun;I)Z" } : Jvm.MethodName) prog_1_method_36_code (4 : Nat) (Option.some Jvm.ClassFile.FieldType.boolean)) ∈ ALLW := aw tb_3 191 rfl rfl
theorem w_792 : (Jvm.Cond.methodLink "ShadeBeamsLaw" (292 : Nat) ({ cls := "ShadeBeams", name := "heaviest", desc := "()I" } : Jvm.MethodName)) ∈ ALLW := aw tb_3 192 rfl rfl
theorem w_793 : (Jvm.Cond.instanceMethod ({ cls := "ShadeBeams", name := "heaviest", desc := "()I" } : Jvm.MethodName)) ∈ ALLW := aw tb_3 193 rfl rfl
theorem w_794 : (Jvm.Cond.selects "ShadeBeams" ({ cls := "ShadeBeams", name := "heaviest", desc := "()I" } : Jvm.MethodName) ({ cls := "ShadeBeams", name := "heaviest", desc := "()I" } : Jvm.MethodName)) ∈ ALLW := aw tb_3 194 rfl rfl
theorem w_795 : (Jvm.Cond.code ({ cls := "ShadeBeams", name := "heaviest", desc := "()I" } : Jvm.MethodName) prog_1_method_54_code (7 : Nat) (Option.some Jvm.ClassFile.FieldType.int)) ∈ ALLW := aw tb_3 195 rfl rfl
theorem w_796 : (Jvm.Cond.methodLink "ShadeBeams" (453 : Nat) ({ cls := "java/lang/Math", name := "max", desc := "(JJ)J" } : Jvm.MethodName)) ∈ ALLW := aw tb_3 196 rfl rfl
theorem w_797 : (Jvm.Cond.static ({ cls := "java/lang/Math", name := "max", desc := "(JJ)J" } : Jvm.MethodName)) ∈ ALLW := aw tb_3 197 rfl rfl
theorem w_798 : (Jvm.Cond.code ({ cls := "java/lang/Math", name := "max", desc := "(JJ)J" } : Jvm.MethodName) prog_23_method_66_code (4 : Nat) (Option.some Jvm.ClassFile.FieldType.long)) ∈ ALLW := aw tb_3 198 rfl rfl
theorem w_799 : (Jvm.Cond.methodLink "ShadeBeamsLaw" (308 : Nat) ({ cls := "ShadeBeams", name := "undo", desc := "()I" } : Jvm.MethodName)) ∈ ALLW := aw tb_3 199 rfl rfl
theorem w_800 : (Jvm.Cond.instanceMethod ({ cls := "ShadeBeams", name := "undo", desc := "()I" } : Jvm.MethodName)) ∈ ALLW := aw tb_3 200 rfl rfl
theorem w_801 : (Jvm.Cond.selects "ShadeBeams" ({ cls := "ShadeBeams", name := "undo", desc := "()I" } : Jvm.MethodName) ({ cls := "ShadeBeams", name := "undo", desc := "()I" } : Jvm.MethodName)) ∈ ALLW := aw tb_3 201 rfl rfl
theorem w_802 : (Jvm.Cond.code ({ cls := "ShadeBeams", name := "undo", desc := "()I" } : Jvm.MethodName) prog_1_method_59_code (1 : Nat) (Option.some Jvm.ClassFile.FieldType.int)) ∈ ALLW := aw tb_3 202 rfl rfl
theorem w_803 : (Jvm.Cond.methodLink "ShadeBeams" (460 : Nat) ({ cls := "ShadeBeams$Changes", name := "takeBack", desc := "(LShadeBeams$Street;)V" } : Jvm.MethodName)) ∈ ALLW := aw tb_3 203 rfl rfl
theorem w_804 : (Jvm.Cond.instanceMethod ({ cls := "ShadeBeams$Changes", name := "takeBack", desc := "(LShadeBeams$Street;)V" } : Jvm.MethodName)) ∈ ALLW := aw tb_3 204 rfl rfl
theorem w_805 : (Jvm.Cond.selects "ShadeBeams$Changes" ({ cls := "ShadeBeams$Changes", name := "takeBack", desc := "(LShadeBeams$Street;)V" } : Jvm.MethodName) ({ cls := "ShadeBeams$Changes", name := "takeBack", desc := "(LShadeBeams$Street;)V" } : Jvm.MethodName)) ∈ ALLW := aw tb_3 205 rfl rfl
theorem w_806 : (Jvm.Cond.code ({ cls := "ShadeBeams$Changes", name := "takeBack", desc := "(LShadeBeams$Street;)V" } : Jvm.MethodName) prog_4_method_3_code (3 : Nat) (Option.none : Option Jvm.ClassFile.FieldType)) ∈ ALLW := aw tb_3 206 rfl rfl
theorem w_807 : (Jvm.Cond.methodLink "ShadeBeams$Changes" (42 : Nat) ({ cls := "ShadeBeams$Beams", name := "setLoad", desc := "(III)V" } : Jvm.MethodName)) ∈ ALLW := aw tb_3 207 rfl rfl
theorem w_808 : (Jvm.Cond.instanceMethod ({ cls := "ShadeBeams$Beams", name := "setLoad", desc := "(III)V" } : Jvm.MethodName)) ∈ ALLW := aw tb_3 208 rfl rfl
theorem w_809 : (Jvm.Cond.selects "ShadeBeams$Beams" ({ cls := "ShadeBeams$Beams", name := "setLoad", desc := "(III)V" } : Jvm.MethodName) ({ cls := "ShadeBeams$Beams", name := "setLoad", desc := "(III)V" } : Jvm.MethodName)) ∈ ALLW := aw tb_3 209 rfl rfl
theorem w_810 : (Jvm.Cond.code ({ cls := "ShadeBeams$Beams", name := "setLoad", desc := "(III)V" } : Jvm.MethodName) prog_2_method_5_code (4 : Nat) (Option.none : Option Jvm.ClassFile.FieldType)) ∈ ALLW := aw tb_3 210 rfl rfl
theorem w_811 : (Jvm.Cond.methodLink "ShadeBeams$Beams" (45 : Nat) ({ cls := "ShadeBeams$Beams", name := "isCell", desc := "(II)Z" } : Jvm.MethodName)) ∈ ALLW := aw tb_3 211 rfl rfl
theorem w_813 : (Jvm.Cond.instanceMethod ({ cls := "ShadeBeams$Beams", name := "isCell", desc := "(II)Z" } : Jvm.MethodName)) ∈ ALLW := aw tb_3 213 rfl rfl
theorem w_814 : (Jvm.Cond.code ({ cls := "ShadeBeams$Beams", name := "isCell", desc := "(II)Z" } : Jvm.MethodName) prog_2_method_6_code (3 : Nat) (Option.some Jvm.ClassFile.FieldType.boolean)) ∈ ALLW := aw tb_3 214 rfl rfl
theorem w_815 : (Jvm.Cond.methodLink "ShadeBeams$Beams" (41 : Nat) ({ cls := "ShadeBeams$Beams", name := "weigh", desc := "(I)V" } : Jvm.MethodName)) ∈ ALLW := aw tb_3 215 rfl rfl
theorem w_816 : (Jvm.Cond.instanceMethod ({ cls := "ShadeBeams$Beams", name := "weigh", desc := "(I)V" } : Jvm.MethodName)) ∈ ALLW := aw tb_3 216 rfl rfl
theorem w_817 : (Jvm.Cond.selects "ShadeBeams$Beams" ({ cls := "ShadeBeams$Beams", name := "weigh", desc := "(I)V" } : Jvm.MethodName) ({ cls := "ShadeBeams$Beams", name := "weigh", desc := "(I)V" } : Jvm.MethodName)) ∈ ALLW := aw tb_3 217 rfl rfl
theorem w_818 : (Jvm.Cond.code ({ cls := "ShadeBeams$Beams", name := "weigh", desc := "(I)V" } : Jvm.MethodName) prog_2_method_9_code (12 : Nat) (Option.none : Option Jvm.ClassFile.FieldType)) ∈ ALLW := aw tb_3 218 rfl rfl
theorem w_819 : (Jvm.Cond.constantLong "ShadeBeams$Beams" (53 : Nat) (232792560 : Int64)) ∈ ALLW := aw tb_3 219 rfl rfl
theorem w_820 : (Jvm.Cond.methodLink "ShadeBeamsLaw" (312 : Nat) ({ cls := "ShadeBeams", name := "image", desc := "()I" } : Jvm.MethodName)) ∈ ALLW := aw tb_3 220 rfl rfl
theorem w_821 : (Jvm.Cond.instanceMethod ({ cls := "ShadeBeams", name := "image", desc := "()I" } : Jvm.MethodName)) ∈ ALLW := aw tb_3 221 rfl rfl
theorem w_822 : (Jvm.Cond.selects "ShadeBeams" ({ cls := "ShadeBeams", name := "image", desc := "()I" } : Jvm.MethodName) ({ cls := "ShadeBeams", name := "image", desc := "()I" } : Jvm.MethodName)) ∈ ALLW := aw tb_3 222 rfl rfl
theorem w_823 : (Jvm.Cond.code ({ cls := "ShadeBeams", name := "image", desc := "()I" } : Jvm.MethodName) prog_1_method_60_code (1 : Nat) (Option.some Jvm.ClassFile.FieldType.int)) ∈ ALLW := aw tb_3 223 rfl rfl
theorem w_824 : (Jvm.Cond.methodLink "ShadeBeams" (464 : Nat) ({ cls := "ShadeBeams$Image", name := "keep", desc := "(LShadeBeams$Street;ILShadeBeams$Changes;)V" } : Jvm.MethodName)) ∈ ALLW := aw tb_3 224 rfl rfl
theorem w_825 : (Jvm.Cond.instanceMethod ({ cls := "ShadeBeams$Image", name := "keep", desc := "(LShadeBeams$Street;ILShadeBeams$Changes;)V" } : Jvm.MethodName)) ∈ ALLW := aw tb_3 225 rfl rfl
theorem w_826 : (Jvm.Cond.selects "ShadeBeams$Image" ({ cls := "ShadeBeams$Image", name := "keep", desc := "(LShadeBeams$Street;ILShadeBeams$Changes;)V" } : Jvm.MethodName) ({ cls := "ShadeBeams$Image", name := "keep", desc := "(LShadeBeams$Street;ILShadeBeams$Changes;)V" } : Jvm.MethodName)) ∈ ALLW := aw tb_3 226 rfl rfl
theorem w_827 : (Jvm.Cond.code ({ cls := "ShadeBeams$Image", name := "keep", desc := "(LShadeBeams$Street;ILShadeBeams$Changes;)V" } : Jvm.MethodName) prog_7_method_2_code (4 : Nat) (Option.none : Option Jvm.ClassFile.FieldType)) ∈ ALLW := aw tb_3 227 rfl rfl
theorem w_828 : (Jvm.Cond.methodLink "ShadeBeams$Image" (33 : Nat) ({ cls := "java/lang/System", name := "arraycopy", desc := "(Ljava/lang/Object;ILjava/lang/Object;II)V" } : Jvm.MethodName)) ∈ ALLW := aw tb_3 228 rfl rfl
theorem w_829 : (Jvm.Cond.methodLink "ShadeBeams$Image" (49 : Nat) ({ cls := "ShadeBeams$Changes", name := "copyFrom", desc := "(LShadeBeams$Changes;)V" } : Jvm.MethodName)) ∈ ALLW := aw tb_3 229 rfl rfl
theorem w_830 : (Jvm.Cond.instanceMethod ({ cls := "ShadeBeams$Changes", name := "copyFrom", desc := "(LShadeBeams$Changes;)V" } : Jvm.MethodName)) ∈ ALLW := aw tb_3 230 rfl rfl
theorem w_831 : (Jvm.Cond.selects "ShadeBeams$Changes" ({ cls := "ShadeBeams$Changes", name := "copyFrom", desc := "(LShadeBeams$Changes;)V" } : Jvm.MethodName) ({ cls := "ShadeBeams$Changes", name := "copyFrom", desc := "(LShadeBeams$Changes;)V" } : Jvm.MethodName)) ∈ ALLW := aw tb_3 231 rfl rfl
theorem w_832 : (Jvm.Cond.code ({ cls := "ShadeBeams$Changes", name := "copyFrom", desc := "(LShadeBeams$Changes;)V" } : Jvm.MethodName) prog_4_method_4_code (2 : Nat) (Option.none : Option Jvm.ClassFile.FieldType)) ∈ ALLW := aw tb_3 232 rfl rfl
theorem w_833 : (Jvm.Cond.methodLink "ShadeBeams$Changes" (46 : Nat) ({ cls := "java/lang/System", name := "arraycopy", desc := "(Ljava/lang/Object;ILjava/lang/Object;II)V" } : Jvm.MethodName)) ∈ ALLW := aw tb_3 233 rfl rfl
theorem w_834 : (Jvm.Cond.methodLink "ShadeBeamsLaw" (316 : Nat) ({ cls := "ShadeBeams", name := "restore", desc := "()I" } : Jvm.MethodName)) ∈ ALLW := aw tb_3 234 rfl rfl
theorem w_835 : (Jvm.Cond.instanceMethod ({ cls := "ShadeBeams", name := "restore", desc := "()I" } : Jvm.MethodName)) ∈ ALLW := aw tb_3 235 rfl rfl
theorem w_836 : (Jvm.Cond.selects "ShadeBeams" ({ cls := "ShadeBeams", name := "restore", desc := "()I" } : Jvm.MethodName) ({ cls := "ShadeBeams", name := "restore", desc := "()I" } : Jvm.MethodName)) ∈ ALLW := aw tb_3 236 rfl rfl
theorem w_837 : (Jvm.Cond.code ({ cls := "ShadeBeams", name := "restore", desc := "()I" } : Jvm.MethodName) prog_1_method_61_code (1 : Nat) (Option.some Jvm.ClassFile.FieldType.int)) ∈ ALLW := aw tb_3 237 rfl rfl
theorem w_838 : (Jvm.Cond.methodLink "ShadeBeams" (468 : Nat) ({ cls := "ShadeBeams$Image", name := "giveBack", desc := "(LShadeBeams$Street;LShadeBeams$Changes;)V" } : Jvm.MethodName)) ∈ ALLW := aw tb_3 238 rfl rfl
theorem w_839 : (Jvm.Cond.instanceMethod ({ cls := "ShadeBeams$Image", name := "giveBack", desc := "(LShadeBeams$Street;LShadeBeams$Changes;)V" } : Jvm.MethodName)) ∈ ALLW := aw tb_3 239 rfl rfl
theorem w_840 : (Jvm.Cond.selects "ShadeBeams$Image" ({ cls := "ShadeBeams$Image", name := "giveBack", desc := "(LShadeBeams$Street;LShadeBeams$Changes;)V" } : Jvm.MethodName) ({ cls := "ShadeBeams$Image", name := "giveBack", desc := "(LShadeBeams$Street;LShadeBeams$Changes;)V" } : Jvm.MethodName)) ∈ ALLW := aw tb_4 0 rfl rfl
theorem w_841 : (Jvm.Cond.code ({ cls := "ShadeBeams$Image", name := "giveBack", desc := "(LShadeBeams$Street;LShadeBeams$Changes;)V" } : Jvm.MethodName) prog_7_method_3_code (4 : Nat) (Option.none : Option Jvm.ClassFile.FieldType)) ∈ ALLW := aw tb_4 1 rfl rfl
theorem w_842 : (Jvm.Cond.methodLink "ShadeBeams$Image" (60 : Nat) ({ cls := "ShadeBeams$Beams", name := "weigh", desc := "(I)V" } : Jvm.MethodName)) ∈ ALLW := aw tb_4 2 rfl rfl
theorem w_843 : (Jvm.Cond.methodLink "ShadeBeamsLaw" (320 : Nat) ({ cls := "ShadeBeams", name := "status", desc := "(I)I" } : Jvm.MethodName)) ∈ ALLW := aw tb_4 3 rfl rfl
theorem w_844 : (Jvm.Cond.instanceMethod ({ cls := "ShadeBeams", name := "status", desc := "(I)I" } : Jvm.MethodName)) ∈ ALLW := aw tb_4 4 rfl rfl
theorem w_845 : (Jvm.Cond.selects "ShadeBeams" ({ cls := "ShadeBeams", name := "status", desc := "(I)I" } : Jvm.MethodName) ({ cls := "ShadeBeams", name := "status", desc := "(I)I" } : Jvm.MethodName)) ∈ ALLW := aw tb_4 5 rfl rfl
theorem w_846 : (Jvm.Cond.code ({ cls := "ShadeBeams", name := "status", desc := "(I)I" } : Jvm.MethodName) prog_1_method_62_code (2 : Nat) (Option.some Jvm.ClassFile.FieldType.int)) ∈ ALLW := aw tb_4 6 rfl rfl
theorem w_847 : (Jvm.Cond.methodLink "ShadeBeamsLaw" (324 : Nat) ({ cls := "ShadeBeams", name := "count", desc := "(I)I" } : Jvm.MethodName)) ∈ ALLW := aw tb_4 7 rfl rfl
theorem w_848 : (Jvm.Cond.instanceMethod ({ cls := "ShadeBeams", name := "count", desc := "(I)I" } : Jvm.MethodName)) ∈ ALLW := aw tb_4 8 rfl rfl
theorem w_849 : (Jvm.Cond.selects "ShadeBeams" ({ cls := "ShadeBeams", name := "count", desc := "(I)I" } : Jvm.MethodName) ({ cls := "ShadeBeams", name := "count", desc := "(I)I" } : Jvm.MethodName)) ∈ ALLW := aw tb_4 9 rfl rfl
theorem w_850 : (Jvm.Cond.code ({ cls := "ShadeBeams", name := "count", desc := "(I)I" } : Jvm.MethodName) prog_1_method_63_code (2 : Nat) (Option.some Jvm.ClassFile.FieldType.int)) ∈ ALLW := aw tb_4 10 rfl rfl
theorem w_851 : (Jvm.Cond.methodLink "ShadeBeamsLaw" (154 : Nat) ({ cls := "ShadeBeamsLaw", name := "street", desc := "(LShadeBeams;I[J)I" } : Jvm.MethodName)) ∈ ALLW := aw tb_4 11 rfl rfl
theorem w_852 : (Jvm.Cond.static ({ cls := "ShadeBeamsLaw", name := "street", desc := "(LShadeBeams;I[J)I" } : Jvm.MethodName)) ∈ ALLW := aw tb_4 12 rfl rfl
theorem w_853 : (Jvm.Cond.codeWith ({ cls := "ShadeBeamsLaw", name := "street", desc := "(LShadeBeams;I[J)I" } : Jvm.MethodName) method_3_code (4 : Nat) (Option.some Jvm.ClassFile.FieldType.int) [((0 : Nat), (9 : Nat), (12 : Nat), (13 : Nat))]) ∈ ALLW := aw tb_4 13 rfl rfl
theorem w_854 : (Jvm.Cond.classLink "ShadeBeamsLaw" (13 : Nat) "java/lang/IllegalArgumentException") ∈ ALLW := aw tb_4 14 rfl rfl
theorem w_855 : (Jvm.Cond.methodLink "ShadeBeamsLaw" (7 : Nat) ({ cls := "ShadeBeams", name := "street", desc := "(I)I" } : Jvm.MethodName)) ∈ ALLW := aw tb_4 15 rfl rfl
theorem w_856 : (Jvm.Cond.instanceMethod ({ cls := "ShadeBeams", name := "street", desc := "(I)I" } : Jvm.MethodName)) ∈ ALLW := aw tb_4 16 rfl rfl
theorem w_857 : (Jvm.Cond.selects "ShadeBeams" ({ cls := "ShadeBeams", name := "street", desc := "(I)I" } : Jvm.MethodName) ({ cls := "ShadeBeams", name := "street", desc := "(I)I" } : Jvm.MethodName)) ∈ ALLW := aw tb_4 17 rfl rfl
theorem w_858 : (Jvm.Cond.code ({ cls := "ShadeBeams", name := "street", desc := "(I)I" } : Jvm.MethodName) prog_1_method_3_code (3 : Nat) (Option.some Jvm.ClassFile.FieldType.int)) ∈ ALLW := aw tb_4 18 rfl rfl
theorem w_859 : (Jvm.Cond.methodLink "ShadeBeams" (117 : Nat) ({ cls := "ShadeBeams", name := "openText", desc := "(II)V" } : Jvm.MethodName)) ∈ ALLW := aw tb_4 19 rfl rfl
theorem w_861 : (Jvm.Cond.instanceMethod ({ cls := "ShadeBeams", name := "openText", desc := "(II)V" } : Jvm.MethodName)) ∈ ALLW := aw tb_4 21 rfl rfl
theorem w_862 : (Jvm.Cond.code ({ cls := "ShadeBeams", name := "openText", desc := "(II)V" } : Jvm.MethodName) prog_1_method_8_code (3 : Nat) (Option.none : Option Jvm.ClassFile.FieldType)) ∈ ALLW := aw tb_4 22 rfl rfl
theorem w_863 : (Jvm.Cond.methodLink "ShadeBeams" (164 : Nat) ({ cls := "ShadeBeams", name := "need", desc := "(Z)V" } : Jvm.MethodName)) ∈ ALLW := aw tb_4 23 rfl rfl
theorem w_865 : (Jvm.Cond.instanceMethod ({ cls := "ShadeBeams", name := "need", desc := "(Z)V" } : Jvm.MethodName)) ∈ ALLW := aw tb_4 25 rfl rfl
theorem w_866 : (Jvm.Cond.code ({ cls := "ShadeBeams", name := "need", desc := "(Z)V" } : Jvm.MethodName) prog_1_method_73_code (2 : Nat) (Option.none : Option Jvm.ClassFile.FieldType)) ∈ ALLW := aw tb_4 26 rfl rfl
theorem w_867 : (Jvm.Cond.classLink "ShadeBeams" (489 : Nat) "java/lang/IllegalArgumentException") ∈ ALLW := aw tb_4 27 rfl rfl
theorem w_868 : (Jvm.Cond.instantiable "java/lang/IllegalArgumentException" (6 : Nat)) ∈ ALLW := aw tb_4 28 rfl rfl
theorem w_869 : (Jvm.Cond.castable "java/lang/IllegalArgumentException" "java/lang/IllegalArgumentException") ∈ NESTW := anw tb_4 29 rfl rfl
theorem w_870 : (Jvm.Cond.declares ({ cls := "java/lang/RuntimeException", name := "<init>", desc := "()V" } : Jvm.MethodName)) ∈ NESTW := anw tb_4 30 rfl rfl
theorem w_871 : (Jvm.Cond.declares ({ cls := "java/lang/RuntimeException", name := "<init>", desc := "(Ljava/lang/String;)V" } : Jvm.MethodName)) ∈ NESTW := anw tb_4 31 rfl rfl
theorem w_872 : (Jvm.Cond.declares ({ cls := "java/lang/Exception", name := "<init>", desc := "()V" } : Jvm.MethodName)) ∈ NESTW := anw tb_4 32 rfl rfl
theorem w_873 : (Jvm.Cond.declares ({ cls := "java/lang/Exception", name := "<init>", desc := "(Ljava/lang/String;)V" } : Jvm.MethodName)) ∈ NESTW := anw tb_4 33 rfl rfl
theorem w_874 : (Jvm.Cond.declares ({ cls := "java/lang/Throwable", name := "<init>", desc := "()V" } : Jvm.MethodName)) ∈ NESTW := anw tb_4 34 rfl rfl
theorem w_875 : (Jvm.Cond.declares ({ cls := "java/lang/Throwable", name := "<init>", desc := "(Ljava/lang/String;)V" } : Jvm.MethodName)) ∈ NESTW := anw tb_4 35 rfl rfl
theorem w_876 : (Jvm.Cond.selects "java/lang/IllegalArgumentException" ({ cls := "java/lang/Throwable", name := "fillInStackTrace", desc := "(I)Ljava/lang/Throwable;" } : Jvm.MethodName) ({ cls := "java/lang/Throwable", name := "fillInStackTrace", desc := "(I)Ljava/lang/Throwable;" } : Jvm.MethodName)) ∈ ALLW := aw tb_4 36 rfl rfl
theorem w_877 : (Jvm.Cond.selects "java/lang/IllegalArgumentException" ({ cls := "java/lang/Throwable", name := "fillInStackTrace", desc := "()Ljava/lang/Throwable;" } : Jvm.MethodName) ({ cls := "java/lang/Throwable", name := "fillInStackTrace", desc := "()Ljava/lang/Throwable;" } : Jvm.MethodName)) ∈ ALLW := aw tb_4 37 rfl rfl
theorem w_878 : (Jvm.Cond.lays "java/lang/IllegalArgumentException" "java/lang/Throwable" "cause" "Ljava/lang/Throwable;") ∈ ALLW := aw tb_4 38 rfl rfl
theorem w_879 : (Jvm.Cond.lays "java/lang/Throwable" "java/lang/Throwable" "cause" "Ljava/lang/Throwable;") ∈ ALLW := aw tb_4 39 rfl rfl
theorem w_880 : (Jvm.Cond.lays "java/lang/IllegalArgumentException" "java/lang/Throwable" "stackTrace" "[Ljava/lang/StackTraceElement;") ∈ ALLW := aw tb_4 40 rfl rfl
theorem w_881 : (Jvm.Cond.lays "java/lang/Throwable" "java/lang/Throwable" "stackTrace" "[Ljava/lang/StackTraceElement;") ∈ ALLW := aw tb_4 41 rfl rfl
theorem w_882 : (Jvm.Cond.lays "java/lang/IllegalArgumentException" "java/lang/Throwable" "suppressedExceptions" "Ljava/util/List;") ∈ ALLW := aw tb_4 42 rfl rfl
theorem w_883 : (Jvm.Cond.lays "java/lang/Throwable" "java/lang/Throwable" "suppressedExceptions" "Ljava/util/List;") ∈ ALLW := aw tb_4 43 rfl rfl
theorem w_884 : (Jvm.Cond.lays "java/lang/IllegalArgumentException" "java/lang/Throwable" "detailMessage" "Ljava/lang/String;") ∈ ALLW := aw tb_4 44 rfl rfl
theorem w_885 : (Jvm.Cond.lays "java/lang/Throwable" "java/lang/Throwable" "detailMessage" "Ljava/lang/String;") ∈ ALLW := aw tb_4 45 rfl rfl
theorem w_886 : (Jvm.Cond.lays "java/lang/IllegalArgumentException" "java/lang/Throwable" "backtrace" "Ljava/lang/Object;") ∈ ALLW := aw tb_4 46 rfl rfl
theorem w_887 : (Jvm.Cond.lays "java/lang/Throwable" "java/lang/Throwable" "backtrace" "Ljava/lang/Object;") ∈ ALLW := aw tb_4 47 rfl rfl
theorem w_888 : (Jvm.Cond.fieldLink "java/lang/Throwable" (198 : Nat) "java/lang/Throwable" "backtrace" "Ljava/lang/Object;") ∈ ALLW := aw tb_4 48 rfl rfl
theorem w_889 : (Jvm.Cond.superclass "java/lang/Throwable" "java/lang/Object") ∈ ALLW := aw tb_4 49 rfl rfl
theorem w_890 : (Jvm.Cond.instanceMethod ({ cls := "java/lang/Throwable", name := "<init>", desc := "()V" } : Jvm.MethodName)) ∈ ALLW := aw tb_4 50 rfl rfl
theorem w_891 : (Jvm.Cond.code ({ cls := "java/lang/Throwable", name := "<init>", desc := "()V" } : Jvm.MethodName) prog_30_method_1_code (1 : Nat) (Option.none : Option Jvm.ClassFile.FieldType)) ∈ ALLW := aw tb_4 51 rfl rfl
theorem w_892 : (Jvm.Cond.methodLink "java/lang/Throwable" (1 : Nat) ({ cls := "java/lang/Object", name := "<init>", desc := "()V" } : Jvm.MethodName)) ∈ ALLW := aw tb_4 52 rfl rfl
theorem w_893 : (Jvm.Cond.fieldLink "java/lang/Throwable" (13 : Nat) "java/lang/Throwable" "UNASSIGNED_STACK" "[Ljava/lang/StackTraceElement;") ∈ ALLW := aw tb_4 53 rfl rfl
theorem w_895 : (Jvm.Cond.fieldLink "java/lang/Throwable" (20 : Nat) "java/lang/Throwable" "SUPPRESSED_SENTINEL" "Ljava/util/List;") ∈ ALLW := aw tb_4 55 rfl rfl
theorem w_897 : (Jvm.Cond.methodLink "java/lang/Throwable" (27 : Nat) ({ cls := "java/lang/Throwable", name := "fillInStackTrace", desc := "()Ljava/lang/Throwable;" } : Jvm.MethodName)) ∈ ALLW := aw tb_4 57 rfl rfl
theorem w_898 : (Jvm.Cond.instanceMethod ({ cls := "java/lang/Throwable", name := "fillInStackTrace", desc := "()Ljava/lang/Throwable;" } : Jvm.MethodName)) ∈ ALLW := aw tb_4 58 rfl rfl
theorem w_899 : (Jvm.Cond.sameMethod "java/lang/Throwable" "java/lang/Throwable" "fillInStackTrace" "()Ljava/lang/Throwable;") ∈ ALLW := aw tb_4 59 rfl rfl
theorem w_900 : (Jvm.Cond.selects "java/lang/IndexOutOfBoundsException" ({ cls := "java/lang/Throwable", name := "fillInStackTrace", desc := "()Ljava/lang/Throwable;" } : Jvm.MethodName) ({ cls := "java/lang/Throwable", name := "fillInStackTrace", desc := "()Ljava/lang/Throwable;" } : Jvm.MethodName)) ∈ ALLW := aw tb_4 60 rfl rfl
theorem w_901 : (Jvm.Cond.selects "java/util/NoSuchElementException" ({ cls := "java/lang/Throwable", name := "fillInStackTrace", desc := "()Ljava/lang/Throwable;" } : Jvm.MethodName) ({ cls := "java/lang/Throwable", name := "fillInStackTrace", desc := "()Ljava/lang/Throwable;" } : Jvm.MethodName)) ∈ ALLW := aw tb_4 61 rfl rfl
theorem w_902 : (Jvm.Cond.codeSync ({ cls := "java/lang/Throwable", name := "fillInStackTrace", desc := "()Ljava/lang/Throwable;" } : Jvm.MethodName) prog_30_method_18_code (1 : Nat) (Option.some (Jvm.ClassFile.FieldType.object "java/lang/Throwable"))) ∈ ALLW := aw tb_4 62 rfl rfl
theorem w_903 : (Jvm.Cond.methodLink "java/lang/Throwable" (202 : Nat) ({ cls := "java/lang/Throwable", name := "fillInStackTrace", desc := "(I)Ljava/lang/Throwable;" } : Jvm.MethodName)) ∈ ALLW := aw tb_4 63 rfl rfl
theorem w_905 : (Jvm.Cond.instanceMethod ({ cls := "java/lang/Throwable", name := "fillInStackTrace", desc := "(I)Ljava/lang/Throwable;" } : Jvm.MethodName)) ∈ ALLW := aw tb_4 65 rfl rfl
theorem w_906 : (Jvm.Cond.instantiable "java/lang/Throwable" (6 : Nat)) ∈ ALLW := aw tb_4 66 rfl rfl
theorem w_907 : (Jvm.Cond.native ({ cls := "java/lang/Throwable", name := "fillInStackTrace", desc := "(I)Ljava/lang/Throwable;" } : Jvm.MethodName)) ∈ ALLW := aw tb_4 67 rfl rfl
theorem w_909 : (Jvm.Cond.methodLink "ShadeBeams" (493 : Nat) ({ cls := "java/lang/IllegalArgumentException", name := "<init>", desc := "(Ljava/lang/String;)V" } : Jvm.MethodName)) ∈ ALLW := aw tb_4 69 rfl rfl
theorem w_910 : (Jvm.Cond.instanceMethod ({ cls := "java/lang/IllegalArgumentException", name := "<init>", desc := "(Ljava/lang/String;)V" } : Jvm.MethodName)) ∈ ALLW := aw tb_4 70 rfl rfl
theorem w_911 : (Jvm.Cond.code ({ cls := "java/lang/IllegalArgumentException", name := "<init>", desc := "(Ljava/lang/String;)V" } : Jvm.MethodName) prog_19_method_2_code (2 : Nat) (Option.none : Option Jvm.ClassFile.FieldType)) ∈ ALLW := aw tb_4 71 rfl rfl
theorem w_912 : (Jvm.Cond.methodLink "java/lang/IllegalArgumentException" (7 : Nat) ({ cls := "java/lang/RuntimeException", name := "<init>", desc := "(Ljava/lang/String;)V" } : Jvm.MethodName)) ∈ ALLW := aw tb_4 72 rfl rfl
theorem w_913 : (Jvm.Cond.instanceMethod ({ cls := "java/lang/RuntimeException", name := "<init>", desc := "(Ljava/lang/String;)V" } : Jvm.MethodName)) ∈ ALLW := aw tb_4 73 rfl rfl
theorem w_914 : (Jvm.Cond.code ({ cls := "java/lang/RuntimeException", name := "<init>", desc := "(Ljava/lang/String;)V" } : Jvm.MethodName) prog_25_method_2_code (2 : Nat) (Option.none : Option Jvm.ClassFile.FieldType)) ∈ ALLW := aw tb_4 74 rfl rfl
theorem w_915 : (Jvm.Cond.methodLink "java/lang/RuntimeException" (7 : Nat) ({ cls := "java/lang/Exception", name := "<init>", desc := "(Ljava/lang/String;)V" } : Jvm.MethodName)) ∈ ALLW := aw tb_4 75 rfl rfl
theorem w_916 : (Jvm.Cond.instanceMethod ({ cls := "java/lang/Exception", name := "<init>", desc := "(Ljava/lang/String;)V" } : Jvm.MethodName)) ∈ ALLW := aw tb_4 76 rfl rfl
theorem w_917 : (Jvm.Cond.code ({ cls := "java/lang/Exception", name := "<init>", desc := "(Ljava/lang/String;)V" } : Jvm.MethodName) prog_18_method_2_code (2 : Nat) (Option.none : Option Jvm.ClassFile.FieldType)) ∈ ALLW := aw tb_4 77 rfl rfl
theorem w_918 : (Jvm.Cond.methodLink "java/lang/Exception" (7 : Nat) ({ cls := "java/lang/Throwable", name := "<init>", desc := "(Ljava/lang/String;)V" } : Jvm.MethodName)) ∈ ALLW := aw tb_4 78 rfl rfl
theorem w_919 : (Jvm.Cond.instanceMethod ({ cls := "java/lang/Throwable", name := "<init>", desc := "(Ljava/lang/String;)V" } : Jvm.MethodName)) ∈ ALLW := aw tb_4 79 rfl rfl
theorem w_920 : (Jvm.Cond.code ({ cls := "java/lang/Throwable", name := "<init>", desc := "(Ljava/lang/String;)V" } : Jvm.MethodName) prog_30_method_2_code (2 : Nat) (Option.none : Option Jvm.ClassFile.FieldType)) ∈ ALLW := aw tb_4 80 rfl rfl
theorem w_922 : (Jvm.Cond.fieldLink "java/lang/Throwable" (31 : Nat) "java/lang/Throwable" "detailMessage" "Ljava/lang/String;") ∈ ALLW := aw tb_4 82 rfl rfl
theorem w_923 : (Jvm.Cond.fieldLink "java/lang/Throwable" (7 : Nat) "java/lang/Throwable" "cause" "Ljava/lang/Throwable;") ∈ ALLW := aw tb_4 83 rfl rfl
theorem w_924 : (Jvm.Cond.fieldLink "java/lang/Throwable" (17 : Nat) "java/lang/Throwable" "stackTrace" "[Ljava/lang/StackTraceElement;") ∈ ALLW := aw tb_4 84 rfl rfl
theorem w_925 : (Jvm.Cond.fieldLink "java/lang/Throwable" (24 : Nat) "java/lang/Throwable" "suppressedExceptions" "Ljava/util/List;") ∈ ALLW := aw tb_4 85 rfl rfl
theorem w_930 : (Jvm.Cond.lays "java/lang/IllegalArgumentException" "java/lang/Throwable" "depth" "I") ∈ ALLW := aw tb_4 90 rfl rfl
theorem w_933 : (Jvm.Cond.superclass "java/lang/IllegalArgumentException" "java/lang/RuntimeException") ∈ ALLW := aw tb_4 93 rfl rfl
theorem w_934 : (Jvm.Cond.methodLink "ShadeBeams" (168 : Nat) ({ cls := "ShadeBeams$Tape", name := "open", desc := "(I)V" } : Jvm.MethodName)) ∈ ALLW := aw tb_4 94 rfl rfl
theorem w_935 : (Jvm.Cond.instanceMethod ({ cls := "ShadeBeams$Tape", name := "open", desc := "(I)V" } : Jvm.MethodName)) ∈ ALLW := aw tb_4 95 rfl rfl
theorem w_936 : (Jvm.Cond.selects "ShadeBeams$Tape" ({ cls := "ShadeBeams$Tape", name := "open", desc := "(I)V" } : Jvm.MethodName) ({ cls := "ShadeBeams$Tape", name := "open", desc := "(I)V" } : Jvm.MethodName)) ∈ ALLW := aw tb_4 96 rfl rfl
theorem w_937 : (Jvm.Cond.code ({ cls := "ShadeBeams$Tape", name := "open", desc := "(I)V" } : Jvm.MethodName) prog_12_method_4_code (2 : Nat) (Option.none : Option Jvm.ClassFile.FieldType)) ∈ ALLW := aw tb_4 97 rfl rfl
theorem w_938 : (Jvm.Cond.methodLink "ShadeBeams$Tape" (22 : Nat) ({ cls := "java/lang/Math", name := "min", desc := "(II)I" } : Jvm.MethodName)) ∈ ALLW := aw tb_4 98 rfl rfl
theorem w_939 : (Jvm.Cond.methodLink "ShadeBeams" (121 : Nat) ({ cls := "ShadeBeams$Street", name := "read", desc := "(LShadeBeams$Tape;)V" } : Jvm.MethodName)) ∈ ALLW := aw tb_4 99 rfl rfl
theorem w_940 : (Jvm.Cond.instanceMethod ({ cls := "ShadeBeams$Street", name := "read", desc := "(LShadeBeams$Tape;)V" } : Jvm.MethodName)) ∈ ALLW := aw tb_4 100 rfl rfl
theorem w_941 : (Jvm.Cond.selects "ShadeBeams$Street" ({ cls := "ShadeBeams$Street", name := "read", desc := "(LShadeBeams$Tape;)V" } : Jvm.MethodName) ({ cls := "ShadeBeams$Street", name := "read", desc := "(LShadeBeams$Tape;)V" } : Jvm.MethodName)) ∈ ALLW := aw tb_4 101 rfl rfl
theorem w_942 : (Jvm.Cond.code ({ cls := "ShadeBeams$Street", name := "read", desc := "(LShadeBeams$Tape;)V" } : Jvm.MethodName) prog_11_method_6_code (3 : Nat) (Option.none : Option Jvm.ClassFile.FieldType)) ∈ ALLW := aw tb_4 102 rfl rfl
theorem w_943 : (Jvm.Cond.methodLink "ShadeBeams$Street" (79 : Nat) ({ cls := "ShadeBeams$Tape", name := "goesOn", desc := "()Z" } : Jvm.MethodName)) ∈ ALLW := aw tb_4 103 rfl rfl
theorem w_944 : (Jvm.Cond.instanceMethod ({ cls := "ShadeBeams$Tape", name := "goesOn", desc := "()Z" } : Jvm.MethodName)) ∈ ALLW := aw tb_4 104 rfl rfl
theorem w_945 : (Jvm.Cond.selects "ShadeBeams$Tape" ({ cls := "ShadeBeams$Tape", name := "goesOn", desc := "()Z" } : Jvm.MethodName) ({ cls := "ShadeBeams$Tape", name := "goesOn", desc := "()Z" } : Jvm.MethodName)) ∈ ALLW := aw tb_4 105 rfl rfl
theorem w_946 : (Jvm.Cond.code ({ cls := "ShadeBeams$Tape", name := "goesOn", desc := "()Z" } : Jvm.MethodName) prog_12_method_10_code (1 : Nat) (Option.some Jvm.ClassFile.FieldType.boolean)) ∈ ALLW := aw tb_4 106 rfl rfl
theorem w_947 : (Jvm.Cond.methodLink "ShadeBeams$Tape" (40 : Nat) ({ cls := "ShadeBeams$Tape", name := "skipBlanks", desc := "()V" } : Jvm.MethodName)) ∈ ALLW := aw tb_4 107 rfl rfl
theorem w_949 : (Jvm.Cond.instanceMethod ({ cls := "ShadeBeams$Tape", name := "skipBlanks", desc := "()V" } : Jvm.MethodName)) ∈ ALLW := aw tb_4 109 rfl rfl
theorem w_950 : (Jvm.Cond.code ({ cls := "ShadeBeams$Tape", name := "skipBlanks", desc := "()V" } : Jvm.MethodName) prog_12_method_8_code (1 : Nat) (Option.none : Option Jvm.ClassFile.FieldType)) ∈ ALLW := aw tb_4 110 rfl rfl
theorem w_951 : (Jvm.Cond.methodLink "ShadeBeams$Street" (85 : Nat) ({ cls := "ShadeBeams$Street", name := "readClause", desc := "(LShadeBeams$Tape;I)V" } : Jvm.MethodName)) ∈ ALLW := aw tb_4 111 rfl rfl
theorem w_953 : (Jvm.Cond.instanceMethod ({ cls := "ShadeBeams$Street", name := "readClause", desc := "(LShadeBeams$Tape;I)V" } : Jvm.MethodName)) ∈ ALLW := aw tb_4 113 rfl rfl
theorem w_954 : (Jvm.Cond.code ({ cls := "ShadeBeams$Street", name := "readClause", desc := "(LShadeBeams$Tape;I)V" } : Jvm.MethodName) prog_11_method_7_code (4 : Nat) (Option.none : Option Jvm.ClassFile.FieldType)) ∈ ALLW := aw tb_4 114 rfl rfl
theorem w_955 : (Jvm.Cond.methodLink "ShadeBeams$Street" (89 : Nat) ({ cls := "ShadeBeams$Tape", name := "takeWord", desc := "()V" } : Jvm.MethodName)) ∈ ALLW := aw tb_4 115 rfl rfl
theorem w_956 : (Jvm.Cond.instanceMethod ({ cls := "ShadeBeams$Tape", name := "takeWord", desc := "()V" } : Jvm.MethodName)) ∈ ALLW := aw tb_4 116 rfl rfl
theorem w_957 : (Jvm.Cond.selects "ShadeBeams$Tape" ({ cls := "ShadeBeams$Tape", name := "takeWord", desc := "()V" } : Jvm.MethodName) ({ cls := "ShadeBeams$Tape", name := "takeWord", desc := "()V" } : Jvm.MethodName)) ∈ ALLW := aw tb_4 117 rfl rfl
theorem w_958 : (Jvm.Cond.code ({ cls := "ShadeBeams$Tape", name := "takeWord", desc := "()V" } : Jvm.MethodName) prog_12_method_15_code (1 : Nat) (Option.none : Option Jvm.ClassFile.FieldType)) ∈ ALLW := aw tb_4 118 rfl rfl
theorem w_959 : (Jvm.Cond.methodLink "ShadeBeams$Tape" (43 : Nat) ({ cls := "ShadeBeams$Tape", name := "isAt", desc := "(CC)Z" } : Jvm.MethodName)) ∈ ALLW := aw tb_4 119 rfl rfl
theorem w_961 : (Jvm.Cond.instanceMethod ({ cls := "ShadeBeams$Tape", name := "isAt", desc := "(CC)Z" } : Jvm.MethodName)) ∈ ALLW := aw tb_4 121 rfl rfl
theorem w_962 : (Jvm.Cond.code ({ cls := "ShadeBeams$Tape", name := "isAt", desc := "(CC)Z" } : Jvm.MethodName) prog_12_method_9_code (3 : Nat) (Option.some Jvm.ClassFile.FieldType.boolean)) ∈ ALLW := aw tb_4 122 rfl rfl
theorem w_963 : (Jvm.Cond.methodLink "ShadeBeams$Street" (92 : Nat) ({ cls := "ShadeBeams$Street", name := "kindOf", desc := "(LShadeBeams$Tape;)I" } : Jvm.MethodName)) ∈ ALLW := aw tb_4 123 rfl rfl
theorem w_964 : (Jvm.Cond.static ({ cls := "ShadeBeams$Street", name := "kindOf", desc := "(LShadeBeams$Tape;)I" } : Jvm.MethodName)) ∈ ALLW := aw tb_4 124 rfl rfl
theorem w_965 : (Jvm.Cond.code ({ cls := "ShadeBeams$Street", name := "kindOf", desc := "(LShadeBeams$Tape;)I" } : Jvm.MethodName) prog_11_method_8_code (1 : Nat) (Option.some Jvm.ClassFile.FieldType.int)) ∈ ALLW := aw tb_4 125 rfl rfl
theorem w_967 : (Jvm.Cond.methodLink "ShadeBeams$Street" (115 : Nat) ({ cls := "ShadeBeams$Tape", name := "isWord", desc := "(Ljava/lang/String;)Z" } : Jvm.MethodName)) ∈ ALLW := aw tb_4 127 rfl rfl
theorem w_968 : (Jvm.Cond.instanceMethod ({ cls := "ShadeBeams$Tape", name := "isWord", desc := "(Ljava/lang/String;)Z" } : Jvm.MethodName)) ∈ ALLW := aw tb_4 128 rfl rfl
theorem w_969 : (Jvm.Cond.selects "ShadeBeams$Tape" ({ cls := "ShadeBeams$Tape", name := "isWord", desc := "(Ljava/lang/String;)Z" } : Jvm.MethodName) ({ cls := "ShadeBeams$Tape", name := "isWord", desc := "(Ljava/lang/String;)Z" } : Jvm.MethodName)) ∈ ALLW := aw tb_4 129 rfl rfl
theorem w_970 : (Jvm.Cond.code ({ cls := "ShadeBeams$Tape", name := "isWord", desc := "(Ljava/lang/String;)Z" } : Jvm.MethodName) prog_12_method_16_code (3 : Nat) (Option.some Jvm.ClassFile.FieldType.boolean)) ∈ ALLW := aw tb_4 130 rfl rfl
theorem w_971 : (Jvm.Cond.methodLink "ShadeBeams$Tape" (56 : Nat) ({ cls := "java/lang/String", name := "length", desc := "()I" } : Jvm.MethodName)) ∈ ALLW := aw tb_4 131 rfl rfl
theorem w_972 : (Jvm.Cond.instanceMethod ({ cls := "java/lang/String", name := "length", desc := "()I" } : Jvm.MethodName)) ∈ ALLW := aw tb_4 132 rfl rfl
theorem w_973 : (Jvm.Cond.selects "java/lang/String" ({ cls := "java/lang/String", name := "length", desc := "()I" } : Jvm.MethodName) ({ cls := "java/lang/String", name := "length", desc := "()I" } : Jvm.MethodName)) ∈ ALLW := aw tb_4 133 rfl rfl
theorem w_974 : (Jvm.Cond.code ({ cls := "java/lang/String", name := "length", desc := "()I" } : Jvm.MethodName) prog_26_method_54_code (1 : Nat) (Option.some Jvm.ClassFile.FieldType.int)) ∈ ALLW := aw tb_4 134 rfl rfl
theorem w_975 : (Jvm.Cond.methodLink "java/lang/String" (335 : Nat) ({ cls := "java/lang/String", name := "coder", desc := "()B" } : Jvm.MethodName)) ∈ ALLW := aw tb_4 135 rfl rfl
theorem w_976 : (Jvm.Cond.instanceMethod ({ cls := "java/lang/String", name := "coder", desc := "()B" } : Jvm.MethodName)) ∈ ALLW := aw tb_4 136 rfl rfl
theorem w_977 : (Jvm.Cond.selects "java/lang/String" ({ cls := "java/lang/String", name := "coder", desc := "()B" } : Jvm.MethodName) ({ cls := "java/lang/String", name := "coder", desc := "()B" } : Jvm.MethodName)) ∈ ALLW := aw tb_4 137 rfl rfl
theorem w_978 : (Jvm.Cond.code ({ cls := "java/lang/String", name := "coder", desc := "()B" } : Jvm.MethodName) prog_26_method_152_code (1 : Nat) (Option.some Jvm.ClassFile.FieldType.byte)) ∈ ALLW := aw tb_4 138 rfl rfl
theorem w_979 : (Jvm.Cond.fieldLink "java/lang/String" (38 : Nat) "java/lang/String" "COMPACT_STRINGS" "Z") ∈ ALLW := aw tb_4 139 rfl rfl
theorem w_981 : (Jvm.Cond.methodLink "ShadeBeams$Tape" (62 : Nat) ({ cls := "java/lang/String", name := "charAt", desc := "(I)C" } : Jvm.MethodName)) ∈ ALLW := aw tb_4 141 rfl rfl
theorem w_982 : (Jvm.Cond.instanceMethod ({ cls := "java/lang/String", name := "charAt", desc := "(I)C" } : Jvm.MethodName)) ∈ ALLW := aw tb_4 142 rfl rfl
theorem w_983 : (Jvm.Cond.selects "java/lang/String" ({ cls := "java/lang/String", name := "charAt", desc := "(I)C" } : Jvm.MethodName) ({ cls := "java/lang/String", name := "charAt", desc := "(I)C" } : Jvm.MethodName)) ∈ ALLW := aw tb_4 143 rfl rfl
theorem w_984 : (Jvm.Cond.code ({ cls := "java/lang/String", name := "charAt", desc := "(I)C" } : Jvm.MethodName) prog_26_method_56_code (2 : Nat) (Option.some Jvm.ClassFile.FieldType.char)) ∈ ALLW := aw tb_4 144 rfl rfl
theorem w_985 : (Jvm.Cond.methodLink "java/lang/String" (492 : Nat) ({ cls := "java/lang/String", name := "isLatin1", desc := "()Z" } : Jvm.MethodName)) ∈ ALLW := aw tb_4 145 rfl rfl
theorem w_986 : (Jvm.Cond.instanceMethod ({ cls := "java/lang/String", name := "isLatin1", desc := "()Z" } : Jvm.MethodName)) ∈ ALLW := aw tb_4 146 rfl rfl
theorem w_987 : (Jvm.Cond.selects "java/lang/String" ({ cls := "java/lang/String", name := "isLatin1", desc := "()Z" } : Jvm.MethodName) ({ cls := "java/lang/String", name := "isLatin1", desc := "()Z" } : Jvm.MethodName)) ∈ ALLW := aw tb_4 147 rfl rfl
theorem w_988 : (Jvm.Cond.code ({ cls := "java/lang/String", name := "isLatin1", desc := "()Z" } : Jvm.MethodName) prog_26_method_154_code (1 : Nat) (Option.some Jvm.ClassFile.FieldType.boolean)) ∈ ALLW := aw tb_4 148 rfl rfl
theorem w_989 : (Jvm.Cond.methodLink "java/lang/String" (495 : Nat) ({ cls := "java/lang/StringLatin1", name := "charAt", desc := "([BI)C" } : Jvm.MethodName)) ∈ ALLW := aw tb_4 149 rfl rfl
theorem w_990 : (Jvm.Cond.static ({ cls := "java/lang/StringLatin1", name := "charAt", desc := "([BI)C" } : Jvm.MethodName)) ∈ ALLW := aw tb_4 150 rfl rfl
theorem w_991 : (Jvm.Cond.code ({ cls := "java/lang/StringLatin1", name := "charAt", desc := "([BI)C" } : Jvm.MethodName) prog_27_method_2_code (2 : Nat) (Option.some Jvm.ClassFile.FieldType.char)) ∈ ALLW := aw tb_4 151 rfl rfl
theorem w_992 : (Jvm.Cond.methodLink "java/lang/StringLatin1" (9 : Nat) ({ cls := "java/lang/String", name := "checkIndex", desc := "(II)V" } : Jvm.MethodName)) ∈ ALLW := aw tb_4 152 rfl rfl
theorem w_993 : (Jvm.Cond.static ({ cls := "java/lang/String", name := "checkIndex", desc := "(II)V" } : Jvm.MethodName)) ∈ ALLW := aw tb_4 153 rfl rfl
theorem w_994 : (Jvm.Cond.code ({ cls := "java/lang/String", name := "checkIndex", desc := "(II)V" } : Jvm.MethodName) prog_26_method_155_code (2 : Nat) (Option.none : Option Jvm.ClassFile.FieldType)) ∈ ALLW := aw tb_4 154 rfl rfl
theorem w_995 : (Jvm.Cond.fieldLink "java/lang/String" (1053 : Nat) "jdk/internal/util/Preconditions" "SIOOBE_FORMATTER" "Ljava/util/function/BiFunction;") ∈ ALLW := aw tb_4 155 rfl rfl
theorem w_997 : (Jvm.Cond.methodLink "java/lang/String" (1059 : Nat) ({ cls := "jdk/internal/util/Preconditions", name := "checkIndex", desc := "(IILjava/util/function/BiFunction;)I" } : Jvm.MethodName)) ∈ ALLW := aw tb_4 157 rfl rfl
theorem w_998 : (Jvm.Cond.static ({ cls := "jdk/internal/util/Preconditions", name := "checkIndex", desc := "(IILjava/util/function/BiFunction;)I" } : Jvm.MethodName)) ∈ ALLW := aw tb_4 158 rfl rfl
theorem w_999 : (Jvm.Cond.code ({ cls := "jdk/internal/util/Preconditions", name := "checkIndex", desc := "(IILjava/util/function/BiFunction;)I" } : Jvm.MethodName) prog_35_method_11_code (3 : Nat) (Option.some Jvm.ClassFile.FieldType.int)) ∈ ALLW := aw tb_4 159 rfl rfl
theorem w_1000 : (Jvm.Cond.methodLink "java/lang/String" (498 : Nat) ({ cls := "java/lang/StringUTF16", name := "charAt", desc := "([BI)C" } : Jvm.MethodName)) ∈ ALLW := aw tb_4 160 rfl rfl
theorem w_1001 : (Jvm.Cond.static ({ cls := "java/lang/StringUTF16", name := "charAt", desc := "([BI)C" } : Jvm.MethodName)) ∈ ALLW := aw tb_4 161 rfl rfl
theorem w_1002 : (Jvm.Cond.code ({ cls := "java/lang/StringUTF16", name := "charAt", desc := "([BI)C" } : Jvm.MethodName) prog_28_method_83_code (2 : Nat) (Option.some Jvm.ClassFile.FieldType.char)) ∈ ALLW := aw tb_4 162 rfl rfl
theorem w_1003 : (Jvm.Cond.methodLink "java/lang/StringUTF16" (67 : Nat) ({ cls := "java/lang/StringUTF16", name := "checkIndex", desc := "(I[B)V" } : Jvm.MethodName)) ∈ ALLW := aw tb_4 163 rfl rfl
theorem w_1004 : (Jvm.Cond.static ({ cls := "java/lang/StringUTF16", name := "checkIndex", desc := "(I[B)V" } : Jvm.MethodName)) ∈ ALLW := aw tb_4 164 rfl rfl
theorem w_1005 : (Jvm.Cond.code ({ cls := "java/lang/StringUTF16", name := "checkIndex", desc := "(I[B)V" } : Jvm.MethodName) prog_28_method_91_code (2 : Nat) (Option.none : Option Jvm.ClassFile.FieldType)) ∈ ALLW := aw tb_4 165 rfl rfl
theorem w_1006 : (Jvm.Cond.methodLink "java/lang/StringUTF16" (48 : Nat) ({ cls := "java/lang/StringUTF16", name := "length", desc := "([B)I" } : Jvm.MethodName)) ∈ ALLW := aw tb_4 166 rfl rfl
theorem w_1007 : (Jvm.Cond.static ({ cls := "java/lang/StringUTF16", name := "length", desc := "([B)I" } : Jvm.MethodName)) ∈ ALLW := aw tb_4 167 rfl rfl
theorem w_1008 : (Jvm.Cond.code ({ cls := "java/lang/StringUTF16", name := "length", desc := "([B)I" } : Jvm.MethodName) prog_28_method_6_code (1 : Nat) (Option.some Jvm.ClassFile.FieldType.int)) ∈ ALLW := aw tb_4 168 rfl rfl
theorem w_1009 : (Jvm.Cond.methodLink "java/lang/StringUTF16" (414 : Nat) ({ cls := "java/lang/String", name := "checkIndex", desc := "(II)V" } : Jvm.MethodName)) ∈ ALLW := aw tb_4 169 rfl rfl
theorem w_1010 : (Jvm.Cond.methodLink "java/lang/StringUTF16" (71 : Nat) ({ cls := "java/lang/StringUTF16", name := "getChar", desc := "([BI)C" } : Jvm.MethodName)) ∈ ALLW := aw tb_4 170 rfl rfl
theorem w_1011 : (Jvm.Cond.static ({ cls := "java/lang/StringUTF16", name := "getChar", desc := "([BI)C" } : Jvm.MethodName)) ∈ ALLW := aw tb_4 171 rfl rfl
theorem w_1012 : (Jvm.Cond.code ({ cls := "java/lang/StringUTF16", name := "getChar", desc := "([BI)C" } : Jvm.MethodName) prog_28_method_5_code (2 : Nat) (Option.some Jvm.ClassFile.FieldType.char)) ∈ ALLW := aw tb_4 172 rfl rfl
theorem w_1013 : (Jvm.Cond.fieldLink "java/lang/StringUTF16" (44 : Nat) "java/lang/StringUTF16" "$assertionsDisabled" "Z") ∈ ALLW := aw tb_4 173 rfl rfl
theorem w_1015 : (Jvm.Cond.fieldLink "java/lang/StringUTF16" (59 : Nat) "java/lang/StringUTF16" "HI_BYTE_SHIFT" "I") ∈ ALLW := aw tb_4 175 rfl rfl
theorem w_1017 : (Jvm.Cond.fieldLink "java/lang/StringUTF16" (63 : Nat) "java/lang/StringUTF16" "LO_BYTE_SHIFT" "I") ∈ ALLW := aw tb_4 177 rfl rfl
theorem w_1027 : (Jvm.Cond.methodLink "ShadeBeams$Street" (96 : Nat) ({ cls := "ShadeBeams$Tape", name := "fail", desc := "(I)V" } : Jvm.MethodName)) ∈ ALLW := aw tb_4 187 rfl rfl
theorem w_1028 : (Jvm.Cond.instanceMethod ({ cls := "ShadeBeams$Tape", name := "fail", desc := "(I)V" } : Jvm.MethodName)) ∈ ALLW := aw tb_4 188 rfl rfl
theorem w_1029 : (Jvm.Cond.selects "ShadeBeams$Tape" ({ cls := "ShadeBeams$Tape", name := "fail", desc := "(I)V" } : Jvm.MethodName) ({ cls := "ShadeBeams$Tape", name := "fail", desc := "(I)V" } : Jvm.MethodName)) ∈ ALLW := aw tb_4 189 rfl rfl
theorem w_1030 : (Jvm.Cond.code ({ cls := "ShadeBeams$Tape", name := "fail", desc := "(I)V" } : Jvm.MethodName) prog_12_method_7_code (2 : Nat) (Option.none : Option Jvm.ClassFile.FieldType)) ∈ ALLW := aw tb_4 190 rfl rfl
theorem w_1031 : (Jvm.Cond.methodLink "ShadeBeams$Street" (100 : Nat) ({ cls := "ShadeBeams$Street", name := "isFull", desc := "(I)Z" } : Jvm.MethodName)) ∈ ALLW := aw tb_4 191 rfl rfl
theorem w_1033 : (Jvm.Cond.instanceMethod ({ cls := "ShadeBeams$Street", name := "isFull", desc := "(I)Z" } : Jvm.MethodName)) ∈ ALLW := aw tb_4 193 rfl rfl
theorem w_1034 : (Jvm.Cond.code ({ cls := "ShadeBeams$Street", name := "isFull", desc := "(I)Z" } : Jvm.MethodName) prog_11_method_9_code (2 : Nat) (Option.some Jvm.ClassFile.FieldType.boolean)) ∈ ALLW := aw tb_4 194 rfl rfl
theorem w_1035 : (Jvm.Cond.methodLink "ShadeBeams$Street" (104 : Nat) ({ cls := "ShadeBeams$Tape", name := "failed", desc := "()Z" } : Jvm.MethodName)) ∈ ALLW := aw tb_4 195 rfl rfl
theorem w_1036 : (Jvm.Cond.instanceMethod ({ cls := "ShadeBeams$Tape", name := "failed", desc := "()Z" } : Jvm.MethodName)) ∈ ALLW := aw tb_4 196 rfl rfl
theorem w_1037 : (Jvm.Cond.selects "ShadeBeams$Tape" ({ cls := "ShadeBeams$Tape", name := "failed", desc := "()Z" } : Jvm.MethodName) ({ cls := "ShadeBeams$Tape", name := "failed", desc := "()Z" } : Jvm.MethodName)) ∈ ALLW := aw tb_4 197 rfl rfl
theorem w_1038 : (Jvm.Cond.code ({ cls := "ShadeBeams$Tape", name := "failed", desc := "()Z" } : Jvm.MethodName) prog_12_method_5_code (1 : Nat) (Option.some Jvm.ClassFile.FieldType.boolean)) ∈ ALLW := aw tb_4 198 rfl rfl
theorem w_1039 : (Jvm.Cond.methodLink "ShadeBeams$Street" (107 : Nat) ({ cls := "ShadeBeams$Street", name := "readNumbers", desc := "(LShadeBeams$Tape;I)V" } : Jvm.MethodName)) ∈ ALLW := aw tb_4 199 rfl rfl
theorem w_1041 : (Jvm.Cond.instanceMethod ({ cls := "ShadeBeams$Street", name := "readNumbers", desc := "(LShadeBeams$Tape;I)V" } : Jvm.MethodName)) ∈ ALLW := aw tb_4 201 rfl rfl
theorem w_1042 : (Jvm.Cond.code ({ cls := "ShadeBeams$Street", name := "readNumbers", desc := "(LShadeBeams$Tape;I)V" } : Jvm.MethodName) prog_11_method_10_code (3 : Nat) (Option.none : Option Jvm.ClassFile.FieldType)) ∈ ALLW := aw tb_4 202 rfl rfl
theorem w_1043 : (Jvm.Cond.methodLink "ShadeBeams$Street" (137 : Nat) ({ cls := "ShadeBeams$Tape", name := "takeNumber", desc := "(II)I" } : Jvm.MethodName)) ∈ ALLW := aw tb_4 203 rfl rfl
theorem w_1044 : (Jvm.Cond.instanceMethod ({ cls := "ShadeBeams$Tape", name := "takeNumber", desc := "(II)I" } : Jvm.MethodName)) ∈ ALLW := aw tb_4 204 rfl rfl
theorem w_1045 : (Jvm.Cond.selects "ShadeBeams$Tape" ({ cls := "ShadeBeams$Tape", name := "takeNumber", desc := "(II)I" } : Jvm.MethodName) ({ cls := "ShadeBeams$Tape", name := "takeNumber", desc := "(II)I" } : Jvm.MethodName)) ∈ ALLW := aw tb_4 205 rfl rfl
theorem w_1046 : (Jvm.Cond.code ({ cls := "ShadeBeams$Tape", name := "takeNumber", desc := "(II)I" } : Jvm.MethodName) prog_12_method_14_code (4 : Nat) (Option.some Jvm.ClassFile.FieldType.int)) ∈ ALLW := aw tb_4 206 rfl rfl
theorem w_1047 : (Jvm.Cond.constant "ShadeBeams$Tape" (51 : Nat) (1000000 : Int32)) ∈ ALLW := aw tb_4 207 rfl rfl
theorem w_1048 : (Jvm.Cond.methodLink "ShadeBeams$Tape" (47 : Nat) ({ cls := "ShadeBeams$Tape", name := "fail", desc := "(I)V" } : Jvm.MethodName)) ∈ ALLW := aw tb_4 208 rfl rfl
theorem w_1049 : (Jvm.Cond.methodLinkNest "ShadeBeams$Tape" (52 : Nat) ({ cls := "ShadeBeams", name := "isWithin", desc := "(III)Z" } : Jvm.MethodName) "ShadeBeams") ∈ NESTW := anw tb_4 209 rfl rfl
theorem w_1050 : (Jvm.Cond.methodLink "ShadeBeams$Street" (141 : Nat) ({ cls := "ShadeBeams$Street", name := "readPost", desc := "(LShadeBeams$Tape;)V" } : Jvm.MethodName)) ∈ ALLW := aw tb_4 210 rfl rfl
theorem w_1052 : (Jvm.Cond.instanceMethod ({ cls := "ShadeBeams$Street", name := "readPost", desc := "(LShadeBeams$Tape;)V" } : Jvm.MethodName)) ∈ ALLW := aw tb_4 212 rfl rfl
theorem w_1053 : (Jvm.Cond.code ({ cls := "ShadeBeams$Street", name := "readPost", desc := "(LShadeBeams$Tape;)V" } : Jvm.MethodName) prog_11_method_11_code (4 : Nat) (Option.none : Option Jvm.ClassFile.FieldType)) ∈ ALLW := aw tb_4 213 rfl rfl
theorem w_1054 : (Jvm.Cond.methodLink "ShadeBeams$Street" (163 : Nat) ({ cls := "ShadeBeams$Street", name := "hasPost", desc := "(I)Z" } : Jvm.MethodName)) ∈ ALLW := aw tb_4 214 rfl rfl
theorem w_1055 : (Jvm.Cond.instanceMethod ({ cls := "ShadeBeams$Street", name := "hasPost", desc := "(I)Z" } : Jvm.MethodName)) ∈ ALLW := aw tb_4 215 rfl rfl
theorem w_1056 : (Jvm.Cond.selects "ShadeBeams$Street" ({ cls := "ShadeBeams$Street", name := "hasPost", desc := "(I)Z" } : Jvm.MethodName) ({ cls := "ShadeBeams$Street", name := "hasPost", desc := "(I)Z" } : Jvm.MethodName)) ∈ ALLW := aw tb_4 216 rfl rfl
theorem w_1057 : (Jvm.Cond.code ({ cls := "ShadeBeams$Street", name := "hasPost", desc := "(I)Z" } : Jvm.MethodName) prog_11_method_3_code (3 : Nat) (Option.some Jvm.ClassFile.FieldType.boolean)) ∈ ALLW := aw tb_4 217 rfl rfl
theorem w_1058 : (Jvm.Cond.methodLink "ShadeBeams$Street" (145 : Nat) ({ cls := "ShadeBeams$Street", name := "readSun", desc := "(LShadeBeams$Tape;)V" } : Jvm.MethodName)) ∈ ALLW := aw tb_4 218 rfl rfl
theorem w_1060 : (Jvm.Cond.instanceMethod ({ cls := "ShadeBeams$Street", name := "readSun", desc := "(LShadeBeams$Tape;)V" } : Jvm.MethodName)) ∈ ALLW := aw tb_4 220 rfl rfl
theorem w_1061 : (Jvm.Cond.code ({ cls := "ShadeBeams$Street", name := "readSun", desc := "(LShadeBeams$Tape;)V" } : Jvm.MethodName) prog_11_method_12_code (3 : Nat) (Option.none : Option Jvm.ClassFile.FieldType)) ∈ ALLW := aw tb_4 221 rfl rfl
theorem w_1062 : (Jvm.Cond.methodLink "ShadeBeams$Street" (148 : Nat) ({ cls := "ShadeBeams$Street", name := "readMoon", desc := "(LShadeBeams$Tape;)V" } : Jvm.MethodName)) ∈ ALLW := aw tb_4 222 rfl rfl
theorem w_1064 : (Jvm.Cond.instanceMethod ({ cls := "ShadeBeams$Street", name := "readMoon", desc := "(LShadeBeams$Tape;)V" } : Jvm.MethodName)) ∈ ALLW := aw tb_4 224 rfl rfl
theorem w_1065 : (Jvm.Cond.code ({ cls := "ShadeBeams$Street", name := "readMoon", desc := "(LShadeBeams$Tape;)V" } : Jvm.MethodName) prog_11_method_13_code (3 : Nat) (Option.none : Option Jvm.ClassFile.FieldType)) ∈ ALLW := aw tb_4 225 rfl rfl
theorem w_1066 : (Jvm.Cond.methodLink "ShadeBeams$Street" (151 : Nat) ({ cls := "ShadeBeams$Street", name := "readCloud", desc := "(LShadeBeams$Tape;)V" } : Jvm.MethodName)) ∈ ALLW := aw tb_4 226 rfl rfl
theorem w_1068 : (Jvm.Cond.instanceMethod ({ cls := "ShadeBeams$Street", name := "readCloud", desc := "(LShadeBeams$Tape;)V" } : Jvm.MethodName)) ∈ ALLW := aw tb_4 228 rfl rfl
theorem w_1069 : (Jvm.Cond.code ({ cls := "ShadeBeams$Street", name := "readCloud", desc := "(LShadeBeams$Tape;)V" } : Jvm.MethodName) prog_11_method_14_code (5 : Nat) (Option.none : Option Jvm.ClassFile.FieldType)) ∈ ALLW := aw tb_4 229 rfl rfl
theorem w_1070 : (Jvm.Cond.methodLink "ShadeBeams$Street" (154 : Nat) ({ cls := "ShadeBeams$Street", name := "readLamp", desc := "(LShadeBeams$Tape;)V" } : Jvm.MethodName)) ∈ ALLW := aw tb_4 230 rfl rfl
theorem w_1072 : (Jvm.Cond.instanceMethod ({ cls := "ShadeBeams$Street", name := "readLamp", desc := "(LShadeBeams$Tape;)V" } : Jvm.MethodName)) ∈ ALLW := aw tb_4 232 rfl rfl
theorem w_1073 : (Jvm.Cond.code ({ cls := "ShadeBeams$Street", name := "readLamp", desc := "(LShadeBeams$Tape;)V" } : Jvm.MethodName) prog_11_method_15_code (3 : Nat) (Option.none : Option Jvm.ClassFile.FieldType)) ∈ ALLW := aw tb_4 233 rfl rfl
theorem w_1074 : (Jvm.Cond.methodLinkNest "ShadeBeams$Street" (166 : Nat) ({ cls := "ShadeBeams", name := "spread", desc := "(JI)J" } : Jvm.MethodName) "ShadeBeams") ∈ NESTW := anw tb_4 234 rfl rfl
theorem w_1075 : (Jvm.Cond.static ({ cls := "ShadeBeams", name := "spread", desc := "(JI)J" } : Jvm.MethodName)) ∈ ALLW := aw tb_4 235 rfl rfl
theorem w_1076 : (Jvm.Cond.code ({ cls := "ShadeBeams", name := "spread", desc := "(JI)J" } : Jvm.MethodName) prog_1_method_75_code (6 : Nat) (Option.some Jvm.ClassFile.FieldType.long)) ∈ ALLW := aw tb_4 236 rfl rfl
theorem w_1077 : (Jvm.Cond.methodLink "ShadeBeams$Street" (157 : Nat) ({ cls := "ShadeBeams$Street", name := "readBeam", desc := "(LShadeBeams$Tape;)V" } : Jvm.MethodName)) ∈ ALLW := aw tb_4 237 rfl rfl
theorem w_1079 : (Jvm.Cond.instanceMethod ({ cls := "ShadeBeams$Street", name := "readBeam", desc := "(LShadeBeams$Tape;)V" } : Jvm.MethodName)) ∈ ALLW := aw tb_4 239 rfl rfl
theorem w_1080 : (Jvm.Cond.code ({ cls := "ShadeBeams$Street", name := "readBeam", desc := "(LShadeBeams$Tape;)V" } : Jvm.MethodName) prog_11_method_16_code (4 : Nat) (Option.none : Option Jvm.ClassFile.FieldType)) ∈ ALLW := aw tb_5 0 rfl rfl
theorem w_1081 : (Jvm.Cond.methodLink "ShadeBeams$Street" (170 : Nat) ({ cls := "java/lang/Math", name := "min", desc := "(II)I" } : Jvm.MethodName)) ∈ ALLW := aw tb_5 1 rfl rfl
theorem w_1082 : (Jvm.Cond.methodLink "ShadeBeams$Street" (175 : Nat) ({ cls := "ShadeBeams$Beams", name := "add", desc := "(III)V" } : Jvm.MethodName)) ∈ ALLW := aw tb_5 2 rfl rfl
theorem w_1083 : (Jvm.Cond.instanceMethod ({ cls := "ShadeBeams$Beams", name := "add", desc := "(III)V" } : Jvm.MethodName)) ∈ ALLW := aw tb_5 3 rfl rfl
theorem w_1084 : (Jvm.Cond.selects "ShadeBeams$Beams" ({ cls := "ShadeBeams$Beams", name := "add", desc := "(III)V" } : Jvm.MethodName) ({ cls := "ShadeBeams$Beams", name := "add", desc := "(III)V" } : Jvm.MethodName)) ∈ ALLW := aw tb_5 4 rfl rfl
theorem w_1085 : (Jvm.Cond.code ({ cls := "ShadeBeams$Beams", name := "add", desc := "(III)V" } : Jvm.MethodName) prog_2_method_3_code (4 : Nat) (Option.none : Option Jvm.ClassFile.FieldType)) ∈ ALLW := aw tb_5 5 rfl rfl
theorem w_1086 : (Jvm.Cond.methodLink "ShadeBeams$Street" (160 : Nat) ({ cls := "ShadeBeams$Street", name := "readLoad", desc := "(LShadeBeams$Tape;)V" } : Jvm.MethodName)) ∈ ALLW := aw tb_5 6 rfl rfl
theorem w_1088 : (Jvm.Cond.instanceMethod ({ cls := "ShadeBeams$Street", name := "readLoad", desc := "(LShadeBeams$Tape;)V" } : Jvm.MethodName)) ∈ ALLW := aw tb_5 8 rfl rfl
theorem w_1089 : (Jvm.Cond.code ({ cls := "ShadeBeams$Street", name := "readLoad", desc := "(LShadeBeams$Tape;)V" } : Jvm.MethodName) prog_11_method_17_code (4 : Nat) (Option.none : Option Jvm.ClassFile.FieldType)) ∈ ALLW := aw tb_5 9 rfl rfl
theorem w_1090 : (Jvm.Cond.methodLink "ShadeBeams$Street" (182 : Nat) ({ cls := "ShadeBeams$Beams", name := "setLoad", desc := "(III)V" } : Jvm.MethodName)) ∈ ALLW := aw tb_5 10 rfl rfl
theorem w_1091 : (Jvm.Cond.methodLink "ShadeBeams$Street" (110 : Nat) ({ cls := "ShadeBeams$Tape", name := "takeSign", desc := "(C)V" } : Jvm.MethodName)) ∈ ALLW := aw tb_5 11 rfl rfl
theorem w_1092 : (Jvm.Cond.instanceMethod ({ cls := "ShadeBeams$Tape", name := "takeSign", desc := "(C)V" } : Jvm.MethodName)) ∈ ALLW := aw tb_5 12 rfl rfl
theorem w_1093 : (Jvm.Cond.selects "ShadeBeams$Tape" ({ cls := "ShadeBeams$Tape", name := "takeSign", desc := "(C)V" } : Jvm.MethodName) ({ cls := "ShadeBeams$Tape", name := "takeSign", desc := "(C)V" } : Jvm.MethodName)) ∈ ALLW := aw tb_5 13 rfl rfl
theorem w_1094 : (Jvm.Cond.code ({ cls := "ShadeBeams$Tape", name := "takeSign", desc := "(C)V" } : Jvm.MethodName) prog_12_method_13_code (2 : Nat) (Option.none : Option Jvm.ClassFile.FieldType)) ∈ ALLW := aw tb_5 14 rfl rfl
theorem w_1095 : (Jvm.Cond.methodLink "ShadeBeams" (125 : Nat) ({ cls := "ShadeBeams$Tape", name := "failed", desc := "()Z" } : Jvm.MethodName)) ∈ ALLW := aw tb_5 15 rfl rfl
theorem w_1096 : (Jvm.Cond.methodLink "ShadeBeams" (128 : Nat) ({ cls := "ShadeBeams$Tape", name := "answer", desc := "()I" } : Jvm.MethodName)) ∈ ALLW := aw tb_5 16 rfl rfl
theorem w_1097 : (Jvm.Cond.instanceMethod ({ cls := "ShadeBeams$Tape", name := "answer", desc := "()I" } : Jvm.MethodName)) ∈ ALLW := aw tb_5 17 rfl rfl
theorem w_1098 : (Jvm.Cond.selects "ShadeBeams$Tape" ({ cls := "ShadeBeams$Tape", name := "answer", desc := "()I" } : Jvm.MethodName) ({ cls := "ShadeBeams$Tape", name := "answer", desc := "()I" } : Jvm.MethodName)) ∈ ALLW := aw tb_5 18 rfl rfl
theorem w_1099 : (Jvm.Cond.code ({ cls := "ShadeBeams$Tape", name := "answer", desc := "()I" } : Jvm.MethodName) prog_12_method_6_code (1 : Nat) (Option.some Jvm.ClassFile.FieldType.int)) ∈ ALLW := aw tb_5 19 rfl rfl
theorem w_1100 : (Jvm.Cond.methodLink "ShadeBeams" (132 : Nat) ({ cls := "ShadeBeams", name := "forgetStreet", desc := "()V" } : Jvm.MethodName)) ∈ ALLW := aw tb_5 20 rfl rfl
theorem w_1102 : (Jvm.Cond.instanceMethod ({ cls := "ShadeBeams", name := "forgetStreet", desc := "()V" } : Jvm.MethodName)) ∈ ALLW := aw tb_5 22 rfl rfl
theorem w_1103 : (Jvm.Cond.code ({ cls := "ShadeBeams", name := "forgetStreet", desc := "()V" } : Jvm.MethodName) prog_1_method_9_code (1 : Nat) (Option.none : Option Jvm.ClassFile.FieldType)) ∈ ALLW := aw tb_5 23 rfl rfl
theorem w_1104 : (Jvm.Cond.methodLink "ShadeBeams" (174 : Nat) ({ cls := "ShadeBeams$Law", name := "setPlain", desc := "()V" } : Jvm.MethodName)) ∈ ALLW := aw tb_5 24 rfl rfl
theorem w_1105 : (Jvm.Cond.methodLink "ShadeBeamsLaw" (164 : Nat) ({ cls := "ShadeBeamsLaw", name := "law", desc := "(LShadeBeams;I[J)I" } : Jvm.MethodName)) ∈ ALLW := aw tb_5 25 rfl rfl
theorem w_1106 : (Jvm.Cond.static ({ cls := "ShadeBeamsLaw", name := "law", desc := "(LShadeBeams;I[J)I" } : Jvm.MethodName)) ∈ ALLW := aw tb_5 26 rfl rfl
theorem w_1107 : (Jvm.Cond.codeWith ({ cls := "ShadeBeamsLaw", name := "law", desc := "(LShadeBeams;I[J)I" } : Jvm.MethodName) method_4_code (4 : Nat) (Option.some Jvm.ClassFile.FieldType.int) [((0 : Nat), (9 : Nat), (12 : Nat), (13 : Nat))]) ∈ ALLW := aw tb_5 27 rfl rfl
theorem w_1108 : (Jvm.Cond.methodLink "ShadeBeamsLaw" (15 : Nat) ({ cls := "ShadeBeams", name := "law", desc := "(I)I" } : Jvm.MethodName)) ∈ ALLW := aw tb_5 28 rfl rfl
theorem w_1109 : (Jvm.Cond.instanceMethod ({ cls := "ShadeBeams", name := "law", desc := "(I)I" } : Jvm.MethodName)) ∈ ALLW := aw tb_5 29 rfl rfl
theorem w_1110 : (Jvm.Cond.selects "ShadeBeams" ({ cls := "ShadeBeams", name := "law", desc := "(I)I" } : Jvm.MethodName) ({ cls := "ShadeBeams", name := "law", desc := "(I)I" } : Jvm.MethodName)) ∈ ALLW := aw tb_5 30 rfl rfl
theorem w_1111 : (Jvm.Cond.code ({ cls := "ShadeBeams", name := "law", desc := "(I)I" } : Jvm.MethodName) prog_1_method_4_code (2 : Nat) (Option.some Jvm.ClassFile.FieldType.int)) ∈ ALLW := aw tb_5 31 rfl rfl
theorem w_1112 : (Jvm.Cond.methodLink "ShadeBeams" (144 : Nat) ({ cls := "ShadeBeams$Law", name := "read", desc := "(LShadeBeams$Tape;)V" } : Jvm.MethodName)) ∈ ALLW := aw tb_5 32 rfl rfl
theorem w_1113 : (Jvm.Cond.instanceMethod ({ cls := "ShadeBeams$Law", name := "read", desc := "(LShadeBeams$Tape;)V" } : Jvm.MethodName)) ∈ ALLW := aw tb_5 33 rfl rfl
theorem w_1114 : (Jvm.Cond.selects "ShadeBeams$Law" ({ cls := "ShadeBeams$Law", name := "read", desc := "(LShadeBeams$Tape;)V" } : Jvm.MethodName) ({ cls := "ShadeBeams$Law", name := "read", desc := "(LShadeBeams$Tape;)V" } : Jvm.MethodName)) ∈ ALLW := aw tb_5 34 rfl rfl
theorem w_1115 : (Jvm.Cond.code ({ cls := "ShadeBeams$Law", name := "read", desc := "(LShadeBeams$Tape;)V" } : Jvm.MethodName) prog_9_method_5_code (2 : Nat) (Option.none : Option Jvm.ClassFile.FieldType)) ∈ ALLW := aw tb_5 35 rfl rfl
theorem w_1116 : (Jvm.Cond.methodLink "ShadeBeams$Law" (38 : Nat) ({ cls := "ShadeBeams$Law", name := "readSum", desc := "(LShadeBeams$Tape;I)V" } : Jvm.MethodName)) ∈ ALLW := aw tb_5 36 rfl rfl
theorem w_1118 : (Jvm.Cond.instanceMethod ({ cls := "ShadeBeams$Law", name := "readSum", desc := "(LShadeBeams$Tape;I)V" } : Jvm.MethodName)) ∈ ALLW := aw tb_5 38 rfl rfl
theorem w_1119 : (Jvm.Cond.code ({ cls := "ShadeBeams$Law", name := "readSum", desc := "(LShadeBeams$Tape;I)V" } : Jvm.MethodName) prog_9_method_6_code (5 : Nat) (Option.none : Option Jvm.ClassFile.FieldType)) ∈ ALLW := aw tb_5 39 rfl rfl
theorem w_1120 : (Jvm.Cond.methodLink "ShadeBeams$Law" (52 : Nat) ({ cls := "ShadeBeams$Law", name := "readProduct", desc := "(LShadeBeams$Tape;I)V" } : Jvm.MethodName)) ∈ ALLW := aw tb_5 40 rfl rfl
theorem w_1122 : (Jvm.Cond.instanceMethod ({ cls := "ShadeBeams$Law", name := "readProduct", desc := "(LShadeBeams$Tape;I)V" } : Jvm.MethodName)) ∈ ALLW := aw tb_5 42 rfl rfl
theorem w_1123 : (Jvm.Cond.code ({ cls := "ShadeBeams$Law", name := "readProduct", desc := "(LShadeBeams$Tape;I)V" } : Jvm.MethodName) prog_9_method_7_code (5 : Nat) (Option.none : Option Jvm.ClassFile.FieldType)) ∈ ALLW := aw tb_5 43 rfl rfl
theorem w_1124 : (Jvm.Cond.methodLink "ShadeBeams$Law" (63 : Nat) ({ cls := "ShadeBeams$Law", name := "readUnit", desc := "(LShadeBeams$Tape;I)V" } : Jvm.MethodName)) ∈ ALLW := aw tb_5 44 rfl rfl
theorem w_1126 : (Jvm.Cond.instanceMethod ({ cls := "ShadeBeams$Law", name := "readUnit", desc := "(LShadeBeams$Tape;I)V" } : Jvm.MethodName)) ∈ ALLW := aw tb_5 46 rfl rfl
theorem w_1127 : (Jvm.Cond.code ({ cls := "ShadeBeams$Law", name := "readUnit", desc := "(LShadeBeams$Tape;I)V" } : Jvm.MethodName) prog_9_method_8_code (5 : Nat) (Option.none : Option Jvm.ClassFile.FieldType)) ∈ ALLW := aw tb_5 47 rfl rfl
theorem w_1128 : (Jvm.Cond.methodLink "ShadeBeams$Law" (66 : Nat) ({ cls := "ShadeBeams$Tape", name := "failed", desc := "()Z" } : Jvm.MethodName)) ∈ ALLW := aw tb_5 48 rfl rfl
theorem w_1129 : (Jvm.Cond.methodLink "ShadeBeams$Law" (69 : Nat) ({ cls := "ShadeBeams$Tape", name := "seesDigit", desc := "()Z" } : Jvm.MethodName)) ∈ ALLW := aw tb_5 49 rfl rfl
theorem w_1130 : (Jvm.Cond.instanceMethod ({ cls := "ShadeBeams$Tape", name := "seesDigit", desc := "()Z" } : Jvm.MethodName)) ∈ ALLW := aw tb_5 50 rfl rfl
theorem w_1131 : (Jvm.Cond.selects "ShadeBeams$Tape" ({ cls := "ShadeBeams$Tape", name := "seesDigit", desc := "()Z" } : Jvm.MethodName) ({ cls := "ShadeBeams$Tape", name := "seesDigit", desc := "()Z" } : Jvm.MethodName)) ∈ ALLW := aw tb_5 51 rfl rfl
theorem w_1132 : (Jvm.Cond.code ({ cls := "ShadeBeams$Tape", name := "seesDigit", desc := "()Z" } : Jvm.MethodName) prog_12_method_12_code (1 : Nat) (Option.some Jvm.ClassFile.FieldType.boolean)) ∈ ALLW := aw tb_5 52 rfl rfl
theorem w_1133 : (Jvm.Cond.methodLink "ShadeBeams$Law" (72 : Nat) ({ cls := "ShadeBeams$Tape", name := "takeNumber", desc := "(II)I" } : Jvm.MethodName)) ∈ ALLW := aw tb_5 53 rfl rfl
theorem w_1134 : (Jvm.Cond.methodLink "ShadeBeams$Law" (55 : Nat) ({ cls := "ShadeBeams$Tape", name := "sees", desc := "(C)Z" } : Jvm.MethodName)) ∈ ALLW := aw tb_5 54 rfl rfl
theorem w_1135 : (Jvm.Cond.instanceMethod ({ cls := "ShadeBeams$Tape", name := "sees", desc := "(C)Z" } : Jvm.MethodName)) ∈ ALLW := aw tb_5 55 rfl rfl
theorem w_1136 : (Jvm.Cond.selects "ShadeBeams$Tape" ({ cls := "ShadeBeams$Tape", name := "sees", desc := "(C)Z" } : Jvm.MethodName) ({ cls := "ShadeBeams$Tape", name := "sees", desc := "(C)Z" } : Jvm.MethodName)) ∈ ALLW := aw tb_5 56 rfl rfl
theorem w_1137 : (Jvm.Cond.code ({ cls := "ShadeBeams$Tape", name := "sees", desc := "(C)Z" } : Jvm.MethodName) prog_12_method_11_code (2 : Nat) (Option.some Jvm.ClassFile.FieldType.boolean)) ∈ ALLW := aw tb_5 57 rfl rfl
theorem w_1138 : (Jvm.Cond.methodLink "ShadeBeams$Law" (76 : Nat) ({ cls := "ShadeBeams$Tape", name := "takeWord", desc := "()V" } : Jvm.MethodName)) ∈ ALLW := aw tb_5 58 rfl rfl
theorem w_1139 : (Jvm.Cond.methodLink "ShadeBeams$Law" (79 : Nat) ({ cls := "ShadeBeams$Law", name := "wordOf", desc := "(LShadeBeams$Tape;)I" } : Jvm.MethodName)) ∈ ALLW := aw tb_5 59 rfl rfl
theorem w_1140 : (Jvm.Cond.static ({ cls := "ShadeBeams$Law", name := "wordOf", desc := "(LShadeBeams$Tape;)I" } : Jvm.MethodName)) ∈ ALLW := aw tb_5 60 rfl rfl
theorem w_1141 : (Jvm.Cond.code ({ cls := "ShadeBeams$Law", name := "wordOf", desc := "(LShadeBeams$Tape;)I" } : Jvm.MethodName) prog_9_method_9_code (1 : Nat) (Option.some Jvm.ClassFile.FieldType.int)) ∈ ALLW := aw tb_5 61 rfl rfl
theorem w_1143 : (Jvm.Cond.methodLink "ShadeBeams$Law" (85 : Nat) ({ cls := "ShadeBeams$Tape", name := "isWord", desc := "(Ljava/lang/String;)Z" } : Jvm.MethodName)) ∈ ALLW := aw tb_5 63 rfl rfl
theorem w_1149 : (Jvm.Cond.methodLink "ShadeBeams$Law" (48 : Nat) ({ cls := "ShadeBeams$Tape", name := "fail", desc := "(I)V" } : Jvm.MethodName)) ∈ ALLW := aw tb_5 69 rfl rfl
theorem w_1150 : (Jvm.Cond.methodLink "ShadeBeams$Law" (59 : Nat) ({ cls := "ShadeBeams$Tape", name := "takeSign", desc := "(C)V" } : Jvm.MethodName)) ∈ ALLW := aw tb_5 70 rfl rfl
theorem w_1151 : (Jvm.Cond.methodLink "ShadeBeams$Law" (42 : Nat) ({ cls := "ShadeBeams$Tape", name := "goesOn", desc := "()Z" } : Jvm.MethodName)) ∈ ALLW := aw tb_5 71 rfl rfl
theorem w_1152 : (Jvm.Cond.methodLink "ShadeBeams" (145 : Nat) ({ cls := "ShadeBeams$Law", name := "copyFrom", desc := "(LShadeBeams$Law;)V" } : Jvm.MethodName)) ∈ ALLW := aw tb_5 72 rfl rfl
theorem w_1153 : (Jvm.Cond.instanceMethod ({ cls := "ShadeBeams$Law", name := "copyFrom", desc := "(LShadeBeams$Law;)V" } : Jvm.MethodName)) ∈ ALLW := aw tb_5 73 rfl rfl
theorem w_1154 : (Jvm.Cond.selects "ShadeBeams$Law" ({ cls := "ShadeBeams$Law", name := "copyFrom", desc := "(LShadeBeams$Law;)V" } : Jvm.MethodName) ({ cls := "ShadeBeams$Law", name := "copyFrom", desc := "(LShadeBeams$Law;)V" } : Jvm.MethodName)) ∈ ALLW := aw tb_5 74 rfl rfl
theorem w_1155 : (Jvm.Cond.code ({ cls := "ShadeBeams$Law", name := "copyFrom", desc := "(LShadeBeams$Law;)V" } : Jvm.MethodName) prog_9_method_3_code (2 : Nat) (Option.none : Option Jvm.ClassFile.FieldType)) ∈ ALLW := aw tb_5 75 rfl rfl
theorem w_1156 : (Jvm.Cond.methodLink "ShadeBeams$Law" (32 : Nat) ({ cls := "java/lang/System", name := "arraycopy", desc := "(Ljava/lang/Object;ILjava/lang/Object;II)V" } : Jvm.MethodName)) ∈ ALLW := aw tb_5 76 rfl rfl
theorem w_1157 : (Jvm.Cond.methodLink "ShadeBeamsLaw" (167 : Nat) ({ cls := "ShadeBeamsLaw", name := "moves", desc := "(LShadeBeams;I[J)I" } : Jvm.MethodName)) ∈ ALLW := aw tb_5 77 rfl rfl
theorem w_1158 : (Jvm.Cond.static ({ cls := "ShadeBeamsLaw", name := "moves", desc := "(LShadeBeams;I[J)I" } : Jvm.MethodName)) ∈ ALLW := aw tb_5 78 rfl rfl
theorem w_1159 : (Jvm.Cond.codeWith ({ cls := "ShadeBeamsLaw", name := "moves", desc := "(LShadeBeams;I[J)I" } : Jvm.MethodName) method_5_code (4 : Nat) (Option.some Jvm.ClassFile.FieldType.int) [((0 : Nat), (9 : Nat), (12 : Nat), (13 : Nat))]) ∈ ALLW := aw tb_5 79 rfl rfl
theorem w_1160 : (Jvm.Cond.methodLink "ShadeBeamsLaw" (18 : Nat) ({ cls := "ShadeBeams", name := "moves", desc := "(I)I" } : Jvm.MethodName)) ∈ ALLW := aw tb_5 80 rfl rfl
theorem w_1161 : (Jvm.Cond.instanceMethod ({ cls := "ShadeBeams", name := "moves", desc := "(I)I" } : Jvm.MethodName)) ∈ ALLW := aw tb_5 81 rfl rfl
theorem w_1162 : (Jvm.Cond.selects "ShadeBeams" ({ cls := "ShadeBeams", name := "moves", desc := "(I)I" } : Jvm.MethodName) ({ cls := "ShadeBeams", name := "moves", desc := "(I)I" } : Jvm.MethodName)) ∈ ALLW := aw tb_5 82 rfl rfl
theorem w_1163 : (Jvm.Cond.code ({ cls := "ShadeBeams", name := "moves", desc := "(I)I" } : Jvm.MethodName) prog_1_method_5_code (2 : Nat) (Option.some Jvm.ClassFile.FieldType.int)) ∈ ALLW := aw tb_5 83 rfl rfl
theorem w_1164 : (Jvm.Cond.methodLink "ShadeBeams" (149 : Nat) ({ cls := "ShadeBeams$Lines", name := "readMoves", desc := "(LShadeBeams$Tape;LShadeBeams$Street;)V" } : Jvm.MethodName)) ∈ ALLW := aw tb_5 84 rfl rfl
theorem w_1165 : (Jvm.Cond.instanceMethod ({ cls := "ShadeBeams$Lines", name := "readMoves", desc := "(LShadeBeams$Tape;LShadeBeams$Street;)V" } : Jvm.MethodName)) ∈ ALLW := aw tb_5 85 rfl rfl
theorem w_1166 : (Jvm.Cond.selects "ShadeBeams$Lines" ({ cls := "ShadeBeams$Lines", name := "readMoves", desc := "(LShadeBeams$Tape;LShadeBeams$Street;)V" } : Jvm.MethodName) ({ cls := "ShadeBeams$Lines", name := "readMoves", desc := "(LShadeBeams$Tape;LShadeBeams$Street;)V" } : Jvm.MethodName)) ∈ ALLW := aw tb_5 86 rfl rfl
theorem w_1167 : (Jvm.Cond.code ({ cls := "ShadeBeams$Lines", name := "readMoves", desc := "(LShadeBeams$Tape;LShadeBeams$Street;)V" } : Jvm.MethodName) prog_10_method_3_code (7 : Nat) (Option.none : Option Jvm.ClassFile.FieldType)) ∈ ALLW := aw tb_5 87 rfl rfl
theorem w_1168 : (Jvm.Cond.methodLink "ShadeBeams$Lines" (31 : Nat) ({ cls := "ShadeBeams$Tape", name := "goesOn", desc := "()Z" } : Jvm.MethodName)) ∈ ALLW := aw tb_5 88 rfl rfl
theorem w_1169 : (Jvm.Cond.methodLink "ShadeBeams$Lines" (37 : Nat) ({ cls := "ShadeBeams$Tape", name := "takeNumber", desc := "(II)I" } : Jvm.MethodName)) ∈ ALLW := aw tb_5 89 rfl rfl
theorem w_1170 : (Jvm.Cond.methodLink "ShadeBeams$Lines" (41 : Nat) ({ cls := "ShadeBeams$Tape", name := "fail", desc := "(I)V" } : Jvm.MethodName)) ∈ ALLW := aw tb_5 90 rfl rfl
theorem w_1171 : (Jvm.Cond.methodLink "ShadeBeams$Lines" (60 : Nat) ({ cls := "ShadeBeams$Tape", name := "takeSign", desc := "(C)V" } : Jvm.MethodName)) ∈ ALLW := aw tb_5 91 rfl rfl
theorem w_1172 : (Jvm.Cond.methodLink "ShadeBeams$Lines" (64 : Nat) ({ cls := "ShadeBeams$Lines", name := "add", desc := "(III)V" } : Jvm.MethodName)) ∈ ALLW := aw tb_5 92 rfl rfl
theorem w_1174 : (Jvm.Cond.instanceMethod ({ cls := "ShadeBeams$Lines", name := "add", desc := "(III)V" } : Jvm.MethodName)) ∈ ALLW := aw tb_5 94 rfl rfl
theorem w_1175 : (Jvm.Cond.code ({ cls := "ShadeBeams$Lines", name := "add", desc := "(III)V" } : Jvm.MethodName) prog_10_method_5_code (4 : Nat) (Option.none : Option Jvm.ClassFile.FieldType)) ∈ ALLW := aw tb_5 95 rfl rfl
theorem w_1176 : (Jvm.Cond.methodLink "ShadeBeams" (153 : Nat) ({ cls := "ShadeBeams$Lines", name := "copyFrom", desc := "(LShadeBeams$Lines;)V" } : Jvm.MethodName)) ∈ ALLW := aw tb_5 96 rfl rfl
theorem w_1177 : (Jvm.Cond.instanceMethod ({ cls := "ShadeBeams$Lines", name := "copyFrom", desc := "(LShadeBeams$Lines;)V" } : Jvm.MethodName)) ∈ ALLW := aw tb_5 97 rfl rfl
theorem w_1178 : (Jvm.Cond.selects "ShadeBeams$Lines" ({ cls := "ShadeBeams$Lines", name := "copyFrom", desc := "(LShadeBeams$Lines;)V" } : Jvm.MethodName) ({ cls := "ShadeBeams$Lines", name := "copyFrom", desc := "(LShadeBeams$Lines;)V" } : Jvm.MethodName)) ∈ ALLW := aw tb_5 98 rfl rfl
theorem w_1179 : (Jvm.Cond.code ({ cls := "ShadeBeams$Lines", name := "copyFrom", desc := "(LShadeBeams$Lines;)V" } : Jvm.MethodName) prog_10_method_2_code (2 : Nat) (Option.none : Option Jvm.ClassFile.FieldType)) ∈ ALLW := aw tb_5 99 rfl rfl
theorem w_1180 : (Jvm.Cond.methodLink "ShadeBeams$Lines" (25 : Nat) ({ cls := "java/lang/System", name := "arraycopy", desc := "(Ljava/lang/Object;ILjava/lang/Object;II)V" } : Jvm.MethodName)) ∈ ALLW := aw tb_5 100 rfl rfl
theorem w_1181 : (Jvm.Cond.methodLink "ShadeBeamsLaw" (170 : Nat) ({ cls := "ShadeBeamsLaw", name := "book", desc := "(LShadeBeams;I[J)I" } : Jvm.MethodName)) ∈ ALLW := aw tb_5 101 rfl rfl
theorem w_1182 : (Jvm.Cond.static ({ cls := "ShadeBeamsLaw", name := "book", desc := "(LShadeBeams;I[J)I" } : Jvm.MethodName)) ∈ ALLW := aw tb_5 102 rfl rfl
theorem w_1183 : (Jvm.Cond.codeWith ({ cls := "ShadeBeamsLaw", name := "book", desc := "(LShadeBeams;I[J)I" } : Jvm.MethodName) method_6_code (4 : Nat) (Option.some Jvm.ClassFile.FieldType.int) [((0 : Nat), (9 : Nat), (12 : Nat), (13 : Nat))]) ∈ ALLW := aw tb_5 103 rfl rfl
theorem w_1184 : (Jvm.Cond.methodLink "ShadeBeamsLaw" (21 : Nat) ({ cls := "ShadeBeams", name := "book", desc := "(I)I" } : Jvm.MethodName)) ∈ ALLW := aw tb_5 104 rfl rfl
theorem w_1185 : (Jvm.Cond.instanceMethod ({ cls := "ShadeBeams", name := "book", desc := "(I)I" } : Jvm.MethodName)) ∈ ALLW := aw tb_5 105 rfl rfl
theorem w_1186 : (Jvm.Cond.selects "ShadeBeams" ({ cls := "ShadeBeams", name := "book", desc := "(I)I" } : Jvm.MethodName) ({ cls := "ShadeBeams", name := "book", desc := "(I)I" } : Jvm.MethodName)) ∈ ALLW := aw tb_5 106 rfl rfl
theorem w_1187 : (Jvm.Cond.code ({ cls := "ShadeBeams", name := "book", desc := "(I)I" } : Jvm.MethodName) prog_1_method_6_code (2 : Nat) (Option.some Jvm.ClassFile.FieldType.int)) ∈ ALLW := aw tb_5 107 rfl rfl
theorem w_1188 : (Jvm.Cond.methodLink "ShadeBeams" (157 : Nat) ({ cls := "ShadeBeams$Lines", name := "readBook", desc := "(LShadeBeams$Tape;I)V" } : Jvm.MethodName)) ∈ ALLW := aw tb_5 108 rfl rfl
theorem w_1189 : (Jvm.Cond.instanceMethod ({ cls := "ShadeBeams$Lines", name := "readBook", desc := "(LShadeBeams$Tape;I)V" } : Jvm.MethodName)) ∈ ALLW := aw tb_5 109 rfl rfl
theorem w_1190 : (Jvm.Cond.selects "ShadeBeams$Lines" ({ cls := "ShadeBeams$Lines", name := "readBook", desc := "(LShadeBeams$Tape;I)V" } : Jvm.MethodName) ({ cls := "ShadeBeams$Lines", name := "readBook", desc := "(LShadeBeams$Tape;I)V" } : Jvm.MethodName)) ∈ ALLW := aw tb_5 110 rfl rfl
theorem w_1191 : (Jvm.Cond.code ({ cls := "ShadeBeams$Lines", name := "readBook", desc := "(LShadeBeams$Tape;I)V" } : Jvm.MethodName) prog_10_method_4_code (6 : Nat) (Option.none : Option Jvm.ClassFile.FieldType)) ∈ ALLW := aw tb_5 111 rfl rfl
theorem w_1192 : (Jvm.Cond.methodLink "ShadeBeamsLaw" (177 : Nat) ({ cls := "ShadeBeamsLaw", name := "told", desc := "(LShadeBeams;I[J)I" } : Jvm.MethodName)) ∈ ALLW := aw tb_5 112 rfl rfl
theorem w_1193 : (Jvm.Cond.static ({ cls := "ShadeBeamsLaw", name := "told", desc := "(LShadeBeams;I[J)I" } : Jvm.MethodName)) ∈ ALLW := aw tb_5 113 rfl rfl
theorem w_1194 : (Jvm.Cond.codeWith ({ cls := "ShadeBeamsLaw", name := "told", desc := "(LShadeBeams;I[J)I" } : Jvm.MethodName) method_7_code (4 : Nat) (Option.some Jvm.ClassFile.FieldType.int) [((0 : Nat), (9 : Nat), (12 : Nat), (13 : Nat))]) ∈ ALLW := aw tb_5 114 rfl rfl
theorem w_1195 : (Jvm.Cond.methodLink "ShadeBeamsLaw" (24 : Nat) ({ cls := "ShadeBeams", name := "told", desc := "(I)I" } : Jvm.MethodName)) ∈ ALLW := aw tb_5 115 rfl rfl
theorem w_1196 : (Jvm.Cond.instanceMethod ({ cls := "ShadeBeams", name := "told", desc := "(I)I" } : Jvm.MethodName)) ∈ ALLW := aw tb_5 116 rfl rfl
theorem w_1197 : (Jvm.Cond.selects "ShadeBeams" ({ cls := "ShadeBeams", name := "told", desc := "(I)I" } : Jvm.MethodName) ({ cls := "ShadeBeams", name := "told", desc := "(I)I" } : Jvm.MethodName)) ∈ ALLW := aw tb_5 117 rfl rfl
theorem w_1198 : (Jvm.Cond.code ({ cls := "ShadeBeams", name := "told", desc := "(I)I" } : Jvm.MethodName) prog_1_method_10_code (2 : Nat) (Option.some Jvm.ClassFile.FieldType.int)) ∈ ALLW := aw tb_5 118 rfl rfl
theorem w_1199 : (Jvm.Cond.methodLink "ShadeBeamsLaw" (180 : Nat) ({ cls := "ShadeBeamsLaw", name := "post", desc := "(LShadeBeams;II[J)I" } : Jvm.MethodName)) ∈ ALLW := aw tb_5 119 rfl rfl
theorem w_1200 : (Jvm.Cond.static ({ cls := "ShadeBeamsLaw", name := "post", desc := "(LShadeBeams;II[J)I" } : Jvm.MethodName)) ∈ ALLW := aw tb_5 120 rfl rfl
theorem w_1201 : (Jvm.Cond.codeWith ({ cls := "ShadeBeamsLaw", name := "post", desc := "(LShadeBeams;II[J)I" } : Jvm.MethodName) method_8_code (5 : Nat) (Option.some Jvm.ClassFile.FieldType.int) [((0 : Nat), (10 : Nat), (13 : Nat), (31 : Nat)), ((0 : Nat), (10 : Nat), (17 : Nat), (13 : Nat))]) ∈ ALLW := aw tb_5 121 rfl rfl
theorem w_1202 : (Jvm.Cond.classLink "ShadeBeamsLaw" (31 : Nat) "java/util/NoSuchElementException") ∈ ALLW := aw tb_5 122 rfl rfl
theorem w_1203 : (Jvm.Cond.methodLink "ShadeBeamsLaw" (27 : Nat) ({ cls := "ShadeBeams", name := "post", desc := "(II)I" } : Jvm.MethodName)) ∈ ALLW := aw tb_5 123 rfl rfl
theorem w_1204 : (Jvm.Cond.instanceMethod ({ cls := "ShadeBeams", name := "post", desc := "(II)I" } : Jvm.MethodName)) ∈ ALLW := aw tb_5 124 rfl rfl
theorem w_1205 : (Jvm.Cond.selects "ShadeBeams" ({ cls := "ShadeBeams", name := "post", desc := "(II)I" } : Jvm.MethodName) ({ cls := "ShadeBeams", name := "post", desc := "(II)I" } : Jvm.MethodName)) ∈ ALLW := aw tb_5 125 rfl rfl
theorem w_1206 : (Jvm.Cond.code ({ cls := "ShadeBeams", name := "post", desc := "(II)I" } : Jvm.MethodName) prog_1_method_11_code (3 : Nat) (Option.some Jvm.ClassFile.FieldType.int)) ∈ ALLW := aw tb_5 126 rfl rfl
theorem w_1207 : (Jvm.Cond.methodLink "ShadeBeams" (196 : Nat) ({ cls := "ShadeBeams", name := "needPost", desc := "(I)V" } : Jvm.MethodName)) ∈ ALLW := aw tb_5 127 rfl rfl
theorem w_1209 : (Jvm.Cond.instanceMethod ({ cls := "ShadeBeams", name := "needPost", desc := "(I)V" } : Jvm.MethodName)) ∈ ALLW := aw tb_5 129 rfl rfl
theorem w_1210 : (Jvm.Cond.code ({ cls := "ShadeBeams", name := "needPost", desc := "(I)V" } : Jvm.MethodName) prog_1_method_67_code (2 : Nat) (Option.none : Option Jvm.ClassFile.FieldType)) ∈ ALLW := aw tb_5 130 rfl rfl
theorem w_1211 : (Jvm.Cond.methodLink "ShadeBeams" (253 : Nat) ({ cls := "ShadeBeams", name := "isWithin", desc := "(III)Z" } : Jvm.MethodName)) ∈ ALLW := aw tb_5 131 rfl rfl
theorem w_1212 : (Jvm.Cond.classLink "ShadeBeams" (482 : Nat) "java/util/NoSuchElementException") ∈ ALLW := aw tb_5 132 rfl rfl
theorem w_1213 : (Jvm.Cond.instantiable "java/util/NoSuchElementException" (6 : Nat)) ∈ ALLW := aw tb_5 133 rfl rfl
theorem w_1214 : (Jvm.Cond.castable "java/util/NoSuchElementException" "java/util/NoSuchElementException") ∈ NESTW := anw tb_5 134 rfl rfl
theorem w_1215 : (Jvm.Cond.selects "java/util/NoSuchElementException" ({ cls := "java/lang/Throwable", name := "fillInStackTrace", desc := "(I)Ljava/lang/Throwable;" } : Jvm.MethodName) ({ cls := "java/lang/Throwable", name := "fillInStackTrace", desc := "(I)Ljava/lang/Throwable;" } : Jvm.MethodName)) ∈ ALLW := aw tb_5 135 rfl rfl
theorem w_1216 : (Jvm.Cond.lays "java/util/NoSuchElementException" "java/lang/Throwable" "cause" "Ljava/lang/Throwable;") ∈ ALLW := aw tb_5 136 rfl rfl
theorem w_1217 : (Jvm.Cond.lays "java/util/NoSuchElementException" "java/lang/Throwable" "stackTrace" "[Ljava/lang/StackTraceElement;") ∈ ALLW := aw tb_5 137 rfl rfl
theorem w_1218 : (Jvm.Cond.lays "java/util/NoSuchElementException" "java/lang/Throwable" "suppressedExceptions" "Ljava/util/List;") ∈ ALLW := aw tb_5 138 rfl rfl
theorem w_1219 : (Jvm.Cond.lays "java/util/NoSuchElementException" "java/lang/Throwable" "detailMessage" "Ljava/lang/String;") ∈ ALLW := aw tb_5 139 rfl rfl
theorem w_1220 : (Jvm.Cond.lays "java/util/NoSuchElementException" "java/lang/Throwable" "backtrace" "Ljava/lang/Object;") ∈ ALLW := aw tb_5 140 rfl rfl
theorem w_1222 : (Jvm.Cond.methodLink "ShadeBeams" (486 : Nat) ({ cls := "java/util/NoSuchElementException", name := "<init>", desc := "(Ljava/lang/String;)V" } : Jvm.MethodName)) ∈ ALLW := aw tb_5 142 rfl rfl
theorem w_1223 : (Jvm.Cond.instanceMethod ({ cls := "java/util/NoSuchElementException", name := "<init>", desc := "(Ljava/lang/String;)V" } : Jvm.MethodName)) ∈ ALLW := aw tb_5 143 rfl rfl
theorem w_1224 : (Jvm.Cond.code ({ cls := "java/util/NoSuchElementException", name := "<init>", desc := "(Ljava/lang/String;)V" } : Jvm.MethodName) prog_34_method_4_code (2 : Nat) (Option.none : Option Jvm.ClassFile.FieldType)) ∈ ALLW := aw tb_5 144 rfl rfl
theorem w_1225 : (Jvm.Cond.methodLink "java/util/NoSuchElementException" (13 : Nat) ({ cls := "java/lang/RuntimeException", name := "<init>", desc := "(Ljava/lang/String;)V" } : Jvm.MethodName)) ∈ ALLW := aw tb_5 145 rfl rfl
theorem w_1226 : (Jvm.Cond.lays "java/util/NoSuchElementException" "java/lang/Throwable" "depth" "I") ∈ ALLW := aw tb_5 146 rfl rfl
theorem w_1227 : (Jvm.Cond.superclass "java/util/NoSuchElementException" "java/lang/RuntimeException") ∈ ALLW := aw tb_5 147 rfl rfl
theorem w_1228 : (Jvm.Cond.methodLink "ShadeBeams" (199 : Nat) ({ cls := "ShadeBeams", name := "needWhat", desc := "(II)V" } : Jvm.MethodName)) ∈ ALLW := aw tb_5 148 rfl rfl
theorem w_1230 : (Jvm.Cond.instanceMethod ({ cls := "ShadeBeams", name := "needWhat", desc := "(II)V" } : Jvm.MethodName)) ∈ ALLW := aw tb_5 150 rfl rfl
theorem w_1231 : (Jvm.Cond.code ({ cls := "ShadeBeams", name := "needWhat", desc := "(II)V" } : Jvm.MethodName) prog_1_method_72_code (3 : Nat) (Option.none : Option Jvm.ClassFile.FieldType)) ∈ ALLW := aw tb_5 151 rfl rfl
theorem w_1232 : (Jvm.Cond.methodLink "ShadeBeamsLaw" (184 : Nat) ({ cls := "ShadeBeamsLaw", name := "beam", desc := "(LShadeBeams;II[J)I" } : Jvm.MethodName)) ∈ ALLW := aw tb_5 152 rfl rfl
theorem w_1233 : (Jvm.Cond.static ({ cls := "ShadeBeamsLaw", name := "beam", desc := "(LShadeBeams;II[J)I" } : Jvm.MethodName)) ∈ ALLW := aw tb_5 153 rfl rfl
theorem w_1234 : (Jvm.Cond.codeWith ({ cls := "ShadeBeamsLaw", name := "beam", desc := "(LShadeBeams;II[J)I" } : Jvm.MethodName) method_9_code (5 : Nat) (Option.some Jvm.ClassFile.FieldType.int) [((0 : Nat), (10 : Nat), (13 : Nat), (31 : Nat)), ((0 : Nat), (10 : Nat), (17 : Nat), (13 : Nat))]) ∈ ALLW := aw tb_5 154 rfl rfl
theorem w_1235 : (Jvm.Cond.methodLink "ShadeBeamsLaw" (33 : Nat) ({ cls := "ShadeBeams", name := "beam", desc := "(II)I" } : Jvm.MethodName)) ∈ ALLW := aw tb_5 155 rfl rfl
theorem w_1236 : (Jvm.Cond.instanceMethod ({ cls := "ShadeBeams", name := "beam", desc := "(II)I" } : Jvm.MethodName)) ∈ ALLW := aw tb_5 156 rfl rfl
theorem w_1237 : (Jvm.Cond.selects "ShadeBeams" ({ cls := "ShadeBeams", name := "beam", desc := "(II)I" } : Jvm.MethodName) ({ cls := "ShadeBeams", name := "beam", desc := "(II)I" } : Jvm.MethodName)) ∈ ALLW := aw tb_5 157 rfl rfl
theorem w_1238 : (Jvm.Cond.code ({ cls := "ShadeBeams", name := "beam", desc := "(II)I" } : Jvm.MethodName) prog_1_method_12_code (3 : Nat) (Option.some Jvm.ClassFile.FieldType.int)) ∈ ALLW := aw tb_5 158 rfl rfl
theorem w_1239 : (Jvm.Cond.methodLink "ShadeBeams" (208 : Nat) ({ cls := "ShadeBeams", name := "needBeam", desc := "(I)V" } : Jvm.MethodName)) ∈ ALLW := aw tb_5 159 rfl rfl
theorem w_1241 : (Jvm.Cond.instanceMethod ({ cls := "ShadeBeams", name := "needBeam", desc := "(I)V" } : Jvm.MethodName)) ∈ ALLW := aw tb_5 161 rfl rfl
theorem w_1242 : (Jvm.Cond.code ({ cls := "ShadeBeams", name := "needBeam", desc := "(I)V" } : Jvm.MethodName) prog_1_method_68_code (2 : Nat) (Option.none : Option Jvm.ClassFile.FieldType)) ∈ ALLW := aw tb_5 162 rfl rfl
theorem w_1244 : (Jvm.Cond.methodLink "ShadeBeams" (220 : Nat) ({ cls := "ShadeBeams$Beams", name := "allOf", desc := "(I)I" } : Jvm.MethodName)) ∈ ALLW := aw tb_5 164 rfl rfl
theorem w_1245 : (Jvm.Cond.instanceMethod ({ cls := "ShadeBeams$Beams", name := "allOf", desc := "(I)I" } : Jvm.MethodName)) ∈ ALLW := aw tb_5 165 rfl rfl
theorem w_1246 : (Jvm.Cond.selects "ShadeBeams$Beams" ({ cls := "ShadeBeams$Beams", name := "allOf", desc := "(I)I" } : Jvm.MethodName) ({ cls := "ShadeBeams$Beams", name := "allOf", desc := "(I)I" } : Jvm.MethodName)) ∈ ALLW := aw tb_5 166 rfl rfl
theorem w_1247 : (Jvm.Cond.code ({ cls := "ShadeBeams$Beams", name := "allOf", desc := "(I)I" } : Jvm.MethodName) prog_2_method_7_code (4 : Nat) (Option.some Jvm.ClassFile.FieldType.int)) ∈ ALLW := aw tb_5 167 rfl rfl
theorem w_1248 : (Jvm.Cond.methodLink "ShadeBeams$Beams" (49 : Nat) ({ cls := "ShadeBeams$Beams", name := "loadOn", desc := "(II)I" } : Jvm.MethodName)) ∈ ALLW := aw tb_5 168 rfl rfl
theorem w_1249 : (Jvm.Cond.instanceMethod ({ cls := "ShadeBeams$Beams", name := "loadOn", desc := "(II)I" } : Jvm.MethodName)) ∈ ALLW := aw tb_5 169 rfl rfl
theorem w_1250 : (Jvm.Cond.selects "ShadeBeams$Beams" ({ cls := "ShadeBeams$Beams", name := "loadOn", desc := "(II)I" } : Jvm.MethodName) ({ cls := "ShadeBeams$Beams", name := "loadOn", desc := "(II)I" } : Jvm.MethodName)) ∈ ALLW := aw tb_5 170 rfl rfl
theorem w_1251 : (Jvm.Cond.code ({ cls := "ShadeBeams$Beams", name := "loadOn", desc := "(II)I" } : Jvm.MethodName) prog_2_method_4_code (3 : Nat) (Option.some Jvm.ClassFile.FieldType.int)) ∈ ALLW := aw tb_5 171 rfl rfl
theorem w_1252 : (Jvm.Cond.methodLink "ShadeBeamsLaw" (187 : Nat) ({ cls := "ShadeBeamsLaw", name := "light", desc := "(LShadeBeams;II[J)I" } : Jvm.MethodName)) ∈ ALLW := aw tb_5 172 rfl rfl
theorem w_1253 : (Jvm.Cond.static ({ cls := "ShadeBeamsLaw", name := "light", desc := "(LShadeBeams;II[J)I" } : Jvm.MethodName)) ∈ ALLW := aw tb_5 173 rfl rfl
theorem w_1254 : (Jvm.Cond.codeWith ({ cls := "ShadeBeamsLaw", name := "light", desc := "(LShadeBeams;II[J)I" } : Jvm.MethodName) method_10_code (5 : Nat) (Option.some Jvm.ClassFile.FieldType.int) [((0 : Nat), (10 : Nat), (13 : Nat), (13 : Nat))]) ∈ ALLW := aw tb_5 174 rfl rfl
theorem w_1255 : (Jvm.Cond.methodLink "ShadeBeamsLaw" (36 : Nat) ({ cls := "ShadeBeams", name := "light", desc := "(II)I" } : Jvm.MethodName)) ∈ ALLW := aw tb_5 175 rfl rfl
theorem w_1256 : (Jvm.Cond.instanceMethod ({ cls := "ShadeBeams", name := "light", desc := "(II)I" } : Jvm.MethodName)) ∈ ALLW := aw tb_5 176 rfl rfl
theorem w_1257 : (Jvm.Cond.selects "ShadeBeams" ({ cls := "ShadeBeams", name := "light", desc := "(II)I" } : Jvm.MethodName) ({ cls := "ShadeBeams", name := "light", desc := "(II)I" } : Jvm.MethodName)) ∈ ALLW := aw tb_5 177 rfl rfl
theorem w_1258 : (Jvm.Cond.code ({ cls := "ShadeBeams", name := "light", desc := "(II)I" } : Jvm.MethodName) prog_1_method_13_code (3 : Nat) (Option.some Jvm.ClassFile.FieldType.int)) ∈ ALLW := aw tb_5 178 rfl rfl
theorem w_1259 : (Jvm.Cond.methodLink "ShadeBeams" (224 : Nat) ({ cls := "ShadeBeams", name := "needHour", desc := "(I)V" } : Jvm.MethodName)) ∈ ALLW := aw tb_5 179 rfl rfl
theorem w_1261 : (Jvm.Cond.instanceMethod ({ cls := "ShadeBeams", name := "needHour", desc := "(I)V" } : Jvm.MethodName)) ∈ ALLW := aw tb_5 181 rfl rfl
theorem w_1262 : (Jvm.Cond.code ({ cls := "ShadeBeams", name := "needHour", desc := "(I)V" } : Jvm.MethodName) prog_1_method_69_code (2 : Nat) (Option.none : Option Jvm.ClassFile.FieldType)) ∈ ALLW := aw tb_5 182 rfl rfl
theorem w_1263 : (Jvm.Cond.methodLink "ShadeBeams" (230 : Nat) ({ cls := "ShadeBeams$Ground", name := "isCloudy", desc := "(I)Z" } : Jvm.MethodName)) ∈ ALLW := aw tb_5 183 rfl rfl
theorem w_1264 : (Jvm.Cond.methodLink "ShadeBeamsLaw" (190 : Nat) ({ cls := "ShadeBeamsLaw", name := "shade", desc := "(LShadeBeams;III[J)I" } : Jvm.MethodName)) ∈ ALLW := aw tb_5 184 rfl rfl
theorem w_1265 : (Jvm.Cond.static ({ cls := "ShadeBeamsLaw", name := "shade", desc := "(LShadeBeams;III[J)I" } : Jvm.MethodName)) ∈ ALLW := aw tb_5 185 rfl rfl
theorem w_1266 : (Jvm.Cond.codeWith ({ cls := "ShadeBeamsLaw", name := "shade", desc := "(LShadeBeams;III[J)I" } : Jvm.MethodName) method_11_code (6 : Nat) (Option.some Jvm.ClassFile.FieldType.int) [((0 : Nat), (19 : Nat), (22 : Nat), (43 : Nat)), ((0 : Nat), (19 : Nat), (26 : Nat), (31 : Nat)), ((0 : Nat), (19 : Nat), (30 : Nat), (13 : Nat))]) ∈ ALLW := aw tb_5 186 rfl rfl
theorem w_1267 : (Jvm.Cond.classLink "ShadeBeamsLaw" (43 : Nat) "java/lang/IndexOutOfBoundsException") ∈ ALLW := aw tb_5 187 rfl rfl
theorem w_1268 : (Jvm.Cond.methodLink "ShadeBeamsLaw" (39 : Nat) ({ cls := "ShadeBeams", name := "shade", desc := "(III)Z" } : Jvm.MethodName)) ∈ ALLW := aw tb_5 188 rfl rfl
theorem w_1269 : (Jvm.Cond.instanceMethod ({ cls := "ShadeBeams", name := "shade", desc := "(III)Z" } : Jvm.MethodName)) ∈ ALLW := aw tb_5 189 rfl rfl
theorem w_1270 : (Jvm.Cond.selects "ShadeBeams" ({ cls := "ShadeBeams", name := "shade", desc := "(III)Z" } : Jvm.MethodName) ({ cls := "ShadeBeams", name := "shade", desc := "(III)Z" } : Jvm.MethodName)) ∈ ALLW := aw tb_5 190 rfl rfl
theorem w_1271 : (Jvm.Cond.code ({ cls := "ShadeBeams", name := "shade", desc := "(III)Z" } : Jvm.MethodName) prog_1_method_14_code (4 : Nat) (Option.some Jvm.ClassFile.FieldType.boolean)) ∈ ALLW := aw tb_5 191 rfl rfl
theorem w_1272 : (Jvm.Cond.methodLink "ShadeBeams" (243 : Nat) ({ cls := "ShadeBeams", name := "needCell", desc := "(I)V" } : Jvm.MethodName)) ∈ ALLW := aw tb_5 192 rfl rfl
theorem w_1274 : (Jvm.Cond.instanceMethod ({ cls := "ShadeBeams", name := "needCell", desc := "(I)V" } : Jvm.MethodName)) ∈ ALLW := aw tb_5 194 rfl rfl
theorem w_1275 : (Jvm.Cond.code ({ cls := "ShadeBeams", name := "needCell", desc := "(I)V" } : Jvm.MethodName) prog_1_method_66_code (2 : Nat) (Option.none : Option Jvm.ClassFile.FieldType)) ∈ ALLW := aw tb_5 195 rfl rfl
theorem w_1276 : (Jvm.Cond.classLink "ShadeBeams" (475 : Nat) "java/lang/IndexOutOfBoundsException") ∈ ALLW := aw tb_5 196 rfl rfl
theorem w_1277 : (Jvm.Cond.instantiable "java/lang/IndexOutOfBoundsException" (6 : Nat)) ∈ ALLW := aw tb_5 197 rfl rfl
theorem w_1278 : (Jvm.Cond.castable "java/lang/IndexOutOfBoundsException" "java/lang/IndexOutOfBoundsException") ∈ NESTW := anw tb_5 198 rfl rfl
theorem w_1279 : (Jvm.Cond.selects "java/lang/IndexOutOfBoundsException" ({ cls := "java/lang/Throwable", name := "fillInStackTrace", desc := "(I)Ljava/lang/Throwable;" } : Jvm.MethodName) ({ cls := "java/lang/Throwable", name := "fillInStackTrace", desc := "(I)Ljava/lang/Throwable;" } : Jvm.MethodName)) ∈ ALLW := aw tb_5 199 rfl rfl
theorem w_1280 : (Jvm.Cond.lays "java/lang/IndexOutOfBoundsException" "java/lang/Throwable" "cause" "Ljava/lang/Throwable;") ∈ ALLW := aw tb_5 200 rfl rfl
theorem w_1281 : (Jvm.Cond.lays "java/lang/IndexOutOfBoundsException" "java/lang/Throwable" "stackTrace" "[Ljava/lang/StackTraceElement;") ∈ ALLW := aw tb_5 201 rfl rfl
theorem w_1282 : (Jvm.Cond.lays "java/lang/IndexOutOfBoundsException" "java/lang/Throwable" "suppressedExceptions" "Ljava/util/List;") ∈ ALLW := aw tb_5 202 rfl rfl
theorem w_1283 : (Jvm.Cond.lays "java/lang/IndexOutOfBoundsException" "java/lang/Throwable" "detailMessage" "Ljava/lang/String;") ∈ ALLW := aw tb_5 203 rfl rfl
theorem w_1284 : (Jvm.Cond.lays "java/lang/IndexOutOfBoundsException" "java/lang/Throwable" "backtrace" "Ljava/lang/Object;") ∈ ALLW := aw tb_5 204 rfl rfl
theorem w_1286 : (Jvm.Cond.methodLink "ShadeBeams" (479 : Nat) ({ cls := "java/lang/IndexOutOfBoundsException", name := "<init>", desc := "(Ljava/lang/String;)V" } : Jvm.MethodName)) ∈ ALLW := aw tb_5 206 rfl rfl
theorem w_1287 : (Jvm.Cond.instanceMethod ({ cls := "java/lang/IndexOutOfBoundsException", name := "<init>", desc := "(Ljava/lang/String;)V" } : Jvm.MethodName)) ∈ ALLW := aw tb_5 207 rfl rfl
theorem w_1288 : (Jvm.Cond.code ({ cls := "java/lang/IndexOutOfBoundsException", name := "<init>", desc := "(Ljava/lang/String;)V" } : Jvm.MethodName) prog_20_method_2_code (2 : Nat) (Option.none : Option Jvm.ClassFile.FieldType)) ∈ ALLW := aw tb_5 208 rfl rfl
theorem w_1289 : (Jvm.Cond.methodLink "java/lang/IndexOutOfBoundsException" (7 : Nat) ({ cls := "java/lang/RuntimeException", name := "<init>", desc := "(Ljava/lang/String;)V" } : Jvm.MethodName)) ∈ ALLW := aw tb_5 209 rfl rfl
theorem w_1290 : (Jvm.Cond.lays "java/lang/IndexOutOfBoundsException" "java/lang/Throwable" "depth" "I") ∈ ALLW := aw tb_5 210 rfl rfl
theorem w_1291 : (Jvm.Cond.superclass "java/lang/IndexOutOfBoundsException" "java/lang/RuntimeException") ∈ ALLW := aw tb_5 211 rfl rfl
theorem w_1292 : (Jvm.Cond.methodLink "ShadeBeams" (246 : Nat) ({ cls := "ShadeBeams$Ground", name := "shadesOn", desc := "(II)I" } : Jvm.MethodName)) ∈ ALLW := aw tb_5 212 rfl rfl
theorem w_1293 : (Jvm.Cond.instanceMethod ({ cls := "ShadeBeams$Ground", name := "shadesOn", desc := "(II)I" } : Jvm.MethodName)) ∈ ALLW := aw tb_5 213 rfl rfl
theorem w_1294 : (Jvm.Cond.selects "ShadeBeams$Ground" ({ cls := "ShadeBeams$Ground", name := "shadesOn", desc := "(II)I" } : Jvm.MethodName) ({ cls := "ShadeBeams$Ground", name := "shadesOn", desc := "(II)I" } : Jvm.MethodName)) ∈ ALLW := aw tb_5 214 rfl rfl
theorem w_1295 : (Jvm.Cond.code ({ cls := "ShadeBeams$Ground", name := "shadesOn", desc := "(II)I" } : Jvm.MethodName) prog_6_method_11_code (3 : Nat) (Option.some Jvm.ClassFile.FieldType.int)) ∈ ALLW := aw tb_5 215 rfl rfl
theorem w_1296 : (Jvm.Cond.methodLink "ShadeBeamsLaw" (194 : Nat) ({ cls := "ShadeBeamsLaw", name := "bears", desc := "(LShadeBeams;II[J)I" } : Jvm.MethodName)) ∈ ALLW := aw tb_5 216 rfl rfl
theorem w_1297 : (Jvm.Cond.static ({ cls := "ShadeBeamsLaw", name := "bears", desc := "(LShadeBeams;II[J)I" } : Jvm.MethodName)) ∈ ALLW := aw tb_5 217 rfl rfl
theorem w_1298 : (Jvm.Cond.codeWith ({ cls := "ShadeBeamsLaw", name := "bears", desc := "(LShadeBeams;II[J)I" } : Jvm.MethodName) method_12_code (5 : Nat) (Option.some Jvm.ClassFile.FieldType.int) [((0 : Nat), (10 : Nat), (13 : Nat), (43 : Nat)), ((0 : Nat), (10 : Nat), (17 : Nat), (13 : Nat))]) ∈ ALLW := aw tb_5 218 rfl rfl
theorem w_1299 : (Jvm.Cond.methodLink "ShadeBeamsLaw" (45 : Nat) ({ cls := "ShadeBeams", name := "bears", desc := "(II)I" } : Jvm.MethodName)) ∈ ALLW := aw tb_5 219 rfl rfl
theorem w_1300 : (Jvm.Cond.instanceMethod ({ cls := "ShadeBeams", name := "bears", desc := "(II)I" } : Jvm.MethodName)) ∈ ALLW := aw tb_5 220 rfl rfl
theorem w_1301 : (Jvm.Cond.selects "ShadeBeams" ({ cls := "ShadeBeams", name := "bears", desc := "(II)I" } : Jvm.MethodName) ({ cls := "ShadeBeams", name := "bears", desc := "(II)I" } : Jvm.MethodName)) ∈ ALLW := aw tb_5 221 rfl rfl
theorem w_1302 : (Jvm.Cond.code ({ cls := "ShadeBeams", name := "bears", desc := "(II)I" } : Jvm.MethodName) prog_1_method_15_code (3 : Nat) (Option.some Jvm.ClassFile.FieldType.int)) ∈ ALLW := aw tb_5 222 rfl rfl
theorem w_1303 : (Jvm.Cond.methodLink "ShadeBeams" (250 : Nat) ({ cls := "ShadeBeams$Ground", name := "borneOn", desc := "(II)I" } : Jvm.MethodName)) ∈ ALLW := aw tb_5 223 rfl rfl
theorem w_1304 : (Jvm.Cond.methodLink "ShadeBeamsLaw" (197 : Nat) ({ cls := "ShadeBeamsLaw", name := "bearing", desc := "(LShadeBeams;IIII[J)I" } : Jvm.MethodName)) ∈ ALLW := aw tb_5 224 rfl rfl
theorem w_1305 : (Jvm.Cond.static ({ cls := "ShadeBeamsLaw", name := "bearing", desc := "(LShadeBeams;IIII[J)I" } : Jvm.MethodName)) ∈ ALLW := aw tb_5 225 rfl rfl
theorem w_1306 : (Jvm.Cond.codeWith ({ cls := "ShadeBeamsLaw", name := "bearing", desc := "(LShadeBeams;IIII[J)I" } : Jvm.MethodName) method_13_code (7 : Nat) (Option.some Jvm.ClassFile.FieldType.int) [((0 : Nat), (14 : Nat), (17 : Nat), (13 : Nat))]) ∈ ALLW := aw tb_5 226 rfl rfl
theorem w_1307 : (Jvm.Cond.methodLink "ShadeBeamsLaw" (48 : Nat) ({ cls := "ShadeBeams", name := "bearing", desc := "(IIII)I" } : Jvm.MethodName)) ∈ ALLW := aw tb_5 227 rfl rfl
theorem w_1308 : (Jvm.Cond.instanceMethod ({ cls := "ShadeBeams", name := "bearing", desc := "(IIII)I" } : Jvm.MethodName)) ∈ ALLW := aw tb_5 228 rfl rfl
theorem w_1309 : (Jvm.Cond.selects "ShadeBeams" ({ cls := "ShadeBeams", name := "bearing", desc := "(IIII)I" } : Jvm.MethodName) ({ cls := "ShadeBeams", name := "bearing", desc := "(IIII)I" } : Jvm.MethodName)) ∈ ALLW := aw tb_5 229 rfl rfl
theorem w_1310 : (Jvm.Cond.code ({ cls := "ShadeBeams", name := "bearing", desc := "(IIII)I" } : Jvm.MethodName) prog_1_method_16_code (5 : Nat) (Option.some Jvm.ClassFile.FieldType.int)) ∈ ALLW := aw tb_5 230 rfl rfl
theorem w_1311 : (Jvm.Cond.methodLink "ShadeBeams" (257 : Nat) ({ cls := "ShadeBeams$Law", name := "borne", desc := "(IIII)I" } : Jvm.MethodName)) ∈ ALLW := aw tb_5 231 rfl rfl
theorem w_1312 : (Jvm.Cond.methodLink "ShadeBeamsLaw" (201 : Nat) ({ cls := "ShadeBeamsLaw", name := "rests", desc := "(LShadeBeams;III[J)I" } : Jvm.MethodName)) ∈ ALLW := aw tb_5 232 rfl rfl
theorem w_1313 : (Jvm.Cond.static ({ cls := "ShadeBeamsLaw", name := "rests", desc := "(LShadeBeams;III[J)I" } : Jvm.MethodName)) ∈ ALLW := aw tb_5 233 rfl rfl
theorem w_1314 : (Jvm.Cond.codeWith ({ cls := "ShadeBeamsLaw", name := "rests", desc := "(LShadeBeams;III[J)I" } : Jvm.MethodName) method_14_code (6 : Nat) (Option.some Jvm.ClassFile.FieldType.int) [((0 : Nat), (11 : Nat), (14 : Nat), (43 : Nat)), ((0 : Nat), (11 : Nat), (18 : Nat), (13 : Nat))]) ∈ ALLW := aw tb_5 234 rfl rfl
theorem w_1315 : (Jvm.Cond.methodLink "ShadeBeamsLaw" (52 : Nat) ({ cls := "ShadeBeams", name := "rests", desc := "(III)J" } : Jvm.MethodName)) ∈ ALLW := aw tb_5 235 rfl rfl
theorem w_1316 : (Jvm.Cond.instanceMethod ({ cls := "ShadeBeams", name := "rests", desc := "(III)J" } : Jvm.MethodName)) ∈ ALLW := aw tb_5 236 rfl rfl
theorem w_1317 : (Jvm.Cond.selects "ShadeBeams" ({ cls := "ShadeBeams", name := "rests", desc := "(III)J" } : Jvm.MethodName) ({ cls := "ShadeBeams", name := "rests", desc := "(III)J" } : Jvm.MethodName)) ∈ ALLW := aw tb_5 237 rfl rfl
theorem w_1318 : (Jvm.Cond.code ({ cls := "ShadeBeams", name := "rests", desc := "(III)J" } : Jvm.MethodName) prog_1_method_17_code (4 : Nat) (Option.some Jvm.ClassFile.FieldType.long)) ∈ ALLW := aw tb_5 238 rfl rfl
theorem w_1319 : (Jvm.Cond.methodLink "ShadeBeams" (261 : Nat) ({ cls := "ShadeBeams$DayRun", name := "restOn", desc := "(LShadeBeams$Beams;II)J" } : Jvm.MethodName)) ∈ ALLW := aw tb_5 239 rfl rfl
theorem w_1320 : (Jvm.Cond.instanceMethod ({ cls := "ShadeBeams$DayRun", name := "restOn", desc := "(LShadeBeams$Beams;II)J" } : Jvm.MethodName)) ∈ ALLW := aw tb_6 0 rfl rfl
theorem w_1321 : (Jvm.Cond.selects "ShadeBeams$DayRun" ({ cls := "ShadeBeams$DayRun", name := "restOn", desc := "(LShadeBeams$Beams;II)J" } : Jvm.MethodName) ({ cls := "ShadeBeams$DayRun", name := "restOn", desc := "(LShadeBeams$Beams;II)J" } : Jvm.MethodName)) ∈ ALLW := aw tb_6 1 rfl rfl
theorem w_1322 : (Jvm.Cond.code ({ cls := "ShadeBeams$DayRun", name := "restOn", desc := "(LShadeBeams$Beams;II)J" } : Jvm.MethodName) prog_5_method_8_code (8 : Nat) (Option.some Jvm.ClassFile.FieldType.long)) ∈ ALLW := aw tb_6 2 rfl rfl
theorem w_1323 : (Jvm.Cond.methodLink "ShadeBeams$DayRun" (100 : Nat) ({ cls := "ShadeBeams$DayRun", name := "placeBehind", desc := "(II)I" } : Jvm.MethodName)) ∈ ALLW := aw tb_6 3 rfl rfl
theorem w_1324 : (Jvm.Cond.instanceMethod ({ cls := "ShadeBeams$DayRun", name := "placeBehind", desc := "(II)I" } : Jvm.MethodName)) ∈ ALLW := aw tb_6 4 rfl rfl
theorem w_1325 : (Jvm.Cond.selects "ShadeBeams$DayRun" ({ cls := "ShadeBeams$DayRun", name := "placeBehind", desc := "(II)I" } : Jvm.MethodName) ({ cls := "ShadeBeams$DayRun", name := "placeBehind", desc := "(II)I" } : Jvm.MethodName)) ∈ ALLW := aw tb_6 5 rfl rfl
theorem w_1326 : (Jvm.Cond.code ({ cls := "ShadeBeams$DayRun", name := "placeBehind", desc := "(II)I" } : Jvm.MethodName) prog_5_method_7_code (3 : Nat) (Option.some Jvm.ClassFile.FieldType.int)) ∈ ALLW := aw tb_6 6 rfl rfl
theorem w_1327 : (Jvm.Cond.constantLong "ShadeBeams" (265 : Nat) (232792560 : Int64)) ∈ ALLW := aw tb_6 7 rfl rfl
theorem w_1328 : (Jvm.Cond.methodLink "ShadeBeams" (267 : Nat) ({ cls := "ShadeBeams", name := "inLeastTerms", desc := "(JJI)J" } : Jvm.MethodName)) ∈ ALLW := aw tb_6 8 rfl rfl
theorem w_1329 : (Jvm.Cond.static ({ cls := "ShadeBeams", name := "inLeastTerms", desc := "(JJI)J" } : Jvm.MethodName)) ∈ ALLW := aw tb_6 9 rfl rfl
theorem w_1330 : (Jvm.Cond.code ({ cls := "ShadeBeams", name := "inLeastTerms", desc := "(JJI)J" } : Jvm.MethodName) prog_1_method_76_code (7 : Nat) (Option.some Jvm.ClassFile.FieldType.long)) ∈ ALLW := aw tb_6 10 rfl rfl
theorem w_1331 : (Jvm.Cond.methodLink "ShadeBeams" (494 : Nat) ({ cls := "java/lang/Math", name := "abs", desc := "(J)J" } : Jvm.MethodName)) ∈ ALLW := aw tb_6 11 rfl rfl
theorem w_1332 : (Jvm.Cond.static ({ cls := "java/lang/Math", name := "abs", desc := "(J)J" } : Jvm.MethodName)) ∈ ALLW := aw tb_6 12 rfl rfl
theorem w_1333 : (Jvm.Cond.code ({ cls := "java/lang/Math", name := "abs", desc := "(J)J" } : Jvm.MethodName) prog_23_method_61_code (2 : Nat) (Option.some Jvm.ClassFile.FieldType.long)) ∈ ALLW := aw tb_6 13 rfl rfl
theorem w_1334 : (Jvm.Cond.methodLink "ShadeBeams" (498 : Nat) ({ cls := "ShadeBeams", name := "commonDivisor", desc := "(JJ)J" } : Jvm.MethodName)) ∈ ALLW := aw tb_6 14 rfl rfl
theorem w_1335 : (Jvm.Cond.static ({ cls := "ShadeBeams", name := "commonDivisor", desc := "(JJ)J" } : Jvm.MethodName)) ∈ ALLW := aw tb_6 15 rfl rfl
theorem w_1336 : (Jvm.Cond.code ({ cls := "ShadeBeams", name := "commonDivisor", desc := "(JJ)J" } : Jvm.MethodName) prog_1_method_77_code (11 : Nat) (Option.some Jvm.ClassFile.FieldType.long)) ∈ ALLW := aw tb_6 16 rfl rfl
theorem w_1337 : (Jvm.Cond.methodLink "ShadeBeamsLaw" (204 : Nat) ({ cls := "ShadeBeamsLaw", name := "puts", desc := "(LShadeBeams;III[J)I" } : Jvm.MethodName)) ∈ ALLW := aw tb_6 17 rfl rfl
theorem w_1338 : (Jvm.Cond.static ({ cls := "ShadeBeamsLaw", name := "puts", desc := "(LShadeBeams;III[J)I" } : Jvm.MethodName)) ∈ ALLW := aw tb_6 18 rfl rfl
theorem w_1339 : (Jvm.Cond.codeWith ({ cls := "ShadeBeamsLaw", name := "puts", desc := "(LShadeBeams;III[J)I" } : Jvm.MethodName) method_15_code (6 : Nat) (Option.some Jvm.ClassFile.FieldType.int) [((0 : Nat), (11 : Nat), (14 : Nat), (31 : Nat)), ((0 : Nat), (11 : Nat), (18 : Nat), (13 : Nat))]) ∈ ALLW := aw tb_6 19 rfl rfl
theorem w_1340 : (Jvm.Cond.methodLink "ShadeBeamsLaw" (56 : Nat) ({ cls := "ShadeBeams", name := "puts", desc := "(III)J" } : Jvm.MethodName)) ∈ ALLW := aw tb_6 20 rfl rfl
theorem w_1341 : (Jvm.Cond.instanceMethod ({ cls := "ShadeBeams", name := "puts", desc := "(III)J" } : Jvm.MethodName)) ∈ ALLW := aw tb_6 21 rfl rfl
theorem w_1342 : (Jvm.Cond.selects "ShadeBeams" ({ cls := "ShadeBeams", name := "puts", desc := "(III)J" } : Jvm.MethodName) ({ cls := "ShadeBeams", name := "puts", desc := "(III)J" } : Jvm.MethodName)) ∈ ALLW := aw tb_6 22 rfl rfl
theorem w_1343 : (Jvm.Cond.code ({ cls := "ShadeBeams", name := "puts", desc := "(III)J" } : Jvm.MethodName) prog_1_method_18_code (4 : Nat) (Option.some Jvm.ClassFile.FieldType.long)) ∈ ALLW := aw tb_6 23 rfl rfl
theorem w_1344 : (Jvm.Cond.methodLink "ShadeBeamsLaw" (207 : Nat) ({ cls := "ShadeBeamsLaw", name := "falls", desc := "(LShadeBeams;I[J)I" } : Jvm.MethodName)) ∈ ALLW := aw tb_6 24 rfl rfl
theorem w_1345 : (Jvm.Cond.static ({ cls := "ShadeBeamsLaw", name := "falls", desc := "(LShadeBeams;I[J)I" } : Jvm.MethodName)) ∈ ALLW := aw tb_6 25 rfl rfl
theorem w_1346 : (Jvm.Cond.codeWith ({ cls := "ShadeBeamsLaw", name := "falls", desc := "(LShadeBeams;I[J)I" } : Jvm.MethodName) method_16_code (4 : Nat) (Option.some Jvm.ClassFile.FieldType.int) [((0 : Nat), (9 : Nat), (12 : Nat), (31 : Nat))]) ∈ ALLW := aw tb_6 26 rfl rfl
theorem w_1347 : (Jvm.Cond.methodLink "ShadeBeamsLaw" (59 : Nat) ({ cls := "ShadeBeams", name := "falls", desc := "(I)I" } : Jvm.MethodName)) ∈ ALLW := aw tb_6 27 rfl rfl
theorem w_1348 : (Jvm.Cond.instanceMethod ({ cls := "ShadeBeams", name := "falls", desc := "(I)I" } : Jvm.MethodName)) ∈ ALLW := aw tb_6 28 rfl rfl
theorem w_1349 : (Jvm.Cond.selects "ShadeBeams" ({ cls := "ShadeBeams", name := "falls", desc := "(I)I" } : Jvm.MethodName) ({ cls := "ShadeBeams", name := "falls", desc := "(I)I" } : Jvm.MethodName)) ∈ ALLW := aw tb_6 29 rfl rfl
theorem w_1350 : (Jvm.Cond.code ({ cls := "ShadeBeams", name := "falls", desc := "(I)I" } : Jvm.MethodName) prog_1_method_19_code (2 : Nat) (Option.some Jvm.ClassFile.FieldType.int)) ∈ ALLW := aw tb_6 30 rfl rfl
theorem w_1351 : (Jvm.Cond.methodLink "ShadeBeamsLaw" (210 : Nat) ({ cls := "ShadeBeamsLaw", name := "lies", desc := "(LShadeBeams;II[J)I" } : Jvm.MethodName)) ∈ ALLW := aw tb_6 31 rfl rfl
theorem w_1352 : (Jvm.Cond.static ({ cls := "ShadeBeamsLaw", name := "lies", desc := "(LShadeBeams;II[J)I" } : Jvm.MethodName)) ∈ ALLW := aw tb_6 32 rfl rfl
theorem w_1353 : (Jvm.Cond.codeWith ({ cls := "ShadeBeamsLaw", name := "lies", desc := "(LShadeBeams;II[J)I" } : Jvm.MethodName) method_17_code (5 : Nat) (Option.some Jvm.ClassFile.FieldType.int) [((0 : Nat), (10 : Nat), (13 : Nat), (31 : Nat)), ((0 : Nat), (10 : Nat), (17 : Nat), (13 : Nat))]) ∈ ALLW := aw tb_6 33 rfl rfl
theorem w_1354 : (Jvm.Cond.methodLink "ShadeBeamsLaw" (62 : Nat) ({ cls := "ShadeBeams", name := "lies", desc := "(II)I" } : Jvm.MethodName)) ∈ ALLW := aw tb_6 34 rfl rfl
theorem w_1355 : (Jvm.Cond.instanceMethod ({ cls := "ShadeBeams", name := "lies", desc := "(II)I" } : Jvm.MethodName)) ∈ ALLW := aw tb_6 35 rfl rfl
theorem w_1356 : (Jvm.Cond.selects "ShadeBeams" ({ cls := "ShadeBeams", name := "lies", desc := "(II)I" } : Jvm.MethodName) ({ cls := "ShadeBeams", name := "lies", desc := "(II)I" } : Jvm.MethodName)) ∈ ALLW := aw tb_6 36 rfl rfl
theorem w_1357 : (Jvm.Cond.code ({ cls := "ShadeBeams", name := "lies", desc := "(II)I" } : Jvm.MethodName) prog_1_method_20_code (3 : Nat) (Option.some Jvm.ClassFile.FieldType.int)) ∈ ALLW := aw tb_6 37 rfl rfl
theorem w_1358 : (Jvm.Cond.methodLink "ShadeBeams" (281 : Nat) ({ cls := "ShadeBeams$DayRun", name := "placeBehind", desc := "(II)I" } : Jvm.MethodName)) ∈ ALLW := aw tb_6 38 rfl rfl
theorem w_1359 : (Jvm.Cond.methodLink "ShadeBeamsLaw" (221 : Nat) ({ cls := "ShadeBeamsLaw", name := "day", desc := "(LShadeBeams;I[J)I" } : Jvm.MethodName)) ∈ ALLW := aw tb_6 39 rfl rfl
theorem w_1360 : (Jvm.Cond.static ({ cls := "ShadeBeamsLaw", name := "day", desc := "(LShadeBeams;I[J)I" } : Jvm.MethodName)) ∈ ALLW := aw tb_6 40 rfl rfl
theorem w_1361 : (Jvm.Cond.codeWith ({ cls := "ShadeBeamsLaw", name := "day", desc := "(LShadeBeams;I[J)I" } : Jvm.MethodName) method_18_code (4 : Nat) (Option.some Jvm.ClassFile.FieldType.int) [((0 : Nat), (9 : Nat), (12 : Nat), (13 : Nat))]) ∈ ALLW := aw tb_6 41 rfl rfl
theorem w_1362 : (Jvm.Cond.methodLink "ShadeBeamsLaw" (65 : Nat) ({ cls := "ShadeBeams", name := "day", desc := "(I)I" } : Jvm.MethodName)) ∈ ALLW := aw tb_6 42 rfl rfl
theorem w_1363 : (Jvm.Cond.instanceMethod ({ cls := "ShadeBeams", name := "day", desc := "(I)I" } : Jvm.MethodName)) ∈ ALLW := aw tb_6 43 rfl rfl
theorem w_1364 : (Jvm.Cond.selects "ShadeBeams" ({ cls := "ShadeBeams", name := "day", desc := "(I)I" } : Jvm.MethodName) ({ cls := "ShadeBeams", name := "day", desc := "(I)I" } : Jvm.MethodName)) ∈ ALLW := aw tb_6 44 rfl rfl
theorem w_1365 : (Jvm.Cond.code ({ cls := "ShadeBeams", name := "day", desc := "(I)I" } : Jvm.MethodName) prog_1_method_23_code (3 : Nat) (Option.some Jvm.ClassFile.FieldType.int)) ∈ ALLW := aw tb_6 45 rfl rfl
theorem w_1366 : (Jvm.Cond.methodLink "ShadeBeams" (293 : Nat) ({ cls := "ShadeBeams", name := "needDay", desc := "(I)V" } : Jvm.MethodName)) ∈ ALLW := aw tb_6 46 rfl rfl
theorem w_1368 : (Jvm.Cond.instanceMethod ({ cls := "ShadeBeams", name := "needDay", desc := "(I)V" } : Jvm.MethodName)) ∈ ALLW := aw tb_6 48 rfl rfl
theorem w_1369 : (Jvm.Cond.code ({ cls := "ShadeBeams", name := "needDay", desc := "(I)V" } : Jvm.MethodName) prog_1_method_71_code (2 : Nat) (Option.none : Option Jvm.ClassFile.FieldType)) ∈ ALLW := aw tb_6 49 rfl rfl
theorem w_1370 : (Jvm.Cond.methodLink "ShadeBeamsLaw" (224 : Nat) ({ cls := "ShadeBeamsLaw", name := "kept", desc := "(LShadeBeams;III[J)I" } : Jvm.MethodName)) ∈ ALLW := aw tb_6 50 rfl rfl
theorem w_1371 : (Jvm.Cond.static ({ cls := "ShadeBeamsLaw", name := "kept", desc := "(LShadeBeams;III[J)I" } : Jvm.MethodName)) ∈ ALLW := aw tb_6 51 rfl rfl
theorem w_1372 : (Jvm.Cond.codeWith ({ cls := "ShadeBeamsLaw", name := "kept", desc := "(LShadeBeams;III[J)I" } : Jvm.MethodName) method_19_code (6 : Nat) (Option.some Jvm.ClassFile.FieldType.int) [((0 : Nat), (12 : Nat), (15 : Nat), (31 : Nat)), ((0 : Nat), (12 : Nat), (19 : Nat), (13 : Nat))]) ∈ ALLW := aw tb_6 52 rfl rfl
theorem w_1373 : (Jvm.Cond.methodLink "ShadeBeamsLaw" (68 : Nat) ({ cls := "ShadeBeams", name := "kept", desc := "(III)I" } : Jvm.MethodName)) ∈ ALLW := aw tb_6 53 rfl rfl
theorem w_1374 : (Jvm.Cond.instanceMethod ({ cls := "ShadeBeams", name := "kept", desc := "(III)I" } : Jvm.MethodName)) ∈ ALLW := aw tb_6 54 rfl rfl
theorem w_1375 : (Jvm.Cond.selects "ShadeBeams" ({ cls := "ShadeBeams", name := "kept", desc := "(III)I" } : Jvm.MethodName) ({ cls := "ShadeBeams", name := "kept", desc := "(III)I" } : Jvm.MethodName)) ∈ ALLW := aw tb_6 55 rfl rfl
theorem w_1376 : (Jvm.Cond.code ({ cls := "ShadeBeams", name := "kept", desc := "(III)I" } : Jvm.MethodName) prog_1_method_24_code (4 : Nat) (Option.some Jvm.ClassFile.FieldType.int)) ∈ ALLW := aw tb_6 56 rfl rfl
theorem w_1377 : (Jvm.Cond.methodLink "ShadeBeams" (296 : Nat) ({ cls := "ShadeBeams", name := "needHours", desc := "(II)V" } : Jvm.MethodName)) ∈ ALLW := aw tb_6 57 rfl rfl
theorem w_1379 : (Jvm.Cond.instanceMethod ({ cls := "ShadeBeams", name := "needHours", desc := "(II)V" } : Jvm.MethodName)) ∈ ALLW := aw tb_6 59 rfl rfl
theorem w_1380 : (Jvm.Cond.code ({ cls := "ShadeBeams", name := "needHours", desc := "(II)V" } : Jvm.MethodName) prog_1_method_70_code (3 : Nat) (Option.none : Option Jvm.ClassFile.FieldType)) ∈ ALLW := aw tb_6 60 rfl rfl
theorem w_1381 : (Jvm.Cond.methodLink "ShadeBeams" (299 : Nat) ({ cls := "ShadeBeams$Carrier", name := "plan", desc := "(LShadeBeams$Ground;LShadeBeams$Beams;III)V" } : Jvm.MethodName)) ∈ ALLW := aw tb_6 61 rfl rfl
theorem w_1382 : (Jvm.Cond.instanceMethod ({ cls := "ShadeBeams$Carrier", name := "plan", desc := "(LShadeBeams$Ground;LShadeBeams$Beams;III)V" } : Jvm.MethodName)) ∈ ALLW := aw tb_6 62 rfl rfl
theorem w_1383 : (Jvm.Cond.selects "ShadeBeams$Carrier" ({ cls := "ShadeBeams$Carrier", name := "plan", desc := "(LShadeBeams$Ground;LShadeBeams$Beams;III)V" } : Jvm.MethodName) ({ cls := "ShadeBeams$Carrier", name := "plan", desc := "(LShadeBeams$Ground;LShadeBeams$Beams;III)V" } : Jvm.MethodName)) ∈ ALLW := aw tb_6 63 rfl rfl
theorem w_1384 : (Jvm.Cond.code ({ cls := "ShadeBeams$Carrier", name := "plan", desc := "(LShadeBeams$Ground;LShadeBeams$Beams;III)V" } : Jvm.MethodName) prog_3_method_2_code (10 : Nat) (Option.none : Option Jvm.ClassFile.FieldType)) ∈ ALLW := aw tb_6 64 rfl rfl
theorem w_1385 : (Jvm.Cond.methodLink "ShadeBeams$Carrier" (32 : Nat) ({ cls := "java/lang/Math", name := "max", desc := "(II)I" } : Jvm.MethodName)) ∈ ALLW := aw tb_6 65 rfl rfl
theorem w_1386 : (Jvm.Cond.methodLink "ShadeBeams$Carrier" (44 : Nat) ({ cls := "ShadeBeams$Carrier", name := "cheapest", desc := "(II)I" } : Jvm.MethodName)) ∈ ALLW := aw tb_6 66 rfl rfl
theorem w_1388 : (Jvm.Cond.instanceMethod ({ cls := "ShadeBeams$Carrier", name := "cheapest", desc := "(II)I" } : Jvm.MethodName)) ∈ ALLW := aw tb_6 68 rfl rfl
theorem w_1389 : (Jvm.Cond.code ({ cls := "ShadeBeams$Carrier", name := "cheapest", desc := "(II)I" } : Jvm.MethodName) prog_3_method_4_code (5 : Nat) (Option.some Jvm.ClassFile.FieldType.int)) ∈ ALLW := aw tb_6 69 rfl rfl
theorem w_1390 : (Jvm.Cond.constant "ShadeBeams$Carrier" (51 : Nat) (1000000 : Int32)) ∈ ALLW := aw tb_6 70 rfl rfl
theorem w_1391 : (Jvm.Cond.methodLink "ShadeBeams$Carrier" (59 : Nat) ({ cls := "ShadeBeams$Carrier", name := "costBy", desc := "(III)I" } : Jvm.MethodName)) ∈ ALLW := aw tb_6 71 rfl rfl
theorem w_1393 : (Jvm.Cond.instanceMethod ({ cls := "ShadeBeams$Carrier", name := "costBy", desc := "(III)I" } : Jvm.MethodName)) ∈ ALLW := aw tb_6 73 rfl rfl
theorem w_1394 : (Jvm.Cond.code ({ cls := "ShadeBeams$Carrier", name := "costBy", desc := "(III)I" } : Jvm.MethodName) prog_3_method_3_code (4 : Nat) (Option.some Jvm.ClassFile.FieldType.int)) ∈ ALLW := aw tb_6 74 rfl rfl
theorem w_1395 : (Jvm.Cond.methodLink "ShadeBeams$Carrier" (52 : Nat) ({ cls := "java/lang/Math", name := "abs", desc := "(I)I" } : Jvm.MethodName)) ∈ ALLW := aw tb_6 75 rfl rfl
theorem w_1396 : (Jvm.Cond.static ({ cls := "java/lang/Math", name := "abs", desc := "(I)I" } : Jvm.MethodName)) ∈ ALLW := aw tb_6 76 rfl rfl
theorem w_1397 : (Jvm.Cond.code ({ cls := "java/lang/Math", name := "abs", desc := "(I)I" } : Jvm.MethodName) prog_23_method_59_code (1 : Nat) (Option.some Jvm.ClassFile.FieldType.int)) ∈ ALLW := aw tb_6 77 rfl rfl
theorem w_1398 : (Jvm.Cond.methodLink "ShadeBeams$Carrier" (56 : Nat) ({ cls := "java/lang/Math", name := "min", desc := "(II)I" } : Jvm.MethodName)) ∈ ALLW := aw tb_6 78 rfl rfl
theorem w_1399 : (Jvm.Cond.methodLink "ShadeBeams$Carrier" (47 : Nat) ({ cls := "ShadeBeams$Ground", name := "holdsUp", desc := "(LShadeBeams$Beams;III)Z" } : Jvm.MethodName)) ∈ ALLW := aw tb_6 79 rfl rfl
theorem w_1400 : (Jvm.Cond.instanceMethod ({ cls := "ShadeBeams$Ground", name := "holdsUp", desc := "(LShadeBeams$Beams;III)Z" } : Jvm.MethodName)) ∈ ALLW := aw tb_6 80 rfl rfl
theorem w_1401 : (Jvm.Cond.selects "ShadeBeams$Ground" ({ cls := "ShadeBeams$Ground", name := "holdsUp", desc := "(LShadeBeams$Beams;III)Z" } : Jvm.MethodName) ({ cls := "ShadeBeams$Ground", name := "holdsUp", desc := "(LShadeBeams$Beams;III)Z" } : Jvm.MethodName)) ∈ ALLW := aw tb_6 81 rfl rfl
theorem w_1402 : (Jvm.Cond.code ({ cls := "ShadeBeams$Ground", name := "holdsUp", desc := "(LShadeBeams$Beams;III)Z" } : Jvm.MethodName) prog_6_method_17_code (6 : Nat) (Option.some Jvm.ClassFile.FieldType.boolean)) ∈ ALLW := aw tb_6 82 rfl rfl
theorem w_1403 : (Jvm.Cond.methodLink "ShadeBeams$Ground" (146 : Nat) ({ cls := "ShadeBeams$Beams", name := "rightEnd", desc := "(II)I" } : Jvm.MethodName)) ∈ ALLW := aw tb_6 83 rfl rfl
theorem w_1404 : (Jvm.Cond.methodLink "ShadeBeams$Ground" (143 : Nat) ({ cls := "ShadeBeams$Ground", name := "borneOn", desc := "(II)I" } : Jvm.MethodName)) ∈ ALLW := aw tb_6 84 rfl rfl
theorem w_1405 : (Jvm.Cond.constantLong "ShadeBeams$Ground" (151 : Nat) (232792560 : Int64)) ∈ ALLW := aw tb_6 85 rfl rfl
theorem w_1406 : (Jvm.Cond.methodLink "ShadeBeams" (303 : Nat) ({ cls := "ShadeBeams$Carrier", name := "fewest", desc := "()I" } : Jvm.MethodName)) ∈ ALLW := aw tb_6 86 rfl rfl
theorem w_1407 : (Jvm.Cond.instanceMethod ({ cls := "ShadeBeams$Carrier", name := "fewest", desc := "()I" } : Jvm.MethodName)) ∈ ALLW := aw tb_6 87 rfl rfl
theorem w_1408 : (Jvm.Cond.selects "ShadeBeams$Carrier" ({ cls := "ShadeBeams$Carrier", name := "fewest", desc := "()I" } : Jvm.MethodName) ({ cls := "ShadeBeams$Carrier", name := "fewest", desc := "()I" } : Jvm.MethodName)) ∈ ALLW := aw tb_6 88 rfl rfl
theorem w_1409 : (Jvm.Cond.code ({ cls := "ShadeBeams$Carrier", name := "fewest", desc := "()I" } : Jvm.MethodName) prog_3_method_5_code (2 : Nat) (Option.some Jvm.ClassFile.FieldType.int)) ∈ ALLW := aw tb_6 89 rfl rfl
theorem w_1410 : (Jvm.Cond.methodLink "ShadeBeamsLaw" (227 : Nat) ({ cls := "ShadeBeamsLaw", name := "carry", desc := "(LShadeBeams;IIII[J)I" } : Jvm.MethodName)) ∈ ALLW := aw tb_6 90 rfl rfl
theorem w_1411 : (Jvm.Cond.static ({ cls := "ShadeBeamsLaw", name := "carry", desc := "(LShadeBeams;IIII[J)I" } : Jvm.MethodName)) ∈ ALLW := aw tb_6 91 rfl rfl
theorem w_1412 : (Jvm.Cond.codeWith ({ cls := "ShadeBeamsLaw", name := "carry", desc := "(LShadeBeams;IIII[J)I" } : Jvm.MethodName) method_20_code (7 : Nat) (Option.some Jvm.ClassFile.FieldType.int) [((0 : Nat), (14 : Nat), (17 : Nat), (31 : Nat)), ((0 : Nat), (14 : Nat), (21 : Nat), (13 : Nat))]) ∈ ALLW := aw tb_6 92 rfl rfl
theorem w_1413 : (Jvm.Cond.methodLink "ShadeBeamsLaw" (72 : Nat) ({ cls := "ShadeBeams", name := "carry", desc := "(IIII)I" } : Jvm.MethodName)) ∈ ALLW := aw tb_6 93 rfl rfl
theorem w_1414 : (Jvm.Cond.instanceMethod ({ cls := "ShadeBeams", name := "carry", desc := "(IIII)I" } : Jvm.MethodName)) ∈ ALLW := aw tb_6 94 rfl rfl
theorem w_1415 : (Jvm.Cond.selects "ShadeBeams" ({ cls := "ShadeBeams", name := "carry", desc := "(IIII)I" } : Jvm.MethodName) ({ cls := "ShadeBeams", name := "carry", desc := "(IIII)I" } : Jvm.MethodName)) ∈ ALLW := aw tb_6 95 rfl rfl
theorem w_1416 : (Jvm.Cond.code ({ cls := "ShadeBeams", name := "carry", desc := "(IIII)I" } : Jvm.MethodName) prog_1_method_25_code (5 : Nat) (Option.some Jvm.ClassFile.FieldType.int)) ∈ ALLW := aw tb_6 96 rfl rfl
theorem w_1417 : (Jvm.Cond.methodLink "ShadeBeams" (306 : Nat) ({ cls := "ShadeBeams$Carrier", name := "placeIn", desc := "(I)I" } : Jvm.MethodName)) ∈ ALLW := aw tb_6 97 rfl rfl
theorem w_1418 : (Jvm.Cond.instanceMethod ({ cls := "ShadeBeams$Carrier", name := "placeIn", desc := "(I)I" } : Jvm.MethodName)) ∈ ALLW := aw tb_6 98 rfl rfl
theorem w_1419 : (Jvm.Cond.selects "ShadeBeams$Carrier" ({ cls := "ShadeBeams$Carrier", name := "placeIn", desc := "(I)I" } : Jvm.MethodName) ({ cls := "ShadeBeams$Carrier", name := "placeIn", desc := "(I)I" } : Jvm.MethodName)) ∈ ALLW := aw tb_6 99 rfl rfl
theorem w_1420 : (Jvm.Cond.code ({ cls := "ShadeBeams$Carrier", name := "placeIn", desc := "(I)I" } : Jvm.MethodName) prog_3_method_6_code (4 : Nat) (Option.some Jvm.ClassFile.FieldType.int)) ∈ ALLW := aw tb_6 100 rfl rfl
theorem w_1421 : (Jvm.Cond.methodLink "ShadeBeams$Carrier" (63 : Nat) ({ cls := "ShadeBeams$Carrier", name := "fewest", desc := "()I" } : Jvm.MethodName)) ∈ ALLW := aw tb_6 101 rfl rfl
theorem w_1422 : (Jvm.Cond.methodLink "ShadeBeams$Carrier" (67 : Nat) ({ cls := "ShadeBeams$Carrier", name := "firstCheapest", desc := "(II)I" } : Jvm.MethodName)) ∈ ALLW := aw tb_6 102 rfl rfl
theorem w_1424 : (Jvm.Cond.instanceMethod ({ cls := "ShadeBeams$Carrier", name := "firstCheapest", desc := "(II)I" } : Jvm.MethodName)) ∈ ALLW := aw tb_6 104 rfl rfl
theorem w_1425 : (Jvm.Cond.code ({ cls := "ShadeBeams$Carrier", name := "firstCheapest", desc := "(II)I" } : Jvm.MethodName) prog_3_method_7_code (5 : Nat) (Option.some Jvm.ClassFile.FieldType.int)) ∈ ALLW := aw tb_6 105 rfl rfl
theorem w_1426 : (Jvm.Cond.methodLink "ShadeBeamsLaw" (230 : Nat) ({ cls := "ShadeBeamsLaw", name := "lit", desc := "(LShadeBeams;III[J)I" } : Jvm.MethodName)) ∈ ALLW := aw tb_6 106 rfl rfl
theorem w_1427 : (Jvm.Cond.static ({ cls := "ShadeBeamsLaw", name := "lit", desc := "(LShadeBeams;III[J)I" } : Jvm.MethodName)) ∈ ALLW := aw tb_6 107 rfl rfl
theorem w_1428 : (Jvm.Cond.codeWith ({ cls := "ShadeBeamsLaw", name := "lit", desc := "(LShadeBeams;III[J)I" } : Jvm.MethodName) method_21_code (6 : Nat) (Option.some Jvm.ClassFile.FieldType.int) [((0 : Nat), (12 : Nat), (15 : Nat), (13 : Nat))]) ∈ ALLW := aw tb_6 108 rfl rfl
theorem w_1429 : (Jvm.Cond.methodLink "ShadeBeamsLaw" (75 : Nat) ({ cls := "ShadeBeams", name := "lit", desc := "(III)I" } : Jvm.MethodName)) ∈ ALLW := aw tb_6 109 rfl rfl
theorem w_1430 : (Jvm.Cond.instanceMethod ({ cls := "ShadeBeams", name := "lit", desc := "(III)I" } : Jvm.MethodName)) ∈ ALLW := aw tb_6 110 rfl rfl
theorem w_1431 : (Jvm.Cond.selects "ShadeBeams" ({ cls := "ShadeBeams", name := "lit", desc := "(III)I" } : Jvm.MethodName) ({ cls := "ShadeBeams", name := "lit", desc := "(III)I" } : Jvm.MethodName)) ∈ ALLW := aw tb_6 111 rfl rfl
theorem w_1432 : (Jvm.Cond.code ({ cls := "ShadeBeams", name := "lit", desc := "(III)I" } : Jvm.MethodName) prog_1_method_26_code (5 : Nat) (Option.some Jvm.ClassFile.FieldType.int)) ∈ ALLW := aw tb_6 112 rfl rfl
theorem w_1433 : (Jvm.Cond.methodLink "ShadeBeams" (309 : Nat) ({ cls := "ShadeBeams", name := "prepareTrial", desc := "()V" } : Jvm.MethodName)) ∈ ALLW := aw tb_6 113 rfl rfl
theorem w_1435 : (Jvm.Cond.instanceMethod ({ cls := "ShadeBeams", name := "prepareTrial", desc := "()V" } : Jvm.MethodName)) ∈ ALLW := aw tb_6 115 rfl rfl
theorem w_1436 : (Jvm.Cond.code ({ cls := "ShadeBeams", name := "prepareTrial", desc := "()V" } : Jvm.MethodName) prog_1_method_65_code (1 : Nat) (Option.none : Option Jvm.ClassFile.FieldType)) ∈ ALLW := aw tb_6 116 rfl rfl
theorem w_1437 : (Jvm.Cond.methodLink "ShadeBeams" (312 : Nat) ({ cls := "ShadeBeams$Lamplighter", name := "gather", desc := "(LShadeBeams$Ground;LShadeBeams$Beams;LShadeBeams$Lines;I)V" } : Jvm.MethodName)) ∈ ALLW := aw tb_6 117 rfl rfl
theorem w_1438 : (Jvm.Cond.instanceMethod ({ cls := "ShadeBeams$Lamplighter", name := "gather", desc := "(LShadeBeams$Ground;LShadeBeams$Beams;LShadeBeams$Lines;I)V" } : Jvm.MethodName)) ∈ ALLW := aw tb_6 118 rfl rfl
theorem w_1439 : (Jvm.Cond.selects "ShadeBeams$Lamplighter" ({ cls := "ShadeBeams$Lamplighter", name := "gather", desc := "(LShadeBeams$Ground;LShadeBeams$Beams;LShadeBeams$Lines;I)V" } : Jvm.MethodName) ({ cls := "ShadeBeams$Lamplighter", name := "gather", desc := "(LShadeBeams$Ground;LShadeBeams$Beams;LShadeBeams$Lines;I)V" } : Jvm.MethodName)) ∈ ALLW := aw tb_6 119 rfl rfl
theorem w_1440 : (Jvm.Cond.code ({ cls := "ShadeBeams$Lamplighter", name := "gather", desc := "(LShadeBeams$Ground;LShadeBeams$Beams;LShadeBeams$Lines;I)V" } : Jvm.MethodName) prog_8_method_2_code (10 : Nat) (Option.none : Option Jvm.ClassFile.FieldType)) ∈ ALLW := aw tb_6 120 rfl rfl
theorem w_1441 : (Jvm.Cond.methodLink "ShadeBeams$Lamplighter" (28 : Nat) ({ cls := "ShadeBeams$Lamplighter", name := "endCells", desc := "(LShadeBeams$Beams;LShadeBeams$Lines;)J" } : Jvm.MethodName)) ∈ ALLW := aw tb_6 121 rfl rfl
theorem w_1442 : (Jvm.Cond.static ({ cls := "ShadeBeams$Lamplighter", name := "endCells", desc := "(LShadeBeams$Beams;LShadeBeams$Lines;)J" } : Jvm.MethodName)) ∈ ALLW := aw tb_6 122 rfl rfl
theorem w_1443 : (Jvm.Cond.code ({ cls := "ShadeBeams$Lamplighter", name := "endCells", desc := "(LShadeBeams$Beams;LShadeBeams$Lines;)J" } : Jvm.MethodName) prog_8_method_4_code (5 : Nat) (Option.some Jvm.ClassFile.FieldType.long)) ∈ ALLW := aw tb_6 123 rfl rfl
theorem w_1444 : (Jvm.Cond.methodLink "ShadeBeams$Lamplighter" (65 : Nat) ({ cls := "ShadeBeams$Beams", name := "rightEnd", desc := "(II)I" } : Jvm.MethodName)) ∈ ALLW := aw tb_6 124 rfl rfl
theorem w_1445 : (Jvm.Cond.constantLong "ShadeBeams$Lamplighter" (38 : Nat) (-1 : Int64)) ∈ ALLW := aw tb_6 125 rfl rfl
theorem w_1446 : (Jvm.Cond.methodLink "ShadeBeams$Lamplighter" (40 : Nat) ({ cls := "ShadeBeams$Lamplighter", name := "changedByLamps", desc := "(LShadeBeams$Ground;J)J" } : Jvm.MethodName)) ∈ ALLW := aw tb_6 126 rfl rfl
theorem w_1447 : (Jvm.Cond.static ({ cls := "ShadeBeams$Lamplighter", name := "changedByLamps", desc := "(LShadeBeams$Ground;J)J" } : Jvm.MethodName)) ∈ ALLW := aw tb_6 127 rfl rfl
theorem w_1448 : (Jvm.Cond.code ({ cls := "ShadeBeams$Lamplighter", name := "changedByLamps", desc := "(LShadeBeams$Ground;J)J" } : Jvm.MethodName) prog_8_method_5_code (6 : Nat) (Option.some Jvm.ClassFile.FieldType.long)) ∈ ALLW := aw tb_6 128 rfl rfl
theorem w_1449 : (Jvm.Cond.methodLink "ShadeBeams$Lamplighter" (78 : Nat) ({ cls := "ShadeBeams$Lamplighter", name := "isChangedByLamp", desc := "(LShadeBeams$Ground;I)Z" } : Jvm.MethodName)) ∈ ALLW := aw tb_6 129 rfl rfl
theorem w_1450 : (Jvm.Cond.static ({ cls := "ShadeBeams$Lamplighter", name := "isChangedByLamp", desc := "(LShadeBeams$Ground;I)Z" } : Jvm.MethodName)) ∈ ALLW := aw tb_6 130 rfl rfl
theorem w_1451 : (Jvm.Cond.code ({ cls := "ShadeBeams$Lamplighter", name := "isChangedByLamp", desc := "(LShadeBeams$Ground;I)Z" } : Jvm.MethodName) prog_8_method_6_code (3 : Nat) (Option.some Jvm.ClassFile.FieldType.boolean)) ∈ ALLW := aw tb_6 131 rfl rfl
theorem w_1452 : (Jvm.Cond.methodLink "ShadeBeams$Lamplighter" (82 : Nat) ({ cls := "ShadeBeams$Ground", name := "borneIf", desc := "(IIZ)I" } : Jvm.MethodName)) ∈ ALLW := aw tb_6 132 rfl rfl
theorem w_1453 : (Jvm.Cond.methodLinkNest "ShadeBeams$Lamplighter" (51 : Nat) ({ cls := "ShadeBeams", name := "spread", desc := "(JI)J" } : Jvm.MethodName) "ShadeBeams") ∈ NESTW := anw tb_6 133 rfl rfl
theorem w_1454 : (Jvm.Cond.methodLink "ShadeBeams$Lamplighter" (55 : Nat) ({ cls := "ShadeBeams$Lamplighter", name := "isGathered", desc := "(J)Z" } : Jvm.MethodName)) ∈ ALLW := aw tb_6 134 rfl rfl
theorem w_1456 : (Jvm.Cond.instanceMethod ({ cls := "ShadeBeams$Lamplighter", name := "isGathered", desc := "(J)Z" } : Jvm.MethodName)) ∈ ALLW := aw tb_6 136 rfl rfl
theorem w_1457 : (Jvm.Cond.code ({ cls := "ShadeBeams$Lamplighter", name := "isGathered", desc := "(J)Z" } : Jvm.MethodName) prog_8_method_3_code (4 : Nat) (Option.some Jvm.ClassFile.FieldType.boolean)) ∈ ALLW := aw tb_6 137 rfl rfl
theorem w_1458 : (Jvm.Cond.methodLink "ShadeBeams" (316 : Nat) ({ cls := "ShadeBeams$Lamplighter", name := "demand", desc := "(LShadeBeams$Ground;LShadeBeams$Beams;LShadeBeams$Lines;I)V" } : Jvm.MethodName)) ∈ ALLW := aw tb_6 138 rfl rfl
theorem w_1459 : (Jvm.Cond.instanceMethod ({ cls := "ShadeBeams$Lamplighter", name := "demand", desc := "(LShadeBeams$Ground;LShadeBeams$Beams;LShadeBeams$Lines;I)V" } : Jvm.MethodName)) ∈ ALLW := aw tb_6 139 rfl rfl
theorem w_1460 : (Jvm.Cond.selects "ShadeBeams$Lamplighter" ({ cls := "ShadeBeams$Lamplighter", name := "demand", desc := "(LShadeBeams$Ground;LShadeBeams$Beams;LShadeBeams$Lines;I)V" } : Jvm.MethodName) ({ cls := "ShadeBeams$Lamplighter", name := "demand", desc := "(LShadeBeams$Ground;LShadeBeams$Beams;LShadeBeams$Lines;I)V" } : Jvm.MethodName)) ∈ ALLW := aw tb_6 140 rfl rfl
theorem w_1461 : (Jvm.Cond.code ({ cls := "ShadeBeams$Lamplighter", name := "demand", desc := "(LShadeBeams$Ground;LShadeBeams$Beams;LShadeBeams$Lines;I)V" } : Jvm.MethodName) prog_8_method_7_code (7 : Nat) (Option.none : Option Jvm.ClassFile.FieldType)) ∈ ALLW := aw tb_6 141 rfl rfl
theorem w_1462 : (Jvm.Cond.methodLink "ShadeBeams$Lamplighter" (92 : Nat) ({ cls := "java/lang/System", name := "arraycopy", desc := "(Ljava/lang/Object;ILjava/lang/Object;II)V" } : Jvm.MethodName)) ∈ ALLW := aw tb_6 142 rfl rfl
theorem w_1463 : (Jvm.Cond.methodLink "ShadeBeams$Lamplighter" (101 : Nat) ({ cls := "ShadeBeams$Lamplighter", name := "weighWatched", desc := "(LShadeBeams$Beams;I)V" } : Jvm.MethodName)) ∈ ALLW := aw tb_6 143 rfl rfl
theorem w_1465 : (Jvm.Cond.instanceMethod ({ cls := "ShadeBeams$Lamplighter", name := "weighWatched", desc := "(LShadeBeams$Beams;I)V" } : Jvm.MethodName)) ∈ ALLW := aw tb_6 145 rfl rfl
theorem w_1466 : (Jvm.Cond.code ({ cls := "ShadeBeams$Lamplighter", name := "weighWatched", desc := "(LShadeBeams$Beams;I)V" } : Jvm.MethodName) prog_8_method_8_code (4 : Nat) (Option.none : Option Jvm.ClassFile.FieldType)) ∈ ALLW := aw tb_6 146 rfl rfl
theorem w_1467 : (Jvm.Cond.methodLink "ShadeBeams$Lamplighter" (107 : Nat) ({ cls := "java/util/Arrays", name := "fill", desc := "([JJ)V" } : Jvm.MethodName)) ∈ ALLW := aw tb_6 147 rfl rfl
theorem w_1468 : (Jvm.Cond.constantLong "ShadeBeams$Lamplighter" (105 : Nat) (232792560 : Int64)) ∈ ALLW := aw tb_6 148 rfl rfl
theorem w_1469 : (Jvm.Cond.methodLink "ShadeBeams" (319 : Nat) ({ cls := "ShadeBeams", name := "findLamps", desc := "(II)Z" } : Jvm.MethodName)) ∈ ALLW := aw tb_6 149 rfl rfl
theorem w_1471 : (Jvm.Cond.instanceMethod ({ cls := "ShadeBeams", name := "findLamps", desc := "(II)Z" } : Jvm.MethodName)) ∈ ALLW := aw tb_6 151 rfl rfl
theorem w_1472 : (Jvm.Cond.code ({ cls := "ShadeBeams", name := "findLamps", desc := "(II)Z" } : Jvm.MethodName) prog_1_method_27_code (5 : Nat) (Option.some Jvm.ClassFile.FieldType.boolean)) ∈ ALLW := aw tb_6 152 rfl rfl
theorem w_1473 : (Jvm.Cond.methodLink "ShadeBeams" (326 : Nat) ({ cls := "ShadeBeams$Lamplighter", name := "pickFirst", desc := "(I)Z" } : Jvm.MethodName)) ∈ ALLW := aw tb_6 153 rfl rfl
theorem w_1474 : (Jvm.Cond.instanceMethod ({ cls := "ShadeBeams$Lamplighter", name := "pickFirst", desc := "(I)Z" } : Jvm.MethodName)) ∈ ALLW := aw tb_6 154 rfl rfl
theorem w_1475 : (Jvm.Cond.selects "ShadeBeams$Lamplighter" ({ cls := "ShadeBeams$Lamplighter", name := "pickFirst", desc := "(I)Z" } : Jvm.MethodName) ({ cls := "ShadeBeams$Lamplighter", name := "pickFirst", desc := "(I)Z" } : Jvm.MethodName)) ∈ ALLW := aw tb_6 155 rfl rfl
theorem w_1476 : (Jvm.Cond.code ({ cls := "ShadeBeams$Lamplighter", name := "pickFirst", desc := "(I)Z" } : Jvm.MethodName) prog_8_method_10_code (3 : Nat) (Option.some Jvm.ClassFile.FieldType.boolean)) ∈ ALLW := aw tb_6 156 rfl rfl
theorem w_1477 : (Jvm.Cond.constant "ShadeBeams" (329 : Nat) (1000000 : Int32)) ∈ ALLW := aw tb_6 157 rfl rfl
theorem w_1478 : (Jvm.Cond.methodLink "ShadeBeams" (334 : Nat) ({ cls := "ShadeBeams$Lamplighter", name := "litBy", desc := "(IJ)J" } : Jvm.MethodName)) ∈ ALLW := aw tb_6 158 rfl rfl
theorem w_1479 : (Jvm.Cond.instanceMethod ({ cls := "ShadeBeams$Lamplighter", name := "litBy", desc := "(IJ)J" } : Jvm.MethodName)) ∈ ALLW := aw tb_6 159 rfl rfl
theorem w_1480 : (Jvm.Cond.selects "ShadeBeams$Lamplighter" ({ cls := "ShadeBeams$Lamplighter", name := "litBy", desc := "(IJ)J" } : Jvm.MethodName) ({ cls := "ShadeBeams$Lamplighter", name := "litBy", desc := "(IJ)J" } : Jvm.MethodName)) ∈ ALLW := aw tb_6 160 rfl rfl
theorem w_1481 : (Jvm.Cond.code ({ cls := "ShadeBeams$Lamplighter", name := "litBy", desc := "(IJ)J" } : Jvm.MethodName) prog_8_method_12_code (7 : Nat) (Option.some Jvm.ClassFile.FieldType.long)) ∈ ALLW := aw tb_6 161 rfl rfl
theorem w_1482 : (Jvm.Cond.methodLink "ShadeBeams$Lamplighter" (124 : Nat) ({ cls := "ShadeBeams$Lamplighter", name := "isPicked", desc := "(I)Z" } : Jvm.MethodName)) ∈ ALLW := aw tb_6 162 rfl rfl
theorem w_1484 : (Jvm.Cond.instanceMethod ({ cls := "ShadeBeams$Lamplighter", name := "isPicked", desc := "(I)Z" } : Jvm.MethodName)) ∈ ALLW := aw tb_6 164 rfl rfl
theorem w_1485 : (Jvm.Cond.code ({ cls := "ShadeBeams$Lamplighter", name := "isPicked", desc := "(I)Z" } : Jvm.MethodName) prog_8_method_14_code (2 : Nat) (Option.some Jvm.ClassFile.FieldType.boolean)) ∈ ALLW := aw tb_6 165 rfl rfl
theorem w_1486 : (Jvm.Cond.methodLinkNest "ShadeBeams$Lamplighter" (128 : Nat) ({ cls := "ShadeBeams", name := "isWithin", desc := "(III)Z" } : Jvm.MethodName) "ShadeBeams") ∈ NESTW := anw tb_6 166 rfl rfl
theorem w_1487 : (Jvm.Cond.methodLink "ShadeBeams" (338 : Nat) ({ cls := "ShadeBeams", name := "keepsUp", desc := "(IJ)Z" } : Jvm.MethodName)) ∈ ALLW := aw tb_6 167 rfl rfl
theorem w_1489 : (Jvm.Cond.instanceMethod ({ cls := "ShadeBeams", name := "keepsUp", desc := "(IJ)Z" } : Jvm.MethodName)) ∈ ALLW := aw tb_6 169 rfl rfl
theorem w_1490 : (Jvm.Cond.code ({ cls := "ShadeBeams", name := "keepsUp", desc := "(IJ)Z" } : Jvm.MethodName) prog_1_method_28_code (4 : Nat) (Option.some Jvm.ClassFile.FieldType.boolean)) ∈ ALLW := aw tb_6 170 rfl rfl
theorem w_1491 : (Jvm.Cond.methodLink "ShadeBeams" (345 : Nat) ({ cls := "ShadeBeams$Lamplighter", name := "allows", desc := "(J)Z" } : Jvm.MethodName)) ∈ ALLW := aw tb_6 171 rfl rfl
theorem w_1492 : (Jvm.Cond.instanceMethod ({ cls := "ShadeBeams$Lamplighter", name := "allows", desc := "(J)Z" } : Jvm.MethodName)) ∈ ALLW := aw tb_6 172 rfl rfl
theorem w_1493 : (Jvm.Cond.selects "ShadeBeams$Lamplighter" ({ cls := "ShadeBeams$Lamplighter", name := "allows", desc := "(J)Z" } : Jvm.MethodName) ({ cls := "ShadeBeams$Lamplighter", name := "allows", desc := "(J)Z" } : Jvm.MethodName)) ∈ ALLW := aw tb_6 173 rfl rfl
theorem w_1494 : (Jvm.Cond.code ({ cls := "ShadeBeams$Lamplighter", name := "allows", desc := "(J)Z" } : Jvm.MethodName) prog_8_method_9_code (3 : Nat) (Option.some Jvm.ClassFile.FieldType.boolean)) ∈ ALLW := aw tb_6 174 rfl rfl
theorem w_1495 : (Jvm.Cond.methodLink "ShadeBeams" (342 : Nat) ({ cls := "ShadeBeams$Lamplighter", name := "pickNext", desc := "(I)Z" } : Jvm.MethodName)) ∈ ALLW := aw tb_6 175 rfl rfl
theorem w_1496 : (Jvm.Cond.instanceMethod ({ cls := "ShadeBeams$Lamplighter", name := "pickNext", desc := "(I)Z" } : Jvm.MethodName)) ∈ ALLW := aw tb_6 176 rfl rfl
theorem w_1497 : (Jvm.Cond.selects "ShadeBeams$Lamplighter" ({ cls := "ShadeBeams$Lamplighter", name := "pickNext", desc := "(I)Z" } : Jvm.MethodName) ({ cls := "ShadeBeams$Lamplighter", name := "pickNext", desc := "(I)Z" } : Jvm.MethodName)) ∈ ALLW := aw tb_6 177 rfl rfl
theorem w_1498 : (Jvm.Cond.code ({ cls := "ShadeBeams$Lamplighter", name := "pickNext", desc := "(I)Z" } : Jvm.MethodName) prog_8_method_11_code (4 : Nat) (Option.some Jvm.ClassFile.FieldType.boolean)) ∈ ALLW := aw tb_6 178 rfl rfl
theorem w_1499 : (Jvm.Cond.methodLink "ShadeBeams$Lamplighter" (119 : Nat) ({ cls := "java/lang/Math", name := "min", desc := "(II)I" } : Jvm.MethodName)) ∈ ALLW := aw tb_6 179 rfl rfl
theorem w_1500 : (Jvm.Cond.methodLink "ShadeBeams" (323 : Nat) ({ cls := "ShadeBeams$Lamplighter", name := "digits", desc := "(I)I" } : Jvm.MethodName)) ∈ ALLW := aw tb_6 180 rfl rfl
theorem w_1501 : (Jvm.Cond.instanceMethod ({ cls := "ShadeBeams$Lamplighter", name := "digits", desc := "(I)I" } : Jvm.MethodName)) ∈ ALLW := aw tb_6 181 rfl rfl
theorem w_1502 : (Jvm.Cond.selects "ShadeBeams$Lamplighter" ({ cls := "ShadeBeams$Lamplighter", name := "digits", desc := "(I)I" } : Jvm.MethodName) ({ cls := "ShadeBeams$Lamplighter", name := "digits", desc := "(I)I" } : Jvm.MethodName)) ∈ ALLW := aw tb_6 182 rfl rfl
theorem w_1503 : (Jvm.Cond.code ({ cls := "ShadeBeams$Lamplighter", name := "digits", desc := "(I)I" } : Jvm.MethodName) prog_8_method_13_code (4 : Nat) (Option.some Jvm.ClassFile.FieldType.int)) ∈ ALLW := aw tb_6 183 rfl rfl
theorem w_1504 : (Jvm.Cond.methodLink "ShadeBeamsLaw" (233 : Nat) ({ cls := "ShadeBeamsLaw", name := "tower", desc := "(LShadeBeams;II[J)I" } : Jvm.MethodName)) ∈ ALLW := aw tb_6 184 rfl rfl
theorem w_1505 : (Jvm.Cond.static ({ cls := "ShadeBeamsLaw", name := "tower", desc := "(LShadeBeams;II[J)I" } : Jvm.MethodName)) ∈ ALLW := aw tb_6 185 rfl rfl
theorem w_1506 : (Jvm.Cond.codeWith ({ cls := "ShadeBeamsLaw", name := "tower", desc := "(LShadeBeams;II[J)I" } : Jvm.MethodName) method_22_code (5 : Nat) (Option.some Jvm.ClassFile.FieldType.int) [((0 : Nat), (10 : Nat), (13 : Nat), (13 : Nat))]) ∈ ALLW := aw tb_6 186 rfl rfl
theorem w_1507 : (Jvm.Cond.methodLink "ShadeBeamsLaw" (78 : Nat) ({ cls := "ShadeBeams", name := "tower", desc := "(II)I" } : Jvm.MethodName)) ∈ ALLW := aw tb_6 187 rfl rfl
theorem w_1508 : (Jvm.Cond.instanceMethod ({ cls := "ShadeBeams", name := "tower", desc := "(II)I" } : Jvm.MethodName)) ∈ ALLW := aw tb_6 188 rfl rfl
theorem w_1509 : (Jvm.Cond.selects "ShadeBeams" ({ cls := "ShadeBeams", name := "tower", desc := "(II)I" } : Jvm.MethodName) ({ cls := "ShadeBeams", name := "tower", desc := "(II)I" } : Jvm.MethodName)) ∈ ALLW := aw tb_6 189 rfl rfl
theorem w_1510 : (Jvm.Cond.code ({ cls := "ShadeBeams", name := "tower", desc := "(II)I" } : Jvm.MethodName) prog_1_method_29_code (6 : Nat) (Option.some Jvm.ClassFile.FieldType.int)) ∈ ALLW := aw tb_6 190 rfl rfl
theorem w_1511 : (Jvm.Cond.methodLink "ShadeBeams" (353 : Nat) ({ cls := "ShadeBeams$Street", name := "hasPost", desc := "(I)Z" } : Jvm.MethodName)) ∈ ALLW := aw tb_6 191 rfl rfl
theorem w_1512 : (Jvm.Cond.methodLink "ShadeBeams" (356 : Nat) ({ cls := "ShadeBeams", name := "goWithPost", desc := "(II)V" } : Jvm.MethodName)) ∈ ALLW := aw tb_6 192 rfl rfl
theorem w_1514 : (Jvm.Cond.instanceMethod ({ cls := "ShadeBeams", name := "goWithPost", desc := "(II)V" } : Jvm.MethodName)) ∈ ALLW := aw tb_6 194 rfl rfl
theorem w_1515 : (Jvm.Cond.code ({ cls := "ShadeBeams", name := "goWithPost", desc := "(II)V" } : Jvm.MethodName) prog_1_method_34_code (3 : Nat) (Option.none : Option Jvm.ClassFile.FieldType)) ∈ ALLW := aw tb_6 195 rfl rfl
theorem w_1516 : (Jvm.Cond.methodLink "ShadeBeams" (387 : Nat) ({ cls := "ShadeBeams$Ground", name := "addPost", desc := "(II)V" } : Jvm.MethodName)) ∈ ALLW := aw tb_6 196 rfl rfl
theorem w_1517 : (Jvm.Cond.methodLink "ShadeBeamsLaw" (236 : Nat) ({ cls := "ShadeBeamsLaw", name := "worth", desc := "(LShadeBeams;I[J)I" } : Jvm.MethodName)) ∈ ALLW := aw tb_6 197 rfl rfl
theorem w_1518 : (Jvm.Cond.static ({ cls := "ShadeBeamsLaw", name := "worth", desc := "(LShadeBeams;I[J)I" } : Jvm.MethodName)) ∈ ALLW := aw tb_6 198 rfl rfl
theorem w_1519 : (Jvm.Cond.codeWith ({ cls := "ShadeBeamsLaw", name := "worth", desc := "(LShadeBeams;I[J)I" } : Jvm.MethodName) method_23_code (4 : Nat) (Option.some Jvm.ClassFile.FieldType.int) [((0 : Nat), (9 : Nat), (12 : Nat), (31 : Nat))]) ∈ ALLW := aw tb_6 199 rfl rfl
theorem w_1520 : (Jvm.Cond.methodLink "ShadeBeamsLaw" (81 : Nat) ({ cls := "ShadeBeams", name := "worth", desc := "(I)I" } : Jvm.MethodName)) ∈ ALLW := aw tb_6 200 rfl rfl
theorem w_1521 : (Jvm.Cond.instanceMethod ({ cls := "ShadeBeams", name := "worth", desc := "(I)I" } : Jvm.MethodName)) ∈ ALLW := aw tb_6 201 rfl rfl
theorem w_1522 : (Jvm.Cond.selects "ShadeBeams" ({ cls := "ShadeBeams", name := "worth", desc := "(I)I" } : Jvm.MethodName) ({ cls := "ShadeBeams", name := "worth", desc := "(I)I" } : Jvm.MethodName)) ∈ ALLW := aw tb_6 202 rfl rfl
theorem w_1523 : (Jvm.Cond.code ({ cls := "ShadeBeams", name := "worth", desc := "(I)I" } : Jvm.MethodName) prog_1_method_30_code (2 : Nat) (Option.some Jvm.ClassFile.FieldType.int)) ∈ ALLW := aw tb_6 203 rfl rfl
theorem w_1524 : (Jvm.Cond.methodLink "ShadeBeams" (366 : Nat) ({ cls := "ShadeBeams$Ground", name := "dropPost", desc := "(I)V" } : Jvm.MethodName)) ∈ ALLW := aw tb_6 204 rfl rfl
theorem w_1525 : (Jvm.Cond.instanceMethod ({ cls := "ShadeBeams$Ground", name := "dropPost", desc := "(I)V" } : Jvm.MethodName)) ∈ ALLW := aw tb_6 205 rfl rfl
theorem w_1526 : (Jvm.Cond.selects "ShadeBeams$Ground" ({ cls := "ShadeBeams$Ground", name := "dropPost", desc := "(I)V" } : Jvm.MethodName) ({ cls := "ShadeBeams$Ground", name := "dropPost", desc := "(I)V" } : Jvm.MethodName)) ∈ ALLW := aw tb_6 206 rfl rfl
theorem w_1527 : (Jvm.Cond.code ({ cls := "ShadeBeams$Ground", name := "dropPost", desc := "(I)V" } : Jvm.MethodName) prog_6_method_5_code (2 : Nat) (Option.none : Option Jvm.ClassFile.FieldType)) ∈ ALLW := aw tb_6 207 rfl rfl
theorem w_1528 : (Jvm.Cond.constantLong "ShadeBeams$Ground" (87 : Nat) (-1 : Int64)) ∈ ALLW := aw tb_6 208 rfl rfl
theorem w_1529 : (Jvm.Cond.methodLink "ShadeBeamsLaw" (239 : Nat) ({ cls := "ShadeBeamsLaw", name := "walk", desc := "(LShadeBeams;IIII[J)I" } : Jvm.MethodName)) ∈ ALLW := aw tb_6 209 rfl rfl
theorem w_1530 : (Jvm.Cond.static ({ cls := "ShadeBeamsLaw", name := "walk", desc := "(LShadeBeams;IIII[J)I" } : Jvm.MethodName)) ∈ ALLW := aw tb_6 210 rfl rfl
theorem w_1531 : (Jvm.Cond.codeWith ({ cls := "ShadeBeamsLaw", name := "walk", desc := "(LShadeBeams;IIII[J)I" } : Jvm.MethodName) method_24_code (7 : Nat) (Option.some Jvm.ClassFile.FieldType.int) [((0 : Nat), (14 : Nat), (17 : Nat), (43 : Nat)), ((0 : Nat), (14 : Nat), (21 : Nat), (13 : Nat))]) ∈ ALLW := aw tb_6 211 rfl rfl
theorem w_1532 : (Jvm.Cond.methodLink "ShadeBeamsLaw" (84 : Nat) ({ cls := "ShadeBeams", name := "walk", desc := "(IIII)I" } : Jvm.MethodName)) ∈ ALLW := aw tb_6 212 rfl rfl
theorem w_1533 : (Jvm.Cond.instanceMethod ({ cls := "ShadeBeams", name := "walk", desc := "(IIII)I" } : Jvm.MethodName)) ∈ ALLW := aw tb_6 213 rfl rfl
theorem w_1534 : (Jvm.Cond.selects "ShadeBeams" ({ cls := "ShadeBeams", name := "walk", desc := "(IIII)I" } : Jvm.MethodName) ({ cls := "ShadeBeams", name := "walk", desc := "(IIII)I" } : Jvm.MethodName)) ∈ ALLW := aw tb_6 214 rfl rfl
theorem w_1535 : (Jvm.Cond.code ({ cls := "ShadeBeams", name := "walk", desc := "(IIII)I" } : Jvm.MethodName) prog_1_method_31_code (8 : Nat) (Option.some Jvm.ClassFile.FieldType.int)) ∈ ALLW := aw tb_6 215 rfl rfl
theorem w_1536 : (Jvm.Cond.methodLink "ShadeBeams" (375 : Nat) ({ cls := "ShadeBeams$Ground", name := "bearingCells", desc := "(I)J" } : Jvm.MethodName)) ∈ ALLW := aw tb_6 216 rfl rfl
theorem w_1537 : (Jvm.Cond.instanceMethod ({ cls := "ShadeBeams$Ground", name := "bearingCells", desc := "(I)J" } : Jvm.MethodName)) ∈ ALLW := aw tb_6 217 rfl rfl
theorem w_1538 : (Jvm.Cond.selects "ShadeBeams$Ground" ({ cls := "ShadeBeams$Ground", name := "bearingCells", desc := "(I)J" } : Jvm.MethodName) ({ cls := "ShadeBeams$Ground", name := "bearingCells", desc := "(I)J" } : Jvm.MethodName)) ∈ ALLW := aw tb_6 218 rfl rfl
theorem w_1539 : (Jvm.Cond.code ({ cls := "ShadeBeams$Ground", name := "bearingCells", desc := "(I)J" } : Jvm.MethodName) prog_6_method_16_code (5 : Nat) (Option.some Jvm.ClassFile.FieldType.long)) ∈ ALLW := aw tb_6 219 rfl rfl
theorem w_1540 : (Jvm.Cond.methodLink "ShadeBeams" (379 : Nat) ({ cls := "ShadeBeams", name := "spread", desc := "(JI)J" } : Jvm.MethodName)) ∈ ALLW := aw tb_6 220 rfl rfl
theorem w_1541 : (Jvm.Cond.methodLink "ShadeBeamsLaw" (242 : Nat) ({ cls := "ShadeBeamsLaw", name := "missing", desc := "(LShadeBeams;II[J)I" } : Jvm.MethodName)) ∈ ALLW := aw tb_6 221 rfl rfl
theorem w_1542 : (Jvm.Cond.static ({ cls := "ShadeBeamsLaw", name := "missing", desc := "(LShadeBeams;II[J)I" } : Jvm.MethodName)) ∈ ALLW := aw tb_6 222 rfl rfl
theorem w_1543 : (Jvm.Cond.codeWith ({ cls := "ShadeBeamsLaw", name := "missing", desc := "(LShadeBeams;II[J)I" } : Jvm.MethodName) method_25_code (5 : Nat) (Option.some Jvm.ClassFile.FieldType.int) [((0 : Nat), (10 : Nat), (13 : Nat), (13 : Nat))]) ∈ ALLW := aw tb_6 223 rfl rfl
theorem w_1544 : (Jvm.Cond.methodLink "ShadeBeamsLaw" (87 : Nat) ({ cls := "ShadeBeams", name := "missing", desc := "(II)I" } : Jvm.MethodName)) ∈ ALLW := aw tb_6 224 rfl rfl
theorem w_1545 : (Jvm.Cond.instanceMethod ({ cls := "ShadeBeams", name := "missing", desc := "(II)I" } : Jvm.MethodName)) ∈ ALLW := aw tb_6 225 rfl rfl
theorem w_1546 : (Jvm.Cond.selects "ShadeBeams" ({ cls := "ShadeBeams", name := "missing", desc := "(II)I" } : Jvm.MethodName) ({ cls := "ShadeBeams", name := "missing", desc := "(II)I" } : Jvm.MethodName)) ∈ ALLW := aw tb_6 226 rfl rfl
theorem w_1547 : (Jvm.Cond.code ({ cls := "ShadeBeams", name := "missing", desc := "(II)I" } : Jvm.MethodName) prog_1_method_32_code (6 : Nat) (Option.some Jvm.ClassFile.FieldType.int)) ∈ ALLW := aw tb_6 227 rfl rfl
theorem w_1548 : (Jvm.Cond.methodLink "ShadeBeamsLaw" (249 : Nat) ({ cls := "ShadeBeamsLaw", name := "whole", desc := "(LShadeBeams;II[J)I" } : Jvm.MethodName)) ∈ ALLW := aw tb_6 228 rfl rfl
theorem w_1549 : (Jvm.Cond.static ({ cls := "ShadeBeamsLaw", name := "whole", desc := "(LShadeBeams;II[J)I" } : Jvm.MethodName)) ∈ ALLW := aw tb_6 229 rfl rfl
theorem w_1550 : (Jvm.Cond.codeWith ({ cls := "ShadeBeamsLaw", name := "whole", desc := "(LShadeBeams;II[J)I" } : Jvm.MethodName) method_26_code (5 : Nat) (Option.some Jvm.ClassFile.FieldType.int) [((0 : Nat), (10 : Nat), (13 : Nat), (13 : Nat))]) ∈ ALLW := aw tb_6 230 rfl rfl
theorem w_1551 : (Jvm.Cond.methodLink "ShadeBeamsLaw" (90 : Nat) ({ cls := "ShadeBeams", name := "whole", desc := "(II)I" } : Jvm.MethodName)) ∈ ALLW := aw tb_6 231 rfl rfl
theorem w_1552 : (Jvm.Cond.instanceMethod ({ cls := "ShadeBeams", name := "whole", desc := "(II)I" } : Jvm.MethodName)) ∈ ALLW := aw tb_6 232 rfl rfl
theorem w_1553 : (Jvm.Cond.selects "ShadeBeams" ({ cls := "ShadeBeams", name := "whole", desc := "(II)I" } : Jvm.MethodName) ({ cls := "ShadeBeams", name := "whole", desc := "(II)I" } : Jvm.MethodName)) ∈ ALLW := aw tb_6 233 rfl rfl
theorem w_1554 : (Jvm.Cond.code ({ cls := "ShadeBeams", name := "whole", desc := "(II)I" } : Jvm.MethodName) prog_1_method_37_code (6 : Nat) (Option.some Jvm.ClassFile.FieldType.int)) ∈ ALLW := aw tb_6 234 rfl rfl
theorem w_1555 : (Jvm.Cond.methodLink "ShadeBeams" (400 : Nat) ({ cls := "ShadeBeams", name := "wholeKinds", desc := "()I" } : Jvm.MethodName)) ∈ ALLW := aw tb_6 235 rfl rfl
theorem w_1557 : (Jvm.Cond.instanceMethod ({ cls := "ShadeBeams", name := "wholeKinds", desc := "()I" } : Jvm.MethodName)) ∈ ALLW := aw tb_6 237 rfl rfl
theorem w_1558 : (Jvm.Cond.code ({ cls := "ShadeBeams", name := "wholeKinds", desc := "()I" } : Jvm.MethodName) prog_1_method_40_code (3 : Nat) (Option.some Jvm.ClassFile.FieldType.int)) ∈ ALLW := aw tb_6 238 rfl rfl
theorem w_1559 : (Jvm.Cond.methodLink "ShadeBeams" (403 : Nat) ({ cls := "ShadeBeams", name := "kindOf", desc := "(I)I" } : Jvm.MethodName)) ∈ ALLW := aw tb_6 239 rfl rfl
theorem w_1561 : (Jvm.Cond.instanceMethod ({ cls := "ShadeBeams", name := "kindOf", desc := "(I)I" } : Jvm.MethodName)) ∈ ALLW := aw tb_7 1 rfl rfl
theorem w_1562 : (Jvm.Cond.code ({ cls := "ShadeBeams", name := "kindOf", desc := "(I)I" } : Jvm.MethodName) prog_1_method_39_code (2 : Nat) (Option.some Jvm.ClassFile.FieldType.int)) ∈ ALLW := aw tb_7 2 rfl rfl
theorem w_1563 : (Jvm.Cond.methodLink "ShadeBeamsLaw" (252 : Nat) ({ cls := "ShadeBeamsLaw", name := "next", desc := "(LShadeBeams;I[J)I" } : Jvm.MethodName)) ∈ ALLW := aw tb_7 3 rfl rfl
theorem w_1564 : (Jvm.Cond.static ({ cls := "ShadeBeamsLaw", name := "next", desc := "(LShadeBeams;I[J)I" } : Jvm.MethodName)) ∈ ALLW := aw tb_7 4 rfl rfl
theorem w_1565 : (Jvm.Cond.codeWith ({ cls := "ShadeBeamsLaw", name := "next", desc := "(LShadeBeams;I[J)I" } : Jvm.MethodName) method_27_code (4 : Nat) (Option.some Jvm.ClassFile.FieldType.int) [((0 : Nat), (9 : Nat), (12 : Nat), (13 : Nat))]) ∈ ALLW := aw tb_7 5 rfl rfl
theorem w_1566 : (Jvm.Cond.methodLink "ShadeBeamsLaw" (93 : Nat) ({ cls := "ShadeBeams", name := "next", desc := "(I)I" } : Jvm.MethodName)) ∈ ALLW := aw tb_7 6 rfl rfl
theorem w_1567 : (Jvm.Cond.instanceMethod ({ cls := "ShadeBeams", name := "next", desc := "(I)I" } : Jvm.MethodName)) ∈ ALLW := aw tb_7 7 rfl rfl
theorem w_1568 : (Jvm.Cond.selects "ShadeBeams" ({ cls := "ShadeBeams", name := "next", desc := "(I)I" } : Jvm.MethodName) ({ cls := "ShadeBeams", name := "next", desc := "(I)I" } : Jvm.MethodName)) ∈ ALLW := aw tb_7 8 rfl rfl
theorem w_1569 : (Jvm.Cond.code ({ cls := "ShadeBeams", name := "next", desc := "(I)I" } : Jvm.MethodName) prog_1_method_38_code (4 : Nat) (Option.some Jvm.ClassFile.FieldType.int)) ∈ ALLW := aw tb_7 9 rfl rfl
theorem w_1570 : (Jvm.Cond.methodLink "ShadeBeamsLaw" (255 : Nat) ({ cls := "ShadeBeamsLaw", name := "odds", desc := "(LShadeBeams;IIIII[J)I" } : Jvm.MethodName)) ∈ ALLW := aw tb_7 10 rfl rfl
theorem w_1571 : (Jvm.Cond.static ({ cls := "ShadeBeamsLaw", name := "odds", desc := "(LShadeBeams;IIIII[J)I" } : Jvm.MethodName)) ∈ ALLW := aw tb_7 11 rfl rfl
theorem w_1572 : (Jvm.Cond.codeWith ({ cls := "ShadeBeamsLaw", name := "odds", desc := "(LShadeBeams;IIIII[J)I" } : Jvm.MethodName) method_28_code (8 : Nat) (Option.some Jvm.ClassFile.FieldType.int) [((0 : Nat), (15 : Nat), (18 : Nat), (31 : Nat)), ((0 : Nat), (15 : Nat), (22 : Nat), (13 : Nat))]) ∈ ALLW := aw tb_7 12 rfl rfl
theorem w_1573 : (Jvm.Cond.methodLink "ShadeBeamsLaw" (96 : Nat) ({ cls := "ShadeBeams", name := "odds", desc := "(IIIII)J" } : Jvm.MethodName)) ∈ ALLW := aw tb_7 13 rfl rfl
theorem w_1574 : (Jvm.Cond.instanceMethod ({ cls := "ShadeBeams", name := "odds", desc := "(IIIII)J" } : Jvm.MethodName)) ∈ ALLW := aw tb_7 14 rfl rfl
theorem w_1575 : (Jvm.Cond.selects "ShadeBeams" ({ cls := "ShadeBeams", name := "odds", desc := "(IIIII)J" } : Jvm.MethodName) ({ cls := "ShadeBeams", name := "odds", desc := "(IIIII)J" } : Jvm.MethodName)) ∈ ALLW := aw tb_7 15 rfl rfl
theorem w_1576 : (Jvm.Cond.code ({ cls := "ShadeBeams", name := "odds", desc := "(IIIII)J" } : Jvm.MethodName) prog_1_method_41_code (12 : Nat) (Option.some Jvm.ClassFile.FieldType.long)) ∈ ALLW := aw tb_7 16 rfl rfl
theorem w_1577 : (Jvm.Cond.methodLink "ShadeBeams" (406 : Nat) ({ cls := "ShadeBeams$Ground", name := "cover", desc := "(I)V" } : Jvm.MethodName)) ∈ ALLW := aw tb_7 17 rfl rfl
theorem w_1578 : (Jvm.Cond.methodLink "ShadeBeams" (409 : Nat) ({ cls := "ShadeBeams$Ground", name := "holdsUp", desc := "(LShadeBeams$Beams;III)Z" } : Jvm.MethodName)) ∈ ALLW := aw tb_7 18 rfl rfl
theorem w_1579 : (Jvm.Cond.constantLong "ShadeBeams" (413 : Nat) (16 : Int64)) ∈ ALLW := aw tb_7 19 rfl rfl
theorem w_1580 : (Jvm.Cond.methodLink "ShadeBeamsLaw" (259 : Nat) ({ cls := "ShadeBeamsLaw", name := "drawn", desc := "(LShadeBeams;II[J)I" } : Jvm.MethodName)) ∈ ALLW := aw tb_7 20 rfl rfl
theorem w_1581 : (Jvm.Cond.static ({ cls := "ShadeBeamsLaw", name := "drawn", desc := "(LShadeBeams;II[J)I" } : Jvm.MethodName)) ∈ ALLW := aw tb_7 21 rfl rfl
theorem w_1582 : (Jvm.Cond.codeWith ({ cls := "ShadeBeamsLaw", name := "drawn", desc := "(LShadeBeams;II[J)I" } : Jvm.MethodName) method_29_code (5 : Nat) (Option.some Jvm.ClassFile.FieldType.int) [((0 : Nat), (10 : Nat), (13 : Nat), (13 : Nat))]) ∈ ALLW := aw tb_7 22 rfl rfl
theorem w_1583 : (Jvm.Cond.methodLink "ShadeBeamsLaw" (100 : Nat) ({ cls := "ShadeBeams", name := "drawn", desc := "(II)I" } : Jvm.MethodName)) ∈ ALLW := aw tb_7 23 rfl rfl
theorem w_1584 : (Jvm.Cond.instanceMethod ({ cls := "ShadeBeams", name := "drawn", desc := "(II)I" } : Jvm.MethodName)) ∈ ALLW := aw tb_7 24 rfl rfl
theorem w_1585 : (Jvm.Cond.selects "ShadeBeams" ({ cls := "ShadeBeams", name := "drawn", desc := "(II)I" } : Jvm.MethodName) ({ cls := "ShadeBeams", name := "drawn", desc := "(II)I" } : Jvm.MethodName)) ∈ ALLW := aw tb_7 25 rfl rfl
theorem w_1586 : (Jvm.Cond.code ({ cls := "ShadeBeams", name := "drawn", desc := "(II)I" } : Jvm.MethodName) prog_1_method_42_code (3 : Nat) (Option.some Jvm.ClassFile.FieldType.int)) ∈ ALLW := aw tb_7 26 rfl rfl
theorem w_1587 : (Jvm.Cond.methodLink "ShadeBeams" (415 : Nat) ({ cls := "ShadeBeams", name := "goUnderDrawnClouds", desc := "(II)V" } : Jvm.MethodName)) ∈ ALLW := aw tb_7 27 rfl rfl
theorem w_1589 : (Jvm.Cond.instanceMethod ({ cls := "ShadeBeams", name := "goUnderDrawnClouds", desc := "(II)V" } : Jvm.MethodName)) ∈ ALLW := aw tb_7 29 rfl rfl
theorem w_1590 : (Jvm.Cond.code ({ cls := "ShadeBeams", name := "goUnderDrawnClouds", desc := "(II)V" } : Jvm.MethodName) prog_1_method_44_code (6 : Nat) (Option.none : Option Jvm.ClassFile.FieldType)) ∈ ALLW := aw tb_7 30 rfl rfl
theorem w_1591 : (Jvm.Cond.constant "ShadeBeams" (426 : Nat) (1103515245 : Int32)) ∈ ALLW := aw tb_7 31 rfl rfl
theorem w_1592 : (Jvm.Cond.methodLink "ShadeBeamsLaw" (262 : Nat) ({ cls := "ShadeBeamsLaw", name := "span", desc := "(LShadeBeams;IIIII[J)I" } : Jvm.MethodName)) ∈ ALLW := aw tb_7 32 rfl rfl
theorem w_1593 : (Jvm.Cond.static ({ cls := "ShadeBeamsLaw", name := "span", desc := "(LShadeBeams;IIIII[J)I" } : Jvm.MethodName)) ∈ ALLW := aw tb_7 33 rfl rfl
theorem w_1594 : (Jvm.Cond.codeWith ({ cls := "ShadeBeamsLaw", name := "span", desc := "(LShadeBeams;IIIII[J)I" } : Jvm.MethodName) method_30_code (8 : Nat) (Option.some Jvm.ClassFile.FieldType.int) [((0 : Nat), (16 : Nat), (19 : Nat), (13 : Nat))]) ∈ ALLW := aw tb_7 34 rfl rfl
theorem w_1595 : (Jvm.Cond.methodLink "ShadeBeamsLaw" (103 : Nat) ({ cls := "ShadeBeams", name := "span", desc := "(IIIII)I" } : Jvm.MethodName)) ∈ ALLW := aw tb_7 35 rfl rfl
theorem w_1596 : (Jvm.Cond.instanceMethod ({ cls := "ShadeBeams", name := "span", desc := "(IIIII)I" } : Jvm.MethodName)) ∈ ALLW := aw tb_7 36 rfl rfl
theorem w_1597 : (Jvm.Cond.selects "ShadeBeams" ({ cls := "ShadeBeams", name := "span", desc := "(IIIII)I" } : Jvm.MethodName) ({ cls := "ShadeBeams", name := "span", desc := "(IIIII)I" } : Jvm.MethodName)) ∈ ALLW := aw tb_7 37 rfl rfl
theorem w_1598 : (Jvm.Cond.code ({ cls := "ShadeBeams", name := "span", desc := "(IIIII)I" } : Jvm.MethodName) prog_1_method_43_code (10 : Nat) (Option.some Jvm.ClassFile.FieldType.int)) ∈ ALLW := aw tb_7 38 rfl rfl
theorem w_1599 : (Jvm.Cond.methodLink "ShadeBeams" (418 : Nat) ({ cls := "java/lang/Math", name := "min", desc := "(II)I" } : Jvm.MethodName)) ∈ ALLW := aw tb_7 39 rfl rfl
theorem w_1600 : (Jvm.Cond.methodLink "ShadeBeams" (423 : Nat) ({ cls := "java/lang/Math", name := "max", desc := "(II)I" } : Jvm.MethodName)) ∈ ALLW := aw tb_7 40 rfl rfl
theorem w_1601 : (Jvm.Cond.methodLink "ShadeBeamsLaw" (265 : Nat) ({ cls := "ShadeBeamsLaw", name := "places", desc := "(LShadeBeams;III[J)I" } : Jvm.MethodName)) ∈ ALLW := aw tb_7 41 rfl rfl
theorem w_1602 : (Jvm.Cond.static ({ cls := "ShadeBeamsLaw", name := "places", desc := "(LShadeBeams;III[J)I" } : Jvm.MethodName)) ∈ ALLW := aw tb_7 42 rfl rfl
theorem w_1603 : (Jvm.Cond.codeWith ({ cls := "ShadeBeamsLaw", name := "places", desc := "(LShadeBeams;III[J)I" } : Jvm.MethodName) method_31_code (6 : Nat) (Option.some Jvm.ClassFile.FieldType.int) [((0 : Nat), (12 : Nat), (15 : Nat), (31 : Nat)), ((0 : Nat), (12 : Nat), (19 : Nat), (13 : Nat))]) ∈ ALLW := aw tb_7 43 rfl rfl
theorem w_1604 : (Jvm.Cond.methodLink "ShadeBeamsLaw" (107 : Nat) ({ cls := "ShadeBeams", name := "places", desc := "(III)I" } : Jvm.MethodName)) ∈ ALLW := aw tb_7 44 rfl rfl
theorem w_1605 : (Jvm.Cond.instanceMethod ({ cls := "ShadeBeams", name := "places", desc := "(III)I" } : Jvm.MethodName)) ∈ ALLW := aw tb_7 45 rfl rfl
theorem w_1606 : (Jvm.Cond.selects "ShadeBeams" ({ cls := "ShadeBeams", name := "places", desc := "(III)I" } : Jvm.MethodName) ({ cls := "ShadeBeams", name := "places", desc := "(III)I" } : Jvm.MethodName)) ∈ ALLW := aw tb_7 46 rfl rfl
theorem w_1607 : (Jvm.Cond.code ({ cls := "ShadeBeams", name := "places", desc := "(III)I" } : Jvm.MethodName) prog_1_method_45_code (6 : Nat) (Option.some Jvm.ClassFile.FieldType.int)) ∈ ALLW := aw tb_7 47 rfl rfl
theorem w_1608 : (Jvm.Cond.methodLink "ShadeBeams" (427 : Nat) ({ cls := "ShadeBeams$Ground", name := "placesFor", desc := "(LShadeBeams$Beams;II)J" } : Jvm.MethodName)) ∈ ALLW := aw tb_7 48 rfl rfl
theorem w_1609 : (Jvm.Cond.instanceMethod ({ cls := "ShadeBeams$Ground", name := "placesFor", desc := "(LShadeBeams$Beams;II)J" } : Jvm.MethodName)) ∈ ALLW := aw tb_7 49 rfl rfl
theorem w_1610 : (Jvm.Cond.selects "ShadeBeams$Ground" ({ cls := "ShadeBeams$Ground", name := "placesFor", desc := "(LShadeBeams$Beams;II)J" } : Jvm.MethodName) ({ cls := "ShadeBeams$Ground", name := "placesFor", desc := "(LShadeBeams$Beams;II)J" } : Jvm.MethodName)) ∈ ALLW := aw tb_7 50 rfl rfl
theorem w_1611 : (Jvm.Cond.code ({ cls := "ShadeBeams$Ground", name := "placesFor", desc := "(LShadeBeams$Beams;II)J" } : Jvm.MethodName) prog_6_method_18_code (7 : Nat) (Option.some Jvm.ClassFile.FieldType.long)) ∈ ALLW := aw tb_7 51 rfl rfl
theorem w_1612 : (Jvm.Cond.methodLink "ShadeBeams$Ground" (162 : Nat) ({ cls := "ShadeBeams$Ground", name := "holdsUp", desc := "(LShadeBeams$Beams;III)Z" } : Jvm.MethodName)) ∈ ALLW := aw tb_7 52 rfl rfl
theorem w_1613 : (Jvm.Cond.methodLink "ShadeBeams" (430 : Nat) ({ cls := "java/lang/Long", name := "bitCount", desc := "(J)I" } : Jvm.MethodName)) ∈ ALLW := aw tb_7 53 rfl rfl
theorem w_1614 : (Jvm.Cond.static ({ cls := "java/lang/Long", name := "bitCount", desc := "(J)I" } : Jvm.MethodName)) ∈ ALLW := aw tb_7 54 rfl rfl
theorem w_1615 : (Jvm.Cond.code ({ cls := "java/lang/Long", name := "bitCount", desc := "(J)I" } : Jvm.MethodName) prog_22_method_50_code (2 : Nat) (Option.some Jvm.ClassFile.FieldType.int)) ∈ ALLW := aw tb_7 55 rfl rfl
theorem w_1616 : (Jvm.Cond.constantLong "java/lang/Long" (314 : Nat) (6148914691236517205 : Int64)) ∈ ALLW := aw tb_7 56 rfl rfl
theorem w_1617 : (Jvm.Cond.constantLong "java/lang/Long" (316 : Nat) (3689348814741910323 : Int64)) ∈ ALLW := aw tb_7 57 rfl rfl
theorem w_1618 : (Jvm.Cond.constantLong "java/lang/Long" (318 : Nat) (1085102592571150095 : Int64)) ∈ ALLW := aw tb_7 58 rfl rfl
theorem w_1619 : (Jvm.Cond.methodLink "ShadeBeams" (436 : Nat) ({ cls := "java/lang/Long", name := "numberOfTrailingZeros", desc := "(J)I" } : Jvm.MethodName)) ∈ ALLW := aw tb_7 59 rfl rfl
theorem w_1620 : (Jvm.Cond.static ({ cls := "java/lang/Long", name := "numberOfTrailingZeros", desc := "(J)I" } : Jvm.MethodName)) ∈ ALLW := aw tb_7 60 rfl rfl
theorem w_1621 : (Jvm.Cond.code ({ cls := "java/lang/Long", name := "numberOfTrailingZeros", desc := "(J)I" } : Jvm.MethodName) prog_22_method_49_code (3 : Nat) (Option.some Jvm.ClassFile.FieldType.int)) ∈ ALLW := aw tb_7 61 rfl rfl
theorem w_1622 : (Jvm.Cond.methodLink "java/lang/Long" (311 : Nat) ({ cls := "java/lang/Integer", name := "numberOfTrailingZeros", desc := "(I)I" } : Jvm.MethodName)) ∈ ALLW := aw tb_7 62 rfl rfl
theorem w_1623 : (Jvm.Cond.static ({ cls := "java/lang/Integer", name := "numberOfTrailingZeros", desc := "(I)I" } : Jvm.MethodName)) ∈ ALLW := aw tb_7 63 rfl rfl
theorem w_1624 : (Jvm.Cond.code ({ cls := "java/lang/Integer", name := "numberOfTrailingZeros", desc := "(I)I" } : Jvm.MethodName) prog_21_method_48_code (2 : Nat) (Option.some Jvm.ClassFile.FieldType.int)) ∈ ALLW := aw tb_7 64 rfl rfl
theorem w_1625 : (Jvm.Cond.constant "java/lang/Integer" (264 : Nat) (65536 : Int32)) ∈ ALLW := aw tb_7 65 rfl rfl
theorem w_1626 : (Jvm.Cond.methodLink "ShadeBeams" (439 : Nat) ({ cls := "java/lang/Long", name := "numberOfLeadingZeros", desc := "(J)I" } : Jvm.MethodName)) ∈ ALLW := aw tb_7 66 rfl rfl
theorem w_1627 : (Jvm.Cond.static ({ cls := "java/lang/Long", name := "numberOfLeadingZeros", desc := "(J)I" } : Jvm.MethodName)) ∈ ALLW := aw tb_7 67 rfl rfl
theorem w_1628 : (Jvm.Cond.code ({ cls := "java/lang/Long", name := "numberOfLeadingZeros", desc := "(J)I" } : Jvm.MethodName) prog_22_method_48_code (3 : Nat) (Option.some Jvm.ClassFile.FieldType.int)) ∈ ALLW := aw tb_7 68 rfl rfl
theorem w_1629 : (Jvm.Cond.methodLink "java/lang/Long" (308 : Nat) ({ cls := "java/lang/Integer", name := "numberOfLeadingZeros", desc := "(I)I" } : Jvm.MethodName)) ∈ ALLW := aw tb_7 69 rfl rfl
theorem w_1630 : (Jvm.Cond.static ({ cls := "java/lang/Integer", name := "numberOfLeadingZeros", desc := "(I)I" } : Jvm.MethodName)) ∈ ALLW := aw tb_7 70 rfl rfl
theorem w_1631 : (Jvm.Cond.code ({ cls := "java/lang/Integer", name := "numberOfLeadingZeros", desc := "(I)I" } : Jvm.MethodName) prog_21_method_47_code (2 : Nat) (Option.some Jvm.ClassFile.FieldType.int)) ∈ ALLW := aw tb_7 71 rfl rfl
theorem w_1632 : (Jvm.Cond.methodLink "ShadeBeamsLaw" (268 : Nat) ({ cls := "ShadeBeamsLaw", name := "row", desc := "(LShadeBeams;II[J)I" } : Jvm.MethodName)) ∈ ALLW := aw tb_7 72 rfl rfl
theorem w_1633 : (Jvm.Cond.static ({ cls := "ShadeBeamsLaw", name := "row", desc := "(LShadeBeams;II[J)I" } : Jvm.MethodName)) ∈ ALLW := aw tb_7 73 rfl rfl
theorem w_1634 : (Jvm.Cond.codeWith ({ cls := "ShadeBeamsLaw", name := "row", desc := "(LShadeBeams;II[J)I" } : Jvm.MethodName) method_32_code (5 : Nat) (Option.some Jvm.ClassFile.FieldType.int) [((0 : Nat), (10 : Nat), (13 : Nat), (13 : Nat))]) ∈ ALLW := aw tb_7 74 rfl rfl
theorem w_1635 : (Jvm.Cond.methodLink "ShadeBeamsLaw" (110 : Nat) ({ cls := "ShadeBeams", name := "row", desc := "(II)I" } : Jvm.MethodName)) ∈ ALLW := aw tb_7 75 rfl rfl
theorem w_1636 : (Jvm.Cond.instanceMethod ({ cls := "ShadeBeams", name := "row", desc := "(II)I" } : Jvm.MethodName)) ∈ ALLW := aw tb_7 76 rfl rfl
theorem w_1637 : (Jvm.Cond.selects "ShadeBeams" ({ cls := "ShadeBeams", name := "row", desc := "(II)I" } : Jvm.MethodName) ({ cls := "ShadeBeams", name := "row", desc := "(II)I" } : Jvm.MethodName)) ∈ ALLW := aw tb_7 77 rfl rfl
theorem w_1638 : (Jvm.Cond.code ({ cls := "ShadeBeams", name := "row", desc := "(II)I" } : Jvm.MethodName) prog_1_method_46_code (9 : Nat) (Option.some Jvm.ClassFile.FieldType.int)) ∈ ALLW := aw tb_7 78 rfl rfl
theorem w_1639 : (Jvm.Cond.methodLink "ShadeBeamsLaw" (271 : Nat) ({ cls := "ShadeBeamsLaw", name := "best", desc := "(LShadeBeams;I[J)I" } : Jvm.MethodName)) ∈ ALLW := aw tb_7 79 rfl rfl
theorem w_1640 : (Jvm.Cond.static ({ cls := "ShadeBeamsLaw", name := "best", desc := "(LShadeBeams;I[J)I" } : Jvm.MethodName)) ∈ ALLW := aw tb_7 80 rfl rfl
theorem w_1641 : (Jvm.Cond.codeWith ({ cls := "ShadeBeamsLaw", name := "best", desc := "(LShadeBeams;I[J)I" } : Jvm.MethodName) method_33_code (4 : Nat) (Option.some Jvm.ClassFile.FieldType.int) [((0 : Nat), (9 : Nat), (12 : Nat), (31 : Nat))]) ∈ ALLW := aw tb_7 81 rfl rfl
theorem w_1642 : (Jvm.Cond.methodLink "ShadeBeamsLaw" (113 : Nat) ({ cls := "ShadeBeams", name := "best", desc := "(I)I" } : Jvm.MethodName)) ∈ ALLW := aw tb_7 82 rfl rfl
theorem w_1643 : (Jvm.Cond.instanceMethod ({ cls := "ShadeBeams", name := "best", desc := "(I)I" } : Jvm.MethodName)) ∈ ALLW := aw tb_7 83 rfl rfl
theorem w_1644 : (Jvm.Cond.selects "ShadeBeams" ({ cls := "ShadeBeams", name := "best", desc := "(I)I" } : Jvm.MethodName) ({ cls := "ShadeBeams", name := "best", desc := "(I)I" } : Jvm.MethodName)) ∈ ALLW := aw tb_7 84 rfl rfl
theorem w_1645 : (Jvm.Cond.code ({ cls := "ShadeBeams", name := "best", desc := "(I)I" } : Jvm.MethodName) prog_1_method_47_code (6 : Nat) (Option.some Jvm.ClassFile.FieldType.int)) ∈ ALLW := aw tb_7 85 rfl rfl
theorem w_1646 : (Jvm.Cond.methodLink "ShadeBeamsLaw" (274 : Nat) ({ cls := "ShadeBeamsLaw", name := "held", desc := "(LShadeBeams;I[J)I" } : Jvm.MethodName)) ∈ ALLW := aw tb_7 86 rfl rfl
theorem w_1647 : (Jvm.Cond.static ({ cls := "ShadeBeamsLaw", name := "held", desc := "(LShadeBeams;I[J)I" } : Jvm.MethodName)) ∈ ALLW := aw tb_7 87 rfl rfl
theorem w_1648 : (Jvm.Cond.codeWith ({ cls := "ShadeBeamsLaw", name := "held", desc := "(LShadeBeams;I[J)I" } : Jvm.MethodName) method_34_code (4 : Nat) (Option.some Jvm.ClassFile.FieldType.int) [((0 : Nat), (9 : Nat), (12 : Nat), (31 : Nat))]) ∈ ALLW := aw tb_7 88 rfl rfl
theorem w_1649 : (Jvm.Cond.methodLink "ShadeBeamsLaw" (116 : Nat) ({ cls := "ShadeBeams", name := "held", desc := "(I)I" } : Jvm.MethodName)) ∈ ALLW := aw tb_7 89 rfl rfl
theorem w_1650 : (Jvm.Cond.instanceMethod ({ cls := "ShadeBeams", name := "held", desc := "(I)I" } : Jvm.MethodName)) ∈ ALLW := aw tb_7 90 rfl rfl
theorem w_1651 : (Jvm.Cond.selects "ShadeBeams" ({ cls := "ShadeBeams", name := "held", desc := "(I)I" } : Jvm.MethodName) ({ cls := "ShadeBeams", name := "held", desc := "(I)I" } : Jvm.MethodName)) ∈ ALLW := aw tb_7 91 rfl rfl
theorem w_1652 : (Jvm.Cond.code ({ cls := "ShadeBeams", name := "held", desc := "(I)I" } : Jvm.MethodName) prog_1_method_48_code (4 : Nat) (Option.some Jvm.ClassFile.FieldType.int)) ∈ ALLW := aw tb_7 92 rfl rfl
theorem w_1653 : (Jvm.Cond.methodLink "ShadeBeamsLaw" (277 : Nat) ({ cls := "ShadeBeamsLaw", name := "share", desc := "(LShadeBeams;I[J)I" } : Jvm.MethodName)) ∈ ALLW := aw tb_7 93 rfl rfl
theorem w_1654 : (Jvm.Cond.static ({ cls := "ShadeBeamsLaw", name := "share", desc := "(LShadeBeams;I[J)I" } : Jvm.MethodName)) ∈ ALLW := aw tb_7 94 rfl rfl
theorem w_1655 : (Jvm.Cond.codeWith ({ cls := "ShadeBeamsLaw", name := "share", desc := "(LShadeBeams;I[J)I" } : Jvm.MethodName) method_35_code (4 : Nat) (Option.some Jvm.ClassFile.FieldType.int) [((0 : Nat), (9 : Nat), (12 : Nat), (31 : Nat))]) ∈ ALLW := aw tb_7 95 rfl rfl
theorem w_1656 : (Jvm.Cond.methodLink "ShadeBeamsLaw" (119 : Nat) ({ cls := "ShadeBeams", name := "share", desc := "(I)I" } : Jvm.MethodName)) ∈ ALLW := aw tb_7 96 rfl rfl
theorem w_1657 : (Jvm.Cond.instanceMethod ({ cls := "ShadeBeams", name := "share", desc := "(I)I" } : Jvm.MethodName)) ∈ ALLW := aw tb_7 97 rfl rfl
theorem w_1658 : (Jvm.Cond.selects "ShadeBeams" ({ cls := "ShadeBeams", name := "share", desc := "(I)I" } : Jvm.MethodName) ({ cls := "ShadeBeams", name := "share", desc := "(I)I" } : Jvm.MethodName)) ∈ ALLW := aw tb_7 98 rfl rfl
theorem w_1659 : (Jvm.Cond.code ({ cls := "ShadeBeams", name := "share", desc := "(I)I" } : Jvm.MethodName) prog_1_method_49_code (5 : Nat) (Option.some Jvm.ClassFile.FieldType.int)) ∈ ALLW := aw tb_7 99 rfl rfl
theorem w_1660 : (Jvm.Cond.methodLink "ShadeBeamsLaw" (280 : Nat) ({ cls := "ShadeBeamsLaw", name := "summed", desc := "(LShadeBeams;II[J)I" } : Jvm.MethodName)) ∈ ALLW := aw tb_7 100 rfl rfl
theorem w_1661 : (Jvm.Cond.static ({ cls := "ShadeBeamsLaw", name := "summed", desc := "(LShadeBeams;II[J)I" } : Jvm.MethodName)) ∈ ALLW := aw tb_7 101 rfl rfl
theorem w_1662 : (Jvm.Cond.codeWith ({ cls := "ShadeBeamsLaw", name := "summed", desc := "(LShadeBeams;II[J)I" } : Jvm.MethodName) method_36_code (5 : Nat) (Option.some Jvm.ClassFile.FieldType.int) [((0 : Nat), (10 : Nat), (13 : Nat), (13 : Nat))]) ∈ ALLW := aw tb_7 102 rfl rfl
theorem w_1663 : (Jvm.Cond.methodLink "ShadeBeamsLaw" (122 : Nat) ({ cls := "ShadeBeams", name := "summed", desc := "(II)I" } : Jvm.MethodName)) ∈ ALLW := aw tb_7 103 rfl rfl
theorem w_1664 : (Jvm.Cond.instanceMethod ({ cls := "ShadeBeams", name := "summed", desc := "(II)I" } : Jvm.MethodName)) ∈ ALLW := aw tb_7 104 rfl rfl
theorem w_1665 : (Jvm.Cond.selects "ShadeBeams" ({ cls := "ShadeBeams", name := "summed", desc := "(II)I" } : Jvm.MethodName) ({ cls := "ShadeBeams", name := "summed", desc := "(II)I" } : Jvm.MethodName)) ∈ ALLW := aw tb_7 105 rfl rfl
theorem w_1666 : (Jvm.Cond.code ({ cls := "ShadeBeams", name := "summed", desc := "(II)I" } : Jvm.MethodName) prog_1_method_50_code (6 : Nat) (Option.some Jvm.ClassFile.FieldType.int)) ∈ ALLW := aw tb_7 106 rfl rfl
theorem w_1667 : (Jvm.Cond.methodLink "ShadeBeams" (442 : Nat) ({ cls := "java/lang/Integer", name := "bitCount", desc := "(I)I" } : Jvm.MethodName)) ∈ ALLW := aw tb_7 107 rfl rfl
theorem w_1668 : (Jvm.Cond.methodLink "ShadeBeamsLaw" (283 : Nat) ({ cls := "ShadeBeamsLaw", name := "slack", desc := "(LShadeBeams;III[J)I" } : Jvm.MethodName)) ∈ ALLW := aw tb_7 108 rfl rfl
theorem w_1669 : (Jvm.Cond.static ({ cls := "ShadeBeamsLaw", name := "slack", desc := "(LShadeBeams;III[J)I" } : Jvm.MethodName)) ∈ ALLW := aw tb_7 109 rfl rfl
theorem w_1670 : (Jvm.Cond.codeWith ({ cls := "ShadeBeamsLaw", name := "slack", desc := "(LShadeBeams;III[J)I" } : Jvm.MethodName) method_37_code (6 : Nat) (Option.some Jvm.ClassFile.FieldType.int) [((0 : Nat), (11 : Nat), (14 : Nat), (43 : Nat)), ((0 : Nat), (11 : Nat), (18 : Nat), (13 : Nat))]) ∈ ALLW := aw tb_7 110 rfl rfl
theorem w_1671 : (Jvm.Cond.methodLink "ShadeBeamsLaw" (125 : Nat) ({ cls := "ShadeBeams", name := "slack", desc := "(III)J" } : Jvm.MethodName)) ∈ ALLW := aw tb_7 111 rfl rfl
theorem w_1672 : (Jvm.Cond.instanceMethod ({ cls := "ShadeBeams", name := "slack", desc := "(III)J" } : Jvm.MethodName)) ∈ ALLW := aw tb_7 112 rfl rfl
theorem w_1673 : (Jvm.Cond.selects "ShadeBeams" ({ cls := "ShadeBeams", name := "slack", desc := "(III)J" } : Jvm.MethodName) ({ cls := "ShadeBeams", name := "slack", desc := "(III)J" } : Jvm.MethodName)) ∈ ALLW := aw tb_7 113 rfl rfl
theorem w_1674 : (Jvm.Cond.code ({ cls := "ShadeBeams", name := "slack", desc := "(III)J" } : Jvm.MethodName) prog_1_method_51_code (4 : Nat) (Option.some Jvm.ClassFile.FieldType.long)) ∈ ALLW := aw tb_7 114 rfl rfl
theorem w_1675 : (Jvm.Cond.methodLink "ShadeBeamsLaw" (286 : Nat) ({ cls := "ShadeBeamsLaw", name := "lighter", desc := "(LShadeBeams;I[J)I" } : Jvm.MethodName)) ∈ ALLW := aw tb_7 115 rfl rfl
theorem w_1676 : (Jvm.Cond.static ({ cls := "ShadeBeamsLaw", name := "lighter", desc := "(LShadeBeams;I[J)I" } : Jvm.MethodName)) ∈ ALLW := aw tb_7 116 rfl rfl
theorem w_1677 : (Jvm.Cond.codeWith ({ cls := "ShadeBeamsLaw", name := "lighter", desc := "(LShadeBeams;I[J)I" } : Jvm.MethodName) method_38_code (4 : Nat) (Option.some Jvm.ClassFile.FieldType.int) [((0 : Nat), (9 : Nat), (12 : Nat), (31 : Nat))]) ∈ ALLW := aw tb_7 117 rfl rfl
theorem w_1678 : (Jvm.Cond.methodLink "ShadeBeamsLaw" (128 : Nat) ({ cls := "ShadeBeams", name := "lighter", desc := "(I)I" } : Jvm.MethodName)) ∈ ALLW := aw tb_7 118 rfl rfl
theorem w_1679 : (Jvm.Cond.instanceMethod ({ cls := "ShadeBeams", name := "lighter", desc := "(I)I" } : Jvm.MethodName)) ∈ ALLW := aw tb_7 119 rfl rfl
theorem w_1680 : (Jvm.Cond.selects "ShadeBeams" ({ cls := "ShadeBeams", name := "lighter", desc := "(I)I" } : Jvm.MethodName) ({ cls := "ShadeBeams", name := "lighter", desc := "(I)I" } : Jvm.MethodName)) ∈ ALLW := aw tb_7 120 rfl rfl
theorem w_1681 : (Jvm.Cond.code ({ cls := "ShadeBeams", name := "lighter", desc := "(I)I" } : Jvm.MethodName) prog_1_method_52_code (6 : Nat) (Option.some Jvm.ClassFile.FieldType.int)) ∈ ALLW := aw tb_7 121 rfl rfl
theorem w_1682 : (Jvm.Cond.methodLink "ShadeBeams" (446 : Nat) ({ cls := "ShadeBeams$Beams", name := "loadOn", desc := "(II)I" } : Jvm.MethodName)) ∈ ALLW := aw tb_7 122 rfl rfl
theorem w_1683 : (Jvm.Cond.methodLink "ShadeBeams" (449 : Nat) ({ cls := "ShadeBeams$Beams", name := "setLoad", desc := "(III)V" } : Jvm.MethodName)) ∈ ALLW := aw tb_7 123 rfl rfl
theorem w_1684 : (Jvm.Cond.methodLink "ShadeBeamsLaw" (289 : Nat) ({ cls := "ShadeBeamsLaw", name := "lasts", desc := "(LShadeBeams;I[J)I" } : Jvm.MethodName)) ∈ ALLW := aw tb_7 124 rfl rfl
theorem w_1685 : (Jvm.Cond.static ({ cls := "ShadeBeamsLaw", name := "lasts", desc := "(LShadeBeams;I[J)I" } : Jvm.MethodName)) ∈ ALLW := aw tb_7 125 rfl rfl
theorem w_1686 : (Jvm.Cond.codeWith ({ cls := "ShadeBeamsLaw", name := "lasts", desc := "(LShadeBeams;I[J)I" } : Jvm.MethodName) method_39_code (4 : Nat) (Option.some Jvm.ClassFile.FieldType.int) [((0 : Nat), (9 : Nat), (12 : Nat), (31 : Nat))]) ∈ ALLW := aw tb_7 126 rfl rfl
theorem w_1687 : (Jvm.Cond.methodLink "ShadeBeamsLaw" (131 : Nat) ({ cls := "ShadeBeams", name := "lasts", desc := "(I)I" } : Jvm.MethodName)) ∈ ALLW := aw tb_7 127 rfl rfl
theorem w_1688 : (Jvm.Cond.instanceMethod ({ cls := "ShadeBeams", name := "lasts", desc := "(I)I" } : Jvm.MethodName)) ∈ ALLW := aw tb_7 128 rfl rfl
theorem w_1689 : (Jvm.Cond.selects "ShadeBeams" ({ cls := "ShadeBeams", name := "lasts", desc := "(I)I" } : Jvm.MethodName) ({ cls := "ShadeBeams", name := "lasts", desc := "(I)I" } : Jvm.MethodName)) ∈ ALLW := aw tb_7 129 rfl rfl
theorem w_1690 : (Jvm.Cond.code ({ cls := "ShadeBeams", name := "lasts", desc := "(I)I" } : Jvm.MethodName) prog_1_method_53_code (2 : Nat) (Option.some Jvm.ClassFile.FieldType.int)) ∈ ALLW := aw tb_7 130 rfl rfl
theorem w_1691 : (Jvm.Cond.methodLink "ShadeBeamsLaw" (296 : Nat) ({ cls := "ShadeBeamsLaw", name := "bare", desc := "(LShadeBeams;II[J)I" } : Jvm.MethodName)) ∈ ALLW := aw tb_7 131 rfl rfl
theorem w_1692 : (Jvm.Cond.static ({ cls := "ShadeBeamsLaw", name := "bare", desc := "(LShadeBeams;II[J)I" } : Jvm.MethodName)) ∈ ALLW := aw tb_7 132 rfl rfl
theorem w_1693 : (Jvm.Cond.codeWith ({ cls := "ShadeBeamsLaw", name := "bare", desc := "(LShadeBeams;II[J)I" } : Jvm.MethodName) method_40_code (5 : Nat) (Option.some Jvm.ClassFile.FieldType.int) [((0 : Nat), (10 : Nat), (13 : Nat), (13 : Nat))]) ∈ ALLW := aw tb_7 133 rfl rfl
theorem w_1694 : (Jvm.Cond.methodLink "ShadeBeamsLaw" (134 : Nat) ({ cls := "ShadeBeams", name := "bare", desc := "(II)I" } : Jvm.MethodName)) ∈ ALLW := aw tb_7 134 rfl rfl
theorem w_1695 : (Jvm.Cond.instanceMethod ({ cls := "ShadeBeams", name := "bare", desc := "(II)I" } : Jvm.MethodName)) ∈ ALLW := aw tb_7 135 rfl rfl
theorem w_1696 : (Jvm.Cond.selects "ShadeBeams" ({ cls := "ShadeBeams", name := "bare", desc := "(II)I" } : Jvm.MethodName) ({ cls := "ShadeBeams", name := "bare", desc := "(II)I" } : Jvm.MethodName)) ∈ ALLW := aw tb_7 136 rfl rfl
theorem w_1697 : (Jvm.Cond.code ({ cls := "ShadeBeams", name := "bare", desc := "(II)I" } : Jvm.MethodName) prog_1_method_55_code (6 : Nat) (Option.some Jvm.ClassFile.FieldType.int)) ∈ ALLW := aw tb_7 137 rfl rfl
theorem w_1698 : (Jvm.Cond.methodLink "ShadeBeamsLaw" (299 : Nat) ({ cls := "ShadeBeamsLaw", name := "build", desc := "(LShadeBeams;II[J)I" } : Jvm.MethodName)) ∈ ALLW := aw tb_7 138 rfl rfl
theorem w_1699 : (Jvm.Cond.static ({ cls := "ShadeBeamsLaw", name := "build", desc := "(LShadeBeams;II[J)I" } : Jvm.MethodName)) ∈ ALLW := aw tb_7 139 rfl rfl
theorem w_1700 : (Jvm.Cond.codeWith ({ cls := "ShadeBeamsLaw", name := "build", desc := "(LShadeBeams;II[J)I" } : Jvm.MethodName) method_41_code (5 : Nat) (Option.some Jvm.ClassFile.FieldType.int) [((0 : Nat), (10 : Nat), (13 : Nat), (31 : Nat)), ((0 : Nat), (10 : Nat), (17 : Nat), (13 : Nat))]) ∈ ALLW := aw tb_7 140 rfl rfl
theorem w_1701 : (Jvm.Cond.methodLink "ShadeBeamsLaw" (137 : Nat) ({ cls := "ShadeBeams", name := "build", desc := "(II)I" } : Jvm.MethodName)) ∈ ALLW := aw tb_7 141 rfl rfl
theorem w_1702 : (Jvm.Cond.instanceMethod ({ cls := "ShadeBeams", name := "build", desc := "(II)I" } : Jvm.MethodName)) ∈ ALLW := aw tb_7 142 rfl rfl
theorem w_1703 : (Jvm.Cond.selects "ShadeBeams" ({ cls := "ShadeBeams", name := "build", desc := "(II)I" } : Jvm.MethodName) ({ cls := "ShadeBeams", name := "build", desc := "(II)I" } : Jvm.MethodName)) ∈ ALLW := aw tb_7 143 rfl rfl
theorem w_1704 : (Jvm.Cond.code ({ cls := "ShadeBeams", name := "build", desc := "(II)I" } : Jvm.MethodName) prog_1_method_56_code (4 : Nat) (Option.some Jvm.ClassFile.FieldType.int)) ∈ ALLW := aw tb_7 144 rfl rfl
theorem w_1705 : (Jvm.Cond.methodLink "ShadeBeams" (456 : Nat) ({ cls := "ShadeBeams$Changes", name := "note", desc := "(IIII)Z" } : Jvm.MethodName)) ∈ ALLW := aw tb_7 145 rfl rfl
theorem w_1706 : (Jvm.Cond.instanceMethod ({ cls := "ShadeBeams$Changes", name := "note", desc := "(IIII)Z" } : Jvm.MethodName)) ∈ ALLW := aw tb_7 146 rfl rfl
theorem w_1707 : (Jvm.Cond.selects "ShadeBeams$Changes" ({ cls := "ShadeBeams$Changes", name := "note", desc := "(IIII)Z" } : Jvm.MethodName) ({ cls := "ShadeBeams$Changes", name := "note", desc := "(IIII)Z" } : Jvm.MethodName)) ∈ ALLW := aw tb_7 147 rfl rfl
theorem w_1708 : (Jvm.Cond.code ({ cls := "ShadeBeams$Changes", name := "note", desc := "(IIII)Z" } : Jvm.MethodName) prog_4_method_2_code (5 : Nat) (Option.some Jvm.ClassFile.FieldType.boolean)) ∈ ALLW := aw tb_7 148 rfl rfl
theorem w_1709 : (Jvm.Cond.methodLink "ShadeBeamsLaw" (302 : Nat) ({ cls := "ShadeBeamsLaw", name := "lay", desc := "(LShadeBeams;II[J)I" } : Jvm.MethodName)) ∈ ALLW := aw tb_7 149 rfl rfl
theorem w_1710 : (Jvm.Cond.static ({ cls := "ShadeBeamsLaw", name := "lay", desc := "(LShadeBeams;II[J)I" } : Jvm.MethodName)) ∈ ALLW := aw tb_7 150 rfl rfl
theorem w_1711 : (Jvm.Cond.codeWith ({ cls := "ShadeBeamsLaw", name := "lay", desc := "(LShadeBeams;II[J)I" } : Jvm.MethodName) method_42_code (5 : Nat) (Option.some Jvm.ClassFile.FieldType.int) [((0 : Nat), (10 : Nat), (13 : Nat), (31 : Nat)), ((0 : Nat), (10 : Nat), (17 : Nat), (13 : Nat))]) ∈ ALLW := aw tb_7 151 rfl rfl
theorem w_1712 : (Jvm.Cond.methodLink "ShadeBeamsLaw" (140 : Nat) ({ cls := "ShadeBeams", name := "lay", desc := "(II)I" } : Jvm.MethodName)) ∈ ALLW := aw tb_7 152 rfl rfl
theorem w_1713 : (Jvm.Cond.instanceMethod ({ cls := "ShadeBeams", name := "lay", desc := "(II)I" } : Jvm.MethodName)) ∈ ALLW := aw tb_7 153 rfl rfl
theorem w_1714 : (Jvm.Cond.selects "ShadeBeams" ({ cls := "ShadeBeams", name := "lay", desc := "(II)I" } : Jvm.MethodName) ({ cls := "ShadeBeams", name := "lay", desc := "(II)I" } : Jvm.MethodName)) ∈ ALLW := aw tb_7 154 rfl rfl
theorem w_1715 : (Jvm.Cond.code ({ cls := "ShadeBeams", name := "lay", desc := "(II)I" } : Jvm.MethodName) prog_1_method_57_code (4 : Nat) (Option.some Jvm.ClassFile.FieldType.int)) ∈ ALLW := aw tb_7 155 rfl rfl
theorem w_1716 : (Jvm.Cond.methodLink "ShadeBeamsLaw" (305 : Nat) ({ cls := "ShadeBeamsLaw", name := "put", desc := "(LShadeBeams;III[J)I" } : Jvm.MethodName)) ∈ ALLW := aw tb_7 156 rfl rfl
theorem w_1717 : (Jvm.Cond.static ({ cls := "ShadeBeamsLaw", name := "put", desc := "(LShadeBeams;III[J)I" } : Jvm.MethodName)) ∈ ALLW := aw tb_7 157 rfl rfl
theorem w_1718 : (Jvm.Cond.codeWith ({ cls := "ShadeBeamsLaw", name := "put", desc := "(LShadeBeams;III[J)I" } : Jvm.MethodName) method_43_code (6 : Nat) (Option.some Jvm.ClassFile.FieldType.int) [((0 : Nat), (12 : Nat), (15 : Nat), (31 : Nat)), ((0 : Nat), (12 : Nat), (19 : Nat), (13 : Nat))]) ∈ ALLW := aw tb_7 158 rfl rfl
theorem w_1719 : (Jvm.Cond.methodLink "ShadeBeamsLaw" (143 : Nat) ({ cls := "ShadeBeams", name := "put", desc := "(III)I" } : Jvm.MethodName)) ∈ ALLW := aw tb_7 159 rfl rfl
theorem w_1720 : (Jvm.Cond.instanceMethod ({ cls := "ShadeBeams", name := "put", desc := "(III)I" } : Jvm.MethodName)) ∈ ALLW := aw tb_7 160 rfl rfl
theorem w_1721 : (Jvm.Cond.selects "ShadeBeams" ({ cls := "ShadeBeams", name := "put", desc := "(III)I" } : Jvm.MethodName) ({ cls := "ShadeBeams", name := "put", desc := "(III)I" } : Jvm.MethodName)) ∈ ALLW := aw tb_7 161 rfl rfl
theorem w_1722 : (Jvm.Cond.code ({ cls := "ShadeBeams", name := "put", desc := "(III)I" } : Jvm.MethodName) prog_1_method_58_code (5 : Nat) (Option.some Jvm.ClassFile.FieldType.int)) ∈ ALLW := aw tb_7 162 rfl rfl
theorem w_1723 : (Jvm.Cond.classLink "ShadeBeamsLaw" (147 : Nat) "ShadeBeamsModel") ∈ ALLW := aw tb_7 163 rfl rfl
theorem w_1724 : (Jvm.Cond.instantiable "ShadeBeamsModel" (66 : Nat)) ∈ ALLW := aw tb_7 164 rfl rfl
theorem w_1725 : (Jvm.Cond.methodLink "ShadeBeamsLaw" (149 : Nat) ({ cls := "ShadeBeamsModel", name := "<init>", desc := "()V" } : Jvm.MethodName)) ∈ ALLW := aw tb_7 165 rfl rfl
theorem w_1726 : (Jvm.Cond.instanceMethod ({ cls := "ShadeBeamsModel", name := "<init>", desc := "()V" } : Jvm.MethodName)) ∈ ALLW := aw tb_7 166 rfl rfl
theorem w_1727 : (Jvm.Cond.code ({ cls := "ShadeBeamsModel", name := "<init>", desc := "()V" } : Jvm.MethodName) prog_14_method_1_code (1 : Nat) (Option.none : Option Jvm.ClassFile.FieldType)) ∈ ALLW := aw tb_7 167 rfl rfl
theorem w_1728 : (Jvm.Cond.methodLink "ShadeBeamsModel" (1 : Nat) ({ cls := "java/lang/Object", name := "<init>", desc := "()V" } : Jvm.MethodName)) ∈ ALLW := aw tb_7 168 rfl rfl
theorem w_1729 : (Jvm.Cond.classLink "ShadeBeamsModel" (26 : Nat) "[[I") ∈ ALLW := aw tb_7 169 rfl rfl
theorem w_1731 : (Jvm.Cond.constant "ShadeBeamsModel" (85 : Nat) (57600 : Int32)) ∈ ALLW := aw tb_7 171 rfl rfl
theorem w_1732 : (Jvm.Cond.classLink "ShadeBeamsModel" (119 : Nat) "[[J") ∈ ALLW := aw tb_7 172 rfl rfl
theorem w_1734 : (Jvm.Cond.methodLink "ShadeBeamsModel" (146 : Nat) ({ cls := "ShadeBeamsModel", name := "tellsNothing", desc := "()V" } : Jvm.MethodName)) ∈ ALLW := aw tb_7 174 rfl rfl
theorem w_1736 : (Jvm.Cond.instanceMethod ({ cls := "ShadeBeamsModel", name := "tellsNothing", desc := "()V" } : Jvm.MethodName)) ∈ ALLW := aw tb_7 176 rfl rfl
theorem w_1737 : (Jvm.Cond.code ({ cls := "ShadeBeamsModel", name := "tellsNothing", desc := "()V" } : Jvm.MethodName) prog_14_method_2_code (2 : Nat) (Option.none : Option Jvm.ClassFile.FieldType)) ∈ ALLW := aw tb_7 177 rfl rfl
theorem w_1738 : (Jvm.Cond.methodLink "ShadeBeamsModel" (149 : Nat) ({ cls := "ShadeBeamsModel", name := "stands", desc := "()V" } : Jvm.MethodName)) ∈ ALLW := aw tb_7 178 rfl rfl
theorem w_1740 : (Jvm.Cond.instanceMethod ({ cls := "ShadeBeamsModel", name := "stands", desc := "()V" } : Jvm.MethodName)) ∈ ALLW := aw tb_7 180 rfl rfl
theorem w_1741 : (Jvm.Cond.code ({ cls := "ShadeBeamsModel", name := "stands", desc := "()V" } : Jvm.MethodName) prog_14_method_32_code (2 : Nat) (Option.none : Option Jvm.ClassFile.FieldType)) ∈ ALLW := aw tb_7 181 rfl rfl
theorem w_1742 : (Jvm.Cond.methodLink "ShadeBeamsModel" (254 : Nat) ({ cls := "ShadeBeamsModel", name := "copies", desc := "([[I[[II)V" } : Jvm.MethodName)) ∈ ALLW := aw tb_7 182 rfl rfl
theorem w_1743 : (Jvm.Cond.static ({ cls := "ShadeBeamsModel", name := "copies", desc := "([[I[[II)V" } : Jvm.MethodName)) ∈ ALLW := aw tb_7 183 rfl rfl
theorem w_1744 : (Jvm.Cond.code ({ cls := "ShadeBeamsModel", name := "copies", desc := "([[I[[II)V" } : Jvm.MethodName) prog_14_method_31_code (5 : Nat) (Option.none : Option Jvm.ClassFile.FieldType)) ∈ ALLW := aw tb_7 184 rfl rfl
theorem w_1745 : (Jvm.Cond.fieldLink "ShadeBeamsModel" (152 : Nat) "ShadeBeamsModel" "thrown" "I") ∈ ALLW := aw tb_7 185 rfl rfl
theorem w_1746 : (Jvm.Cond.fieldLink "ShadeBeamsModel" (155 : Nat) "ShadeBeamsModel" "tape" "I") ∈ ALLW := aw tb_7 186 rfl rfl
theorem w_1747 : (Jvm.Cond.fieldLink "ShadeBeamsModel" (158 : Nat) "ShadeBeamsModel" "size" "I") ∈ ALLW := aw tb_7 187 rfl rfl
theorem w_1748 : (Jvm.Cond.fieldLink "ShadeBeamsModel" (9 : Nat) "ShadeBeamsModel" "place" "I") ∈ ALLW := aw tb_7 188 rfl rfl
theorem w_1749 : (Jvm.Cond.fieldLink "ShadeBeamsModel" (161 : Nat) "ShadeBeamsModel" "at" "I") ∈ ALLW := aw tb_7 189 rfl rfl
theorem w_1750 : (Jvm.Cond.fieldLink "ShadeBeamsModel" (168 : Nat) "ShadeBeamsModel" "fault" "I") ∈ ALLW := aw tb_7 190 rfl rfl
theorem w_1751 : (Jvm.Cond.fieldLink "ShadeBeamsModel" (171 : Nat) "ShadeBeamsModel" "faultAt" "I") ∈ ALLW := aw tb_7 191 rfl rfl
theorem w_1752 : (Jvm.Cond.fieldLink "ShadeBeamsModel" (208 : Nat) "ShadeBeamsModel" "clauses" "I") ∈ ALLW := aw tb_7 192 rfl rfl
theorem w_1753 : (Jvm.Cond.fieldLink "ShadeBeamsModel" (211 : Nat) "ShadeBeamsModel" "open" "I") ∈ ALLW := aw tb_7 193 rfl rfl
theorem w_1754 : (Jvm.Cond.fieldLink "ShadeBeamsModel" (13 : Nat) "ShadeBeamsModel" "fed" "[I") ∈ ALLW := aw tb_7 194 rfl rfl
theorem w_1755 : (Jvm.Cond.fieldLink "ShadeBeamsModel" (17 : Nat) "ShadeBeamsModel" "refused" "[I") ∈ ALLW := aw tb_7 195 rfl rfl
theorem w_1756 : (Jvm.Cond.fieldLink "ShadeBeamsModel" (20 : Nat) "ShadeBeamsModel" "readTold" "[I") ∈ ALLW := aw tb_7 196 rfl rfl
theorem w_1757 : (Jvm.Cond.fieldLink "ShadeBeamsModel" (23 : Nat) "ShadeBeamsModel" "told" "[I") ∈ ALLW := aw tb_7 197 rfl rfl
theorem w_1758 : (Jvm.Cond.fieldLink "ShadeBeamsModel" (28 : Nat) "ShadeBeamsModel" "readPost" "[[I") ∈ ALLW := aw tb_7 198 rfl rfl
theorem w_1759 : (Jvm.Cond.fieldLink "ShadeBeamsModel" (31 : Nat) "ShadeBeamsModel" "post" "[[I") ∈ ALLW := aw tb_7 199 rfl rfl
theorem w_1760 : (Jvm.Cond.fieldLink "ShadeBeamsModel" (34 : Nat) "ShadeBeamsModel" "readSun" "[[I") ∈ ALLW := aw tb_7 200 rfl rfl
theorem w_1761 : (Jvm.Cond.fieldLink "ShadeBeamsModel" (37 : Nat) "ShadeBeamsModel" "sun" "[[I") ∈ ALLW := aw tb_7 201 rfl rfl
theorem w_1762 : (Jvm.Cond.fieldLink "ShadeBeamsModel" (40 : Nat) "ShadeBeamsModel" "readMoon" "[[I") ∈ ALLW := aw tb_7 202 rfl rfl
theorem w_1763 : (Jvm.Cond.fieldLink "ShadeBeamsModel" (43 : Nat) "ShadeBeamsModel" "moon" "[[I") ∈ ALLW := aw tb_7 203 rfl rfl
theorem w_1764 : (Jvm.Cond.fieldLink "ShadeBeamsModel" (46 : Nat) "ShadeBeamsModel" "readCloud" "[[I") ∈ ALLW := aw tb_7 204 rfl rfl
theorem w_1765 : (Jvm.Cond.fieldLink "ShadeBeamsModel" (49 : Nat) "ShadeBeamsModel" "cloud" "[[I") ∈ ALLW := aw tb_7 205 rfl rfl
theorem w_1766 : (Jvm.Cond.fieldLink "ShadeBeamsModel" (52 : Nat) "ShadeBeamsModel" "readLamp" "[[I") ∈ ALLW := aw tb_7 206 rfl rfl
theorem w_1767 : (Jvm.Cond.fieldLink "ShadeBeamsModel" (55 : Nat) "ShadeBeamsModel" "lamp" "[[I") ∈ ALLW := aw tb_7 207 rfl rfl
theorem w_1768 : (Jvm.Cond.fieldLink "ShadeBeamsModel" (58 : Nat) "ShadeBeamsModel" "readBeam" "[[I") ∈ ALLW := aw tb_7 208 rfl rfl
theorem w_1769 : (Jvm.Cond.fieldLink "ShadeBeamsModel" (61 : Nat) "ShadeBeamsModel" "beam" "[[I") ∈ ALLW := aw tb_7 209 rfl rfl
theorem w_1770 : (Jvm.Cond.fieldLink "ShadeBeamsModel" (64 : Nat) "ShadeBeamsModel" "readLoad" "[[I") ∈ ALLW := aw tb_7 210 rfl rfl
theorem w_1771 : (Jvm.Cond.fieldLink "ShadeBeamsModel" (67 : Nat) "ShadeBeamsModel" "load" "[[I") ∈ ALLW := aw tb_7 211 rfl rfl
theorem w_1772 : (Jvm.Cond.fieldLink "ShadeBeamsModel" (214 : Nat) "ShadeBeamsModel" "suns" "I") ∈ ALLW := aw tb_7 212 rfl rfl
theorem w_1773 : (Jvm.Cond.fieldLink "ShadeBeamsModel" (258 : Nat) "ShadeBeamsModel" "lawMany" "I") ∈ ALLW := aw tb_7 213 rfl rfl
theorem w_1774 : (Jvm.Cond.fieldLink "ShadeBeamsModel" (276 : Nat) "ShadeBeamsModel" "readLawMany" "I") ∈ ALLW := aw tb_7 214 rfl rfl
theorem w_1775 : (Jvm.Cond.fieldLink "ShadeBeamsModel" (70 : Nat) "ShadeBeamsModel" "stamp" "I") ∈ ALLW := aw tb_7 215 rfl rfl
theorem w_1776 : (Jvm.Cond.fieldLink "ShadeBeamsModel" (73 : Nat) "ShadeBeamsModel" "law" "[[I") ∈ ALLW := aw tb_7 216 rfl rfl
theorem w_1777 : (Jvm.Cond.fieldLink "ShadeBeamsModel" (76 : Nat) "ShadeBeamsModel" "readLaw" "[[I") ∈ ALLW := aw tb_7 217 rfl rfl
theorem w_1778 : (Jvm.Cond.fieldLink "ShadeBeamsModel" (79 : Nat) "ShadeBeamsModel" "stack" "[I") ∈ ALLW := aw tb_7 218 rfl rfl
theorem w_1779 : (Jvm.Cond.fieldLink "ShadeBeamsModel" (82 : Nat) "ShadeBeamsModel" "known" "[I") ∈ ALLW := aw tb_7 219 rfl rfl
theorem w_1780 : (Jvm.Cond.fieldLink "ShadeBeamsModel" (86 : Nat) "ShadeBeamsModel" "said" "[I") ∈ ALLW := aw tb_7 220 rfl rfl
theorem w_1781 : (Jvm.Cond.fieldLink "ShadeBeamsModel" (89 : Nat) "ShadeBeamsModel" "saidIn" "[I") ∈ ALLW := aw tb_7 221 rfl rfl
theorem w_1782 : (Jvm.Cond.fieldLink "ShadeBeamsModel" (92 : Nat) "ShadeBeamsModel" "move" "[[I") ∈ ALLW := aw tb_7 222 rfl rfl
theorem w_1783 : (Jvm.Cond.fieldLink "ShadeBeamsModel" (95 : Nat) "ShadeBeamsModel" "readMove" "[[I") ∈ ALLW := aw tb_7 223 rfl rfl
theorem w_1784 : (Jvm.Cond.fieldLink "ShadeBeamsModel" (98 : Nat) "ShadeBeamsModel" "book" "[[I") ∈ ALLW := aw tb_7 224 rfl rfl
theorem w_1785 : (Jvm.Cond.fieldLink "ShadeBeamsModel" (101 : Nat) "ShadeBeamsModel" "readBook" "[[I") ∈ ALLW := aw tb_7 225 rfl rfl
theorem w_1786 : (Jvm.Cond.fieldLink "ShadeBeamsModel" (104 : Nat) "ShadeBeamsModel" "change" "[[I") ∈ ALLW := aw tb_7 226 rfl rfl
theorem w_1787 : (Jvm.Cond.fieldLink "ShadeBeamsModel" (107 : Nat) "ShadeBeamsModel" "kept" "[[I") ∈ ALLW := aw tb_7 227 rfl rfl
theorem w_1788 : (Jvm.Cond.fieldLink "ShadeBeamsModel" (261 : Nat) "ShadeBeamsModel" "moves" "I") ∈ ALLW := aw tb_7 228 rfl rfl
theorem w_1789 : (Jvm.Cond.fieldLink "ShadeBeamsModel" (264 : Nat) "ShadeBeamsModel" "lines" "I") ∈ ALLW := aw tb_7 229 rfl rfl
theorem w_1790 : (Jvm.Cond.fieldLink "ShadeBeamsModel" (267 : Nat) "ShadeBeamsModel" "day" "I") ∈ ALLW := aw tb_7 230 rfl rfl
theorem w_1791 : (Jvm.Cond.fieldLink "ShadeBeamsModel" (270 : Nat) "ShadeBeamsModel" "changes" "I") ∈ ALLW := aw tb_7 231 rfl rfl
theorem w_1792 : (Jvm.Cond.fieldLink "ShadeBeamsModel" (273 : Nat) "ShadeBeamsModel" "images" "I") ∈ ALLW := aw tb_7 232 rfl rfl
theorem w_1793 : (Jvm.Cond.fieldLink "ShadeBeamsModel" (460 : Nat) "ShadeBeamsModel" "spot" "I") ∈ ALLW := aw tb_7 233 rfl rfl
theorem w_1794 : (Jvm.Cond.fieldLink "ShadeBeamsModel" (110 : Nat) "ShadeBeamsModel" "raw" "[[I") ∈ ALLW := aw tb_7 234 rfl rfl
theorem w_1795 : (Jvm.Cond.fieldLink "ShadeBeamsModel" (113 : Nat) "ShadeBeamsModel" "shade" "[[I") ∈ ALLW := aw tb_7 235 rfl rfl
theorem w_1796 : (Jvm.Cond.fieldLink "ShadeBeamsModel" (116 : Nat) "ShadeBeamsModel" "bears" "[[I") ∈ ALLW := aw tb_7 236 rfl rfl
theorem w_1797 : (Jvm.Cond.fieldLink "ShadeBeamsModel" (330 : Nat) "ShadeBeamsModel" "posts" "I") ∈ ALLW := aw tb_7 237 rfl rfl
theorem w_1798 : (Jvm.Cond.fieldLink "ShadeBeamsModel" (333 : Nat) "ShadeBeamsModel" "lamps" "I") ∈ ALLW := aw tb_7 238 rfl rfl
theorem w_1799 : (Jvm.Cond.fieldLink "ShadeBeamsModel" (339 : Nat) "ShadeBeamsModel" "clouds" "I") ∈ ALLW := aw tb_7 239 rfl rfl
theorem w_1800 : (Jvm.Cond.fieldLink "ShadeBeamsModel" (121 : Nat) "ShadeBeamsModel" "restsAt" "[[J") ∈ ALLW := aw tb_8 0 rfl rfl
theorem w_1801 : (Jvm.Cond.fieldLink "ShadeBeamsModel" (124 : Nat) "ShadeBeamsModel" "liesAt" "[[I") ∈ ALLW := aw tb_8 1 rfl rfl
theorem w_1802 : (Jvm.Cond.fieldLink "ShadeBeamsModel" (127 : Nat) "ShadeBeamsModel" "lies" "[I") ∈ ALLW := aw tb_8 2 rfl rfl
theorem w_1803 : (Jvm.Cond.fieldLink "ShadeBeamsModel" (130 : Nat) "ShadeBeamsModel" "fell" "[I") ∈ ALLW := aw tb_8 3 rfl rfl
theorem w_1804 : (Jvm.Cond.fieldLink "ShadeBeamsModel" (133 : Nat) "ShadeBeamsModel" "fallen" "[I") ∈ ALLW := aw tb_8 4 rfl rfl
theorem w_1805 : (Jvm.Cond.fieldLink "ShadeBeamsModel" (387 : Nat) "ShadeBeamsModel" "fallenMany" "I") ∈ ALLW := aw tb_8 5 rfl rfl
theorem w_1806 : (Jvm.Cond.fieldLink "ShadeBeamsModel" (136 : Nat) "ShadeBeamsModel" "carries" "[[I") ∈ ALLW := aw tb_8 6 rfl rfl
theorem w_1807 : (Jvm.Cond.fieldLink "ShadeBeamsModel" (423 : Nat) "ShadeBeamsModel" "litBest" "I") ∈ ALLW := aw tb_8 7 rfl rfl
theorem w_1808 : (Jvm.Cond.fieldLink "ShadeBeamsModel" (426 : Nat) "ShadeBeamsModel" "litRow" "I") ∈ ALLW := aw tb_8 8 rfl rfl
theorem w_1809 : (Jvm.Cond.fieldLink "ShadeBeamsModel" (139 : Nat) "ShadeBeamsModel" "isThere" "[Z") ∈ ALLW := aw tb_8 9 rfl rfl
theorem w_1810 : (Jvm.Cond.fieldLink "ShadeBeamsModel" (143 : Nat) "ShadeBeamsModel" "wasThere" "[Z") ∈ ALLW := aw tb_8 10 rfl rfl
theorem w_1811 : (Jvm.Cond.lays "ShadeBeamsModel" "ShadeBeamsModel" "thrown" "I") ∈ ALLW := aw tb_8 11 rfl rfl
theorem w_1813 : (Jvm.Cond.lays "ShadeBeamsModel" "ShadeBeamsModel" "tape" "I") ∈ ALLW := aw tb_8 13 rfl rfl
theorem w_1815 : (Jvm.Cond.lays "ShadeBeamsModel" "ShadeBeamsModel" "size" "I") ∈ ALLW := aw tb_8 15 rfl rfl
theorem w_1817 : (Jvm.Cond.lays "ShadeBeamsModel" "ShadeBeamsModel" "place" "I") ∈ ALLW := aw tb_8 17 rfl rfl
theorem w_1819 : (Jvm.Cond.lays "ShadeBeamsModel" "ShadeBeamsModel" "at" "I") ∈ ALLW := aw tb_8 19 rfl rfl
theorem w_1821 : (Jvm.Cond.lays "ShadeBeamsModel" "ShadeBeamsModel" "fault" "I") ∈ ALLW := aw tb_8 21 rfl rfl
theorem w_1823 : (Jvm.Cond.lays "ShadeBeamsModel" "ShadeBeamsModel" "faultAt" "I") ∈ ALLW := aw tb_8 23 rfl rfl
theorem w_1825 : (Jvm.Cond.lays "ShadeBeamsModel" "ShadeBeamsModel" "clauses" "I") ∈ ALLW := aw tb_8 25 rfl rfl
theorem w_1827 : (Jvm.Cond.lays "ShadeBeamsModel" "ShadeBeamsModel" "open" "I") ∈ ALLW := aw tb_8 27 rfl rfl
theorem w_1829 : (Jvm.Cond.laysFinal "ShadeBeamsModel" "ShadeBeamsModel" "fed" "[I") ∈ ALLW := aw tb_8 29 rfl rfl
theorem w_1831 : (Jvm.Cond.laysFinal "ShadeBeamsModel" "ShadeBeamsModel" "refused" "[I") ∈ ALLW := aw tb_8 31 rfl rfl
theorem w_1833 : (Jvm.Cond.laysFinal "ShadeBeamsModel" "ShadeBeamsModel" "readTold" "[I") ∈ ALLW := aw tb_8 33 rfl rfl
theorem w_1835 : (Jvm.Cond.laysFinal "ShadeBeamsModel" "ShadeBeamsModel" "told" "[I") ∈ ALLW := aw tb_8 35 rfl rfl
theorem w_1837 : (Jvm.Cond.laysFinal "ShadeBeamsModel" "ShadeBeamsModel" "readPost" "[[I") ∈ ALLW := aw tb_8 37 rfl rfl
theorem w_1839 : (Jvm.Cond.laysFinal "ShadeBeamsModel" "ShadeBeamsModel" "post" "[[I") ∈ ALLW := aw tb_8 39 rfl rfl
theorem w_1841 : (Jvm.Cond.laysFinal "ShadeBeamsModel" "ShadeBeamsModel" "readSun" "[[I") ∈ ALLW := aw tb_8 41 rfl rfl
theorem w_1843 : (Jvm.Cond.laysFinal "ShadeBeamsModel" "ShadeBeamsModel" "sun" "[[I") ∈ ALLW := aw tb_8 43 rfl rfl
theorem w_1845 : (Jvm.Cond.laysFinal "ShadeBeamsModel" "ShadeBeamsModel" "readMoon" "[[I") ∈ ALLW := aw tb_8 45 rfl rfl
theorem w_1847 : (Jvm.Cond.laysFinal "ShadeBeamsModel" "ShadeBeamsModel" "moon" "[[I") ∈ ALLW := aw tb_8 47 rfl rfl
theorem w_1849 : (Jvm.Cond.laysFinal "ShadeBeamsModel" "ShadeBeamsModel" "readCloud" "[[I") ∈ ALLW := aw tb_8 49 rfl rfl
theorem w_1851 : (Jvm.Cond.laysFinal "ShadeBeamsModel" "ShadeBeamsModel" "cloud" "[[I") ∈ ALLW := aw tb_8 51 rfl rfl
theorem w_1853 : (Jvm.Cond.laysFinal "ShadeBeamsModel" "ShadeBeamsModel" "readLamp" "[[I") ∈ ALLW := aw tb_8 53 rfl rfl
theorem w_1855 : (Jvm.Cond.laysFinal "ShadeBeamsModel" "ShadeBeamsModel" "lamp" "[[I") ∈ ALLW := aw tb_8 55 rfl rfl
theorem w_1857 : (Jvm.Cond.laysFinal "ShadeBeamsModel" "ShadeBeamsModel" "readBeam" "[[I") ∈ ALLW := aw tb_8 57 rfl rfl
theorem w_1859 : (Jvm.Cond.laysFinal "ShadeBeamsModel" "ShadeBeamsModel" "beam" "[[I") ∈ ALLW := aw tb_8 59 rfl rfl
theorem w_1861 : (Jvm.Cond.laysFinal "ShadeBeamsModel" "ShadeBeamsModel" "readLoad" "[[I") ∈ ALLW := aw tb_8 61 rfl rfl
theorem w_1863 : (Jvm.Cond.laysFinal "ShadeBeamsModel" "ShadeBeamsModel" "load" "[[I") ∈ ALLW := aw tb_8 63 rfl rfl
theorem w_1865 : (Jvm.Cond.lays "ShadeBeamsModel" "ShadeBeamsModel" "suns" "I") ∈ ALLW := aw tb_8 65 rfl rfl
theorem w_1867 : (Jvm.Cond.lays "ShadeBeamsModel" "ShadeBeamsModel" "lawMany" "I") ∈ ALLW := aw tb_8 67 rfl rfl
theorem w_1869 : (Jvm.Cond.lays "ShadeBeamsModel" "ShadeBeamsModel" "readLawMany" "I") ∈ ALLW := aw tb_8 69 rfl rfl
theorem w_1871 : (Jvm.Cond.lays "ShadeBeamsModel" "ShadeBeamsModel" "stamp" "I") ∈ ALLW := aw tb_8 71 rfl rfl
theorem w_1873 : (Jvm.Cond.laysFinal "ShadeBeamsModel" "ShadeBeamsModel" "law" "[[I") ∈ ALLW := aw tb_8 73 rfl rfl
theorem w_1875 : (Jvm.Cond.laysFinal "ShadeBeamsModel" "ShadeBeamsModel" "readLaw" "[[I") ∈ ALLW := aw tb_8 75 rfl rfl
theorem w_1877 : (Jvm.Cond.laysFinal "ShadeBeamsModel" "ShadeBeamsModel" "stack" "[I") ∈ ALLW := aw tb_8 77 rfl rfl
theorem w_1879 : (Jvm.Cond.laysFinal "ShadeBeamsModel" "ShadeBeamsModel" "known" "[I") ∈ ALLW := aw tb_8 79 rfl rfl
theorem w_1881 : (Jvm.Cond.laysFinal "ShadeBeamsModel" "ShadeBeamsModel" "said" "[I") ∈ ALLW := aw tb_8 81 rfl rfl
theorem w_1883 : (Jvm.Cond.laysFinal "ShadeBeamsModel" "ShadeBeamsModel" "saidIn" "[I") ∈ ALLW := aw tb_8 83 rfl rfl
theorem w_1885 : (Jvm.Cond.laysFinal "ShadeBeamsModel" "ShadeBeamsModel" "move" "[[I") ∈ ALLW := aw tb_8 85 rfl rfl
theorem w_1887 : (Jvm.Cond.laysFinal "ShadeBeamsModel" "ShadeBeamsModel" "readMove" "[[I") ∈ ALLW := aw tb_8 87 rfl rfl
theorem w_1889 : (Jvm.Cond.laysFinal "ShadeBeamsModel" "ShadeBeamsModel" "book" "[[I") ∈ ALLW := aw tb_8 89 rfl rfl
theorem w_1891 : (Jvm.Cond.laysFinal "ShadeBeamsModel" "ShadeBeamsModel" "readBook" "[[I") ∈ ALLW := aw tb_8 91 rfl rfl
theorem w_1893 : (Jvm.Cond.laysFinal "ShadeBeamsModel" "ShadeBeamsModel" "change" "[[I") ∈ ALLW := aw tb_8 93 rfl rfl
theorem w_1895 : (Jvm.Cond.laysFinal "ShadeBeamsModel" "ShadeBeamsModel" "kept" "[[I") ∈ ALLW := aw tb_8 95 rfl rfl
theorem w_1897 : (Jvm.Cond.lays "ShadeBeamsModel" "ShadeBeamsModel" "moves" "I") ∈ ALLW := aw tb_8 97 rfl rfl
theorem w_1899 : (Jvm.Cond.lays "ShadeBeamsModel" "ShadeBeamsModel" "lines" "I") ∈ ALLW := aw tb_8 99 rfl rfl
theorem w_1901 : (Jvm.Cond.lays "ShadeBeamsModel" "ShadeBeamsModel" "day" "I") ∈ ALLW := aw tb_8 101 rfl rfl
theorem w_1903 : (Jvm.Cond.lays "ShadeBeamsModel" "ShadeBeamsModel" "changes" "I") ∈ ALLW := aw tb_8 103 rfl rfl
theorem w_1905 : (Jvm.Cond.lays "ShadeBeamsModel" "ShadeBeamsModel" "images" "I") ∈ ALLW := aw tb_8 105 rfl rfl
theorem w_1907 : (Jvm.Cond.lays "ShadeBeamsModel" "ShadeBeamsModel" "spot" "I") ∈ ALLW := aw tb_8 107 rfl rfl
theorem w_1909 : (Jvm.Cond.laysFinal "ShadeBeamsModel" "ShadeBeamsModel" "raw" "[[I") ∈ ALLW := aw tb_8 109 rfl rfl
theorem w_1911 : (Jvm.Cond.laysFinal "ShadeBeamsModel" "ShadeBeamsModel" "shade" "[[I") ∈ ALLW := aw tb_8 111 rfl rfl
theorem w_1913 : (Jvm.Cond.laysFinal "ShadeBeamsModel" "ShadeBeamsModel" "bears" "[[I") ∈ ALLW := aw tb_8 113 rfl rfl
theorem w_1915 : (Jvm.Cond.lays "ShadeBeamsModel" "ShadeBeamsModel" "posts" "I") ∈ ALLW := aw tb_8 115 rfl rfl
theorem w_1917 : (Jvm.Cond.lays "ShadeBeamsModel" "ShadeBeamsModel" "lamps" "I") ∈ ALLW := aw tb_8 117 rfl rfl
theorem w_1919 : (Jvm.Cond.lays "ShadeBeamsModel" "ShadeBeamsModel" "clouds" "I") ∈ ALLW := aw tb_8 119 rfl rfl
theorem w_1921 : (Jvm.Cond.laysFinal "ShadeBeamsModel" "ShadeBeamsModel" "restsAt" "[[J") ∈ ALLW := aw tb_8 121 rfl rfl
theorem w_1923 : (Jvm.Cond.laysFinal "ShadeBeamsModel" "ShadeBeamsModel" "liesAt" "[[I") ∈ ALLW := aw tb_8 123 rfl rfl
theorem w_1925 : (Jvm.Cond.laysFinal "ShadeBeamsModel" "ShadeBeamsModel" "lies" "[I") ∈ ALLW := aw tb_8 125 rfl rfl
theorem w_1927 : (Jvm.Cond.laysFinal "ShadeBeamsModel" "ShadeBeamsModel" "fell" "[I") ∈ ALLW := aw tb_8 127 rfl rfl
theorem w_1929 : (Jvm.Cond.laysFinal "ShadeBeamsModel" "ShadeBeamsModel" "fallen" "[I") ∈ ALLW := aw tb_8 129 rfl rfl
theorem w_1931 : (Jvm.Cond.lays "ShadeBeamsModel" "ShadeBeamsModel" "fallenMany" "I") ∈ ALLW := aw tb_8 131 rfl rfl
theorem w_1933 : (Jvm.Cond.laysFinal "ShadeBeamsModel" "ShadeBeamsModel" "carries" "[[I") ∈ ALLW := aw tb_8 133 rfl rfl
theorem w_1935 : (Jvm.Cond.lays "ShadeBeamsModel" "ShadeBeamsModel" "litBest" "I") ∈ ALLW := aw tb_8 135 rfl rfl
theorem w_1937 : (Jvm.Cond.lays "ShadeBeamsModel" "ShadeBeamsModel" "litRow" "I") ∈ ALLW := aw tb_8 137 rfl rfl
theorem w_1939 : (Jvm.Cond.laysFinal "ShadeBeamsModel" "ShadeBeamsModel" "isThere" "[Z") ∈ ALLW := aw tb_8 139 rfl rfl
theorem w_1941 : (Jvm.Cond.laysFinal "ShadeBeamsModel" "ShadeBeamsModel" "wasThere" "[Z") ∈ ALLW := aw tb_8 141 rfl rfl
theorem w_1943 : (Jvm.Cond.superclass "ShadeBeamsModel" "java/lang/Object") ∈ ALLW := aw tb_8 143 rfl rfl
theorem w_1944 : (Jvm.Cond.arrayClass Jvm.ClassFile.FieldType.boolean) ∈ ALLW := aw tb_8 144 rfl rfl
theorem w_1945 : (Jvm.Cond.methodLink "ShadeBeamsLaw" (160 : Nat) ({ cls := "ShadeBeamsModel", name := "thrown", desc := "()I" } : Jvm.MethodName)) ∈ ALLW := aw tb_8 145 rfl rfl
theorem w_1946 : (Jvm.Cond.instanceMethod ({ cls := "ShadeBeamsModel", name := "thrown", desc := "()I" } : Jvm.MethodName)) ∈ ALLW := aw tb_8 146 rfl rfl
theorem w_1947 : (Jvm.Cond.selects "ShadeBeamsModel" ({ cls := "ShadeBeamsModel", name := "thrown", desc := "()I" } : Jvm.MethodName) ({ cls := "ShadeBeamsModel", name := "thrown", desc := "()I" } : Jvm.MethodName)) ∈ ALLW := aw tb_8 147 rfl rfl
theorem w_1948 : (Jvm.Cond.code ({ cls := "ShadeBeamsModel", name := "thrown", desc := "()I" } : Jvm.MethodName) prog_14_method_3_code (1 : Nat) (Option.some Jvm.ClassFile.FieldType.int)) ∈ ALLW := aw tb_8 148 rfl rfl
theorem w_1949 : (Jvm.Cond.methodLink "ShadeBeamsLaw" (153 : Nat) ({ cls := "ShadeBeamsModel", name := "feed", desc := "(IIIII)I" } : Jvm.MethodName)) ∈ ALLW := aw tb_8 149 rfl rfl
theorem w_1950 : (Jvm.Cond.instanceMethod ({ cls := "ShadeBeamsModel", name := "feed", desc := "(IIIII)I" } : Jvm.MethodName)) ∈ ALLW := aw tb_8 150 rfl rfl
theorem w_1951 : (Jvm.Cond.selects "ShadeBeamsModel" ({ cls := "ShadeBeamsModel", name := "feed", desc := "(IIIII)I" } : Jvm.MethodName) ({ cls := "ShadeBeamsModel", name := "feed", desc := "(IIIII)I" } : Jvm.MethodName)) ∈ ALLW := aw tb_8 151 rfl rfl
theorem w_1952 : (Jvm.Cond.code ({ cls := "ShadeBeamsModel", name := "feed", desc := "(IIIII)I" } : Jvm.MethodName) prog_14_method_8_code (8 : Nat) (Option.some Jvm.ClassFile.FieldType.int)) ∈ ALLW := aw tb_8 152 rfl rfl
theorem w_1953 : (Jvm.Cond.methodLink "ShadeBeamsLaw" (159 : Nat) ({ cls := "ShadeBeamsModel", name := "street", desc := "(I)I" } : Jvm.MethodName)) ∈ ALLW := aw tb_8 153 rfl rfl
theorem w_1954 : (Jvm.Cond.instanceMethod ({ cls := "ShadeBeamsModel", name := "street", desc := "(I)I" } : Jvm.MethodName)) ∈ ALLW := aw tb_8 154 rfl rfl
theorem w_1955 : (Jvm.Cond.selects "ShadeBeamsModel" ({ cls := "ShadeBeamsModel", name := "street", desc := "(I)I" } : Jvm.MethodName) ({ cls := "ShadeBeamsModel", name := "street", desc := "(I)I" } : Jvm.MethodName)) ∈ ALLW := aw tb_8 155 rfl rfl
theorem w_1956 : (Jvm.Cond.code ({ cls := "ShadeBeamsModel", name := "street", desc := "(I)I" } : Jvm.MethodName) prog_14_method_30_code (2 : Nat) (Option.some Jvm.ClassFile.FieldType.int)) ∈ ALLW := aw tb_8 156 rfl rfl
theorem w_1957 : (Jvm.Cond.methodLink "ShadeBeamsModel" (186 : Nat) ({ cls := "ShadeBeamsModel", name := "in", desc := "(III)Z" } : Jvm.MethodName)) ∈ ALLW := aw tb_8 157 rfl rfl
theorem w_1958 : (Jvm.Cond.static ({ cls := "ShadeBeamsModel", name := "in", desc := "(III)Z" } : Jvm.MethodName)) ∈ ALLW := aw tb_8 158 rfl rfl
theorem w_1959 : (Jvm.Cond.code ({ cls := "ShadeBeamsModel", name := "in", desc := "(III)Z" } : Jvm.MethodName) prog_14_method_5_code (3 : Nat) (Option.some Jvm.ClassFile.FieldType.boolean)) ∈ ALLW := aw tb_8 159 rfl rfl
theorem w_1960 : (Jvm.Cond.methodLink "ShadeBeamsModel" (244 : Nat) ({ cls := "ShadeBeamsModel", name := "bad", desc := "(ZII)Z" } : Jvm.MethodName)) ∈ ALLW := aw tb_8 160 rfl rfl
theorem w_1962 : (Jvm.Cond.instanceMethod ({ cls := "ShadeBeamsModel", name := "bad", desc := "(ZII)Z" } : Jvm.MethodName)) ∈ ALLW := aw tb_8 162 rfl rfl
theorem w_1963 : (Jvm.Cond.code ({ cls := "ShadeBeamsModel", name := "bad", desc := "(ZII)Z" } : Jvm.MethodName) prog_14_method_4_code (4 : Nat) (Option.some Jvm.ClassFile.FieldType.boolean)) ∈ ALLW := aw tb_8 163 rfl rfl
theorem w_1964 : (Jvm.Cond.methodLink "ShadeBeamsModel" (248 : Nat) ({ cls := "ShadeBeamsModel", name := "starts", desc := "(I)V" } : Jvm.MethodName)) ∈ ALLW := aw tb_8 164 rfl rfl
theorem w_1966 : (Jvm.Cond.instanceMethod ({ cls := "ShadeBeamsModel", name := "starts", desc := "(I)V" } : Jvm.MethodName)) ∈ ALLW := aw tb_8 166 rfl rfl
theorem w_1967 : (Jvm.Cond.code ({ cls := "ShadeBeamsModel", name := "starts", desc := "(I)V" } : Jvm.MethodName) prog_14_method_22_code (2 : Nat) (Option.none : Option Jvm.ClassFile.FieldType)) ∈ ALLW := aw tb_8 167 rfl rfl
theorem w_1968 : (Jvm.Cond.methodLink "ShadeBeamsModel" (174 : Nat) ({ cls := "ShadeBeamsModel", name := "blanks", desc := "()V" } : Jvm.MethodName)) ∈ ALLW := aw tb_8 168 rfl rfl
theorem w_1970 : (Jvm.Cond.instanceMethod ({ cls := "ShadeBeamsModel", name := "blanks", desc := "()V" } : Jvm.MethodName)) ∈ ALLW := aw tb_8 170 rfl rfl
theorem w_1971 : (Jvm.Cond.code ({ cls := "ShadeBeamsModel", name := "blanks", desc := "()V" } : Jvm.MethodName) prog_14_method_10_code (1 : Nat) (Option.none : Option Jvm.ClassFile.FieldType)) ∈ ALLW := aw tb_8 171 rfl rfl
theorem w_1972 : (Jvm.Cond.methodLink "ShadeBeamsModel" (164 : Nat) ({ cls := "ShadeBeamsModel", name := "byteAt", desc := "(I)I" } : Jvm.MethodName)) ∈ ALLW := aw tb_8 172 rfl rfl
theorem w_1974 : (Jvm.Cond.instanceMethod ({ cls := "ShadeBeamsModel", name := "byteAt", desc := "(I)I" } : Jvm.MethodName)) ∈ ALLW := aw tb_8 174 rfl rfl
theorem w_1975 : (Jvm.Cond.code ({ cls := "ShadeBeamsModel", name := "byteAt", desc := "(I)I" } : Jvm.MethodName) prog_14_method_9_code (2 : Nat) (Option.some Jvm.ClassFile.FieldType.int)) ∈ ALLW := aw tb_8 175 rfl rfl
theorem w_1976 : (Jvm.Cond.methodLink "ShadeBeamsModel" (251 : Nat) ({ cls := "ShadeBeamsModel", name := "clause", desc := "()V" } : Jvm.MethodName)) ∈ ALLW := aw tb_8 176 rfl rfl
theorem w_1978 : (Jvm.Cond.instanceMethod ({ cls := "ShadeBeamsModel", name := "clause", desc := "()V" } : Jvm.MethodName)) ∈ ALLW := aw tb_8 178 rfl rfl
theorem w_1979 : (Jvm.Cond.code ({ cls := "ShadeBeamsModel", name := "clause", desc := "()V" } : Jvm.MethodName) prog_14_method_26_code (5 : Nat) (Option.none : Option Jvm.ClassFile.FieldType)) ∈ ALLW := aw tb_8 179 rfl rfl
theorem w_1980 : (Jvm.Cond.methodLink "ShadeBeamsModel" (221 : Nat) ({ cls := "ShadeBeamsModel", name := "kindHere", desc := "()I" } : Jvm.MethodName)) ∈ ALLW := aw tb_8 180 rfl rfl
theorem w_1982 : (Jvm.Cond.instanceMethod ({ cls := "ShadeBeamsModel", name := "kindHere", desc := "()I" } : Jvm.MethodName)) ∈ ALLW := aw tb_8 182 rfl rfl
theorem w_1983 : (Jvm.Cond.code ({ cls := "ShadeBeamsModel", name := "kindHere", desc := "()I" } : Jvm.MethodName) prog_14_method_23_code (1 : Nat) (Option.some Jvm.ClassFile.FieldType.int)) ∈ ALLW := aw tb_8 183 rfl rfl
theorem w_1984 : (Jvm.Cond.methodLink "ShadeBeamsModel" (201 : Nat) ({ cls := "ShadeBeamsModel", name := "isWord", desc := "(IIIIII)Z" } : Jvm.MethodName)) ∈ ALLW := aw tb_8 184 rfl rfl
theorem w_1986 : (Jvm.Cond.instanceMethod ({ cls := "ShadeBeamsModel", name := "isWord", desc := "(IIIIII)Z" } : Jvm.MethodName)) ∈ ALLW := aw tb_8 186 rfl rfl
theorem w_1987 : (Jvm.Cond.code ({ cls := "ShadeBeamsModel", name := "isWord", desc := "(IIIIII)Z" } : Jvm.MethodName) prog_14_method_17_code (7 : Nat) (Option.some Jvm.ClassFile.FieldType.boolean)) ∈ ALLW := aw tb_8 187 rfl rfl
theorem w_1988 : (Jvm.Cond.methodLink "ShadeBeamsModel" (193 : Nat) ({ cls := "ShadeBeamsModel", name := "wordHere", desc := "()I" } : Jvm.MethodName)) ∈ ALLW := aw tb_8 188 rfl rfl
theorem w_1990 : (Jvm.Cond.instanceMethod ({ cls := "ShadeBeamsModel", name := "wordHere", desc := "()I" } : Jvm.MethodName)) ∈ ALLW := aw tb_8 190 rfl rfl
theorem w_1991 : (Jvm.Cond.code ({ cls := "ShadeBeamsModel", name := "wordHere", desc := "()I" } : Jvm.MethodName) prog_14_method_15_code (3 : Nat) (Option.some Jvm.ClassFile.FieldType.int)) ∈ ALLW := aw tb_8 191 rfl rfl
theorem w_1992 : (Jvm.Cond.methodLink "ShadeBeamsModel" (190 : Nat) ({ cls := "ShadeBeamsModel", name := "isSmall", desc := "(I)Z" } : Jvm.MethodName)) ∈ ALLW := aw tb_8 192 rfl rfl
theorem w_1993 : (Jvm.Cond.static ({ cls := "ShadeBeamsModel", name := "isSmall", desc := "(I)Z" } : Jvm.MethodName)) ∈ ALLW := aw tb_8 193 rfl rfl
theorem w_1994 : (Jvm.Cond.code ({ cls := "ShadeBeamsModel", name := "isSmall", desc := "(I)Z" } : Jvm.MethodName) prog_14_method_13_code (1 : Nat) (Option.some Jvm.ClassFile.FieldType.boolean)) ∈ ALLW := aw tb_8 194 rfl rfl
theorem w_1995 : (Jvm.Cond.methodLink "ShadeBeamsModel" (197 : Nat) ({ cls := "ShadeBeamsModel", name := "six", desc := "(IIIIII)I" } : Jvm.MethodName)) ∈ ALLW := aw tb_8 195 rfl rfl
theorem w_1996 : (Jvm.Cond.static ({ cls := "ShadeBeamsModel", name := "six", desc := "(IIIIII)I" } : Jvm.MethodName)) ∈ ALLW := aw tb_8 196 rfl rfl
theorem w_1997 : (Jvm.Cond.code ({ cls := "ShadeBeamsModel", name := "six", desc := "(IIIIII)I" } : Jvm.MethodName) prog_14_method_16_code (7 : Nat) (Option.some Jvm.ClassFile.FieldType.int)) ∈ ALLW := aw tb_8 197 rfl rfl
theorem w_1998 : (Jvm.Cond.methodLink "ShadeBeamsModel" (181 : Nat) ({ cls := "ShadeBeamsModel", name := "wrong", desc := "(II)V" } : Jvm.MethodName)) ∈ ALLW := aw tb_8 198 rfl rfl
theorem w_2000 : (Jvm.Cond.instanceMethod ({ cls := "ShadeBeamsModel", name := "wrong", desc := "(II)V" } : Jvm.MethodName)) ∈ ALLW := aw tb_8 200 rfl rfl
theorem w_2001 : (Jvm.Cond.code ({ cls := "ShadeBeamsModel", name := "wrong", desc := "(II)V" } : Jvm.MethodName) prog_14_method_11_code (3 : Nat) (Option.none : Option Jvm.ClassFile.FieldType)) ∈ ALLW := aw tb_8 201 rfl rfl
theorem w_2002 : (Jvm.Cond.methodLink "ShadeBeamsModel" (224 : Nat) ({ cls := "ShadeBeamsModel", name := "isFull", desc := "(I)Z" } : Jvm.MethodName)) ∈ ALLW := aw tb_8 202 rfl rfl
theorem w_2004 : (Jvm.Cond.instanceMethod ({ cls := "ShadeBeamsModel", name := "isFull", desc := "(I)Z" } : Jvm.MethodName)) ∈ ALLW := aw tb_8 204 rfl rfl
theorem w_2005 : (Jvm.Cond.code ({ cls := "ShadeBeamsModel", name := "isFull", desc := "(I)Z" } : Jvm.MethodName) prog_14_method_24_code (2 : Nat) (Option.some Jvm.ClassFile.FieldType.boolean)) ∈ ALLW := aw tb_8 205 rfl rfl
theorem w_2006 : (Jvm.Cond.methodLink "ShadeBeamsModel" (205 : Nat) ({ cls := "ShadeBeamsModel", name := "skipWord", desc := "()V" } : Jvm.MethodName)) ∈ ALLW := aw tb_8 206 rfl rfl
theorem w_2008 : (Jvm.Cond.instanceMethod ({ cls := "ShadeBeamsModel", name := "skipWord", desc := "()V" } : Jvm.MethodName)) ∈ ALLW := aw tb_8 208 rfl rfl
theorem w_2009 : (Jvm.Cond.code ({ cls := "ShadeBeamsModel", name := "skipWord", desc := "()V" } : Jvm.MethodName) prog_14_method_18_code (1 : Nat) (Option.none : Option Jvm.ClassFile.FieldType)) ∈ ALLW := aw tb_8 209 rfl rfl
theorem w_2010 : (Jvm.Cond.methodLink "ShadeBeamsModel" (217 : Nat) ({ cls := "ShadeBeamsModel", name := "number", desc := "(II)I" } : Jvm.MethodName)) ∈ ALLW := aw tb_8 210 rfl rfl
theorem w_2012 : (Jvm.Cond.instanceMethod ({ cls := "ShadeBeamsModel", name := "number", desc := "(II)I" } : Jvm.MethodName)) ∈ ALLW := aw tb_8 212 rfl rfl
theorem w_2013 : (Jvm.Cond.code ({ cls := "ShadeBeamsModel", name := "number", desc := "(II)I" } : Jvm.MethodName) prog_14_method_14_code (5 : Nat) (Option.some Jvm.ClassFile.FieldType.int)) ∈ ALLW := aw tb_8 213 rfl rfl
theorem w_2014 : (Jvm.Cond.methodLink "ShadeBeamsModel" (177 : Nat) ({ cls := "ShadeBeamsModel", name := "isDigit", desc := "(I)Z" } : Jvm.MethodName)) ∈ ALLW := aw tb_8 214 rfl rfl
theorem w_2015 : (Jvm.Cond.static ({ cls := "ShadeBeamsModel", name := "isDigit", desc := "(I)Z" } : Jvm.MethodName)) ∈ ALLW := aw tb_8 215 rfl rfl
theorem w_2016 : (Jvm.Cond.code ({ cls := "ShadeBeamsModel", name := "isDigit", desc := "(I)Z" } : Jvm.MethodName) prog_14_method_12_code (1 : Nat) (Option.some Jvm.ClassFile.FieldType.boolean)) ∈ ALLW := aw tb_8 216 rfl rfl
theorem w_2017 : (Jvm.Cond.constant "ShadeBeamsModel" (185 : Nat) (100000 : Int32)) ∈ ALLW := aw tb_8 217 rfl rfl
theorem w_2018 : (Jvm.Cond.methodLink "ShadeBeamsModel" (227 : Nat) ({ cls := "ShadeBeamsModel", name := "postHere", desc := "([I)V" } : Jvm.MethodName)) ∈ ALLW := aw tb_8 218 rfl rfl
theorem w_2020 : (Jvm.Cond.instanceMethod ({ cls := "ShadeBeamsModel", name := "postHere", desc := "([I)V" } : Jvm.MethodName)) ∈ ALLW := aw tb_8 220 rfl rfl
theorem w_2021 : (Jvm.Cond.code ({ cls := "ShadeBeamsModel", name := "postHere", desc := "([I)V" } : Jvm.MethodName) prog_14_method_27_code (4 : Nat) (Option.none : Option Jvm.ClassFile.FieldType)) ∈ ALLW := aw tb_8 221 rfl rfl
theorem w_2022 : (Jvm.Cond.methodLink "ShadeBeamsModel" (234 : Nat) ({ cls := "ShadeBeamsModel", name := "cellHere", desc := "()I" } : Jvm.MethodName)) ∈ ALLW := aw tb_8 222 rfl rfl
theorem w_2024 : (Jvm.Cond.instanceMethod ({ cls := "ShadeBeamsModel", name := "cellHere", desc := "()I" } : Jvm.MethodName)) ∈ ALLW := aw tb_8 224 rfl rfl
theorem w_2025 : (Jvm.Cond.code ({ cls := "ShadeBeamsModel", name := "cellHere", desc := "()I" } : Jvm.MethodName) prog_14_method_25_code (1 : Nat) (Option.some Jvm.ClassFile.FieldType.int)) ∈ ALLW := aw tb_8 225 rfl rfl
theorem w_2026 : (Jvm.Cond.methodLink "ShadeBeamsModel" (231 : Nat) ({ cls := "ShadeBeamsModel", name := "sunHere", desc := "()V" } : Jvm.MethodName)) ∈ ALLW := aw tb_8 226 rfl rfl
theorem w_2028 : (Jvm.Cond.instanceMethod ({ cls := "ShadeBeamsModel", name := "sunHere", desc := "()V" } : Jvm.MethodName)) ∈ ALLW := aw tb_8 228 rfl rfl
theorem w_2029 : (Jvm.Cond.code ({ cls := "ShadeBeamsModel", name := "sunHere", desc := "()V" } : Jvm.MethodName) prog_14_method_28_code (5 : Nat) (Option.none : Option Jvm.ClassFile.FieldType)) ∈ ALLW := aw tb_8 229 rfl rfl
theorem w_2030 : (Jvm.Cond.methodLink "ShadeBeamsModel" (237 : Nat) ({ cls := "ShadeBeamsModel", name := "beamHere", desc := "([I)V" } : Jvm.MethodName)) ∈ ALLW := aw tb_8 230 rfl rfl
theorem w_2032 : (Jvm.Cond.instanceMethod ({ cls := "ShadeBeamsModel", name := "beamHere", desc := "([I)V" } : Jvm.MethodName)) ∈ ALLW := aw tb_8 232 rfl rfl
theorem w_2033 : (Jvm.Cond.code ({ cls := "ShadeBeamsModel", name := "beamHere", desc := "([I)V" } : Jvm.MethodName) prog_14_method_29_code (4 : Nat) (Option.none : Option Jvm.ClassFile.FieldType)) ∈ ALLW := aw tb_8 233 rfl rfl
theorem w_2034 : (Jvm.Cond.methodLink "ShadeBeamsModel" (240 : Nat) ({ cls := "ShadeBeamsModel", name := "sign", desc := "(I)V" } : Jvm.MethodName)) ∈ ALLW := aw tb_8 234 rfl rfl
theorem w_2036 : (Jvm.Cond.instanceMethod ({ cls := "ShadeBeamsModel", name := "sign", desc := "(I)V" } : Jvm.MethodName)) ∈ ALLW := aw tb_8 236 rfl rfl
theorem w_2037 : (Jvm.Cond.code ({ cls := "ShadeBeamsModel", name := "sign", desc := "(I)V" } : Jvm.MethodName) prog_14_method_20_code (2 : Nat) (Option.none : Option Jvm.ClassFile.FieldType)) ∈ ALLW := aw tb_8 237 rfl rfl
theorem w_2038 : (Jvm.Cond.methodLink "ShadeBeamsLaw" (166 : Nat) ({ cls := "ShadeBeamsModel", name := "law", desc := "(I)I" } : Jvm.MethodName)) ∈ ALLW := aw tb_8 238 rfl rfl
theorem w_2039 : (Jvm.Cond.instanceMethod ({ cls := "ShadeBeamsModel", name := "law", desc := "(I)I" } : Jvm.MethodName)) ∈ ALLW := aw tb_8 239 rfl rfl
theorem w_2040 : (Jvm.Cond.selects "ShadeBeamsModel" ({ cls := "ShadeBeamsModel", name := "law", desc := "(I)I" } : Jvm.MethodName) ({ cls := "ShadeBeamsModel", name := "law", desc := "(I)I" } : Jvm.MethodName)) ∈ ALLW := aw tb_9 0 rfl rfl
theorem w_2041 : (Jvm.Cond.code ({ cls := "ShadeBeamsModel", name := "law", desc := "(I)I" } : Jvm.MethodName) prog_14_method_38_code (4 : Nat) (Option.some Jvm.ClassFile.FieldType.int)) ∈ ALLW := aw tb_9 1 rfl rfl
theorem w_2042 : (Jvm.Cond.methodLink "ShadeBeamsModel" (295 : Nat) ({ cls := "ShadeBeamsModel", name := "sum", desc := "()V" } : Jvm.MethodName)) ∈ ALLW := aw tb_9 2 rfl rfl
theorem w_2044 : (Jvm.Cond.instanceMethod ({ cls := "ShadeBeamsModel", name := "sum", desc := "()V" } : Jvm.MethodName)) ∈ ALLW := aw tb_9 4 rfl rfl
theorem w_2045 : (Jvm.Cond.code ({ cls := "ShadeBeamsModel", name := "sum", desc := "()V" } : Jvm.MethodName) prog_14_method_35_code (2 : Nat) (Option.none : Option Jvm.ClassFile.FieldType)) ∈ ALLW := aw tb_9 5 rfl rfl
theorem w_2046 : (Jvm.Cond.methodLink "ShadeBeamsModel" (279 : Nat) ({ cls := "ShadeBeamsModel", name := "product", desc := "()V" } : Jvm.MethodName)) ∈ ALLW := aw tb_9 6 rfl rfl
theorem w_2048 : (Jvm.Cond.instanceMethod ({ cls := "ShadeBeamsModel", name := "product", desc := "()V" } : Jvm.MethodName)) ∈ ALLW := aw tb_9 8 rfl rfl
theorem w_2049 : (Jvm.Cond.code ({ cls := "ShadeBeamsModel", name := "product", desc := "()V" } : Jvm.MethodName) prog_14_method_36_code (2 : Nat) (Option.none : Option Jvm.ClassFile.FieldType)) ∈ ALLW := aw tb_9 9 rfl rfl
theorem w_2050 : (Jvm.Cond.methodLink "ShadeBeamsModel" (288 : Nat) ({ cls := "ShadeBeamsModel", name := "one", desc := "()V" } : Jvm.MethodName)) ∈ ALLW := aw tb_9 10 rfl rfl
theorem w_2052 : (Jvm.Cond.instanceMethod ({ cls := "ShadeBeamsModel", name := "one", desc := "()V" } : Jvm.MethodName)) ∈ ALLW := aw tb_9 12 rfl rfl
theorem w_2053 : (Jvm.Cond.code ({ cls := "ShadeBeamsModel", name := "one", desc := "()V" } : Jvm.MethodName) prog_14_method_37_code (3 : Nat) (Option.none : Option Jvm.ClassFile.FieldType)) ∈ ALLW := aw tb_9 13 rfl rfl
theorem w_2054 : (Jvm.Cond.methodLink "ShadeBeamsModel" (291 : Nat) ({ cls := "ShadeBeamsModel", name := "opens", desc := "()Z" } : Jvm.MethodName)) ∈ ALLW := aw tb_9 14 rfl rfl
theorem w_2056 : (Jvm.Cond.instanceMethod ({ cls := "ShadeBeamsModel", name := "opens", desc := "()Z" } : Jvm.MethodName)) ∈ ALLW := aw tb_9 16 rfl rfl
theorem w_2057 : (Jvm.Cond.code ({ cls := "ShadeBeamsModel", name := "opens", desc := "()Z" } : Jvm.MethodName) prog_14_method_34_code (1 : Nat) (Option.some Jvm.ClassFile.FieldType.boolean)) ∈ ALLW := aw tb_9 17 rfl rfl
theorem w_2058 : (Jvm.Cond.methodLink "ShadeBeamsModel" (285 : Nat) ({ cls := "ShadeBeamsModel", name := "says", desc := "(II)V" } : Jvm.MethodName)) ∈ ALLW := aw tb_9 18 rfl rfl
theorem w_2060 : (Jvm.Cond.instanceMethod ({ cls := "ShadeBeamsModel", name := "says", desc := "(II)V" } : Jvm.MethodName)) ∈ ALLW := aw tb_9 20 rfl rfl
theorem w_2061 : (Jvm.Cond.code ({ cls := "ShadeBeamsModel", name := "says", desc := "(II)V" } : Jvm.MethodName) prog_14_method_33_code (3 : Nat) (Option.none : Option Jvm.ClassFile.FieldType)) ∈ ALLW := aw tb_9 21 rfl rfl
theorem w_2062 : (Jvm.Cond.methodLink "ShadeBeamsModel" (298 : Nat) ({ cls := "ShadeBeamsModel", name := "takes", desc := "(IIIIII)Z" } : Jvm.MethodName)) ∈ ALLW := aw tb_9 22 rfl rfl
theorem w_2064 : (Jvm.Cond.instanceMethod ({ cls := "ShadeBeamsModel", name := "takes", desc := "(IIIIII)Z" } : Jvm.MethodName)) ∈ ALLW := aw tb_9 24 rfl rfl
theorem w_2065 : (Jvm.Cond.code ({ cls := "ShadeBeamsModel", name := "takes", desc := "(IIIIII)Z" } : Jvm.MethodName) prog_14_method_19_code (8 : Nat) (Option.some Jvm.ClassFile.FieldType.boolean)) ∈ ALLW := aw tb_9 25 rfl rfl
theorem w_2066 : (Jvm.Cond.methodLink "ShadeBeamsModel" (282 : Nat) ({ cls := "ShadeBeamsModel", name := "takesSign", desc := "(I)Z" } : Jvm.MethodName)) ∈ ALLW := aw tb_9 26 rfl rfl
theorem w_2068 : (Jvm.Cond.instanceMethod ({ cls := "ShadeBeamsModel", name := "takesSign", desc := "(I)Z" } : Jvm.MethodName)) ∈ ALLW := aw tb_9 28 rfl rfl
theorem w_2069 : (Jvm.Cond.code ({ cls := "ShadeBeamsModel", name := "takesSign", desc := "(I)Z" } : Jvm.MethodName) prog_14_method_21_code (3 : Nat) (Option.some Jvm.ClassFile.FieldType.boolean)) ∈ ALLW := aw tb_9 29 rfl rfl
theorem w_2070 : (Jvm.Cond.methodLink "ShadeBeamsLaw" (200 : Nat) ({ cls := "ShadeBeamsModel", name := "bearing", desc := "(IIII)I" } : Jvm.MethodName)) ∈ ALLW := aw tb_9 30 rfl rfl
theorem w_2071 : (Jvm.Cond.instanceMethod ({ cls := "ShadeBeamsModel", name := "bearing", desc := "(IIII)I" } : Jvm.MethodName)) ∈ ALLW := aw tb_9 31 rfl rfl
theorem w_2072 : (Jvm.Cond.selects "ShadeBeamsModel" ({ cls := "ShadeBeamsModel", name := "bearing", desc := "(IIII)I" } : Jvm.MethodName) ({ cls := "ShadeBeamsModel", name := "bearing", desc := "(IIII)I" } : Jvm.MethodName)) ∈ ALLW := aw tb_9 32 rfl rfl
theorem w_2073 : (Jvm.Cond.code ({ cls := "ShadeBeamsModel", name := "bearing", desc := "(IIII)I" } : Jvm.MethodName) prog_14_method_42_code (5 : Nat) (Option.some Jvm.ClassFile.FieldType.int)) ∈ ALLW := aw tb_9 33 rfl rfl
theorem w_2074 : (Jvm.Cond.methodLink "ShadeBeamsModel" (314 : Nat) ({ cls := "ShadeBeamsModel", name := "isHour", desc := "(I)Z" } : Jvm.MethodName)) ∈ ALLW := aw tb_9 34 rfl rfl
theorem w_2075 : (Jvm.Cond.static ({ cls := "ShadeBeamsModel", name := "isHour", desc := "(I)Z" } : Jvm.MethodName)) ∈ ALLW := aw tb_9 35 rfl rfl
theorem w_2076 : (Jvm.Cond.code ({ cls := "ShadeBeamsModel", name := "isHour", desc := "(I)Z" } : Jvm.MethodName) prog_14_method_50_code (1 : Nat) (Option.some Jvm.ClassFile.FieldType.boolean)) ∈ ALLW := aw tb_9 36 rfl rfl
theorem w_2077 : (Jvm.Cond.methodLink "ShadeBeamsModel" (317 : Nat) ({ cls := "ShadeBeamsModel", name := "bearingOf", desc := "(IIII)I" } : Jvm.MethodName)) ∈ ALLW := aw tb_9 37 rfl rfl
theorem w_2079 : (Jvm.Cond.instanceMethod ({ cls := "ShadeBeamsModel", name := "bearingOf", desc := "(IIII)I" } : Jvm.MethodName)) ∈ ALLW := aw tb_9 39 rfl rfl
theorem w_2080 : (Jvm.Cond.code ({ cls := "ShadeBeamsModel", name := "bearingOf", desc := "(IIII)I" } : Jvm.MethodName) prog_14_method_41_code (6 : Nat) (Option.some Jvm.ClassFile.FieldType.int)) ∈ ALLW := aw tb_9 40 rfl rfl
theorem w_2081 : (Jvm.Cond.methodLink "ShadeBeamsModel" (311 : Nat) ({ cls := "ShadeBeamsModel", name := "byLaw", desc := "()I" } : Jvm.MethodName)) ∈ ALLW := aw tb_9 41 rfl rfl
theorem w_2083 : (Jvm.Cond.instanceMethod ({ cls := "ShadeBeamsModel", name := "byLaw", desc := "()I" } : Jvm.MethodName)) ∈ ALLW := aw tb_9 43 rfl rfl
theorem w_2084 : (Jvm.Cond.code ({ cls := "ShadeBeamsModel", name := "byLaw", desc := "()I" } : Jvm.MethodName) prog_14_method_40_code (3 : Nat) (Option.some Jvm.ClassFile.FieldType.int)) ∈ ALLW := aw tb_9 44 rfl rfl
theorem w_2085 : (Jvm.Cond.methodLink "ShadeBeamsModel" (307 : Nat) ({ cls := "ShadeBeamsModel", name := "by", desc := "(III)I" } : Jvm.MethodName)) ∈ ALLW := aw tb_9 45 rfl rfl
theorem w_2086 : (Jvm.Cond.static ({ cls := "ShadeBeamsModel", name := "by", desc := "(III)I" } : Jvm.MethodName)) ∈ ALLW := aw tb_9 46 rfl rfl
theorem w_2087 : (Jvm.Cond.code ({ cls := "ShadeBeamsModel", name := "by", desc := "(III)I" } : Jvm.MethodName) prog_14_method_39_code (3 : Nat) (Option.some Jvm.ClassFile.FieldType.int)) ∈ ALLW := aw tb_9 47 rfl rfl
theorem w_2088 : (Jvm.Cond.methodLink "ShadeBeamsModel" (301 : Nat) ({ cls := "ShadeBeamsModel", name := "less", desc := "(II)I" } : Jvm.MethodName)) ∈ ALLW := aw tb_9 48 rfl rfl
theorem w_2089 : (Jvm.Cond.static ({ cls := "ShadeBeamsModel", name := "less", desc := "(II)I" } : Jvm.MethodName)) ∈ ALLW := aw tb_9 49 rfl rfl
theorem w_2090 : (Jvm.Cond.code ({ cls := "ShadeBeamsModel", name := "less", desc := "(II)I" } : Jvm.MethodName) prog_14_method_6_code (2 : Nat) (Option.some Jvm.ClassFile.FieldType.int)) ∈ ALLW := aw tb_9 50 rfl rfl
theorem w_2091 : (Jvm.Cond.methodLink "ShadeBeamsModel" (304 : Nat) ({ cls := "ShadeBeamsModel", name := "more", desc := "(II)I" } : Jvm.MethodName)) ∈ ALLW := aw tb_9 51 rfl rfl
theorem w_2092 : (Jvm.Cond.static ({ cls := "ShadeBeamsModel", name := "more", desc := "(II)I" } : Jvm.MethodName)) ∈ ALLW := aw tb_9 52 rfl rfl
theorem w_2093 : (Jvm.Cond.code ({ cls := "ShadeBeamsModel", name := "more", desc := "(II)I" } : Jvm.MethodName) prog_14_method_7_code (2 : Nat) (Option.some Jvm.ClassFile.FieldType.int)) ∈ ALLW := aw tb_9 53 rfl rfl
theorem w_2094 : (Jvm.Cond.methodLink "ShadeBeamsLaw" (169 : Nat) ({ cls := "ShadeBeamsModel", name := "moves", desc := "(I)I" } : Jvm.MethodName)) ∈ ALLW := aw tb_9 54 rfl rfl
theorem w_2095 : (Jvm.Cond.instanceMethod ({ cls := "ShadeBeamsModel", name := "moves", desc := "(I)I" } : Jvm.MethodName)) ∈ ALLW := aw tb_9 55 rfl rfl
theorem w_2096 : (Jvm.Cond.selects "ShadeBeamsModel" ({ cls := "ShadeBeamsModel", name := "moves", desc := "(I)I" } : Jvm.MethodName) ({ cls := "ShadeBeamsModel", name := "moves", desc := "(I)I" } : Jvm.MethodName)) ∈ ALLW := aw tb_9 56 rfl rfl
theorem w_2097 : (Jvm.Cond.code ({ cls := "ShadeBeamsModel", name := "moves", desc := "(I)I" } : Jvm.MethodName) prog_14_method_43_code (7 : Nat) (Option.some Jvm.ClassFile.FieldType.int)) ∈ ALLW := aw tb_9 57 rfl rfl
theorem w_2098 : (Jvm.Cond.methodLink "ShadeBeamsLaw" (172 : Nat) ({ cls := "ShadeBeamsModel", name := "book", desc := "(I)I" } : Jvm.MethodName)) ∈ ALLW := aw tb_9 58 rfl rfl
theorem w_2099 : (Jvm.Cond.instanceMethod ({ cls := "ShadeBeamsModel", name := "book", desc := "(I)I" } : Jvm.MethodName)) ∈ ALLW := aw tb_9 59 rfl rfl
theorem w_2100 : (Jvm.Cond.selects "ShadeBeamsModel" ({ cls := "ShadeBeamsModel", name := "book", desc := "(I)I" } : Jvm.MethodName) ({ cls := "ShadeBeamsModel", name := "book", desc := "(I)I" } : Jvm.MethodName)) ∈ ALLW := aw tb_9 60 rfl rfl
theorem w_2101 : (Jvm.Cond.code ({ cls := "ShadeBeamsModel", name := "book", desc := "(I)I" } : Jvm.MethodName) prog_14_method_44_code (6 : Nat) (Option.some Jvm.ClassFile.FieldType.int)) ∈ ALLW := aw tb_9 61 rfl rfl
theorem w_2102 : (Jvm.Cond.methodLink "ShadeBeamsLaw" (176 : Nat) ({ cls := "ShadeBeamsModel", name := "fault", desc := "()I" } : Jvm.MethodName)) ∈ ALLW := aw tb_9 62 rfl rfl
theorem w_2103 : (Jvm.Cond.instanceMethod ({ cls := "ShadeBeamsModel", name := "fault", desc := "()I" } : Jvm.MethodName)) ∈ ALLW := aw tb_9 63 rfl rfl
theorem w_2104 : (Jvm.Cond.selects "ShadeBeamsModel" ({ cls := "ShadeBeamsModel", name := "fault", desc := "()I" } : Jvm.MethodName) ({ cls := "ShadeBeamsModel", name := "fault", desc := "()I" } : Jvm.MethodName)) ∈ ALLW := aw tb_9 64 rfl rfl
theorem w_2105 : (Jvm.Cond.code ({ cls := "ShadeBeamsModel", name := "fault", desc := "()I" } : Jvm.MethodName) prog_14_method_45_code (1 : Nat) (Option.some Jvm.ClassFile.FieldType.int)) ∈ ALLW := aw tb_9 65 rfl rfl
theorem w_2106 : (Jvm.Cond.methodLink "ShadeBeamsLaw" (179 : Nat) ({ cls := "ShadeBeamsModel", name := "told", desc := "(I)I" } : Jvm.MethodName)) ∈ ALLW := aw tb_9 66 rfl rfl
theorem w_2107 : (Jvm.Cond.instanceMethod ({ cls := "ShadeBeamsModel", name := "told", desc := "(I)I" } : Jvm.MethodName)) ∈ ALLW := aw tb_9 67 rfl rfl
theorem w_2108 : (Jvm.Cond.selects "ShadeBeamsModel" ({ cls := "ShadeBeamsModel", name := "told", desc := "(I)I" } : Jvm.MethodName) ({ cls := "ShadeBeamsModel", name := "told", desc := "(I)I" } : Jvm.MethodName)) ∈ ALLW := aw tb_9 68 rfl rfl
theorem w_2109 : (Jvm.Cond.code ({ cls := "ShadeBeamsModel", name := "told", desc := "(I)I" } : Jvm.MethodName) prog_14_method_46_code (2 : Nat) (Option.some Jvm.ClassFile.FieldType.int)) ∈ ALLW := aw tb_9 69 rfl rfl
theorem w_2110 : (Jvm.Cond.methodLink "ShadeBeamsLaw" (183 : Nat) ({ cls := "ShadeBeamsModel", name := "post", desc := "(II)I" } : Jvm.MethodName)) ∈ ALLW := aw tb_9 70 rfl rfl
theorem w_2111 : (Jvm.Cond.instanceMethod ({ cls := "ShadeBeamsModel", name := "post", desc := "(II)I" } : Jvm.MethodName)) ∈ ALLW := aw tb_9 71 rfl rfl
theorem w_2112 : (Jvm.Cond.selects "ShadeBeamsModel" ({ cls := "ShadeBeamsModel", name := "post", desc := "(II)I" } : Jvm.MethodName) ({ cls := "ShadeBeamsModel", name := "post", desc := "(II)I" } : Jvm.MethodName)) ∈ ALLW := aw tb_9 72 rfl rfl
theorem w_2113 : (Jvm.Cond.code ({ cls := "ShadeBeamsModel", name := "post", desc := "(II)I" } : Jvm.MethodName) prog_14_method_51_code (3 : Nat) (Option.some Jvm.ClassFile.FieldType.int)) ∈ ALLW := aw tb_9 73 rfl rfl
theorem w_2114 : (Jvm.Cond.methodLink "ShadeBeamsModel" (321 : Nat) ({ cls := "ShadeBeamsModel", name := "isPost", desc := "(I)Z" } : Jvm.MethodName)) ∈ ALLW := aw tb_9 74 rfl rfl
theorem w_2116 : (Jvm.Cond.instanceMethod ({ cls := "ShadeBeamsModel", name := "isPost", desc := "(I)Z" } : Jvm.MethodName)) ∈ ALLW := aw tb_9 76 rfl rfl
theorem w_2117 : (Jvm.Cond.code ({ cls := "ShadeBeamsModel", name := "isPost", desc := "(I)Z" } : Jvm.MethodName) prog_14_method_47_code (2 : Nat) (Option.some Jvm.ClassFile.FieldType.boolean)) ∈ ALLW := aw tb_9 77 rfl rfl
theorem w_2118 : (Jvm.Cond.methodLink "ShadeBeamsLaw" (186 : Nat) ({ cls := "ShadeBeamsModel", name := "beam", desc := "(II)I" } : Jvm.MethodName)) ∈ ALLW := aw tb_9 78 rfl rfl
theorem w_2119 : (Jvm.Cond.instanceMethod ({ cls := "ShadeBeamsModel", name := "beam", desc := "(II)I" } : Jvm.MethodName)) ∈ ALLW := aw tb_9 79 rfl rfl
theorem w_2120 : (Jvm.Cond.selects "ShadeBeamsModel" ({ cls := "ShadeBeamsModel", name := "beam", desc := "(II)I" } : Jvm.MethodName) ({ cls := "ShadeBeamsModel", name := "beam", desc := "(II)I" } : Jvm.MethodName)) ∈ ALLW := aw tb_9 80 rfl rfl
theorem w_2121 : (Jvm.Cond.code ({ cls := "ShadeBeamsModel", name := "beam", desc := "(II)I" } : Jvm.MethodName) prog_14_method_53_code (3 : Nat) (Option.some Jvm.ClassFile.FieldType.int)) ∈ ALLW := aw tb_9 81 rfl rfl
theorem w_2122 : (Jvm.Cond.methodLink "ShadeBeamsModel" (324 : Nat) ({ cls := "ShadeBeamsModel", name := "isBeam", desc := "(I)Z" } : Jvm.MethodName)) ∈ ALLW := aw tb_9 82 rfl rfl
theorem w_2124 : (Jvm.Cond.instanceMethod ({ cls := "ShadeBeamsModel", name := "isBeam", desc := "(I)Z" } : Jvm.MethodName)) ∈ ALLW := aw tb_9 84 rfl rfl
theorem w_2125 : (Jvm.Cond.code ({ cls := "ShadeBeamsModel", name := "isBeam", desc := "(I)Z" } : Jvm.MethodName) prog_14_method_48_code (2 : Nat) (Option.some Jvm.ClassFile.FieldType.boolean)) ∈ ALLW := aw tb_9 85 rfl rfl
theorem w_2126 : (Jvm.Cond.methodLink "ShadeBeamsModel" (327 : Nat) ({ cls := "ShadeBeamsModel", name := "weightOf", desc := "(I)I" } : Jvm.MethodName)) ∈ ALLW := aw tb_9 86 rfl rfl
theorem w_2128 : (Jvm.Cond.instanceMethod ({ cls := "ShadeBeamsModel", name := "weightOf", desc := "(I)I" } : Jvm.MethodName)) ∈ ALLW := aw tb_9 88 rfl rfl
theorem w_2129 : (Jvm.Cond.code ({ cls := "ShadeBeamsModel", name := "weightOf", desc := "(I)I" } : Jvm.MethodName) prog_14_method_52_code (4 : Nat) (Option.some Jvm.ClassFile.FieldType.int)) ∈ ALLW := aw tb_9 89 rfl rfl
theorem w_2130 : (Jvm.Cond.methodLink "ShadeBeamsLaw" (189 : Nat) ({ cls := "ShadeBeamsModel", name := "light", desc := "(II)I" } : Jvm.MethodName)) ∈ ALLW := aw tb_9 90 rfl rfl
theorem w_2131 : (Jvm.Cond.instanceMethod ({ cls := "ShadeBeamsModel", name := "light", desc := "(II)I" } : Jvm.MethodName)) ∈ ALLW := aw tb_9 91 rfl rfl
theorem w_2132 : (Jvm.Cond.selects "ShadeBeamsModel" ({ cls := "ShadeBeamsModel", name := "light", desc := "(II)I" } : Jvm.MethodName) ({ cls := "ShadeBeamsModel", name := "light", desc := "(II)I" } : Jvm.MethodName)) ∈ ALLW := aw tb_9 92 rfl rfl
theorem w_2133 : (Jvm.Cond.code ({ cls := "ShadeBeamsModel", name := "light", desc := "(II)I" } : Jvm.MethodName) prog_14_method_67_code (3 : Nat) (Option.some Jvm.ClassFile.FieldType.int)) ∈ ALLW := aw tb_9 93 rfl rfl
theorem w_2134 : (Jvm.Cond.methodLink "ShadeBeamsModel" (336 : Nat) ({ cls := "ShadeBeamsModel", name := "cloudsTold", desc := "()I" } : Jvm.MethodName)) ∈ ALLW := aw tb_9 94 rfl rfl
theorem w_2136 : (Jvm.Cond.instanceMethod ({ cls := "ShadeBeamsModel", name := "cloudsTold", desc := "()I" } : Jvm.MethodName)) ∈ ALLW := aw tb_9 96 rfl rfl
theorem w_2137 : (Jvm.Cond.code ({ cls := "ShadeBeamsModel", name := "cloudsTold", desc := "()I" } : Jvm.MethodName) prog_14_method_55_code (4 : Nat) (Option.some Jvm.ClassFile.FieldType.int)) ∈ ALLW := aw tb_9 97 rfl rfl
theorem w_2138 : (Jvm.Cond.methodLink "ShadeBeamsModel" (348 : Nat) ({ cls := "ShadeBeamsModel", name := "lightOf", desc := "(III)I" } : Jvm.MethodName)) ∈ ALLW := aw tb_9 98 rfl rfl
theorem w_2140 : (Jvm.Cond.instanceMethod ({ cls := "ShadeBeamsModel", name := "lightOf", desc := "(III)I" } : Jvm.MethodName)) ∈ ALLW := aw tb_9 100 rfl rfl
theorem w_2141 : (Jvm.Cond.code ({ cls := "ShadeBeamsModel", name := "lightOf", desc := "(III)I" } : Jvm.MethodName) prog_14_method_58_code (6 : Nat) (Option.some Jvm.ClassFile.FieldType.int)) ∈ ALLW := aw tb_9 101 rfl rfl
theorem w_2142 : (Jvm.Cond.methodLink "ShadeBeamsModel" (342 : Nat) ({ cls := "ShadeBeamsModel", name := "sunAt", desc := "(I)I" } : Jvm.MethodName)) ∈ ALLW := aw tb_9 102 rfl rfl
theorem w_2144 : (Jvm.Cond.instanceMethod ({ cls := "ShadeBeamsModel", name := "sunAt", desc := "(I)I" } : Jvm.MethodName)) ∈ ALLW := aw tb_9 104 rfl rfl
theorem w_2145 : (Jvm.Cond.code ({ cls := "ShadeBeamsModel", name := "sunAt", desc := "(I)I" } : Jvm.MethodName) prog_14_method_56_code (4 : Nat) (Option.some Jvm.ClassFile.FieldType.int)) ∈ ALLW := aw tb_9 105 rfl rfl
theorem w_2146 : (Jvm.Cond.methodLink "ShadeBeamsModel" (345 : Nat) ({ cls := "ShadeBeamsModel", name := "moonOf", desc := "(I)I" } : Jvm.MethodName)) ∈ ALLW := aw tb_9 106 rfl rfl
theorem w_2148 : (Jvm.Cond.instanceMethod ({ cls := "ShadeBeamsModel", name := "moonOf", desc := "(I)I" } : Jvm.MethodName)) ∈ ALLW := aw tb_9 108 rfl rfl
theorem w_2149 : (Jvm.Cond.code ({ cls := "ShadeBeamsModel", name := "moonOf", desc := "(I)I" } : Jvm.MethodName) prog_14_method_57_code (3 : Nat) (Option.some Jvm.ClassFile.FieldType.int)) ∈ ALLW := aw tb_9 109 rfl rfl
theorem w_2150 : (Jvm.Cond.methodLink "ShadeBeamsLaw" (193 : Nat) ({ cls := "ShadeBeamsModel", name := "shade", desc := "(III)Z" } : Jvm.MethodName)) ∈ ALLW := aw tb_9 110 rfl rfl
theorem w_2151 : (Jvm.Cond.instanceMethod ({ cls := "ShadeBeamsModel", name := "shade", desc := "(III)Z" } : Jvm.MethodName)) ∈ ALLW := aw tb_9 111 rfl rfl
theorem w_2152 : (Jvm.Cond.selects "ShadeBeamsModel" ({ cls := "ShadeBeamsModel", name := "shade", desc := "(III)Z" } : Jvm.MethodName) ({ cls := "ShadeBeamsModel", name := "shade", desc := "(III)Z" } : Jvm.MethodName)) ∈ ALLW := aw tb_9 112 rfl rfl
theorem w_2153 : (Jvm.Cond.code ({ cls := "ShadeBeamsModel", name := "shade", desc := "(III)Z" } : Jvm.MethodName) prog_14_method_68_code (4 : Nat) (Option.some Jvm.ClassFile.FieldType.boolean)) ∈ ALLW := aw tb_9 113 rfl rfl
theorem w_2154 : (Jvm.Cond.methodLink "ShadeBeamsModel" (351 : Nat) ({ cls := "ShadeBeamsModel", name := "isCell", desc := "(I)Z" } : Jvm.MethodName)) ∈ ALLW := aw tb_9 114 rfl rfl
theorem w_2156 : (Jvm.Cond.instanceMethod ({ cls := "ShadeBeamsModel", name := "isCell", desc := "(I)Z" } : Jvm.MethodName)) ∈ ALLW := aw tb_9 116 rfl rfl
theorem w_2157 : (Jvm.Cond.code ({ cls := "ShadeBeamsModel", name := "isCell", desc := "(I)Z" } : Jvm.MethodName) prog_14_method_49_code (2 : Nat) (Option.some Jvm.ClassFile.FieldType.boolean)) ∈ ALLW := aw tb_9 117 rfl rfl
theorem w_2158 : (Jvm.Cond.methodLink "ShadeBeamsModel" (378 : Nat) ({ cls := "ShadeBeamsModel", name := "laysNow", desc := "()V" } : Jvm.MethodName)) ∈ ALLW := aw tb_9 118 rfl rfl
theorem w_2160 : (Jvm.Cond.instanceMethod ({ cls := "ShadeBeamsModel", name := "laysNow", desc := "()V" } : Jvm.MethodName)) ∈ ALLW := aw tb_9 120 rfl rfl
theorem w_2161 : (Jvm.Cond.code ({ cls := "ShadeBeamsModel", name := "laysNow", desc := "()V" } : Jvm.MethodName) prog_14_method_66_code (1 : Nat) (Option.none : Option Jvm.ClassFile.FieldType)) ∈ ALLW := aw tb_9 121 rfl rfl
theorem w_2162 : (Jvm.Cond.methodLink "ShadeBeamsModel" (372 : Nat) ({ cls := "ShadeBeamsModel", name := "asTold", desc := "()V" } : Jvm.MethodName)) ∈ ALLW := aw tb_9 122 rfl rfl
theorem w_2164 : (Jvm.Cond.instanceMethod ({ cls := "ShadeBeamsModel", name := "asTold", desc := "()V" } : Jvm.MethodName)) ∈ ALLW := aw tb_9 124 rfl rfl
theorem w_2165 : (Jvm.Cond.code ({ cls := "ShadeBeamsModel", name := "asTold", desc := "()V" } : Jvm.MethodName) prog_14_method_54_code (1 : Nat) (Option.none : Option Jvm.ClassFile.FieldType)) ∈ ALLW := aw tb_9 125 rfl rfl
theorem w_2166 : (Jvm.Cond.methodLink "ShadeBeamsModel" (375 : Nat) ({ cls := "ShadeBeamsModel", name := "lays", desc := "(I)V" } : Jvm.MethodName)) ∈ ALLW := aw tb_9 126 rfl rfl
theorem w_2168 : (Jvm.Cond.instanceMethod ({ cls := "ShadeBeamsModel", name := "lays", desc := "(I)V" } : Jvm.MethodName)) ∈ ALLW := aw tb_9 128 rfl rfl
theorem w_2169 : (Jvm.Cond.code ({ cls := "ShadeBeamsModel", name := "lays", desc := "(I)V" } : Jvm.MethodName) prog_14_method_65_code (2 : Nat) (Option.none : Option Jvm.ClassFile.FieldType)) ∈ ALLW := aw tb_9 129 rfl rfl
theorem w_2170 : (Jvm.Cond.methodLink "ShadeBeamsModel" (366 : Nat) ({ cls := "ShadeBeamsModel", name := "laysRaw", desc := "(I)V" } : Jvm.MethodName)) ∈ ALLW := aw tb_9 130 rfl rfl
theorem w_2172 : (Jvm.Cond.instanceMethod ({ cls := "ShadeBeamsModel", name := "laysRaw", desc := "(I)V" } : Jvm.MethodName)) ∈ ALLW := aw tb_9 132 rfl rfl
theorem w_2173 : (Jvm.Cond.code ({ cls := "ShadeBeamsModel", name := "laysRaw", desc := "(I)V" } : Jvm.MethodName) prog_14_method_59_code (7 : Nat) (Option.none : Option Jvm.ClassFile.FieldType)) ∈ ALLW := aw tb_9 133 rfl rfl
theorem w_2174 : (Jvm.Cond.methodLink "ShadeBeamsModel" (369 : Nat) ({ cls := "ShadeBeamsModel", name := "laysShades", desc := "()V" } : Jvm.MethodName)) ∈ ALLW := aw tb_9 134 rfl rfl
theorem w_2176 : (Jvm.Cond.instanceMethod ({ cls := "ShadeBeamsModel", name := "laysShades", desc := "()V" } : Jvm.MethodName)) ∈ ALLW := aw tb_9 136 rfl rfl
theorem w_2177 : (Jvm.Cond.code ({ cls := "ShadeBeamsModel", name := "laysShades", desc := "()V" } : Jvm.MethodName) prog_14_method_64_code (6 : Nat) (Option.none : Option Jvm.ClassFile.FieldType)) ∈ ALLW := aw tb_9 137 rfl rfl
theorem w_2178 : (Jvm.Cond.methodLink "ShadeBeamsModel" (354 : Nat) ({ cls := "ShadeBeamsModel", name := "isLit", desc := "(I)Z" } : Jvm.MethodName)) ∈ ALLW := aw tb_9 138 rfl rfl
theorem w_2180 : (Jvm.Cond.instanceMethod ({ cls := "ShadeBeamsModel", name := "isLit", desc := "(I)Z" } : Jvm.MethodName)) ∈ ALLW := aw tb_9 140 rfl rfl
theorem w_2181 : (Jvm.Cond.code ({ cls := "ShadeBeamsModel", name := "isLit", desc := "(I)Z" } : Jvm.MethodName) prog_14_method_60_code (3 : Nat) (Option.some Jvm.ClassFile.FieldType.boolean)) ∈ ALLW := aw tb_9 141 rfl rfl
theorem w_2182 : (Jvm.Cond.methodLink "ShadeBeamsModel" (357 : Nat) ({ cls := "ShadeBeamsModel", name := "isPosted", desc := "(I)Z" } : Jvm.MethodName)) ∈ ALLW := aw tb_9 142 rfl rfl
theorem w_2184 : (Jvm.Cond.instanceMethod ({ cls := "ShadeBeamsModel", name := "isPosted", desc := "(I)Z" } : Jvm.MethodName)) ∈ ALLW := aw tb_9 144 rfl rfl
theorem w_2185 : (Jvm.Cond.code ({ cls := "ShadeBeamsModel", name := "isPosted", desc := "(I)Z" } : Jvm.MethodName) prog_14_method_61_code (3 : Nat) (Option.some Jvm.ClassFile.FieldType.boolean)) ∈ ALLW := aw tb_9 145 rfl rfl
theorem w_2186 : (Jvm.Cond.methodLink "ShadeBeamsModel" (360 : Nat) ({ cls := "ShadeBeamsModel", name := "ones", desc := "(I)I" } : Jvm.MethodName)) ∈ ALLW := aw tb_9 146 rfl rfl
theorem w_2187 : (Jvm.Cond.static ({ cls := "ShadeBeamsModel", name := "ones", desc := "(I)I" } : Jvm.MethodName)) ∈ ALLW := aw tb_9 147 rfl rfl
theorem w_2188 : (Jvm.Cond.code ({ cls := "ShadeBeamsModel", name := "ones", desc := "(I)I" } : Jvm.MethodName) prog_14_method_62_code (3 : Nat) (Option.some Jvm.ClassFile.FieldType.int)) ∈ ALLW := aw tb_9 148 rfl rfl
theorem w_2189 : (Jvm.Cond.methodLink "ShadeBeamsModel" (363 : Nat) ({ cls := "ShadeBeamsModel", name := "tallOf", desc := "(I)I" } : Jvm.MethodName)) ∈ ALLW := aw tb_9 149 rfl rfl
theorem w_2191 : (Jvm.Cond.instanceMethod ({ cls := "ShadeBeamsModel", name := "tallOf", desc := "(I)I" } : Jvm.MethodName)) ∈ ALLW := aw tb_9 151 rfl rfl
theorem w_2192 : (Jvm.Cond.code ({ cls := "ShadeBeamsModel", name := "tallOf", desc := "(I)I" } : Jvm.MethodName) prog_14_method_63_code (4 : Nat) (Option.some Jvm.ClassFile.FieldType.int)) ∈ ALLW := aw tb_9 152 rfl rfl
theorem w_2193 : (Jvm.Cond.methodLink "ShadeBeamsLaw" (196 : Nat) ({ cls := "ShadeBeamsModel", name := "bears", desc := "(II)I" } : Jvm.MethodName)) ∈ ALLW := aw tb_9 153 rfl rfl
theorem w_2194 : (Jvm.Cond.instanceMethod ({ cls := "ShadeBeamsModel", name := "bears", desc := "(II)I" } : Jvm.MethodName)) ∈ ALLW := aw tb_9 154 rfl rfl
theorem w_2195 : (Jvm.Cond.selects "ShadeBeamsModel" ({ cls := "ShadeBeamsModel", name := "bears", desc := "(II)I" } : Jvm.MethodName) ({ cls := "ShadeBeamsModel", name := "bears", desc := "(II)I" } : Jvm.MethodName)) ∈ ALLW := aw tb_9 155 rfl rfl
theorem w_2196 : (Jvm.Cond.code ({ cls := "ShadeBeamsModel", name := "bears", desc := "(II)I" } : Jvm.MethodName) prog_14_method_69_code (3 : Nat) (Option.some Jvm.ClassFile.FieldType.int)) ∈ ALLW := aw tb_9 156 rfl rfl
theorem w_2197 : (Jvm.Cond.methodLink "ShadeBeamsLaw" (203 : Nat) ({ cls := "ShadeBeamsModel", name := "rests", desc := "(III)J" } : Jvm.MethodName)) ∈ ALLW := aw tb_9 157 rfl rfl
theorem w_2198 : (Jvm.Cond.instanceMethod ({ cls := "ShadeBeamsModel", name := "rests", desc := "(III)J" } : Jvm.MethodName)) ∈ ALLW := aw tb_9 158 rfl rfl
theorem w_2199 : (Jvm.Cond.selects "ShadeBeamsModel" ({ cls := "ShadeBeamsModel", name := "rests", desc := "(III)J" } : Jvm.MethodName) ({ cls := "ShadeBeamsModel", name := "rests", desc := "(III)J" } : Jvm.MethodName)) ∈ ALLW := aw tb_9 159 rfl rfl
theorem w_2200 : (Jvm.Cond.code ({ cls := "ShadeBeamsModel", name := "rests", desc := "(III)J" } : Jvm.MethodName) prog_14_method_76_code (4 : Nat) (Option.some Jvm.ClassFile.FieldType.long)) ∈ ALLW := aw tb_9 160 rfl rfl
theorem w_2201 : (Jvm.Cond.methodLink "ShadeBeamsModel" (400 : Nat) ({ cls := "ShadeBeamsModel", name := "runsNow", desc := "()I" } : Jvm.MethodName)) ∈ ALLW := aw tb_9 161 rfl rfl
theorem w_2203 : (Jvm.Cond.instanceMethod ({ cls := "ShadeBeamsModel", name := "runsNow", desc := "()I" } : Jvm.MethodName)) ∈ ALLW := aw tb_9 163 rfl rfl
theorem w_2204 : (Jvm.Cond.code ({ cls := "ShadeBeamsModel", name := "runsNow", desc := "()I" } : Jvm.MethodName) prog_14_method_74_code (1 : Nat) (Option.some Jvm.ClassFile.FieldType.int)) ∈ ALLW := aw tb_9 164 rfl rfl
theorem w_2205 : (Jvm.Cond.methodLink "ShadeBeamsModel" (397 : Nat) ({ cls := "ShadeBeamsModel", name := "runs", desc := "()I" } : Jvm.MethodName)) ∈ ALLW := aw tb_9 165 rfl rfl
theorem w_2207 : (Jvm.Cond.instanceMethod ({ cls := "ShadeBeamsModel", name := "runs", desc := "()I" } : Jvm.MethodName)) ∈ ALLW := aw tb_9 167 rfl rfl
theorem w_2208 : (Jvm.Cond.code ({ cls := "ShadeBeamsModel", name := "runs", desc := "()I" } : Jvm.MethodName) prog_14_method_73_code (3 : Nat) (Option.some Jvm.ClassFile.FieldType.int)) ∈ ALLW := aw tb_9 168 rfl rfl
theorem w_2209 : (Jvm.Cond.methodLink "ShadeBeamsModel" (390 : Nat) ({ cls := "ShadeBeamsModel", name := "rest", desc := "(I)V" } : Jvm.MethodName)) ∈ ALLW := aw tb_9 169 rfl rfl
theorem w_2211 : (Jvm.Cond.instanceMethod ({ cls := "ShadeBeamsModel", name := "rest", desc := "(I)V" } : Jvm.MethodName)) ∈ ALLW := aw tb_9 171 rfl rfl
theorem w_2212 : (Jvm.Cond.code ({ cls := "ShadeBeamsModel", name := "rest", desc := "(I)V" } : Jvm.MethodName) prog_14_method_71_code (3 : Nat) (Option.none : Option Jvm.ClassFile.FieldType)) ∈ ALLW := aw tb_9 172 rfl rfl
theorem w_2213 : (Jvm.Cond.methodLink "ShadeBeamsModel" (383 : Nat) ({ cls := "ShadeBeamsModel", name := "putsOf", desc := "(II)J" } : Jvm.MethodName)) ∈ ALLW := aw tb_9 173 rfl rfl
theorem w_2215 : (Jvm.Cond.instanceMethod ({ cls := "ShadeBeamsModel", name := "putsOf", desc := "(II)J" } : Jvm.MethodName)) ∈ ALLW := aw tb_9 175 rfl rfl
theorem w_2216 : (Jvm.Cond.code ({ cls := "ShadeBeamsModel", name := "putsOf", desc := "(II)J" } : Jvm.MethodName) prog_14_method_70_code (6 : Nat) (Option.some Jvm.ClassFile.FieldType.long)) ∈ ALLW := aw tb_9 176 rfl rfl
theorem w_2217 : (Jvm.Cond.constantLong "ShadeBeamsModel" (381 : Nat) (232792560 : Int64)) ∈ ALLW := aw tb_9 177 rfl rfl
theorem w_2218 : (Jvm.Cond.methodLink "ShadeBeamsModel" (393 : Nat) ({ cls := "ShadeBeamsModel", name := "isOver", desc := "(II)Z" } : Jvm.MethodName)) ∈ ALLW := aw tb_9 178 rfl rfl
theorem w_2220 : (Jvm.Cond.instanceMethod ({ cls := "ShadeBeamsModel", name := "isOver", desc := "(II)Z" } : Jvm.MethodName)) ∈ ALLW := aw tb_9 180 rfl rfl
theorem w_2221 : (Jvm.Cond.code ({ cls := "ShadeBeamsModel", name := "isOver", desc := "(II)Z" } : Jvm.MethodName) prog_14_method_72_code (3 : Nat) (Option.some Jvm.ClassFile.FieldType.boolean)) ∈ ALLW := aw tb_9 181 rfl rfl
theorem w_2222 : (Jvm.Cond.methodLink "ShadeBeamsModel" (403 : Nat) ({ cls := "ShadeBeamsModel", name := "least", desc := "(JJI)J" } : Jvm.MethodName)) ∈ ALLW := aw tb_9 182 rfl rfl
theorem w_2223 : (Jvm.Cond.static ({ cls := "ShadeBeamsModel", name := "least", desc := "(JJI)J" } : Jvm.MethodName)) ∈ ALLW := aw tb_9 183 rfl rfl
theorem w_2224 : (Jvm.Cond.code ({ cls := "ShadeBeamsModel", name := "least", desc := "(JJI)J" } : Jvm.MethodName) prog_14_method_75_code (11 : Nat) (Option.some Jvm.ClassFile.FieldType.long)) ∈ ALLW := aw tb_9 184 rfl rfl
theorem w_2225 : (Jvm.Cond.methodLink "ShadeBeamsLaw" (285 : Nat) ({ cls := "ShadeBeamsModel", name := "slack", desc := "(III)J" } : Jvm.MethodName)) ∈ ALLW := aw tb_9 185 rfl rfl
theorem w_2226 : (Jvm.Cond.instanceMethod ({ cls := "ShadeBeamsModel", name := "slack", desc := "(III)J" } : Jvm.MethodName)) ∈ ALLW := aw tb_9 186 rfl rfl
theorem w_2227 : (Jvm.Cond.selects "ShadeBeamsModel" ({ cls := "ShadeBeamsModel", name := "slack", desc := "(III)J" } : Jvm.MethodName) ({ cls := "ShadeBeamsModel", name := "slack", desc := "(III)J" } : Jvm.MethodName)) ∈ ALLW := aw tb_9 187 rfl rfl
theorem w_2228 : (Jvm.Cond.code ({ cls := "ShadeBeamsModel", name := "slack", desc := "(III)J" } : Jvm.MethodName) prog_14_method_77_code (4 : Nat) (Option.some Jvm.ClassFile.FieldType.long)) ∈ ALLW := aw tb_9 188 rfl rfl
theorem w_2229 : (Jvm.Cond.methodLink "ShadeBeamsLaw" (206 : Nat) ({ cls := "ShadeBeamsModel", name := "puts", desc := "(III)J" } : Jvm.MethodName)) ∈ ALLW := aw tb_9 189 rfl rfl
theorem w_2230 : (Jvm.Cond.instanceMethod ({ cls := "ShadeBeamsModel", name := "puts", desc := "(III)J" } : Jvm.MethodName)) ∈ ALLW := aw tb_9 190 rfl rfl
theorem w_2231 : (Jvm.Cond.selects "ShadeBeamsModel" ({ cls := "ShadeBeamsModel", name := "puts", desc := "(III)J" } : Jvm.MethodName) ({ cls := "ShadeBeamsModel", name := "puts", desc := "(III)J" } : Jvm.MethodName)) ∈ ALLW := aw tb_9 191 rfl rfl
theorem w_2232 : (Jvm.Cond.code ({ cls := "ShadeBeamsModel", name := "puts", desc := "(III)J" } : Jvm.MethodName) prog_14_method_78_code (4 : Nat) (Option.some Jvm.ClassFile.FieldType.long)) ∈ ALLW := aw tb_9 192 rfl rfl
theorem w_2233 : (Jvm.Cond.methodLink "ShadeBeamsLaw" (209 : Nat) ({ cls := "ShadeBeamsModel", name := "falls", desc := "(I)I" } : Jvm.MethodName)) ∈ ALLW := aw tb_9 193 rfl rfl
theorem w_2234 : (Jvm.Cond.instanceMethod ({ cls := "ShadeBeamsModel", name := "falls", desc := "(I)I" } : Jvm.MethodName)) ∈ ALLW := aw tb_9 194 rfl rfl
theorem w_2235 : (Jvm.Cond.selects "ShadeBeamsModel" ({ cls := "ShadeBeamsModel", name := "falls", desc := "(I)I" } : Jvm.MethodName) ({ cls := "ShadeBeamsModel", name := "falls", desc := "(I)I" } : Jvm.MethodName)) ∈ ALLW := aw tb_9 195 rfl rfl
theorem w_2236 : (Jvm.Cond.code ({ cls := "ShadeBeamsModel", name := "falls", desc := "(I)I" } : Jvm.MethodName) prog_14_method_79_code (2 : Nat) (Option.some Jvm.ClassFile.FieldType.int)) ∈ ALLW := aw tb_9 196 rfl rfl
theorem w_2237 : (Jvm.Cond.methodLink "ShadeBeamsLaw" (291 : Nat) ({ cls := "ShadeBeamsModel", name := "lasts", desc := "(I)I" } : Jvm.MethodName)) ∈ ALLW := aw tb_9 197 rfl rfl
theorem w_2238 : (Jvm.Cond.instanceMethod ({ cls := "ShadeBeamsModel", name := "lasts", desc := "(I)I" } : Jvm.MethodName)) ∈ ALLW := aw tb_9 198 rfl rfl
theorem w_2239 : (Jvm.Cond.selects "ShadeBeamsModel" ({ cls := "ShadeBeamsModel", name := "lasts", desc := "(I)I" } : Jvm.MethodName) ({ cls := "ShadeBeamsModel", name := "lasts", desc := "(I)I" } : Jvm.MethodName)) ∈ ALLW := aw tb_9 199 rfl rfl
theorem w_2240 : (Jvm.Cond.code ({ cls := "ShadeBeamsModel", name := "lasts", desc := "(I)I" } : Jvm.MethodName) prog_14_method_80_code (2 : Nat) (Option.some Jvm.ClassFile.FieldType.int)) ∈ ALLW := aw tb_9 200 rfl rfl
theorem w_2241 : (Jvm.Cond.methodLink "ShadeBeamsLaw" (212 : Nat) ({ cls := "ShadeBeamsModel", name := "lies", desc := "(II)I" } : Jvm.MethodName)) ∈ ALLW := aw tb_9 201 rfl rfl
theorem w_2242 : (Jvm.Cond.instanceMethod ({ cls := "ShadeBeamsModel", name := "lies", desc := "(II)I" } : Jvm.MethodName)) ∈ ALLW := aw tb_9 202 rfl rfl
theorem w_2243 : (Jvm.Cond.selects "ShadeBeamsModel" ({ cls := "ShadeBeamsModel", name := "lies", desc := "(II)I" } : Jvm.MethodName) ({ cls := "ShadeBeamsModel", name := "lies", desc := "(II)I" } : Jvm.MethodName)) ∈ ALLW := aw tb_9 203 rfl rfl
theorem w_2244 : (Jvm.Cond.code ({ cls := "ShadeBeamsModel", name := "lies", desc := "(II)I" } : Jvm.MethodName) prog_14_method_81_code (3 : Nat) (Option.some Jvm.ClassFile.FieldType.int)) ∈ ALLW := aw tb_9 204 rfl rfl
theorem w_2245 : (Jvm.Cond.methodLink "ShadeBeamsLaw" (216 : Nat) ({ cls := "ShadeBeamsModel", name := "fallen", desc := "()I" } : Jvm.MethodName)) ∈ ALLW := aw tb_9 205 rfl rfl
theorem w_2246 : (Jvm.Cond.instanceMethod ({ cls := "ShadeBeamsModel", name := "fallen", desc := "()I" } : Jvm.MethodName)) ∈ ALLW := aw tb_9 206 rfl rfl
theorem w_2247 : (Jvm.Cond.selects "ShadeBeamsModel" ({ cls := "ShadeBeamsModel", name := "fallen", desc := "()I" } : Jvm.MethodName) ({ cls := "ShadeBeamsModel", name := "fallen", desc := "()I" } : Jvm.MethodName)) ∈ ALLW := aw tb_9 207 rfl rfl
theorem w_2248 : (Jvm.Cond.code ({ cls := "ShadeBeamsModel", name := "fallen", desc := "()I" } : Jvm.MethodName) prog_14_method_83_code (1 : Nat) (Option.some Jvm.ClassFile.FieldType.int)) ∈ ALLW := aw tb_9 208 rfl rfl
theorem w_2249 : (Jvm.Cond.methodLink "ShadeBeamsModel" (407 : Nat) ({ cls := "ShadeBeamsModel", name := "fallenBits", desc := "()I" } : Jvm.MethodName)) ∈ ALLW := aw tb_9 209 rfl rfl
theorem w_2251 : (Jvm.Cond.instanceMethod ({ cls := "ShadeBeamsModel", name := "fallenBits", desc := "()I" } : Jvm.MethodName)) ∈ ALLW := aw tb_9 211 rfl rfl
theorem w_2252 : (Jvm.Cond.code ({ cls := "ShadeBeamsModel", name := "fallenBits", desc := "()I" } : Jvm.MethodName) prog_14_method_82_code (3 : Nat) (Option.some Jvm.ClassFile.FieldType.int)) ∈ ALLW := aw tb_9 212 rfl rfl
theorem w_2253 : (Jvm.Cond.methodLink "ShadeBeamsLaw" (220 : Nat) ({ cls := "ShadeBeamsModel", name := "order", desc := "(I)I" } : Jvm.MethodName)) ∈ ALLW := aw tb_9 213 rfl rfl
theorem w_2254 : (Jvm.Cond.instanceMethod ({ cls := "ShadeBeamsModel", name := "order", desc := "(I)I" } : Jvm.MethodName)) ∈ ALLW := aw tb_9 214 rfl rfl
theorem w_2255 : (Jvm.Cond.selects "ShadeBeamsModel" ({ cls := "ShadeBeamsModel", name := "order", desc := "(I)I" } : Jvm.MethodName) ({ cls := "ShadeBeamsModel", name := "order", desc := "(I)I" } : Jvm.MethodName)) ∈ ALLW := aw tb_9 215 rfl rfl
theorem w_2256 : (Jvm.Cond.code ({ cls := "ShadeBeamsModel", name := "order", desc := "(I)I" } : Jvm.MethodName) prog_14_method_84_code (2 : Nat) (Option.some Jvm.ClassFile.FieldType.int)) ∈ ALLW := aw tb_9 216 rfl rfl
theorem w_2257 : (Jvm.Cond.methodLink "ShadeBeamsLaw" (223 : Nat) ({ cls := "ShadeBeamsModel", name := "day", desc := "(I)I" } : Jvm.MethodName)) ∈ ALLW := aw tb_9 217 rfl rfl
theorem w_2258 : (Jvm.Cond.instanceMethod ({ cls := "ShadeBeamsModel", name := "day", desc := "(I)I" } : Jvm.MethodName)) ∈ ALLW := aw tb_9 218 rfl rfl
theorem w_2259 : (Jvm.Cond.selects "ShadeBeamsModel" ({ cls := "ShadeBeamsModel", name := "day", desc := "(I)I" } : Jvm.MethodName) ({ cls := "ShadeBeamsModel", name := "day", desc := "(I)I" } : Jvm.MethodName)) ∈ ALLW := aw tb_9 219 rfl rfl
theorem w_2260 : (Jvm.Cond.code ({ cls := "ShadeBeamsModel", name := "day", desc := "(I)I" } : Jvm.MethodName) prog_14_method_85_code (3 : Nat) (Option.some Jvm.ClassFile.FieldType.int)) ∈ ALLW := aw tb_9 220 rfl rfl
theorem w_2261 : (Jvm.Cond.methodLink "ShadeBeamsLaw" (226 : Nat) ({ cls := "ShadeBeamsModel", name := "kept", desc := "(III)I" } : Jvm.MethodName)) ∈ ALLW := aw tb_9 221 rfl rfl
theorem w_2262 : (Jvm.Cond.instanceMethod ({ cls := "ShadeBeamsModel", name := "kept", desc := "(III)I" } : Jvm.MethodName)) ∈ ALLW := aw tb_9 222 rfl rfl
theorem w_2263 : (Jvm.Cond.selects "ShadeBeamsModel" ({ cls := "ShadeBeamsModel", name := "kept", desc := "(III)I" } : Jvm.MethodName) ({ cls := "ShadeBeamsModel", name := "kept", desc := "(III)I" } : Jvm.MethodName)) ∈ ALLW := aw tb_9 223 rfl rfl
theorem w_2264 : (Jvm.Cond.code ({ cls := "ShadeBeamsModel", name := "kept", desc := "(III)I" } : Jvm.MethodName) prog_14_method_90_code (5 : Nat) (Option.some Jvm.ClassFile.FieldType.int)) ∈ ALLW := aw tb_9 224 rfl rfl
theorem w_2265 : (Jvm.Cond.methodLink "ShadeBeamsModel" (416 : Nat) ({ cls := "ShadeBeamsModel", name := "laysCarries", desc := "(III)V" } : Jvm.MethodName)) ∈ ALLW := aw tb_9 225 rfl rfl
theorem w_2267 : (Jvm.Cond.instanceMethod ({ cls := "ShadeBeamsModel", name := "laysCarries", desc := "(III)V" } : Jvm.MethodName)) ∈ ALLW := aw tb_9 227 rfl rfl
theorem w_2268 : (Jvm.Cond.code ({ cls := "ShadeBeamsModel", name := "laysCarries", desc := "(III)V" } : Jvm.MethodName) prog_14_method_88_code (8 : Nat) (Option.none : Option Jvm.ClassFile.FieldType)) ∈ ALLW := aw tb_9 228 rfl rfl
theorem w_2269 : (Jvm.Cond.methodLink "ShadeBeamsModel" (410 : Nat) ({ cls := "ShadeBeamsModel", name := "endsOf", desc := "(I)I" } : Jvm.MethodName)) ∈ ALLW := aw tb_9 229 rfl rfl
theorem w_2271 : (Jvm.Cond.instanceMethod ({ cls := "ShadeBeamsModel", name := "endsOf", desc := "(I)I" } : Jvm.MethodName)) ∈ ALLW := aw tb_9 231 rfl rfl
theorem w_2272 : (Jvm.Cond.code ({ cls := "ShadeBeamsModel", name := "endsOf", desc := "(I)I" } : Jvm.MethodName) prog_14_method_87_code (2 : Nat) (Option.some Jvm.ClassFile.FieldType.int)) ∈ ALLW := aw tb_9 232 rfl rfl
theorem w_2273 : (Jvm.Cond.methodLink "ShadeBeamsModel" (413 : Nat) ({ cls := "ShadeBeamsModel", name := "standsAt", desc := "(III)Z" } : Jvm.MethodName)) ∈ ALLW := aw tb_9 233 rfl rfl
theorem w_2275 : (Jvm.Cond.instanceMethod ({ cls := "ShadeBeamsModel", name := "standsAt", desc := "(III)Z" } : Jvm.MethodName)) ∈ ALLW := aw tb_9 235 rfl rfl
theorem w_2276 : (Jvm.Cond.code ({ cls := "ShadeBeamsModel", name := "standsAt", desc := "(III)Z" } : Jvm.MethodName) prog_14_method_86_code (4 : Nat) (Option.some Jvm.ClassFile.FieldType.boolean)) ∈ ALLW := aw tb_9 236 rfl rfl
theorem w_2277 : (Jvm.Cond.methodLink "ShadeBeamsModel" (420 : Nat) ({ cls := "ShadeBeamsModel", name := "nextEnd", desc := "(III)I" } : Jvm.MethodName)) ∈ ALLW := aw tb_9 237 rfl rfl
theorem w_2279 : (Jvm.Cond.instanceMethod ({ cls := "ShadeBeamsModel", name := "nextEnd", desc := "(III)I" } : Jvm.MethodName)) ∈ ALLW := aw tb_9 239 rfl rfl
theorem w_2280 : (Jvm.Cond.code ({ cls := "ShadeBeamsModel", name := "nextEnd", desc := "(III)I" } : Jvm.MethodName) prog_14_method_89_code (8 : Nat) (Option.some Jvm.ClassFile.FieldType.int)) ∈ ALLW := aw tb_10 0 rfl rfl
theorem w_2281 : (Jvm.Cond.methodLink "ShadeBeamsLaw" (229 : Nat) ({ cls := "ShadeBeamsModel", name := "carry", desc := "(IIII)I" } : Jvm.MethodName)) ∈ ALLW := aw tb_10 1 rfl rfl
theorem w_2282 : (Jvm.Cond.instanceMethod ({ cls := "ShadeBeamsModel", name := "carry", desc := "(IIII)I" } : Jvm.MethodName)) ∈ ALLW := aw tb_10 2 rfl rfl
theorem w_2283 : (Jvm.Cond.selects "ShadeBeamsModel" ({ cls := "ShadeBeamsModel", name := "carry", desc := "(IIII)I" } : Jvm.MethodName) ({ cls := "ShadeBeamsModel", name := "carry", desc := "(IIII)I" } : Jvm.MethodName)) ∈ ALLW := aw tb_10 3 rfl rfl
theorem w_2284 : (Jvm.Cond.code ({ cls := "ShadeBeamsModel", name := "carry", desc := "(IIII)I" } : Jvm.MethodName) prog_14_method_91_code (7 : Nat) (Option.some Jvm.ClassFile.FieldType.int)) ∈ ALLW := aw tb_10 4 rfl rfl
theorem w_2285 : (Jvm.Cond.methodLink "ShadeBeamsLaw" (232 : Nat) ({ cls := "ShadeBeamsModel", name := "lit", desc := "(III)I" } : Jvm.MethodName)) ∈ ALLW := aw tb_10 5 rfl rfl
theorem w_2286 : (Jvm.Cond.instanceMethod ({ cls := "ShadeBeamsModel", name := "lit", desc := "(III)I" } : Jvm.MethodName)) ∈ ALLW := aw tb_10 6 rfl rfl
theorem w_2287 : (Jvm.Cond.selects "ShadeBeamsModel" ({ cls := "ShadeBeamsModel", name := "lit", desc := "(III)I" } : Jvm.MethodName) ({ cls := "ShadeBeamsModel", name := "lit", desc := "(III)I" } : Jvm.MethodName)) ∈ ALLW := aw tb_10 7 rfl rfl
theorem w_2288 : (Jvm.Cond.code ({ cls := "ShadeBeamsModel", name := "lit", desc := "(III)I" } : Jvm.MethodName) prog_14_method_93_code (5 : Nat) (Option.some Jvm.ClassFile.FieldType.int)) ∈ ALLW := aw tb_10 8 rfl rfl
theorem w_2289 : (Jvm.Cond.methodLink "ShadeBeamsModel" (429 : Nat) ({ cls := "ShadeBeamsModel", name := "lights", desc := "(IIIIII)V" } : Jvm.MethodName)) ∈ ALLW := aw tb_10 9 rfl rfl
theorem w_2291 : (Jvm.Cond.instanceMethod ({ cls := "ShadeBeamsModel", name := "lights", desc := "(IIIIII)V" } : Jvm.MethodName)) ∈ ALLW := aw tb_10 11 rfl rfl
theorem w_2292 : (Jvm.Cond.code ({ cls := "ShadeBeamsModel", name := "lights", desc := "(IIIIII)V" } : Jvm.MethodName) prog_14_method_92_code (8 : Nat) (Option.none : Option Jvm.ClassFile.FieldType)) ∈ ALLW := aw tb_10 12 rfl rfl
theorem w_2293 : (Jvm.Cond.methodLink "ShadeBeamsLaw" (235 : Nat) ({ cls := "ShadeBeamsModel", name := "tower", desc := "(II)I" } : Jvm.MethodName)) ∈ ALLW := aw tb_10 13 rfl rfl
theorem w_2294 : (Jvm.Cond.instanceMethod ({ cls := "ShadeBeamsModel", name := "tower", desc := "(II)I" } : Jvm.MethodName)) ∈ ALLW := aw tb_10 14 rfl rfl
theorem w_2295 : (Jvm.Cond.selects "ShadeBeamsModel" ({ cls := "ShadeBeamsModel", name := "tower", desc := "(II)I" } : Jvm.MethodName) ({ cls := "ShadeBeamsModel", name := "tower", desc := "(II)I" } : Jvm.MethodName)) ∈ ALLW := aw tb_10 15 rfl rfl
theorem w_2296 : (Jvm.Cond.code ({ cls := "ShadeBeamsModel", name := "tower", desc := "(II)I" } : Jvm.MethodName) prog_14_method_96_code (7 : Nat) (Option.some Jvm.ClassFile.FieldType.int)) ∈ ALLW := aw tb_10 16 rfl rfl
theorem w_2297 : (Jvm.Cond.methodLink "ShadeBeamsModel" (433 : Nat) ({ cls := "ShadeBeamsModel", name := "isToldPost", desc := "(I)Z" } : Jvm.MethodName)) ∈ ALLW := aw tb_10 17 rfl rfl
theorem w_2299 : (Jvm.Cond.instanceMethod ({ cls := "ShadeBeamsModel", name := "isToldPost", desc := "(I)Z" } : Jvm.MethodName)) ∈ ALLW := aw tb_10 19 rfl rfl
theorem w_2300 : (Jvm.Cond.code ({ cls := "ShadeBeamsModel", name := "isToldPost", desc := "(I)Z" } : Jvm.MethodName) prog_14_method_95_code (3 : Nat) (Option.some Jvm.ClassFile.FieldType.boolean)) ∈ ALLW := aw tb_10 20 rfl rfl
theorem w_2301 : (Jvm.Cond.methodLink "ShadeBeamsModel" (436 : Nat) ({ cls := "ShadeBeamsModel", name := "fallsWith", desc := "(II)I" } : Jvm.MethodName)) ∈ ALLW := aw tb_10 21 rfl rfl
theorem w_2303 : (Jvm.Cond.instanceMethod ({ cls := "ShadeBeamsModel", name := "fallsWith", desc := "(II)I" } : Jvm.MethodName)) ∈ ALLW := aw tb_10 23 rfl rfl
theorem w_2304 : (Jvm.Cond.code ({ cls := "ShadeBeamsModel", name := "fallsWith", desc := "(II)I" } : Jvm.MethodName) prog_14_method_94_code (3 : Nat) (Option.some Jvm.ClassFile.FieldType.int)) ∈ ALLW := aw tb_10 24 rfl rfl
theorem w_2305 : (Jvm.Cond.methodLink "ShadeBeamsLaw" (238 : Nat) ({ cls := "ShadeBeamsModel", name := "worth", desc := "(I)I" } : Jvm.MethodName)) ∈ ALLW := aw tb_10 25 rfl rfl
theorem w_2306 : (Jvm.Cond.instanceMethod ({ cls := "ShadeBeamsModel", name := "worth", desc := "(I)I" } : Jvm.MethodName)) ∈ ALLW := aw tb_10 26 rfl rfl
theorem w_2307 : (Jvm.Cond.selects "ShadeBeamsModel" ({ cls := "ShadeBeamsModel", name := "worth", desc := "(I)I" } : Jvm.MethodName) ({ cls := "ShadeBeamsModel", name := "worth", desc := "(I)I" } : Jvm.MethodName)) ∈ ALLW := aw tb_10 27 rfl rfl
theorem w_2308 : (Jvm.Cond.code ({ cls := "ShadeBeamsModel", name := "worth", desc := "(I)I" } : Jvm.MethodName) prog_14_method_97_code (6 : Nat) (Option.some Jvm.ClassFile.FieldType.int)) ∈ ALLW := aw tb_10 28 rfl rfl
theorem w_2309 : (Jvm.Cond.methodLink "ShadeBeamsLaw" (244 : Nat) ({ cls := "ShadeBeamsModel", name := "missing", desc := "(II)I" } : Jvm.MethodName)) ∈ ALLW := aw tb_10 29 rfl rfl
theorem w_2310 : (Jvm.Cond.instanceMethod ({ cls := "ShadeBeamsModel", name := "missing", desc := "(II)I" } : Jvm.MethodName)) ∈ ALLW := aw tb_10 30 rfl rfl
theorem w_2311 : (Jvm.Cond.selects "ShadeBeamsModel" ({ cls := "ShadeBeamsModel", name := "missing", desc := "(II)I" } : Jvm.MethodName) ({ cls := "ShadeBeamsModel", name := "missing", desc := "(II)I" } : Jvm.MethodName)) ∈ ALLW := aw tb_10 31 rfl rfl
theorem w_2312 : (Jvm.Cond.code ({ cls := "ShadeBeamsModel", name := "missing", desc := "(II)I" } : Jvm.MethodName) prog_14_method_99_code (6 : Nat) (Option.some Jvm.ClassFile.FieldType.int)) ∈ ALLW := aw tb_10 32 rfl rfl
theorem w_2313 : (Jvm.Cond.methodLink "ShadeBeamsModel" (439 : Nat) ({ cls := "ShadeBeamsModel", name := "rightLines", desc := "()I" } : Jvm.MethodName)) ∈ ALLW := aw tb_10 33 rfl rfl
theorem w_2315 : (Jvm.Cond.instanceMethod ({ cls := "ShadeBeamsModel", name := "rightLines", desc := "()I" } : Jvm.MethodName)) ∈ ALLW := aw tb_10 35 rfl rfl
theorem w_2316 : (Jvm.Cond.code ({ cls := "ShadeBeamsModel", name := "rightLines", desc := "()I" } : Jvm.MethodName) prog_14_method_98_code (2 : Nat) (Option.some Jvm.ClassFile.FieldType.int)) ∈ ALLW := aw tb_10 36 rfl rfl
theorem w_2317 : (Jvm.Cond.methodLink "ShadeBeamsLaw" (248 : Nat) ({ cls := "ShadeBeamsModel", name := "right", desc := "()I" } : Jvm.MethodName)) ∈ ALLW := aw tb_10 37 rfl rfl
theorem w_2318 : (Jvm.Cond.instanceMethod ({ cls := "ShadeBeamsModel", name := "right", desc := "()I" } : Jvm.MethodName)) ∈ ALLW := aw tb_10 38 rfl rfl
theorem w_2319 : (Jvm.Cond.selects "ShadeBeamsModel" ({ cls := "ShadeBeamsModel", name := "right", desc := "()I" } : Jvm.MethodName) ({ cls := "ShadeBeamsModel", name := "right", desc := "()I" } : Jvm.MethodName)) ∈ ALLW := aw tb_10 39 rfl rfl
theorem w_2320 : (Jvm.Cond.code ({ cls := "ShadeBeamsModel", name := "right", desc := "()I" } : Jvm.MethodName) prog_14_method_100_code (1 : Nat) (Option.some Jvm.ClassFile.FieldType.int)) ∈ ALLW := aw tb_10 40 rfl rfl
theorem w_2321 : (Jvm.Cond.methodLink "ShadeBeamsLaw" (241 : Nat) ({ cls := "ShadeBeamsModel", name := "walk", desc := "(IIII)I" } : Jvm.MethodName)) ∈ ALLW := aw tb_10 41 rfl rfl
theorem w_2322 : (Jvm.Cond.instanceMethod ({ cls := "ShadeBeamsModel", name := "walk", desc := "(IIII)I" } : Jvm.MethodName)) ∈ ALLW := aw tb_10 42 rfl rfl
theorem w_2323 : (Jvm.Cond.selects "ShadeBeamsModel" ({ cls := "ShadeBeamsModel", name := "walk", desc := "(IIII)I" } : Jvm.MethodName) ({ cls := "ShadeBeamsModel", name := "walk", desc := "(IIII)I" } : Jvm.MethodName)) ∈ ALLW := aw tb_10 43 rfl rfl
theorem w_2324 : (Jvm.Cond.code ({ cls := "ShadeBeamsModel", name := "walk", desc := "(IIII)I" } : Jvm.MethodName) prog_14_method_101_code (8 : Nat) (Option.some Jvm.ClassFile.FieldType.int)) ∈ ALLW := aw tb_10 44 rfl rfl
theorem w_2325 : (Jvm.Cond.methodLink "ShadeBeamsLaw" (251 : Nat) ({ cls := "ShadeBeamsModel", name := "whole", desc := "(II)I" } : Jvm.MethodName)) ∈ ALLW := aw tb_10 45 rfl rfl
theorem w_2326 : (Jvm.Cond.instanceMethod ({ cls := "ShadeBeamsModel", name := "whole", desc := "(II)I" } : Jvm.MethodName)) ∈ ALLW := aw tb_10 46 rfl rfl
theorem w_2327 : (Jvm.Cond.selects "ShadeBeamsModel" ({ cls := "ShadeBeamsModel", name := "whole", desc := "(II)I" } : Jvm.MethodName) ({ cls := "ShadeBeamsModel", name := "whole", desc := "(II)I" } : Jvm.MethodName)) ∈ ALLW := aw tb_10 47 rfl rfl
theorem w_2328 : (Jvm.Cond.code ({ cls := "ShadeBeamsModel", name := "whole", desc := "(II)I" } : Jvm.MethodName) prog_14_method_104_code (5 : Nat) (Option.some Jvm.ClassFile.FieldType.int)) ∈ ALLW := aw tb_10 48 rfl rfl
theorem w_2329 : (Jvm.Cond.methodLink "ShadeBeamsModel" (442 : Nat) ({ cls := "ShadeBeamsModel", name := "isDay", desc := "(I)Z" } : Jvm.MethodName)) ∈ ALLW := aw tb_10 49 rfl rfl
theorem w_2330 : (Jvm.Cond.static ({ cls := "ShadeBeamsModel", name := "isDay", desc := "(I)Z" } : Jvm.MethodName)) ∈ ALLW := aw tb_10 50 rfl rfl
theorem w_2331 : (Jvm.Cond.code ({ cls := "ShadeBeamsModel", name := "isDay", desc := "(I)Z" } : Jvm.MethodName) prog_14_method_103_code (1 : Nat) (Option.some Jvm.ClassFile.FieldType.boolean)) ∈ ALLW := aw tb_10 51 rfl rfl
theorem w_2332 : (Jvm.Cond.methodLink "ShadeBeamsModel" (445 : Nat) ({ cls := "ShadeBeamsModel", name := "isWhole", desc := "(I)Z" } : Jvm.MethodName)) ∈ ALLW := aw tb_10 52 rfl rfl
theorem w_2334 : (Jvm.Cond.instanceMethod ({ cls := "ShadeBeamsModel", name := "isWhole", desc := "(I)Z" } : Jvm.MethodName)) ∈ ALLW := aw tb_10 54 rfl rfl
theorem w_2335 : (Jvm.Cond.code ({ cls := "ShadeBeamsModel", name := "isWhole", desc := "(I)Z" } : Jvm.MethodName) prog_14_method_102_code (2 : Nat) (Option.some Jvm.ClassFile.FieldType.boolean)) ∈ ALLW := aw tb_10 55 rfl rfl
theorem w_2336 : (Jvm.Cond.methodLink "ShadeBeamsLaw" (254 : Nat) ({ cls := "ShadeBeamsModel", name := "next", desc := "(I)I" } : Jvm.MethodName)) ∈ ALLW := aw tb_10 56 rfl rfl
theorem w_2337 : (Jvm.Cond.instanceMethod ({ cls := "ShadeBeamsModel", name := "next", desc := "(I)I" } : Jvm.MethodName)) ∈ ALLW := aw tb_10 57 rfl rfl
theorem w_2338 : (Jvm.Cond.selects "ShadeBeamsModel" ({ cls := "ShadeBeamsModel", name := "next", desc := "(I)I" } : Jvm.MethodName) ({ cls := "ShadeBeamsModel", name := "next", desc := "(I)I" } : Jvm.MethodName)) ∈ ALLW := aw tb_10 58 rfl rfl
theorem w_2339 : (Jvm.Cond.code ({ cls := "ShadeBeamsModel", name := "next", desc := "(I)I" } : Jvm.MethodName) prog_14_method_105_code (3 : Nat) (Option.some Jvm.ClassFile.FieldType.int)) ∈ ALLW := aw tb_10 59 rfl rfl
theorem w_2340 : (Jvm.Cond.methodLink "ShadeBeamsLaw" (258 : Nat) ({ cls := "ShadeBeamsModel", name := "odds", desc := "(IIIII)J" } : Jvm.MethodName)) ∈ ALLW := aw tb_10 60 rfl rfl
theorem w_2341 : (Jvm.Cond.instanceMethod ({ cls := "ShadeBeamsModel", name := "odds", desc := "(IIIII)J" } : Jvm.MethodName)) ∈ ALLW := aw tb_10 61 rfl rfl
theorem w_2342 : (Jvm.Cond.selects "ShadeBeamsModel" ({ cls := "ShadeBeamsModel", name := "odds", desc := "(IIIII)J" } : Jvm.MethodName) ({ cls := "ShadeBeamsModel", name := "odds", desc := "(IIIII)J" } : Jvm.MethodName)) ∈ ALLW := aw tb_10 62 rfl rfl
theorem w_2343 : (Jvm.Cond.code ({ cls := "ShadeBeamsModel", name := "odds", desc := "(IIIII)J" } : Jvm.MethodName) prog_14_method_107_code (11 : Nat) (Option.some Jvm.ClassFile.FieldType.long)) ∈ ALLW := aw tb_10 63 rfl rfl
theorem w_2344 : (Jvm.Cond.methodLink "ShadeBeamsModel" (448 : Nat) ({ cls := "ShadeBeamsModel", name := "standsBy", desc := "(III)Z" } : Jvm.MethodName)) ∈ ALLW := aw tb_10 64 rfl rfl
theorem w_2346 : (Jvm.Cond.instanceMethod ({ cls := "ShadeBeamsModel", name := "standsBy", desc := "(III)Z" } : Jvm.MethodName)) ∈ ALLW := aw tb_10 66 rfl rfl
theorem w_2347 : (Jvm.Cond.code ({ cls := "ShadeBeamsModel", name := "standsBy", desc := "(III)Z" } : Jvm.MethodName) prog_14_method_106_code (4 : Nat) (Option.some Jvm.ClassFile.FieldType.boolean)) ∈ ALLW := aw tb_10 67 rfl rfl
theorem w_2348 : (Jvm.Cond.constantLong "ShadeBeamsModel" (451 : Nat) (16 : Int64)) ∈ ALLW := aw tb_10 68 rfl rfl
theorem w_2349 : (Jvm.Cond.methodLink "ShadeBeamsLaw" (261 : Nat) ({ cls := "ShadeBeamsModel", name := "drawn", desc := "(II)I" } : Jvm.MethodName)) ∈ ALLW := aw tb_10 69 rfl rfl
theorem w_2350 : (Jvm.Cond.instanceMethod ({ cls := "ShadeBeamsModel", name := "drawn", desc := "(II)I" } : Jvm.MethodName)) ∈ ALLW := aw tb_10 70 rfl rfl
theorem w_2351 : (Jvm.Cond.selects "ShadeBeamsModel" ({ cls := "ShadeBeamsModel", name := "drawn", desc := "(II)I" } : Jvm.MethodName) ({ cls := "ShadeBeamsModel", name := "drawn", desc := "(II)I" } : Jvm.MethodName)) ∈ ALLW := aw tb_10 71 rfl rfl
theorem w_2352 : (Jvm.Cond.code ({ cls := "ShadeBeamsModel", name := "drawn", desc := "(II)I" } : Jvm.MethodName) prog_14_method_109_code (3 : Nat) (Option.some Jvm.ClassFile.FieldType.int)) ∈ ALLW := aw tb_10 72 rfl rfl
theorem w_2353 : (Jvm.Cond.methodLink "ShadeBeamsModel" (454 : Nat) ({ cls := "ShadeBeamsModel", name := "drawnBits", desc := "(II)I" } : Jvm.MethodName)) ∈ ALLW := aw tb_10 73 rfl rfl
theorem w_2355 : (Jvm.Cond.instanceMethod ({ cls := "ShadeBeamsModel", name := "drawnBits", desc := "(II)I" } : Jvm.MethodName)) ∈ ALLW := aw tb_10 75 rfl rfl
theorem w_2356 : (Jvm.Cond.code ({ cls := "ShadeBeamsModel", name := "drawnBits", desc := "(II)I" } : Jvm.MethodName) prog_14_method_108_code (5 : Nat) (Option.some Jvm.ClassFile.FieldType.int)) ∈ ALLW := aw tb_10 76 rfl rfl
theorem w_2357 : (Jvm.Cond.constant "ShadeBeamsModel" (453 : Nat) (1103515245 : Int32)) ∈ ALLW := aw tb_10 77 rfl rfl
theorem w_2358 : (Jvm.Cond.methodLink "ShadeBeamsLaw" (264 : Nat) ({ cls := "ShadeBeamsModel", name := "span", desc := "(IIIII)I" } : Jvm.MethodName)) ∈ ALLW := aw tb_10 78 rfl rfl
theorem w_2359 : (Jvm.Cond.instanceMethod ({ cls := "ShadeBeamsModel", name := "span", desc := "(IIIII)I" } : Jvm.MethodName)) ∈ ALLW := aw tb_10 79 rfl rfl
theorem w_2360 : (Jvm.Cond.selects "ShadeBeamsModel" ({ cls := "ShadeBeamsModel", name := "span", desc := "(IIIII)I" } : Jvm.MethodName) ({ cls := "ShadeBeamsModel", name := "span", desc := "(IIIII)I" } : Jvm.MethodName)) ∈ ALLW := aw tb_10 80 rfl rfl
theorem w_2361 : (Jvm.Cond.code ({ cls := "ShadeBeamsModel", name := "span", desc := "(IIIII)I" } : Jvm.MethodName) prog_14_method_110_code (12 : Nat) (Option.some Jvm.ClassFile.FieldType.int)) ∈ ALLW := aw tb_10 81 rfl rfl
theorem w_2362 : (Jvm.Cond.methodLink "ShadeBeamsLaw" (267 : Nat) ({ cls := "ShadeBeamsModel", name := "places", desc := "(III)I" } : Jvm.MethodName)) ∈ ALLW := aw tb_10 82 rfl rfl
theorem w_2363 : (Jvm.Cond.instanceMethod ({ cls := "ShadeBeamsModel", name := "places", desc := "(III)I" } : Jvm.MethodName)) ∈ ALLW := aw tb_10 83 rfl rfl
theorem w_2364 : (Jvm.Cond.selects "ShadeBeamsModel" ({ cls := "ShadeBeamsModel", name := "places", desc := "(III)I" } : Jvm.MethodName) ({ cls := "ShadeBeamsModel", name := "places", desc := "(III)I" } : Jvm.MethodName)) ∈ ALLW := aw tb_10 84 rfl rfl
theorem w_2365 : (Jvm.Cond.code ({ cls := "ShadeBeamsModel", name := "places", desc := "(III)I" } : Jvm.MethodName) prog_14_method_112_code (7 : Nat) (Option.some Jvm.ClassFile.FieldType.int)) ∈ ALLW := aw tb_10 85 rfl rfl
theorem w_2366 : (Jvm.Cond.methodLink "ShadeBeamsModel" (457 : Nat) ({ cls := "ShadeBeamsModel", name := "placesOf", desc := "(II)I" } : Jvm.MethodName)) ∈ ALLW := aw tb_10 86 rfl rfl
theorem w_2368 : (Jvm.Cond.instanceMethod ({ cls := "ShadeBeamsModel", name := "placesOf", desc := "(II)I" } : Jvm.MethodName)) ∈ ALLW := aw tb_10 88 rfl rfl
theorem w_2369 : (Jvm.Cond.code ({ cls := "ShadeBeamsModel", name := "placesOf", desc := "(II)I" } : Jvm.MethodName) prog_14_method_111_code (5 : Nat) (Option.some Jvm.ClassFile.FieldType.int)) ∈ ALLW := aw tb_10 89 rfl rfl
theorem w_2370 : (Jvm.Cond.methodLink "ShadeBeamsLaw" (270 : Nat) ({ cls := "ShadeBeamsModel", name := "row", desc := "(II)I" } : Jvm.MethodName)) ∈ ALLW := aw tb_10 90 rfl rfl
theorem w_2371 : (Jvm.Cond.instanceMethod ({ cls := "ShadeBeamsModel", name := "row", desc := "(II)I" } : Jvm.MethodName)) ∈ ALLW := aw tb_10 91 rfl rfl
theorem w_2372 : (Jvm.Cond.selects "ShadeBeamsModel" ({ cls := "ShadeBeamsModel", name := "row", desc := "(II)I" } : Jvm.MethodName) ({ cls := "ShadeBeamsModel", name := "row", desc := "(II)I" } : Jvm.MethodName)) ∈ ALLW := aw tb_10 92 rfl rfl
theorem w_2373 : (Jvm.Cond.code ({ cls := "ShadeBeamsModel", name := "row", desc := "(II)I" } : Jvm.MethodName) prog_14_method_113_code (7 : Nat) (Option.some Jvm.ClassFile.FieldType.int)) ∈ ALLW := aw tb_10 93 rfl rfl
theorem w_2374 : (Jvm.Cond.methodLink "ShadeBeamsLaw" (273 : Nat) ({ cls := "ShadeBeamsModel", name := "best", desc := "(I)I" } : Jvm.MethodName)) ∈ ALLW := aw tb_10 94 rfl rfl
theorem w_2375 : (Jvm.Cond.instanceMethod ({ cls := "ShadeBeamsModel", name := "best", desc := "(I)I" } : Jvm.MethodName)) ∈ ALLW := aw tb_10 95 rfl rfl
theorem w_2376 : (Jvm.Cond.selects "ShadeBeamsModel" ({ cls := "ShadeBeamsModel", name := "best", desc := "(I)I" } : Jvm.MethodName) ({ cls := "ShadeBeamsModel", name := "best", desc := "(I)I" } : Jvm.MethodName)) ∈ ALLW := aw tb_10 96 rfl rfl
theorem w_2377 : (Jvm.Cond.code ({ cls := "ShadeBeamsModel", name := "best", desc := "(I)I" } : Jvm.MethodName) prog_14_method_114_code (4 : Nat) (Option.some Jvm.ClassFile.FieldType.int)) ∈ ALLW := aw tb_10 97 rfl rfl
theorem w_2378 : (Jvm.Cond.methodLink "ShadeBeamsLaw" (276 : Nat) ({ cls := "ShadeBeamsModel", name := "held", desc := "(I)I" } : Jvm.MethodName)) ∈ ALLW := aw tb_10 98 rfl rfl
theorem w_2379 : (Jvm.Cond.instanceMethod ({ cls := "ShadeBeamsModel", name := "held", desc := "(I)I" } : Jvm.MethodName)) ∈ ALLW := aw tb_10 99 rfl rfl
theorem w_2380 : (Jvm.Cond.selects "ShadeBeamsModel" ({ cls := "ShadeBeamsModel", name := "held", desc := "(I)I" } : Jvm.MethodName) ({ cls := "ShadeBeamsModel", name := "held", desc := "(I)I" } : Jvm.MethodName)) ∈ ALLW := aw tb_10 100 rfl rfl
theorem w_2381 : (Jvm.Cond.code ({ cls := "ShadeBeamsModel", name := "held", desc := "(I)I" } : Jvm.MethodName) prog_14_method_115_code (4 : Nat) (Option.some Jvm.ClassFile.FieldType.int)) ∈ ALLW := aw tb_10 101 rfl rfl
theorem w_2382 : (Jvm.Cond.methodLink "ShadeBeamsLaw" (279 : Nat) ({ cls := "ShadeBeamsModel", name := "share", desc := "(I)I" } : Jvm.MethodName)) ∈ ALLW := aw tb_10 102 rfl rfl
theorem w_2383 : (Jvm.Cond.instanceMethod ({ cls := "ShadeBeamsModel", name := "share", desc := "(I)I" } : Jvm.MethodName)) ∈ ALLW := aw tb_10 103 rfl rfl
theorem w_2384 : (Jvm.Cond.selects "ShadeBeamsModel" ({ cls := "ShadeBeamsModel", name := "share", desc := "(I)I" } : Jvm.MethodName) ({ cls := "ShadeBeamsModel", name := "share", desc := "(I)I" } : Jvm.MethodName)) ∈ ALLW := aw tb_10 104 rfl rfl
theorem w_2385 : (Jvm.Cond.code ({ cls := "ShadeBeamsModel", name := "share", desc := "(I)I" } : Jvm.MethodName) prog_14_method_116_code (5 : Nat) (Option.some Jvm.ClassFile.FieldType.int)) ∈ ALLW := aw tb_10 105 rfl rfl
theorem w_2386 : (Jvm.Cond.methodLink "ShadeBeamsLaw" (282 : Nat) ({ cls := "ShadeBeamsModel", name := "summed", desc := "(II)I" } : Jvm.MethodName)) ∈ ALLW := aw tb_10 106 rfl rfl
theorem w_2387 : (Jvm.Cond.instanceMethod ({ cls := "ShadeBeamsModel", name := "summed", desc := "(II)I" } : Jvm.MethodName)) ∈ ALLW := aw tb_10 107 rfl rfl
theorem w_2388 : (Jvm.Cond.selects "ShadeBeamsModel" ({ cls := "ShadeBeamsModel", name := "summed", desc := "(II)I" } : Jvm.MethodName) ({ cls := "ShadeBeamsModel", name := "summed", desc := "(II)I" } : Jvm.MethodName)) ∈ ALLW := aw tb_10 108 rfl rfl
theorem w_2389 : (Jvm.Cond.code ({ cls := "ShadeBeamsModel", name := "summed", desc := "(II)I" } : Jvm.MethodName) prog_14_method_117_code (6 : Nat) (Option.some Jvm.ClassFile.FieldType.int)) ∈ ALLW := aw tb_10 109 rfl rfl
theorem w_2390 : (Jvm.Cond.methodLink "ShadeBeamsLaw" (288 : Nat) ({ cls := "ShadeBeamsModel", name := "lighter", desc := "(I)I" } : Jvm.MethodName)) ∈ ALLW := aw tb_10 110 rfl rfl
theorem w_2391 : (Jvm.Cond.instanceMethod ({ cls := "ShadeBeamsModel", name := "lighter", desc := "(I)I" } : Jvm.MethodName)) ∈ ALLW := aw tb_10 111 rfl rfl
theorem w_2392 : (Jvm.Cond.selects "ShadeBeamsModel" ({ cls := "ShadeBeamsModel", name := "lighter", desc := "(I)I" } : Jvm.MethodName) ({ cls := "ShadeBeamsModel", name := "lighter", desc := "(I)I" } : Jvm.MethodName)) ∈ ALLW := aw tb_10 112 rfl rfl
theorem w_2393 : (Jvm.Cond.code ({ cls := "ShadeBeamsModel", name := "lighter", desc := "(I)I" } : Jvm.MethodName) prog_14_method_118_code (7 : Nat) (Option.some Jvm.ClassFile.FieldType.int)) ∈ ALLW := aw tb_10 113 rfl rfl
theorem w_2394 : (Jvm.Cond.methodLink "ShadeBeamsLaw" (295 : Nat) ({ cls := "ShadeBeamsModel", name := "heaviest", desc := "()I" } : Jvm.MethodName)) ∈ ALLW := aw tb_10 114 rfl rfl
theorem w_2395 : (Jvm.Cond.instanceMethod ({ cls := "ShadeBeamsModel", name := "heaviest", desc := "()I" } : Jvm.MethodName)) ∈ ALLW := aw tb_10 115 rfl rfl
theorem w_2396 : (Jvm.Cond.selects "ShadeBeamsModel" ({ cls := "ShadeBeamsModel", name := "heaviest", desc := "()I" } : Jvm.MethodName) ({ cls := "ShadeBeamsModel", name := "heaviest", desc := "()I" } : Jvm.MethodName)) ∈ ALLW := aw tb_10 116 rfl rfl
theorem w_2397 : (Jvm.Cond.code ({ cls := "ShadeBeamsModel", name := "heaviest", desc := "()I" } : Jvm.MethodName) prog_14_method_119_code (7 : Nat) (Option.some Jvm.ClassFile.FieldType.int)) ∈ ALLW := aw tb_10 117 rfl rfl
theorem w_2398 : (Jvm.Cond.methodLink "ShadeBeamsLaw" (298 : Nat) ({ cls := "ShadeBeamsModel", name := "bare", desc := "(II)I" } : Jvm.MethodName)) ∈ ALLW := aw tb_10 118 rfl rfl
theorem w_2399 : (Jvm.Cond.instanceMethod ({ cls := "ShadeBeamsModel", name := "bare", desc := "(II)I" } : Jvm.MethodName)) ∈ ALLW := aw tb_10 119 rfl rfl
theorem w_2400 : (Jvm.Cond.selects "ShadeBeamsModel" ({ cls := "ShadeBeamsModel", name := "bare", desc := "(II)I" } : Jvm.MethodName) ({ cls := "ShadeBeamsModel", name := "bare", desc := "(II)I" } : Jvm.MethodName)) ∈ ALLW := aw tb_10 120 rfl rfl
theorem w_2401 : (Jvm.Cond.code ({ cls := "ShadeBeamsModel", name := "bare", desc := "(II)I" } : Jvm.MethodName) prog_14_method_120_code (7 : Nat) (Option.some Jvm.ClassFile.FieldType.int)) ∈ ALLW := aw tb_10 121 rfl rfl
theorem w_2402 : (Jvm.Cond.methodLink "ShadeBeamsLaw" (301 : Nat) ({ cls := "ShadeBeamsModel", name := "build", desc := "(II)I" } : Jvm.MethodName)) ∈ ALLW := aw tb_10 122 rfl rfl
theorem w_2403 : (Jvm.Cond.instanceMethod ({ cls := "ShadeBeamsModel", name := "build", desc := "(II)I" } : Jvm.MethodName)) ∈ ALLW := aw tb_10 123 rfl rfl
theorem w_2404 : (Jvm.Cond.selects "ShadeBeamsModel" ({ cls := "ShadeBeamsModel", name := "build", desc := "(II)I" } : Jvm.MethodName) ({ cls := "ShadeBeamsModel", name := "build", desc := "(II)I" } : Jvm.MethodName)) ∈ ALLW := aw tb_10 124 rfl rfl
theorem w_2405 : (Jvm.Cond.code ({ cls := "ShadeBeamsModel", name := "build", desc := "(II)I" } : Jvm.MethodName) prog_14_method_124_code (4 : Nat) (Option.some Jvm.ClassFile.FieldType.int)) ∈ ALLW := aw tb_10 125 rfl rfl
theorem w_2406 : (Jvm.Cond.methodLink "ShadeBeamsModel" (471 : Nat) ({ cls := "ShadeBeamsModel", name := "changes", desc := "()V" } : Jvm.MethodName)) ∈ ALLW := aw tb_10 126 rfl rfl
theorem w_2408 : (Jvm.Cond.instanceMethod ({ cls := "ShadeBeamsModel", name := "changes", desc := "()V" } : Jvm.MethodName)) ∈ ALLW := aw tb_10 128 rfl rfl
theorem w_2409 : (Jvm.Cond.code ({ cls := "ShadeBeamsModel", name := "changes", desc := "()V" } : Jvm.MethodName) prog_14_method_123_code (1 : Nat) (Option.none : Option Jvm.ClassFile.FieldType)) ∈ ALLW := aw tb_10 129 rfl rfl
theorem w_2410 : (Jvm.Cond.methodLink "ShadeBeamsModel" (467 : Nat) ({ cls := "ShadeBeamsModel", name := "putsChanged", desc := "([IZ)V" } : Jvm.MethodName)) ∈ ALLW := aw tb_10 130 rfl rfl
theorem w_2412 : (Jvm.Cond.instanceMethod ({ cls := "ShadeBeamsModel", name := "putsChanged", desc := "([IZ)V" } : Jvm.MethodName)) ∈ ALLW := aw tb_10 132 rfl rfl
theorem w_2413 : (Jvm.Cond.code ({ cls := "ShadeBeamsModel", name := "putsChanged", desc := "([IZ)V" } : Jvm.MethodName) prog_14_method_122_code (5 : Nat) (Option.none : Option Jvm.ClassFile.FieldType)) ∈ ALLW := aw tb_10 133 rfl rfl
theorem w_2414 : (Jvm.Cond.methodLink "ShadeBeamsModel" (463 : Nat) ({ cls := "ShadeBeamsModel", name := "keeps", desc := "([IIZ)I" } : Jvm.MethodName)) ∈ ALLW := aw tb_10 134 rfl rfl
theorem w_2416 : (Jvm.Cond.instanceMethod ({ cls := "ShadeBeamsModel", name := "keeps", desc := "([IIZ)I" } : Jvm.MethodName)) ∈ ALLW := aw tb_10 136 rfl rfl
theorem w_2417 : (Jvm.Cond.code ({ cls := "ShadeBeamsModel", name := "keeps", desc := "([IIZ)I" } : Jvm.MethodName) prog_14_method_121_code (4 : Nat) (Option.some Jvm.ClassFile.FieldType.int)) ∈ ALLW := aw tb_10 137 rfl rfl
theorem w_2418 : (Jvm.Cond.methodLink "ShadeBeamsLaw" (304 : Nat) ({ cls := "ShadeBeamsModel", name := "lay", desc := "(II)I" } : Jvm.MethodName)) ∈ ALLW := aw tb_10 138 rfl rfl
theorem w_2419 : (Jvm.Cond.instanceMethod ({ cls := "ShadeBeamsModel", name := "lay", desc := "(II)I" } : Jvm.MethodName)) ∈ ALLW := aw tb_10 139 rfl rfl
theorem w_2420 : (Jvm.Cond.selects "ShadeBeamsModel" ({ cls := "ShadeBeamsModel", name := "lay", desc := "(II)I" } : Jvm.MethodName) ({ cls := "ShadeBeamsModel", name := "lay", desc := "(II)I" } : Jvm.MethodName)) ∈ ALLW := aw tb_10 140 rfl rfl
theorem w_2421 : (Jvm.Cond.code ({ cls := "ShadeBeamsModel", name := "lay", desc := "(II)I" } : Jvm.MethodName) prog_14_method_125_code (4 : Nat) (Option.some Jvm.ClassFile.FieldType.int)) ∈ ALLW := aw tb_10 141 rfl rfl
theorem w_2422 : (Jvm.Cond.methodLink "ShadeBeamsLaw" (307 : Nat) ({ cls := "ShadeBeamsModel", name := "put", desc := "(III)I" } : Jvm.MethodName)) ∈ ALLW := aw tb_10 142 rfl rfl
theorem w_2423 : (Jvm.Cond.instanceMethod ({ cls := "ShadeBeamsModel", name := "put", desc := "(III)I" } : Jvm.MethodName)) ∈ ALLW := aw tb_10 143 rfl rfl
theorem w_2424 : (Jvm.Cond.selects "ShadeBeamsModel" ({ cls := "ShadeBeamsModel", name := "put", desc := "(III)I" } : Jvm.MethodName) ({ cls := "ShadeBeamsModel", name := "put", desc := "(III)I" } : Jvm.MethodName)) ∈ ALLW := aw tb_10 144 rfl rfl
theorem w_2425 : (Jvm.Cond.code ({ cls := "ShadeBeamsModel", name := "put", desc := "(III)I" } : Jvm.MethodName) prog_14_method_126_code (5 : Nat) (Option.some Jvm.ClassFile.FieldType.int)) ∈ ALLW := aw tb_10 145 rfl rfl
theorem w_2426 : (Jvm.Cond.methodLink "ShadeBeamsLaw" (311 : Nat) ({ cls := "ShadeBeamsModel", name := "undo", desc := "()I" } : Jvm.MethodName)) ∈ ALLW := aw tb_10 146 rfl rfl
theorem w_2427 : (Jvm.Cond.instanceMethod ({ cls := "ShadeBeamsModel", name := "undo", desc := "()I" } : Jvm.MethodName)) ∈ ALLW := aw tb_10 147 rfl rfl
theorem w_2428 : (Jvm.Cond.selects "ShadeBeamsModel" ({ cls := "ShadeBeamsModel", name := "undo", desc := "()I" } : Jvm.MethodName) ({ cls := "ShadeBeamsModel", name := "undo", desc := "()I" } : Jvm.MethodName)) ∈ ALLW := aw tb_10 148 rfl rfl
theorem w_2429 : (Jvm.Cond.code ({ cls := "ShadeBeamsModel", name := "undo", desc := "()I" } : Jvm.MethodName) prog_14_method_127_code (1 : Nat) (Option.some Jvm.ClassFile.FieldType.int)) ∈ ALLW := aw tb_10 149 rfl rfl
theorem w_2430 : (Jvm.Cond.methodLink "ShadeBeamsLaw" (315 : Nat) ({ cls := "ShadeBeamsModel", name := "image", desc := "()I" } : Jvm.MethodName)) ∈ ALLW := aw tb_10 150 rfl rfl
theorem w_2431 : (Jvm.Cond.instanceMethod ({ cls := "ShadeBeamsModel", name := "image", desc := "()I" } : Jvm.MethodName)) ∈ ALLW := aw tb_10 151 rfl rfl
theorem w_2432 : (Jvm.Cond.selects "ShadeBeamsModel" ({ cls := "ShadeBeamsModel", name := "image", desc := "()I" } : Jvm.MethodName) ({ cls := "ShadeBeamsModel", name := "image", desc := "()I" } : Jvm.MethodName)) ∈ ALLW := aw tb_10 152 rfl rfl
theorem w_2433 : (Jvm.Cond.code ({ cls := "ShadeBeamsModel", name := "image", desc := "()I" } : Jvm.MethodName) prog_14_method_129_code (1 : Nat) (Option.some Jvm.ClassFile.FieldType.int)) ∈ ALLW := aw tb_10 153 rfl rfl
theorem w_2434 : (Jvm.Cond.methodLink "ShadeBeamsModel" (473 : Nat) ({ cls := "ShadeBeamsModel", name := "putsAll", desc := "([IZ)V" } : Jvm.MethodName)) ∈ ALLW := aw tb_10 154 rfl rfl
theorem w_2436 : (Jvm.Cond.instanceMethod ({ cls := "ShadeBeamsModel", name := "putsAll", desc := "([IZ)V" } : Jvm.MethodName)) ∈ ALLW := aw tb_10 156 rfl rfl
theorem w_2437 : (Jvm.Cond.code ({ cls := "ShadeBeamsModel", name := "putsAll", desc := "([IZ)V" } : Jvm.MethodName) prog_14_method_128_code (5 : Nat) (Option.none : Option Jvm.ClassFile.FieldType)) ∈ ALLW := aw tb_10 157 rfl rfl
theorem w_2438 : (Jvm.Cond.methodLink "ShadeBeamsLaw" (319 : Nat) ({ cls := "ShadeBeamsModel", name := "restore", desc := "()I" } : Jvm.MethodName)) ∈ ALLW := aw tb_10 158 rfl rfl
theorem w_2439 : (Jvm.Cond.instanceMethod ({ cls := "ShadeBeamsModel", name := "restore", desc := "()I" } : Jvm.MethodName)) ∈ ALLW := aw tb_10 159 rfl rfl
theorem w_2440 : (Jvm.Cond.selects "ShadeBeamsModel" ({ cls := "ShadeBeamsModel", name := "restore", desc := "()I" } : Jvm.MethodName) ({ cls := "ShadeBeamsModel", name := "restore", desc := "()I" } : Jvm.MethodName)) ∈ ALLW := aw tb_10 160 rfl rfl
theorem w_2441 : (Jvm.Cond.code ({ cls := "ShadeBeamsModel", name := "restore", desc := "()I" } : Jvm.MethodName) prog_14_method_130_code (1 : Nat) (Option.some Jvm.ClassFile.FieldType.int)) ∈ ALLW := aw tb_10 161 rfl rfl
theorem w_2442 : (Jvm.Cond.methodLink "ShadeBeamsLaw" (323 : Nat) ({ cls := "ShadeBeamsModel", name := "status", desc := "(I)I" } : Jvm.MethodName)) ∈ ALLW := aw tb_10 162 rfl rfl
theorem w_2443 : (Jvm.Cond.instanceMethod ({ cls := "ShadeBeamsModel", name := "status", desc := "(I)I" } : Jvm.MethodName)) ∈ ALLW := aw tb_10 163 rfl rfl
theorem w_2444 : (Jvm.Cond.selects "ShadeBeamsModel" ({ cls := "ShadeBeamsModel", name := "status", desc := "(I)I" } : Jvm.MethodName) ({ cls := "ShadeBeamsModel", name := "status", desc := "(I)I" } : Jvm.MethodName)) ∈ ALLW := aw tb_10 164 rfl rfl
theorem w_2445 : (Jvm.Cond.code ({ cls := "ShadeBeamsModel", name := "status", desc := "(I)I" } : Jvm.MethodName) prog_14_method_131_code (2 : Nat) (Option.some Jvm.ClassFile.FieldType.int)) ∈ ALLW := aw tb_10 165 rfl rfl
theorem w_2446 : (Jvm.Cond.methodLink "ShadeBeamsLaw" (327 : Nat) ({ cls := "ShadeBeamsModel", name := "count", desc := "(I)I" } : Jvm.MethodName)) ∈ ALLW := aw tb_10 166 rfl rfl
theorem w_2447 : (Jvm.Cond.instanceMethod ({ cls := "ShadeBeamsModel", name := "count", desc := "(I)I" } : Jvm.MethodName)) ∈ ALLW := aw tb_10 167 rfl rfl
theorem w_2448 : (Jvm.Cond.selects "ShadeBeamsModel" ({ cls := "ShadeBeamsModel", name := "count", desc := "(I)I" } : Jvm.MethodName) ({ cls := "ShadeBeamsModel", name := "count", desc := "(I)I" } : Jvm.MethodName)) ∈ ALLW := aw tb_10 168 rfl rfl
theorem w_2449 : (Jvm.Cond.code ({ cls := "ShadeBeamsModel", name := "count", desc := "(I)I" } : Jvm.MethodName) prog_14_method_132_code (2 : Nat) (Option.some Jvm.ClassFile.FieldType.int)) ∈ ALLW := aw tb_10 169 rfl rfl
theorem w_2450 : (Jvm.Cond.sameMethod "java/lang/Throwable" "java/lang/Throwable" "fillInStackTrace" "(I)Ljava/lang/Throwable;") ∈ ALLW := aw tb_10 170 rfl rfl
theorem w_2451 : (Jvm.Cond.castable "ShadeBeams" "java/lang/Object") ∈ NESTW := anw tb_10 171 rfl rfl
theorem w_2452 : (Jvm.Cond.castable "ShadeBeams$Tape" "java/lang/Object") ∈ NESTW := anw tb_10 172 rfl rfl
theorem w_2453 : (Jvm.Cond.castable "ShadeBeams$Law" "java/lang/Object") ∈ NESTW := anw tb_10 173 rfl rfl
theorem w_2454 : (Jvm.Cond.castable "ShadeBeams$Lines" "java/lang/Object") ∈ NESTW := anw tb_10 174 rfl rfl
theorem w_2455 : (Jvm.Cond.castable "ShadeBeams$Changes" "java/lang/Object") ∈ NESTW := anw tb_10 175 rfl rfl
theorem w_2456 : (Jvm.Cond.castable "ShadeBeams$Ground" "java/lang/Object") ∈ NESTW := anw tb_10 176 rfl rfl
theorem w_2457 : (Jvm.Cond.castable "ShadeBeams$DayRun" "java/lang/Object") ∈ NESTW := anw tb_10 177 rfl rfl
theorem w_2458 : (Jvm.Cond.castable "ShadeBeams$Carrier" "java/lang/Object") ∈ NESTW := anw tb_10 178 rfl rfl
theorem w_2459 : (Jvm.Cond.castable "ShadeBeams$Lamplighter" "java/lang/Object") ∈ NESTW := anw tb_10 179 rfl rfl
theorem w_2460 : (Jvm.Cond.castable "ShadeBeams$Street" "java/lang/Object") ∈ NESTW := anw tb_10 180 rfl rfl
theorem w_2461 : (Jvm.Cond.castable "ShadeBeams$Beams" "java/lang/Object") ∈ NESTW := anw tb_10 181 rfl rfl
theorem w_2462 : (Jvm.Cond.castable "ShadeBeams$Image" "java/lang/Object") ∈ NESTW := anw tb_10 182 rfl rfl
theorem w_2463 : (Jvm.Cond.castable "ShadeBeamsModel" "java/lang/Object") ∈ NESTW := anw tb_10 183 rfl rfl
theorem w_2464 : (Jvm.Cond.castable "java/lang/IllegalArgumentException" "java/lang/Object") ∈ NESTW := anw tb_10 184 rfl rfl
theorem w_2465 : (Jvm.Cond.castable "java/util/NoSuchElementException" "java/lang/Object") ∈ NESTW := anw tb_10 185 rfl rfl
theorem w_2466 : (Jvm.Cond.castable "java/lang/IndexOutOfBoundsException" "java/lang/Object") ∈ NESTW := anw tb_10 186 rfl rfl
theorem w_2467 : (Jvm.Cond.castable "java/lang/Throwable" "java/lang/Object") ∈ NESTW := anw tb_10 187 rfl rfl
theorem w_2468 : (Jvm.Cond.castable "java/lang/String" "java/lang/Object") ∈ NESTW := anw tb_10 188 rfl rfl
theorem w_2469 : (Jvm.Cond.fieldLink "java/lang/String" (9 : Nat) "java/lang/String" "value" "[B") ∈ ALLW := aw tb_10 189 rfl rfl
theorem w_2470 : (Jvm.Cond.fieldLink "java/lang/String" (15 : Nat) "java/lang/String" "coder" "B") ∈ ALLW := aw tb_10 190 rfl rfl
