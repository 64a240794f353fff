/-! words of the tables, by their places (written by a program) -/
theorem tl_1 {w : Cond} (h : w ∈ tables_1_1) : w ∈ lw_tbl := List.mem_append_right _ (List.mem_append_left _ h)
theorem tl_2 {w : Cond} (h : w ∈ tables_1_2) : w ∈ lw_tbl := List.mem_append_right _ (List.mem_append_right _ (List.mem_append_left _ h))
theorem tl_3 {w : Cond} (h : w ∈ tables_1_3) : w ∈ lw_tbl := List.mem_append_right _ (List.mem_append_right _ (List.mem_append_right _ (List.mem_append_left _ h)))
theorem tl_4 {w : Cond} (h : w ∈ tables_1_4) : w ∈ lw_tbl := List.mem_append_right _ (List.mem_append_right _ (List.mem_append_right _ (List.mem_append_right _ (List.mem_append_left _ h))))
theorem tl_5 {w : Cond} (h : w ∈ tables_1_5) : w ∈ lw_tbl := List.mem_append_right _ (List.mem_append_right _ (List.mem_append_right _ (List.mem_append_right _ (List.mem_append_right _ (List.mem_append_left _ h)))))
theorem tl_6 {w : Cond} (h : w ∈ tables_1_6) : w ∈ lw_tbl := List.mem_append_right _ (List.mem_append_right _ (List.mem_append_right _ (List.mem_append_right _ (List.mem_append_right _ (List.mem_append_right _ (h))))))
theorem m_0 : Jvm.Cond.selects "AtlasDesk$Edition" ⟨"AtlasDesk$Edition", "placeOf", "(I)I"⟩ ⟨"AtlasDesk$Edition", "placeOf", "(I)I"⟩ ∈ mWs := mWs_in (List.mem_append_left _ (List.mem_of_getElem? (i := 0) (by decide +kernel))) rfl
theorem m_1 : Jvm.Cond.selects "AtlasDesk$Edition" ⟨"AtlasDesk$Edition", "isAt", "(II)Z"⟩ ⟨"AtlasDesk$Edition", "isAt", "(II)Z"⟩ ∈ mWs := mWs_in (List.mem_append_left _ (List.mem_of_getElem? (i := 1) (by decide +kernel))) rfl
theorem m_2 : Jvm.Cond.selects "AtlasDesk$Feature" ⟨"AtlasDesk$Feature", "goesOn", "()Z"⟩ ⟨"AtlasDesk$Feature", "goesOn", "()Z"⟩ ∈ mWs := mWs_in (List.mem_append_left _ (List.mem_of_getElem? (i := 2) (by decide +kernel))) rfl
theorem m_3 : Jvm.Cond.selects "AtlasDesk$Feature" ⟨"AtlasDesk$Feature", "samePlace", "(II)Z"⟩ ⟨"AtlasDesk$Feature", "samePlace", "(II)Z"⟩ ∈ mWs := mWs_in (List.mem_append_left _ (List.mem_of_getElem? (i := 3) (by decide +kernel))) rfl
theorem m_4 : Jvm.Cond.selects "AtlasDesk$Feature" ⟨"AtlasDesk$Feature", "isRing", "()Z"⟩ ⟨"AtlasDesk$Feature", "isRing", "()Z"⟩ ∈ mWs := mWs_in (List.mem_append_left _ (List.mem_of_getElem? (i := 4) (by decide +kernel))) rfl
theorem m_5 : Jvm.Cond.selects "AtlasDesk$Feature" ⟨"AtlasDesk$Feature", "edgesClash", "(II)Z"⟩ ⟨"AtlasDesk$Feature", "edgesClash", "(II)Z"⟩ ∈ mWs := mWs_in (List.mem_append_left _ (List.mem_of_getElem? (i := 5) (by decide +kernel))) rfl
theorem m_6 : Jvm.Cond.selects "AtlasDesk$Feature" ⟨"AtlasDesk$Feature", "foldsBack", "(III)Z"⟩ ⟨"AtlasDesk$Feature", "foldsBack", "(III)Z"⟩ ∈ mWs := mWs_in (List.mem_append_left _ (List.mem_of_getElem? (i := 6) (by decide +kernel))) rfl
theorem m_7 : Jvm.Cond.selects "AtlasDesk$Feature" ⟨"AtlasDesk$Feature", "turnOf", "(III)I"⟩ ⟨"AtlasDesk$Feature", "turnOf", "(III)I"⟩ ∈ mWs := mWs_in (List.mem_append_left _ (List.mem_of_getElem? (i := 7) (by decide +kernel))) rfl
theorem m_8 : Jvm.Cond.selects "AtlasDesk$Feature" ⟨"AtlasDesk$Feature", "edgesMeet", "(IIII)Z"⟩ ⟨"AtlasDesk$Feature", "edgesMeet", "(IIII)Z"⟩ ∈ mWs := mWs_in (List.mem_append_left _ (List.mem_of_getElem? (i := 8) (by decide +kernel))) rfl
theorem m_9 : Jvm.Cond.selects "AtlasDesk$Feature" ⟨"AtlasDesk$Feature", "isBetween", "(III)Z"⟩ ⟨"AtlasDesk$Feature", "isBetween", "(III)Z"⟩ ∈ mWs := mWs_in (List.mem_append_left _ (List.mem_of_getElem? (i := 9) (by decide +kernel))) rfl
theorem m_11 : Jvm.Cond.selects "AtlasDesk" ⟨"AtlasDesk", "editionAt", "(I)LAtlasDesk$Edition;"⟩ ⟨"AtlasDesk", "editionAt", "(I)LAtlasDesk$Edition;"⟩ ∈ mWs := mWs_in (List.mem_append_left _ (List.mem_of_getElem? (i := 11) (by decide +kernel))) rfl
theorem m_12 : Jvm.Cond.selects "AtlasDesk$TileMaker" ⟨"AtlasDesk$TileMaker", "makeShape", "(LAtlasDesk$Feature;LAtlasDesk$Path;)V"⟩ ⟨"AtlasDesk$TileMaker", "makeShape", "(LAtlasDesk$Feature;LAtlasDesk$Path;)V"⟩ ∈ mWs := mWs_in (List.mem_append_left _ (List.mem_of_getElem? (i := 12) (by decide +kernel))) rfl
theorem m_13 : Jvm.Cond.selects "AtlasDesk$TileMaker" ⟨"AtlasDesk$TileMaker", "markStaying", "(LAtlasDesk$Path;)V"⟩ ⟨"AtlasDesk$TileMaker", "markStaying", "(LAtlasDesk$Path;)V"⟩ ∈ mWs := mWs_in (List.mem_append_left _ (List.mem_of_getElem? (i := 13) (by decide +kernel))) rfl
theorem m_14 : Jvm.Cond.selects "AtlasDesk$TileMaker" ⟨"AtlasDesk$TileMaker", "nextStaying", "(II)I"⟩ ⟨"AtlasDesk$TileMaker", "nextStaying", "(II)I"⟩ ∈ mWs := mWs_in (List.mem_append_left _ (List.mem_of_getElem? (i := 14) (by decide +kernel))) rfl
theorem m_15 : Jvm.Cond.selects "AtlasDesk$TileMaker" ⟨"AtlasDesk$TileMaker", "keepStaying", "(LAtlasDesk$Path;)V"⟩ ⟨"AtlasDesk$TileMaker", "keepStaying", "(LAtlasDesk$Path;)V"⟩ ∈ mWs := mWs_in (List.mem_append_left _ (List.mem_of_getElem? (i := 15) (by decide +kernel))) rfl
theorem m_16 : Jvm.Cond.selects "AtlasDesk$Path" ⟨"AtlasDesk$Path", "mergeRepeats", "()V"⟩ ⟨"AtlasDesk$Path", "mergeRepeats", "()V"⟩ ∈ mWs := mWs_in (List.mem_append_left _ (List.mem_of_getElem? (i := 16) (by decide +kernel))) rfl
theorem m_17 : Jvm.Cond.selects "AtlasDesk$Path" ⟨"AtlasDesk$Path", "removeLoneCorners", "()V"⟩ ⟨"AtlasDesk$Path", "removeLoneCorners", "()V"⟩ ∈ mWs := mWs_in (List.mem_append_left _ (List.mem_of_getElem? (i := 17) (by decide +kernel))) rfl
theorem m_18 : Jvm.Cond.selects "AtlasDesk$TileMaker" ⟨"AtlasDesk$TileMaker", "cutToTile", "(LAtlasDesk$Path;III)V"⟩ ⟨"AtlasDesk$TileMaker", "cutToTile", "(LAtlasDesk$Path;III)V"⟩ ∈ mWs := mWs_in (List.mem_append_left _ (List.mem_of_getElem? (i := 18) (by decide +kernel))) rfl
theorem m_19 : Jvm.Cond.selects "AtlasDesk$Path" ⟨"AtlasDesk$Path", "putOnBorder", "(LAtlasDesk$Path;IILAtlasDesk$Side;Z)V"⟩ ⟨"AtlasDesk$Path", "putOnBorder", "(LAtlasDesk$Path;IILAtlasDesk$Side;Z)V"⟩ ∈ mWs := mWs_in (List.mem_append_left _ (List.mem_of_getElem? (i := 19) (by decide +kernel))) rfl
theorem m_20 : Jvm.Cond.selects "AtlasDesk$TileMaker" ⟨"AtlasDesk$TileMaker", "write", "(LAtlasDesk$Feature;IIILAtlasDesk$Octets;)V"⟩ ⟨"AtlasDesk$TileMaker", "write", "(LAtlasDesk$Feature;IIILAtlasDesk$Octets;)V"⟩ ∈ mWs := mWs_in (List.mem_append_left _ (List.mem_of_getElem? (i := 20) (by decide +kernel))) rfl
theorem m_21 : Jvm.Cond.selects "AtlasDesk$Pack" ⟨"AtlasDesk$Pack", "firstWith", "(LAtlasDesk$Octets;)I"⟩ ⟨"AtlasDesk$Pack", "firstWith", "(LAtlasDesk$Octets;)I"⟩ ∈ mWs := mWs_in (List.mem_append_left _ (List.mem_of_getElem? (i := 21) (by decide +kernel))) rfl
theorem m_22 : Jvm.Cond.selects "AtlasDesk$Pack" ⟨"AtlasDesk$Pack", "hasBytes", "(I[BII)Z"⟩ ⟨"AtlasDesk$Pack", "hasBytes", "(I[BII)Z"⟩ ∈ mWs := mWs_in (List.mem_append_left _ (List.mem_of_getElem? (i := 22) (by decide +kernel))) rfl
theorem m_23 : Jvm.Cond.selects "AtlasDesk$Region" ⟨"AtlasDesk$Region", "meetsEdge", "(LAtlasDesk$Feature;II)Z"⟩ ⟨"AtlasDesk$Region", "meetsEdge", "(LAtlasDesk$Feature;II)Z"⟩ ∈ mWs := mWs_in (List.mem_append_left _ (List.mem_of_getElem? (i := 23) (by decide +kernel))) rfl
theorem m_24 : Jvm.Cond.selects "AtlasDesk$Difference" ⟨"AtlasDesk$Difference", "tell", "(ILAtlasDesk$Pack;II)V"⟩ ⟨"AtlasDesk$Difference", "tell", "(ILAtlasDesk$Pack;II)V"⟩ ∈ mWs := mWs_in (List.mem_append_left _ (List.mem_of_getElem? (i := 24) (by decide +kernel))) rfl
theorem m_25 : Jvm.Cond.selects "AtlasDesk$Edition" ⟨"AtlasDesk$Edition", "namedAhead", "(LAtlasDesk$Feature;J)I"⟩ ⟨"AtlasDesk$Edition", "namedAhead", "(LAtlasDesk$Feature;J)I"⟩ ∈ mWs := mWs_in (List.mem_append_left _ (List.mem_of_getElem? (i := 25) (by decide +kernel))) rfl
theorem m_26 : Jvm.Cond.selects "AtlasDesk$Feature" ⟨"AtlasDesk$Feature", "nameInBook", "()J"⟩ ⟨"AtlasDesk$Feature", "nameInBook", "()J"⟩ ∈ mWs := mWs_in (List.mem_append_left _ (List.mem_of_getElem? (i := 26) (by decide +kernel))) rfl
theorem m_27 : Jvm.Cond.selects "AtlasDesk$Edition" ⟨"AtlasDesk$Edition", "nearer", "(LAtlasDesk$Feature;II)I"⟩ ⟨"AtlasDesk$Edition", "nearer", "(LAtlasDesk$Feature;II)I"⟩ ∈ mWs := mWs_in (List.mem_append_left _ (List.mem_of_getElem? (i := 27) (by decide +kernel))) rfl
theorem m_28 : Jvm.Cond.selects "AtlasDesk$Feature" ⟨"AtlasDesk$Feature", "farness", "(II)J"⟩ ⟨"AtlasDesk$Feature", "farness", "(II)J"⟩ ∈ mWs := mWs_in (List.mem_append_left _ (List.mem_of_getElem? (i := 28) (by decide +kernel))) rfl
theorem m_29 : Jvm.Cond.selects "AtlasDeskModel" ⟨"AtlasDeskModel", "cornersGood", "(I)Z"⟩ ⟨"AtlasDeskModel", "cornersGood", "(I)Z"⟩ ∈ mWs := mWs_in (List.mem_append_left _ (List.mem_of_getElem? (i := 29) (by decide +kernel))) rfl
theorem m_30 : Jvm.Cond.selects "AtlasDeskModel" ⟨"AtlasDeskModel", "isRing", "()Z"⟩ ⟨"AtlasDeskModel", "isRing", "()Z"⟩ ∈ mWs := mWs_in (List.mem_append_left _ (List.mem_of_getElem? (i := 30) (by decide +kernel))) rfl
theorem m_31 : Jvm.Cond.selects "AtlasDeskModel" ⟨"AtlasDeskModel", "sideOf", "(III)I"⟩ ⟨"AtlasDeskModel", "sideOf", "(III)I"⟩ ∈ mWs := mWs_in (List.mem_append_left _ (List.mem_of_getElem? (i := 31) (by decide +kernel))) rfl
theorem m_32 : Jvm.Cond.selects "AtlasDeskModel" ⟨"AtlasDeskModel", "meet", "(IIII)Z"⟩ ⟨"AtlasDeskModel", "meet", "(IIII)Z"⟩ ∈ mWs := mWs_in (List.mem_append_left _ (List.mem_of_getElem? (i := 32) (by decide +kernel))) rfl
theorem m_33 : Jvm.Cond.selects "AtlasDeskModel" ⟨"AtlasDeskModel", "between", "(III)Z"⟩ ⟨"AtlasDeskModel", "between", "(III)Z"⟩ ∈ mWs := mWs_in (List.mem_append_left _ (List.mem_of_getElem? (i := 33) (by decide +kernel))) rfl
theorem m_34 : Jvm.Cond.selects "AtlasDeskModel" ⟨"AtlasDeskModel", "find", "(II)I"⟩ ⟨"AtlasDeskModel", "find", "(II)I"⟩ ∈ mWs := mWs_in (List.mem_append_left _ (List.mem_of_getElem? (i := 34) (by decide +kernel))) rfl
theorem m_35 : Jvm.Cond.selects "AtlasDeskModel" ⟨"AtlasDeskModel", "copyFeature", "(II)V"⟩ ⟨"AtlasDeskModel", "copyFeature", "(II)V"⟩ ∈ mWs := mWs_in (List.mem_append_left _ (List.mem_of_getElem? (i := 35) (by decide +kernel))) rfl
theorem m_36 : Jvm.Cond.selects "AtlasDeskModel" ⟨"AtlasDeskModel", "slotOf", "(I)I"⟩ ⟨"AtlasDeskModel", "slotOf", "(I)I"⟩ ∈ mWs := mWs_in (List.mem_append_left _ (List.mem_of_getElem? (i := 36) (by decide +kernel))) rfl
theorem m_37 : Jvm.Cond.selects "AtlasDeskModel" ⟨"AtlasDeskModel", "makeTile", "(IIII)V"⟩ ⟨"AtlasDeskModel", "makeTile", "(IIII)V"⟩ ∈ mWs := mWs_in (List.mem_append_left _ (List.mem_of_getElem? (i := 37) (by decide +kernel))) rfl
theorem m_38 : Jvm.Cond.selects "AtlasDeskModel" ⟨"AtlasDeskModel", "reduce", "(IIII)V"⟩ ⟨"AtlasDeskModel", "reduce", "(IIII)V"⟩ ∈ mWs := mWs_in (List.mem_append_left _ (List.mem_of_getElem? (i := 38) (by decide +kernel))) rfl
theorem m_39 : Jvm.Cond.selects "AtlasDeskModel" ⟨"AtlasDeskModel", "simplify", "()V"⟩ ⟨"AtlasDeskModel", "simplify", "()V"⟩ ∈ mWs := mWs_in (List.mem_append_left _ (List.mem_of_getElem? (i := 39) (by decide +kernel))) rfl
theorem m_40 : Jvm.Cond.selects "AtlasDeskModel" ⟨"AtlasDeskModel", "farthest", "(II)I"⟩ ⟨"AtlasDeskModel", "farthest", "(II)I"⟩ ∈ mWs := mWs_in (List.mem_append_left _ (List.mem_of_getElem? (i := 40) (by decide +kernel))) rfl
theorem m_41 : Jvm.Cond.selects "AtlasDeskModel" ⟨"AtlasDeskModel", "farness", "(III)J"⟩ ⟨"AtlasDeskModel", "farness", "(III)J"⟩ ∈ mWs := mWs_in (List.mem_append_left _ (List.mem_of_getElem? (i := 41) (by decide +kernel))) rfl
theorem m_42 : Jvm.Cond.selects "AtlasDeskModel" ⟨"AtlasDeskModel", "once", "(Z)V"⟩ ⟨"AtlasDeskModel", "once", "(Z)V"⟩ ∈ mWs := mWs_in (List.mem_append_left _ (List.mem_of_getElem? (i := 42) (by decide +kernel))) rfl
theorem m_43 : Jvm.Cond.selects "AtlasDeskModel" ⟨"AtlasDeskModel", "put", "(IIZ)V"⟩ ⟨"AtlasDeskModel", "put", "(IIZ)V"⟩ ∈ mWs := mWs_in (List.mem_append_left _ (List.mem_of_getElem? (i := 43) (by decide +kernel))) rfl
theorem m_44 : Jvm.Cond.selects "AtlasDeskModel" ⟨"AtlasDeskModel", "takeWritten", "()V"⟩ ⟨"AtlasDeskModel", "takeWritten", "()V"⟩ ∈ mWs := mWs_in (List.mem_append_left _ (List.mem_of_getElem? (i := 44) (by decide +kernel))) rfl
theorem m_45 : Jvm.Cond.selects "AtlasDeskModel" ⟨"AtlasDeskModel", "inside", "(III)Z"⟩ ⟨"AtlasDeskModel", "inside", "(III)Z"⟩ ∈ mWs := mWs_in (List.mem_append_left _ (List.mem_of_getElem? (i := 45) (by decide +kernel))) rfl
theorem m_46 : Jvm.Cond.selects "AtlasDeskModel" ⟨"AtlasDeskModel", "cutRing", "(II)V"⟩ ⟨"AtlasDeskModel", "cutRing", "(II)V"⟩ ∈ mWs := mWs_in (List.mem_append_left _ (List.mem_of_getElem? (i := 46) (by decide +kernel))) rfl
theorem m_47 : Jvm.Cond.selects "AtlasDeskModel" ⟨"AtlasDeskModel", "putBorder", "(IIIIZ)V"⟩ ⟨"AtlasDeskModel", "putBorder", "(IIIIZ)V"⟩ ∈ mWs := mWs_in (List.mem_append_left _ (List.mem_of_getElem? (i := 47) (by decide +kernel))) rfl
theorem m_48 : Jvm.Cond.selects "AtlasDeskModel" ⟨"AtlasDeskModel", "cutLine", "(II)V"⟩ ⟨"AtlasDeskModel", "cutLine", "(II)V"⟩ ∈ mWs := mWs_in (List.mem_append_left _ (List.mem_of_getElem? (i := 48) (by decide +kernel))) rfl
theorem m_49 : Jvm.Cond.selects "AtlasDeskModel" ⟨"AtlasDeskModel", "dropSingles", "()V"⟩ ⟨"AtlasDeskModel", "dropSingles", "()V"⟩ ∈ mWs := mWs_in (List.mem_append_left _ (List.mem_of_getElem? (i := 49) (by decide +kernel))) rfl
theorem m_50 : Jvm.Cond.selects "AtlasDeskModel" ⟨"AtlasDeskModel", "writeFeature", "(IIII)V"⟩ ⟨"AtlasDeskModel", "writeFeature", "(IIII)V"⟩ ∈ mWs := mWs_in (List.mem_append_left _ (List.mem_of_getElem? (i := 50) (by decide +kernel))) rfl
theorem m_51 : Jvm.Cond.selects "AtlasDeskModel" ⟨"AtlasDeskModel", "countOut", "(I)V"⟩ ⟨"AtlasDeskModel", "countOut", "(I)V"⟩ ∈ mWs := mWs_in (List.mem_append_left _ (List.mem_of_getElem? (i := 51) (by decide +kernel))) rfl
theorem m_52 : Jvm.Cond.selects "AtlasDeskModel" ⟨"AtlasDeskModel", "octetOut", "(I)V"⟩ ⟨"AtlasDeskModel", "octetOut", "(I)V"⟩ ∈ mWs := mWs_in (List.mem_append_left _ (List.mem_of_getElem? (i := 52) (by decide +kernel))) rfl
theorem m_53 : Jvm.Cond.selects "AtlasDeskModel" ⟨"AtlasDeskModel", "differenceOut", "(I)V"⟩ ⟨"AtlasDeskModel", "differenceOut", "(I)V"⟩ ∈ mWs := mWs_in (List.mem_append_left _ (List.mem_of_getElem? (i := 53) (by decide +kernel))) rfl
theorem m_54 : Jvm.Cond.selects "AtlasDeskModel" ⟨"AtlasDeskModel", "makePack", "(II)Z"⟩ ⟨"AtlasDeskModel", "makePack", "(II)Z"⟩ ∈ mWs := mWs_in (List.mem_append_left _ (List.mem_of_getElem? (i := 54) (by decide +kernel))) rfl
theorem m_55 : Jvm.Cond.selects "AtlasDeskModel" ⟨"AtlasDeskModel", "inRegion", "(IIII)Z"⟩ ⟨"AtlasDeskModel", "inRegion", "(IIII)Z"⟩ ∈ mWs := mWs_in (List.mem_append_left _ (List.mem_of_getElem? (i := 55) (by decide +kernel))) rfl
theorem m_56 : Jvm.Cond.selects "AtlasDeskModel" ⟨"AtlasDeskModel", "addTile", "(IIII)Z"⟩ ⟨"AtlasDeskModel", "addTile", "(IIII)Z"⟩ ∈ mWs := mWs_in (List.mem_append_left _ (List.mem_of_getElem? (i := 56) (by decide +kernel))) rfl
theorem m_57 : Jvm.Cond.selects "AtlasDeskModel" ⟨"AtlasDeskModel", "sameAs", "(I)I"⟩ ⟨"AtlasDeskModel", "sameAs", "(I)I"⟩ ∈ mWs := mWs_in (List.mem_append_left _ (List.mem_of_getElem? (i := 57) (by decide +kernel))) rfl
theorem m_58 : Jvm.Cond.selects "AtlasDeskModel" ⟨"AtlasDeskModel", "addMembers", "(II)V"⟩ ⟨"AtlasDeskModel", "addMembers", "(II)V"⟩ ∈ mWs := mWs_in (List.mem_append_left _ (List.mem_of_getElem? (i := 58) (by decide +kernel))) rfl
theorem m_59 : Jvm.Cond.selects "AtlasDeskModel" ⟨"AtlasDeskModel", "meetsRegion", "(I)Z"⟩ ⟨"AtlasDeskModel", "meetsRegion", "(I)Z"⟩ ∈ mWs := mWs_in (List.mem_append_left _ (List.mem_of_getElem? (i := 59) (by decide +kernel))) rfl
theorem m_60 : Jvm.Cond.selects "AtlasDeskModel" ⟨"AtlasDeskModel", "edgeMeets", "(III)Z"⟩ ⟨"AtlasDeskModel", "edgeMeets", "(III)Z"⟩ ∈ mWs := mWs_in (List.mem_append_left _ (List.mem_of_getElem? (i := 60) (by decide +kernel))) rfl
theorem m_61 : Jvm.Cond.selects "AtlasDeskModel" ⟨"AtlasDeskModel", "holdsRegion", "(I)Z"⟩ ⟨"AtlasDeskModel", "holdsRegion", "(I)Z"⟩ ∈ mWs := mWs_in (List.mem_append_left _ (List.mem_of_getElem? (i := 61) (by decide +kernel))) rfl
theorem m_62 : Jvm.Cond.selects "AtlasDeskModel" ⟨"AtlasDeskModel", "copyPack", "(II)V"⟩ ⟨"AtlasDeskModel", "copyPack", "(II)V"⟩ ∈ mWs := mWs_in (List.mem_append_left _ (List.mem_of_getElem? (i := 62) (by decide +kernel))) rfl
theorem m_63 : Jvm.Cond.selects "AtlasDeskModel" ⟨"AtlasDeskModel", "tileIn", "(IIII)I"⟩ ⟨"AtlasDeskModel", "tileIn", "(IIII)I"⟩ ∈ mWs := mWs_in (List.mem_append_left _ (List.mem_of_getElem? (i := 63) (by decide +kernel))) rfl
theorem m_64 : Jvm.Cond.selects "AtlasDeskModel" ⟨"AtlasDeskModel", "told", "(I)I"⟩ ⟨"AtlasDeskModel", "told", "(I)I"⟩ ∈ mWs := mWs_in (List.mem_append_left _ (List.mem_of_getElem? (i := 64) (by decide +kernel))) rfl
theorem m_65 : Jvm.Cond.selects "AtlasDeskModel" ⟨"AtlasDeskModel", "ahead", "(IIII)Z"⟩ ⟨"AtlasDeskModel", "ahead", "(IIII)Z"⟩ ∈ mWs := mWs_in (List.mem_append_left _ (List.mem_of_getElem? (i := 65) (by decide +kernel))) rfl
theorem m_66 : Jvm.Cond.selects "AtlasDeskModel" ⟨"AtlasDeskModel", "sameBytes", "(IIII)Z"⟩ ⟨"AtlasDeskModel", "sameBytes", "(IIII)Z"⟩ ∈ mWs := mWs_in (List.mem_append_left _ (List.mem_of_getElem? (i := 66) (by decide +kernel))) rfl
theorem m_67 : Jvm.Cond.selects "AtlasDeskModel" ⟨"AtlasDeskModel", "isBefore", "()Z"⟩ ⟨"AtlasDeskModel", "isBefore", "()Z"⟩ ∈ mWs := mWs_in (List.mem_append_left _ (List.mem_of_getElem? (i := 67) (by decide +kernel))) rfl
theorem m_68 : Jvm.Cond.selects "AtlasDeskModel" ⟨"AtlasDeskModel", "nearer", "(IIII)Z"⟩ ⟨"AtlasDeskModel", "nearer", "(IIII)Z"⟩ ∈ mWs := mWs_in (List.mem_append_left _ (List.mem_of_getElem? (i := 68) (by decide +kernel))) rfl
theorem m_70 : Jvm.Cond.initialized "AtlasDesk" ∈ mWs := mWs_in (tl_1 (List.mem_of_getElem? (i := 1) (by decide +kernel))) rfl
theorem m_71 : Jvm.Cond.initialized "AtlasDesk$Feature" ∈ mWs := mWs_in (tl_1 (List.mem_of_getElem? (i := 2) (by decide +kernel))) rfl
theorem m_72 : Jvm.Cond.initialized "AtlasDesk$Edition" ∈ mWs := mWs_in (tl_1 (List.mem_of_getElem? (i := 3) (by decide +kernel))) rfl
theorem m_73 : Jvm.Cond.initialized "AtlasDesk$Packer" ∈ mWs := mWs_in (tl_1 (List.mem_of_getElem? (i := 4) (by decide +kernel))) rfl
theorem m_74 : Jvm.Cond.initialized "AtlasDesk$TileMaker" ∈ mWs := mWs_in (tl_1 (List.mem_of_getElem? (i := 5) (by decide +kernel))) rfl
theorem m_75 : Jvm.Cond.initialized "AtlasDesk$Path" ∈ mWs := mWs_in (tl_1 (List.mem_of_getElem? (i := 6) (by decide +kernel))) rfl
theorem m_76 : Jvm.Cond.initialized "AtlasDesk$Side" ∈ mWs := mWs_in (tl_1 (List.mem_of_getElem? (i := 7) (by decide +kernel))) rfl
theorem m_77 : Jvm.Cond.initialized "AtlasDesk$Octets" ∈ mWs := mWs_in (tl_1 (List.mem_of_getElem? (i := 8) (by decide +kernel))) rfl
theorem m_78 : Jvm.Cond.initialized "AtlasDesk$Region" ∈ mWs := mWs_in (tl_1 (List.mem_of_getElem? (i := 9) (by decide +kernel))) rfl
theorem m_79 : Jvm.Cond.initialized "AtlasDesk$Pack" ∈ mWs := mWs_in (tl_1 (List.mem_of_getElem? (i := 10) (by decide +kernel))) rfl
theorem m_80 : Jvm.Cond.initialized "AtlasDesk$Difference" ∈ mWs := mWs_in (tl_1 (List.mem_of_getElem? (i := 11) (by decide +kernel))) rfl
theorem m_81 : Jvm.Cond.initialized "AtlasDeskModel" ∈ mWs := mWs_in (tl_1 (List.mem_of_getElem? (i := 12) (by decide +kernel))) rfl
theorem m_82 : Jvm.Cond.initialized "java/lang/Math" ∈ mWs := mWs_in (tl_1 (List.mem_of_getElem? (i := 13) (by decide +kernel))) rfl
theorem m_83 : Jvm.Cond.initialized "java/lang/System" ∈ mWs := mWs_in (tl_1 (List.mem_of_getElem? (i := 14) (by decide +kernel))) rfl
theorem m_91 : Jvm.Cond.classLink "AtlasDeskLaw" 8 "AtlasDesk" ∈ mWs := mWs_in (tl_1 (List.mem_of_getElem? (i := 22) (by decide +kernel))) rfl
theorem m_92 : Jvm.Cond.instantiable "AtlasDesk" 14 ∈ mWs := mWs_in (tl_1 (List.mem_of_getElem? (i := 23) (by decide +kernel))) rfl
theorem m_93 : Jvm.Cond.methodLink "AtlasDeskLaw" 48 ⟨"AtlasDesk", "<init>", "()V"⟩ ∈ mWs := mWs_in (tl_1 (List.mem_of_getElem? (i := 24) (by decide +kernel))) rfl
theorem m_94 : Jvm.Cond.instanceMethod ⟨"AtlasDesk", "<init>", "()V"⟩ ∈ mWs := mWs_in (tl_1 (List.mem_of_getElem? (i := 25) (by decide +kernel))) rfl
set_option maxRecDepth 8000 in
theorem m_95 : Jvm.Cond.code ⟨"AtlasDesk", "<init>", "()V"⟩ prog_1_method_1_code 2 none ∈ mWs := mWs_in (tl_1 (List.mem_of_getElem? (i := 26) rfl)) rfl
theorem m_96 : Jvm.Cond.methodLink "AtlasDesk" 3 ⟨"java/lang/Object", "<init>", "()V"⟩ ∈ mWs := mWs_in (tl_1 (List.mem_of_getElem? (i := 27) (by decide +kernel))) rfl
theorem m_97 : Jvm.Cond.instanceMethod ⟨"java/lang/Object", "<init>", "()V"⟩ ∈ mWs := mWs_in (tl_1 (List.mem_of_getElem? (i := 28) (by decide +kernel))) rfl
set_option maxRecDepth 8000 in
theorem m_98 : Jvm.Cond.code ⟨"java/lang/Object", "<init>", "()V"⟩ object_method_1_code 1 none ∈ mWs := mWs_in (tl_1 (List.mem_of_getElem? (i := 29) rfl)) rfl
theorem m_99 : Jvm.Cond.classLink "AtlasDesk" 9 "AtlasDesk$Feature" ∈ mWs := mWs_in (tl_1 (List.mem_of_getElem? (i := 30) (by decide +kernel))) rfl
theorem m_100 : Jvm.Cond.instantiable "AtlasDesk$Feature" 8 ∈ mWs := mWs_in (tl_1 (List.mem_of_getElem? (i := 31) (by decide +kernel))) rfl
theorem m_101 : Jvm.Cond.methodLinkNest "AtlasDesk" 11 ⟨"AtlasDesk$Feature", "<init>", "()V"⟩ "AtlasDesk" ∈ lw_tbl := tl_1 (List.mem_of_getElem? (i := 32) (by decide +kernel))
theorem m_102 : Jvm.Cond.instanceMethod ⟨"AtlasDesk$Feature", "<init>", "()V"⟩ ∈ mWs := mWs_in (tl_1 (List.mem_of_getElem? (i := 33) (by decide +kernel))) rfl
set_option maxRecDepth 8000 in
theorem m_103 : Jvm.Cond.code ⟨"AtlasDesk$Feature", "<init>", "()V"⟩ prog_4_method_1_code 1 none ∈ mWs := mWs_in (tl_1 (List.mem_of_getElem? (i := 34) rfl)) rfl
theorem m_104 : Jvm.Cond.methodLink "AtlasDesk$Feature" 3 ⟨"java/lang/Object", "<init>", "()V"⟩ ∈ mWs := mWs_in (tl_1 (List.mem_of_getElem? (i := 35) (by decide +kernel))) rfl
theorem m_105 : Jvm.Cond.fieldLink "AtlasDesk$Edition" 18 "AtlasDesk$Feature" "number" "I" ∈ mWs := mWs_in (tl_1 (List.mem_of_getElem? (i := 36) (by decide +kernel))) rfl
theorem m_106 : Jvm.Cond.fieldLink "AtlasDesk$Feature" 26 "AtlasDesk$Feature" "number" "I" ∈ mWs := mWs_in (tl_1 (List.mem_of_getElem? (i := 37) (by decide +kernel))) rfl
theorem m_107 : Jvm.Cond.fieldLink "AtlasDesk$TileMaker" 130 "AtlasDesk$Feature" "number" "I" ∈ mWs := mWs_in (tl_1 (List.mem_of_getElem? (i := 38) (by decide +kernel))) rfl
theorem m_108 : Jvm.Cond.fieldLink "AtlasDesk$Feature" 29 "AtlasDesk$Feature" "kind" "I" ∈ mWs := mWs_in (tl_1 (List.mem_of_getElem? (i := 39) (by decide +kernel))) rfl
theorem m_109 : Jvm.Cond.fieldLink "AtlasDesk$TileMaker" 77 "AtlasDesk$Feature" "kind" "I" ∈ mWs := mWs_in (tl_1 (List.mem_of_getElem? (i := 40) (by decide +kernel))) rfl
theorem m_110 : Jvm.Cond.fieldLink "AtlasDesk$Region" 31 "AtlasDesk$Feature" "kind" "I" ∈ mWs := mWs_in (tl_1 (List.mem_of_getElem? (i := 41) (by decide +kernel))) rfl
theorem m_111 : Jvm.Cond.fieldLink "AtlasDesk$Feature" 32 "AtlasDesk$Feature" "sort" "I" ∈ mWs := mWs_in (tl_1 (List.mem_of_getElem? (i := 42) (by decide +kernel))) rfl
theorem m_112 : Jvm.Cond.fieldLink "AtlasDesk$TileMaker" 151 "AtlasDesk$Feature" "sort" "I" ∈ mWs := mWs_in (tl_1 (List.mem_of_getElem? (i := 43) (by decide +kernel))) rfl
theorem m_113 : Jvm.Cond.fieldLink "AtlasDesk$Edition" 68 "AtlasDesk$Feature" "sort" "I" ∈ mWs := mWs_in (tl_1 (List.mem_of_getElem? (i := 44) (by decide +kernel))) rfl
theorem m_114 : Jvm.Cond.fieldLink "AtlasDesk$TileMaker" 56 "AtlasDesk$Feature" "least" "I" ∈ mWs := mWs_in (tl_1 (List.mem_of_getElem? (i := 45) (by decide +kernel))) rfl
theorem m_115 : Jvm.Cond.fieldLink "AtlasDesk$Feature" 35 "AtlasDesk$Feature" "least" "I" ∈ mWs := mWs_in (tl_1 (List.mem_of_getElem? (i := 46) (by decide +kernel))) rfl
theorem m_116 : Jvm.Cond.fieldLink "AtlasDesk$Edition" 37 "AtlasDesk$Feature" "least" "I" ∈ mWs := mWs_in (tl_1 (List.mem_of_getElem? (i := 47) (by decide +kernel))) rfl
theorem m_117 : Jvm.Cond.fieldLink "AtlasDesk$Feature" 38 "AtlasDesk$Feature" "word" "J" ∈ mWs := mWs_in (tl_1 (List.mem_of_getElem? (i := 48) (by decide +kernel))) rfl
theorem m_118 : Jvm.Cond.fieldLink "AtlasDesk$Feature" 22 "AtlasDesk$Feature" "count" "I" ∈ mWs := mWs_in (tl_1 (List.mem_of_getElem? (i := 49) (by decide +kernel))) rfl
theorem m_119 : Jvm.Cond.fieldLink "AtlasDesk$TileMaker" 65 "AtlasDesk$Feature" "count" "I" ∈ mWs := mWs_in (tl_1 (List.mem_of_getElem? (i := 50) (by decide +kernel))) rfl
theorem m_120 : Jvm.Cond.fieldLink "AtlasDesk" 87 "AtlasDesk$Feature" "count" "I" ∈ mWs := mWs_in (tl_1 (List.mem_of_getElem? (i := 51) (by decide +kernel))) rfl
theorem m_121 : Jvm.Cond.fieldLink "AtlasDesk$Region" 40 "AtlasDesk$Feature" "count" "I" ∈ mWs := mWs_in (tl_1 (List.mem_of_getElem? (i := 52) (by decide +kernel))) rfl
theorem m_122 : Jvm.Cond.fieldLink "AtlasDesk$Feature" 9 "AtlasDesk$Feature" "xs" "[I" ∈ mWs := mWs_in (tl_1 (List.mem_of_getElem? (i := 53) (by decide +kernel))) rfl
theorem m_123 : Jvm.Cond.fieldLink "AtlasDesk$TileMaker" 66 "AtlasDesk$Feature" "xs" "[I" ∈ mWs := mWs_in (tl_1 (List.mem_of_getElem? (i := 54) (by decide +kernel))) rfl
theorem m_124 : Jvm.Cond.fieldLink "AtlasDesk$Region" 51 "AtlasDesk$Feature" "xs" "[I" ∈ mWs := mWs_in (tl_1 (List.mem_of_getElem? (i := 55) (by decide +kernel))) rfl
theorem m_125 : Jvm.Cond.fieldLink "AtlasDesk$Feature" 15 "AtlasDesk$Feature" "ys" "[I" ∈ mWs := mWs_in (tl_1 (List.mem_of_getElem? (i := 56) (by decide +kernel))) rfl
theorem m_126 : Jvm.Cond.fieldLink "AtlasDesk$TileMaker" 70 "AtlasDesk$Feature" "ys" "[I" ∈ mWs := mWs_in (tl_1 (List.mem_of_getElem? (i := 57) (by decide +kernel))) rfl
theorem m_127 : Jvm.Cond.fieldLink "AtlasDesk$Region" 55 "AtlasDesk$Feature" "ys" "[I" ∈ mWs := mWs_in (tl_1 (List.mem_of_getElem? (i := 58) (by decide +kernel))) rfl
theorem m_128 : Jvm.Cond.lays "AtlasDesk$Feature" "AtlasDesk$Feature" "number" "I" ∈ mWs := mWs_in (tl_1 (List.mem_of_getElem? (i := 59) (by decide +kernel))) rfl
theorem m_130 : Jvm.Cond.lays "AtlasDesk$Feature" "AtlasDesk$Feature" "kind" "I" ∈ mWs := mWs_in (tl_1 (List.mem_of_getElem? (i := 61) (by decide +kernel))) rfl
theorem m_132 : Jvm.Cond.lays "AtlasDesk$Feature" "AtlasDesk$Feature" "sort" "I" ∈ mWs := mWs_in (tl_1 (List.mem_of_getElem? (i := 63) (by decide +kernel))) rfl
theorem m_134 : Jvm.Cond.lays "AtlasDesk$Feature" "AtlasDesk$Feature" "least" "I" ∈ mWs := mWs_in (tl_1 (List.mem_of_getElem? (i := 65) (by decide +kernel))) rfl
theorem m_136 : Jvm.Cond.lays "AtlasDesk$Feature" "AtlasDesk$Feature" "word" "J" ∈ mWs := mWs_in (tl_1 (List.mem_of_getElem? (i := 67) (by decide +kernel))) rfl
theorem m_138 : Jvm.Cond.lays "AtlasDesk$Feature" "AtlasDesk$Feature" "count" "I" ∈ mWs := mWs_in (tl_1 (List.mem_of_getElem? (i := 69) (by decide +kernel))) rfl
theorem m_140 : Jvm.Cond.laysFinal "AtlasDesk$Feature" "AtlasDesk$Feature" "xs" "[I" ∈ mWs := mWs_in (tl_1 (List.mem_of_getElem? (i := 71) (by decide +kernel))) rfl
theorem m_142 : Jvm.Cond.laysFinal "AtlasDesk$Feature" "AtlasDesk$Feature" "ys" "[I" ∈ mWs := mWs_in (tl_1 (List.mem_of_getElem? (i := 73) (by decide +kernel))) rfl
theorem m_145 : Jvm.Cond.arrayClass .int ∈ mWs := mWs_in (tl_1 (List.mem_of_getElem? (i := 76) (by decide +kernel))) rfl
theorem m_146 : Jvm.Cond.classLink "AtlasDesk" 16 "AtlasDesk$Edition" ∈ mWs := mWs_in (tl_1 (List.mem_of_getElem? (i := 77) (by decide +kernel))) rfl
theorem m_147 : Jvm.Cond.instantiable "AtlasDesk$Edition" 2 ∈ mWs := mWs_in (tl_1 (List.mem_of_getElem? (i := 78) (by decide +kernel))) rfl
theorem m_148 : Jvm.Cond.methodLink "AtlasDesk" 18 ⟨"AtlasDesk$Edition", "<init>", "()V"⟩ ∈ mWs := mWs_in (tl_1 (List.mem_of_getElem? (i := 79) (by decide +kernel))) rfl
theorem m_149 : Jvm.Cond.instanceMethod ⟨"AtlasDesk$Edition", "<init>", "()V"⟩ ∈ mWs := mWs_in (tl_1 (List.mem_of_getElem? (i := 80) (by decide +kernel))) rfl
set_option maxRecDepth 8000 in
theorem m_150 : Jvm.Cond.code ⟨"AtlasDesk$Edition", "<init>", "()V"⟩ prog_3_method_1_code 2 none ∈ mWs := mWs_in (tl_1 (List.mem_of_getElem? (i := 81) rfl)) rfl
theorem m_151 : Jvm.Cond.methodLink "AtlasDesk$Edition" 3 ⟨"java/lang/Object", "<init>", "()V"⟩ ∈ mWs := mWs_in (tl_1 (List.mem_of_getElem? (i := 82) (by decide +kernel))) rfl
theorem m_152 : Jvm.Cond.classLink "AtlasDesk$Edition" 9 "AtlasDesk$Feature" ∈ mWs := mWs_in (tl_1 (List.mem_of_getElem? (i := 83) (by decide +kernel))) rfl
theorem m_154 : Jvm.Cond.methodLinkNest "AtlasDesk$Edition" 17 ⟨"AtlasDesk$Feature", "<init>", "()V"⟩ "AtlasDesk" ∈ lw_tbl := tl_1 (List.mem_of_getElem? (i := 85) (by decide +kernel))
theorem m_155 : Jvm.Cond.fieldLink "AtlasDesk$Edition" 11 "AtlasDesk$Edition" "features" "[LAtlasDesk$Feature;" ∈ mWs := mWs_in (tl_1 (List.mem_of_getElem? (i := 86) (by decide +kernel))) rfl
theorem m_156 : Jvm.Cond.fieldLink "AtlasDesk$TileMaker" 52 "AtlasDesk$Edition" "features" "[LAtlasDesk$Feature;" ∈ mWs := mWs_in (tl_1 (List.mem_of_getElem? (i := 87) (by decide +kernel))) rfl
theorem m_157 : Jvm.Cond.fieldLink "AtlasDesk$TileMaker" 46 "AtlasDesk$Edition" "count" "I" ∈ mWs := mWs_in (tl_1 (List.mem_of_getElem? (i := 88) (by decide +kernel))) rfl
theorem m_158 : Jvm.Cond.fieldLink "AtlasDesk$Edition" 30 "AtlasDesk$Edition" "count" "I" ∈ mWs := mWs_in (tl_1 (List.mem_of_getElem? (i := 89) (by decide +kernel))) rfl
theorem m_159 : Jvm.Cond.fieldLink "AtlasDesk" 103 "AtlasDesk$Edition" "count" "I" ∈ mWs := mWs_in (tl_1 (List.mem_of_getElem? (i := 90) (by decide +kernel))) rfl
theorem m_160 : Jvm.Cond.laysFinal "AtlasDesk$Edition" "AtlasDesk$Edition" "features" "[LAtlasDesk$Feature;" ∈ mWs := mWs_in (tl_1 (List.mem_of_getElem? (i := 91) (by decide +kernel))) rfl
theorem m_162 : Jvm.Cond.lays "AtlasDesk$Edition" "AtlasDesk$Edition" "count" "I" ∈ mWs := mWs_in (tl_1 (List.mem_of_getElem? (i := 93) (by decide +kernel))) rfl
theorem m_166 : Jvm.Cond.classLink "AtlasDesk" 27 "AtlasDesk$Packer" ∈ mWs := mWs_in (tl_1 (List.mem_of_getElem? (i := 97) (by decide +kernel))) rfl
theorem m_167 : Jvm.Cond.instantiable "AtlasDesk$Packer" 2 ∈ mWs := mWs_in (tl_1 (List.mem_of_getElem? (i := 98) (by decide +kernel))) rfl
theorem m_168 : Jvm.Cond.methodLinkNest "AtlasDesk" 29 ⟨"AtlasDesk$Packer", "<init>", "()V"⟩ "AtlasDesk" ∈ lw_tbl := tl_1 (List.mem_of_getElem? (i := 99) (by decide +kernel))
theorem m_169 : Jvm.Cond.instanceMethod ⟨"AtlasDesk$Packer", "<init>", "()V"⟩ ∈ mWs := mWs_in (tl_1 (List.mem_of_getElem? (i := 100) (by decide +kernel))) rfl
set_option maxRecDepth 8000 in
theorem m_170 : Jvm.Cond.code ⟨"AtlasDesk$Packer", "<init>", "()V"⟩ prog_7_method_1_code 1 none ∈ mWs := mWs_in (tl_1 (List.mem_of_getElem? (i := 101) rfl)) rfl
theorem m_171 : Jvm.Cond.methodLink "AtlasDesk$Packer" 3 ⟨"java/lang/Object", "<init>", "()V"⟩ ∈ mWs := mWs_in (tl_1 (List.mem_of_getElem? (i := 102) (by decide +kernel))) rfl
theorem m_172 : Jvm.Cond.classLink "AtlasDesk$Packer" 9 "AtlasDesk$TileMaker" ∈ mWs := mWs_in (tl_1 (List.mem_of_getElem? (i := 103) (by decide +kernel))) rfl
theorem m_173 : Jvm.Cond.instantiable "AtlasDesk$TileMaker" 7 ∈ mWs := mWs_in (tl_1 (List.mem_of_getElem? (i := 104) (by decide +kernel))) rfl
theorem m_174 : Jvm.Cond.methodLink "AtlasDesk$Packer" 11 ⟨"AtlasDesk$TileMaker", "<init>", "()V"⟩ ∈ mWs := mWs_in (tl_1 (List.mem_of_getElem? (i := 105) (by decide +kernel))) rfl
theorem m_175 : Jvm.Cond.instanceMethod ⟨"AtlasDesk$TileMaker", "<init>", "()V"⟩ ∈ mWs := mWs_in (tl_1 (List.mem_of_getElem? (i := 106) (by decide +kernel))) rfl
set_option maxRecDepth 8000 in
theorem m_176 : Jvm.Cond.code ⟨"AtlasDesk$TileMaker", "<init>", "()V"⟩ prog_11_method_1_code 2 none ∈ mWs := mWs_in (tl_1 (List.mem_of_getElem? (i := 107) rfl)) rfl
theorem m_177 : Jvm.Cond.methodLink "AtlasDesk$TileMaker" 3 ⟨"java/lang/Object", "<init>", "()V"⟩ ∈ mWs := mWs_in (tl_1 (List.mem_of_getElem? (i := 108) (by decide +kernel))) rfl
theorem m_178 : Jvm.Cond.classLink "AtlasDesk$TileMaker" 9 "AtlasDesk$Path" ∈ mWs := mWs_in (tl_1 (List.mem_of_getElem? (i := 109) (by decide +kernel))) rfl
theorem m_180 : Jvm.Cond.instantiable "AtlasDesk$Path" 8 ∈ mWs := mWs_in (tl_1 (List.mem_of_getElem? (i := 111) (by decide +kernel))) rfl
theorem m_181 : Jvm.Cond.methodLink "AtlasDesk$TileMaker" 21 ⟨"AtlasDesk$Path", "<init>", "(I)V"⟩ ∈ mWs := mWs_in (tl_1 (List.mem_of_getElem? (i := 112) (by decide +kernel))) rfl
theorem m_182 : Jvm.Cond.instanceMethod ⟨"AtlasDesk$Path", "<init>", "(I)V"⟩ ∈ mWs := mWs_in (tl_1 (List.mem_of_getElem? (i := 113) (by decide +kernel))) rfl
set_option maxRecDepth 8000 in
theorem m_183 : Jvm.Cond.code ⟨"AtlasDesk$Path", "<init>", "(I)V"⟩ prog_8_method_1_code 2 none ∈ mWs := mWs_in (tl_1 (List.mem_of_getElem? (i := 114) rfl)) rfl
theorem m_184 : Jvm.Cond.methodLink "AtlasDesk$Path" 3 ⟨"java/lang/Object", "<init>", "()V"⟩ ∈ mWs := mWs_in (tl_1 (List.mem_of_getElem? (i := 115) (by decide +kernel))) rfl
theorem m_185 : Jvm.Cond.fieldLink "AtlasDesk$Path" 9 "AtlasDesk$Path" "xs" "[I" ∈ mWs := mWs_in (tl_1 (List.mem_of_getElem? (i := 116) (by decide +kernel))) rfl
theorem m_186 : Jvm.Cond.fieldLink "AtlasDesk$TileMaker" 80 "AtlasDesk$Path" "xs" "[I" ∈ mWs := mWs_in (tl_1 (List.mem_of_getElem? (i := 117) (by decide +kernel))) rfl
theorem m_187 : Jvm.Cond.fieldLink "AtlasDesk$Path" 15 "AtlasDesk$Path" "ys" "[I" ∈ mWs := mWs_in (tl_1 (List.mem_of_getElem? (i := 118) (by decide +kernel))) rfl
theorem m_188 : Jvm.Cond.fieldLink "AtlasDesk$TileMaker" 81 "AtlasDesk$Path" "ys" "[I" ∈ mWs := mWs_in (tl_1 (List.mem_of_getElem? (i := 119) (by decide +kernel))) rfl
theorem m_189 : Jvm.Cond.fieldLink "AtlasDesk$Path" 18 "AtlasDesk$Path" "begins" "[Z" ∈ mWs := mWs_in (tl_1 (List.mem_of_getElem? (i := 120) (by decide +kernel))) rfl
theorem m_190 : Jvm.Cond.fieldLink "AtlasDesk$TileMaker" 160 "AtlasDesk$Path" "begins" "[Z" ∈ mWs := mWs_in (tl_1 (List.mem_of_getElem? (i := 121) (by decide +kernel))) rfl
theorem m_191 : Jvm.Cond.fieldLink "AtlasDesk$Path" 22 "AtlasDesk$Path" "count" "I" ∈ mWs := mWs_in (tl_1 (List.mem_of_getElem? (i := 122) (by decide +kernel))) rfl
theorem m_192 : Jvm.Cond.fieldLink "AtlasDesk$TileMaker" 51 "AtlasDesk$Path" "count" "I" ∈ mWs := mWs_in (tl_1 (List.mem_of_getElem? (i := 123) (by decide +kernel))) rfl
theorem m_193 : Jvm.Cond.fieldLink "AtlasDesk$Path" 40 "AtlasDesk$Path" "lowX" "I" ∈ mWs := mWs_in (tl_1 (List.mem_of_getElem? (i := 124) (by decide +kernel))) rfl
theorem m_194 : Jvm.Cond.fieldLink "AtlasDesk$Path" 46 "AtlasDesk$Path" "highX" "I" ∈ mWs := mWs_in (tl_1 (List.mem_of_getElem? (i := 125) (by decide +kernel))) rfl
theorem m_195 : Jvm.Cond.fieldLink "AtlasDesk$Path" 43 "AtlasDesk$Path" "lowY" "I" ∈ mWs := mWs_in (tl_1 (List.mem_of_getElem? (i := 126) (by decide +kernel))) rfl
theorem m_196 : Jvm.Cond.fieldLink "AtlasDesk$Path" 49 "AtlasDesk$Path" "highY" "I" ∈ mWs := mWs_in (tl_1 (List.mem_of_getElem? (i := 127) (by decide +kernel))) rfl
theorem m_197 : Jvm.Cond.laysFinal "AtlasDesk$Path" "AtlasDesk$Path" "xs" "[I" ∈ mWs := mWs_in (tl_1 (List.mem_of_getElem? (i := 128) (by decide +kernel))) rfl
theorem m_199 : Jvm.Cond.laysFinal "AtlasDesk$Path" "AtlasDesk$Path" "ys" "[I" ∈ mWs := mWs_in (tl_1 (List.mem_of_getElem? (i := 130) (by decide +kernel))) rfl
theorem m_201 : Jvm.Cond.laysFinal "AtlasDesk$Path" "AtlasDesk$Path" "begins" "[Z" ∈ mWs := mWs_in (tl_1 (List.mem_of_getElem? (i := 132) (by decide +kernel))) rfl
theorem m_203 : Jvm.Cond.lays "AtlasDesk$Path" "AtlasDesk$Path" "count" "I" ∈ mWs := mWs_in (tl_1 (List.mem_of_getElem? (i := 134) (by decide +kernel))) rfl
theorem m_205 : Jvm.Cond.lays "AtlasDesk$Path" "AtlasDesk$Path" "lowX" "I" ∈ mWs := mWs_in (tl_1 (List.mem_of_getElem? (i := 136) (by decide +kernel))) rfl
theorem m_207 : Jvm.Cond.lays "AtlasDesk$Path" "AtlasDesk$Path" "highX" "I" ∈ mWs := mWs_in (tl_1 (List.mem_of_getElem? (i := 138) (by decide +kernel))) rfl
theorem m_209 : Jvm.Cond.lays "AtlasDesk$Path" "AtlasDesk$Path" "lowY" "I" ∈ mWs := mWs_in (tl_1 (List.mem_of_getElem? (i := 140) (by decide +kernel))) rfl
theorem m_211 : Jvm.Cond.lays "AtlasDesk$Path" "AtlasDesk$Path" "highY" "I" ∈ mWs := mWs_in (tl_1 (List.mem_of_getElem? (i := 142) (by decide +kernel))) rfl
theorem m_214 : Jvm.Cond.arrayClass .boolean ∈ mWs := mWs_in (tl_1 (List.mem_of_getElem? (i := 145) (by decide +kernel))) rfl
theorem m_215 : Jvm.Cond.classLink "AtlasDesk$TileMaker" 31 "AtlasDesk$Side" ∈ mWs := mWs_in (tl_1 (List.mem_of_getElem? (i := 146) (by decide +kernel))) rfl
theorem m_216 : Jvm.Cond.instantiable "AtlasDesk$Side" 3 ∈ mWs := mWs_in (tl_1 (List.mem_of_getElem? (i := 147) (by decide +kernel))) rfl
theorem m_217 : Jvm.Cond.methodLinkNest "AtlasDesk$TileMaker" 33 ⟨"AtlasDesk$Side", "<init>", "()V"⟩ "AtlasDesk" ∈ lw_tbl := tl_1 (List.mem_of_getElem? (i := 148) (by decide +kernel))
theorem m_218 : Jvm.Cond.instanceMethod ⟨"AtlasDesk$Side", "<init>", "()V"⟩ ∈ mWs := mWs_in (tl_1 (List.mem_of_getElem? (i := 149) (by decide +kernel))) rfl
set_option maxRecDepth 8000 in
theorem m_219 : Jvm.Cond.code ⟨"AtlasDesk$Side", "<init>", "()V"⟩ prog_10_method_1_code 1 none ∈ mWs := mWs_in (tl_1 (List.mem_of_getElem? (i := 150) rfl)) rfl
theorem m_220 : Jvm.Cond.methodLink "AtlasDesk$Side" 3 ⟨"java/lang/Object", "<init>", "()V"⟩ ∈ mWs := mWs_in (tl_1 (List.mem_of_getElem? (i := 151) (by decide +kernel))) rfl
theorem m_221 : Jvm.Cond.fieldLink "AtlasDesk$Side" 9 "AtlasDesk$Side" "upright" "Z" ∈ mWs := mWs_in (tl_1 (List.mem_of_getElem? (i := 152) (by decide +kernel))) rfl
theorem m_222 : Jvm.Cond.fieldLink "AtlasDesk$Path" 74 "AtlasDesk$Side" "upright" "Z" ∈ mWs := mWs_in (tl_1 (List.mem_of_getElem? (i := 153) (by decide +kernel))) rfl
theorem m_223 : Jvm.Cond.fieldLink "AtlasDesk$Side" 15 "AtlasDesk$Side" "least" "Z" ∈ mWs := mWs_in (tl_1 (List.mem_of_getElem? (i := 154) (by decide +kernel))) rfl
theorem m_224 : Jvm.Cond.fieldLink "AtlasDesk$Side" 18 "AtlasDesk$Side" "border" "I" ∈ mWs := mWs_in (tl_1 (List.mem_of_getElem? (i := 155) (by decide +kernel))) rfl
theorem m_225 : Jvm.Cond.fieldLink "AtlasDesk$Path" 82 "AtlasDesk$Side" "border" "I" ∈ mWs := mWs_in (tl_1 (List.mem_of_getElem? (i := 156) (by decide +kernel))) rfl
theorem m_226 : Jvm.Cond.lays "AtlasDesk$Side" "AtlasDesk$Side" "upright" "Z" ∈ mWs := mWs_in (tl_1 (List.mem_of_getElem? (i := 157) (by decide +kernel))) rfl
theorem m_228 : Jvm.Cond.lays "AtlasDesk$Side" "AtlasDesk$Side" "least" "Z" ∈ mWs := mWs_in (tl_1 (List.mem_of_getElem? (i := 159) (by decide +kernel))) rfl
theorem m_230 : Jvm.Cond.lays "AtlasDesk$Side" "AtlasDesk$Side" "border" "I" ∈ mWs := mWs_in (tl_1 (List.mem_of_getElem? (i := 161) (by decide +kernel))) rfl
theorem m_233 : Jvm.Cond.fieldLink "AtlasDesk$TileMaker" 38 "AtlasDesk$TileMaker" "edition" "LAtlasDesk$Edition;" ∈ mWs := mWs_in (tl_1 (List.mem_of_getElem? (i := 164) (by decide +kernel))) rfl
theorem m_234 : Jvm.Cond.fieldLink "AtlasDesk$TileMaker" 42 "AtlasDesk$TileMaker" "zoom" "I" ∈ mWs := mWs_in (tl_1 (List.mem_of_getElem? (i := 165) (by decide +kernel))) rfl
theorem m_235 : Jvm.Cond.fieldLink "AtlasDesk$TileMaker" 11 "AtlasDesk$TileMaker" "shapes" "[LAtlasDesk$Path;" ∈ mWs := mWs_in (tl_1 (List.mem_of_getElem? (i := 166) (by decide +kernel))) rfl
theorem m_236 : Jvm.Cond.fieldLink "AtlasDesk$TileMaker" 17 "AtlasDesk$TileMaker" "stays" "[Z" ∈ mWs := mWs_in (tl_1 (List.mem_of_getElem? (i := 167) (by decide +kernel))) rfl
theorem m_237 : Jvm.Cond.fieldLink "AtlasDesk$TileMaker" 24 "AtlasDesk$TileMaker" "uncut" "LAtlasDesk$Path;" ∈ mWs := mWs_in (tl_1 (List.mem_of_getElem? (i := 168) (by decide +kernel))) rfl
theorem m_238 : Jvm.Cond.fieldLink "AtlasDesk$TileMaker" 28 "AtlasDesk$TileMaker" "cut" "LAtlasDesk$Path;" ∈ mWs := mWs_in (tl_1 (List.mem_of_getElem? (i := 169) (by decide +kernel))) rfl
theorem m_239 : Jvm.Cond.fieldLink "AtlasDesk$TileMaker" 34 "AtlasDesk$TileMaker" "side" "LAtlasDesk$Side;" ∈ mWs := mWs_in (tl_1 (List.mem_of_getElem? (i := 170) (by decide +kernel))) rfl
theorem m_240 : Jvm.Cond.lays "AtlasDesk$TileMaker" "AtlasDesk$TileMaker" "edition" "LAtlasDesk$Edition;" ∈ mWs := mWs_in (tl_1 (List.mem_of_getElem? (i := 171) (by decide +kernel))) rfl
theorem m_242 : Jvm.Cond.lays "AtlasDesk$TileMaker" "AtlasDesk$TileMaker" "zoom" "I" ∈ mWs := mWs_in (tl_1 (List.mem_of_getElem? (i := 173) (by decide +kernel))) rfl
theorem m_244 : Jvm.Cond.laysFinal "AtlasDesk$TileMaker" "AtlasDesk$TileMaker" "shapes" "[LAtlasDesk$Path;" ∈ mWs := mWs_in (tl_1 (List.mem_of_getElem? (i := 175) (by decide +kernel))) rfl
theorem m_246 : Jvm.Cond.laysFinal "AtlasDesk$TileMaker" "AtlasDesk$TileMaker" "stays" "[Z" ∈ mWs := mWs_in (tl_1 (List.mem_of_getElem? (i := 177) (by decide +kernel))) rfl
theorem m_248 : Jvm.Cond.lays "AtlasDesk$TileMaker" "AtlasDesk$TileMaker" "uncut" "LAtlasDesk$Path;" ∈ mWs := mWs_in (tl_1 (List.mem_of_getElem? (i := 179) (by decide +kernel))) rfl
theorem m_250 : Jvm.Cond.lays "AtlasDesk$TileMaker" "AtlasDesk$TileMaker" "cut" "LAtlasDesk$Path;" ∈ mWs := mWs_in (tl_1 (List.mem_of_getElem? (i := 181) (by decide +kernel))) rfl
theorem m_252 : Jvm.Cond.laysFinal "AtlasDesk$TileMaker" "AtlasDesk$TileMaker" "side" "LAtlasDesk$Side;" ∈ mWs := mWs_in (tl_1 (List.mem_of_getElem? (i := 183) (by decide +kernel))) rfl
theorem m_255 : Jvm.Cond.classLink "AtlasDesk$Packer" 18 "AtlasDesk$Octets" ∈ mWs := mWs_in (tl_1 (List.mem_of_getElem? (i := 186) (by decide +kernel))) rfl
theorem m_256 : Jvm.Cond.instantiable "AtlasDesk$Octets" 2 ∈ mWs := mWs_in (tl_1 (List.mem_of_getElem? (i := 187) (by decide +kernel))) rfl
theorem m_257 : Jvm.Cond.methodLinkNest "AtlasDesk$Packer" 20 ⟨"AtlasDesk$Octets", "<init>", "()V"⟩ "AtlasDesk" ∈ lw_tbl := tl_1 (List.mem_of_getElem? (i := 188) (by decide +kernel))
theorem m_258 : Jvm.Cond.instanceMethod ⟨"AtlasDesk$Octets", "<init>", "()V"⟩ ∈ mWs := mWs_in (tl_1 (List.mem_of_getElem? (i := 189) (by decide +kernel))) rfl
set_option maxRecDepth 8000 in
theorem m_259 : Jvm.Cond.code ⟨"AtlasDesk$Octets", "<init>", "()V"⟩ prog_5_method_1_code 1 none ∈ mWs := mWs_in (tl_1 (List.mem_of_getElem? (i := 190) rfl)) rfl
theorem m_260 : Jvm.Cond.methodLink "AtlasDesk$Octets" 3 ⟨"java/lang/Object", "<init>", "()V"⟩ ∈ mWs := mWs_in (tl_1 (List.mem_of_getElem? (i := 191) (by decide +kernel))) rfl
theorem m_261 : Jvm.Cond.fieldLink "AtlasDesk$Octets" 9 "AtlasDesk$Octets" "data" "[B" ∈ mWs := mWs_in (tl_1 (List.mem_of_getElem? (i := 192) (by decide +kernel))) rfl
theorem m_262 : Jvm.Cond.fieldLink "AtlasDesk$Pack" 77 "AtlasDesk$Octets" "data" "[B" ∈ mWs := mWs_in (tl_1 (List.mem_of_getElem? (i := 193) (by decide +kernel))) rfl
theorem m_263 : Jvm.Cond.fieldLink "AtlasDesk" 145 "AtlasDesk$Octets" "data" "[B" ∈ mWs := mWs_in (tl_1 (List.mem_of_getElem? (i := 194) (by decide +kernel))) rfl
theorem m_264 : Jvm.Cond.fieldLink "AtlasDesk$Octets" 15 "AtlasDesk$Octets" "size" "I" ∈ mWs := mWs_in (tl_1 (List.mem_of_getElem? (i := 195) (by decide +kernel))) rfl
theorem m_265 : Jvm.Cond.fieldLink "AtlasDesk$Packer" 53 "AtlasDesk$Octets" "size" "I" ∈ mWs := mWs_in (tl_1 (List.mem_of_getElem? (i := 196) (by decide +kernel))) rfl
theorem m_266 : Jvm.Cond.fieldLink "AtlasDesk$Pack" 72 "AtlasDesk$Octets" "size" "I" ∈ mWs := mWs_in (tl_1 (List.mem_of_getElem? (i := 197) (by decide +kernel))) rfl
theorem m_267 : Jvm.Cond.fieldLink "AtlasDesk" 142 "AtlasDesk$Octets" "size" "I" ∈ mWs := mWs_in (tl_1 (List.mem_of_getElem? (i := 198) (by decide +kernel))) rfl
theorem m_268 : Jvm.Cond.fieldLink "AtlasDesk$TileMaker" 117 "AtlasDesk$Octets" "size" "I" ∈ mWs := mWs_in (tl_1 (List.mem_of_getElem? (i := 199) (by decide +kernel))) rfl
theorem m_269 : Jvm.Cond.laysFinal "AtlasDesk$Octets" "AtlasDesk$Octets" "data" "[B" ∈ mWs := mWs_in (tl_1 (List.mem_of_getElem? (i := 200) (by decide +kernel))) rfl
theorem m_271 : Jvm.Cond.lays "AtlasDesk$Octets" "AtlasDesk$Octets" "size" "I" ∈ mWs := mWs_in (tl_1 (List.mem_of_getElem? (i := 202) (by decide +kernel))) rfl
theorem m_274 : Jvm.Cond.arrayClass .byte ∈ mWs := mWs_in (tl_1 (List.mem_of_getElem? (i := 205) (by decide +kernel))) rfl
theorem m_275 : Jvm.Cond.fieldLink "AtlasDesk$Packer" 12 "AtlasDesk$Packer" "maker" "LAtlasDesk$TileMaker;" ∈ mWs := mWs_in (tl_1 (List.mem_of_getElem? (i := 206) (by decide +kernel))) rfl
theorem m_276 : Jvm.Cond.fieldLink "AtlasDesk" 128 "AtlasDesk$Packer" "maker" "LAtlasDesk$TileMaker;" ∈ mWs := mWs_in (tl_1 (List.mem_of_getElem? (i := 207) (by decide +kernel))) rfl
theorem m_277 : Jvm.Cond.fieldLink "AtlasDesk$Packer" 21 "AtlasDesk$Packer" "made" "LAtlasDesk$Octets;" ∈ mWs := mWs_in (tl_1 (List.mem_of_getElem? (i := 208) (by decide +kernel))) rfl
theorem m_278 : Jvm.Cond.laysFinal "AtlasDesk$Packer" "AtlasDesk$Packer" "maker" "LAtlasDesk$TileMaker;" ∈ mWs := mWs_in (tl_1 (List.mem_of_getElem? (i := 209) (by decide +kernel))) rfl
theorem m_280 : Jvm.Cond.laysFinal "AtlasDesk$Packer" "AtlasDesk$Packer" "made" "LAtlasDesk$Octets;" ∈ mWs := mWs_in (tl_1 (List.mem_of_getElem? (i := 211) (by decide +kernel))) rfl
theorem m_283 : Jvm.Cond.classLink "AtlasDesk" 34 "AtlasDesk$Octets" ∈ mWs := mWs_in (tl_1 (List.mem_of_getElem? (i := 214) (by decide +kernel))) rfl
theorem m_284 : Jvm.Cond.methodLinkNest "AtlasDesk" 36 ⟨"AtlasDesk$Octets", "<init>", "()V"⟩ "AtlasDesk" ∈ lw_tbl := tl_1 (List.mem_of_getElem? (i := 215) (by decide +kernel))
theorem m_285 : Jvm.Cond.classLink "AtlasDesk" 41 "AtlasDesk$Region" ∈ mWs := mWs_in (tl_1 (List.mem_of_getElem? (i := 216) (by decide +kernel))) rfl
theorem m_286 : Jvm.Cond.instantiable "AtlasDesk$Region" 5 ∈ mWs := mWs_in (tl_1 (List.mem_of_getElem? (i := 217) (by decide +kernel))) rfl
theorem m_287 : Jvm.Cond.methodLinkNest "AtlasDesk" 43 ⟨"AtlasDesk$Region", "<init>", "()V"⟩ "AtlasDesk" ∈ lw_tbl := tl_1 (List.mem_of_getElem? (i := 218) (by decide +kernel))
theorem m_288 : Jvm.Cond.instanceMethod ⟨"AtlasDesk$Region", "<init>", "()V"⟩ ∈ mWs := mWs_in (tl_1 (List.mem_of_getElem? (i := 219) (by decide +kernel))) rfl
set_option maxRecDepth 8000 in
theorem m_289 : Jvm.Cond.code ⟨"AtlasDesk$Region", "<init>", "()V"⟩ prog_9_method_1_code 1 none ∈ mWs := mWs_in (tl_1 (List.mem_of_getElem? (i := 220) rfl)) rfl
theorem m_290 : Jvm.Cond.methodLink "AtlasDesk$Region" 3 ⟨"java/lang/Object", "<init>", "()V"⟩ ∈ mWs := mWs_in (tl_1 (List.mem_of_getElem? (i := 221) (by decide +kernel))) rfl
theorem m_291 : Jvm.Cond.fieldLink "AtlasDesk$Region" 9 "AtlasDesk$Region" "x0" "I" ∈ mWs := mWs_in (tl_1 (List.mem_of_getElem? (i := 222) (by decide +kernel))) rfl
theorem m_292 : Jvm.Cond.fieldLink "AtlasDesk$Region" 15 "AtlasDesk$Region" "y0" "I" ∈ mWs := mWs_in (tl_1 (List.mem_of_getElem? (i := 223) (by decide +kernel))) rfl
theorem m_293 : Jvm.Cond.fieldLink "AtlasDesk$Region" 18 "AtlasDesk$Region" "x1" "I" ∈ mWs := mWs_in (tl_1 (List.mem_of_getElem? (i := 224) (by decide +kernel))) rfl
theorem m_294 : Jvm.Cond.fieldLink "AtlasDesk$Region" 21 "AtlasDesk$Region" "y1" "I" ∈ mWs := mWs_in (tl_1 (List.mem_of_getElem? (i := 225) (by decide +kernel))) rfl
theorem m_295 : Jvm.Cond.fieldLink "AtlasDesk$Packer" 31 "AtlasDesk$Region" "zoom" "I" ∈ mWs := mWs_in (tl_1 (List.mem_of_getElem? (i := 226) (by decide +kernel))) rfl
theorem m_296 : Jvm.Cond.fieldLink "AtlasDesk$Region" 24 "AtlasDesk$Region" "zoom" "I" ∈ mWs := mWs_in (tl_1 (List.mem_of_getElem? (i := 227) (by decide +kernel))) rfl
theorem m_297 : Jvm.Cond.fieldLink "AtlasDesk$Edition" 40 "AtlasDesk$Region" "zoom" "I" ∈ mWs := mWs_in (tl_1 (List.mem_of_getElem? (i := 228) (by decide +kernel))) rfl
theorem m_298 : Jvm.Cond.lays "AtlasDesk$Region" "AtlasDesk$Region" "x0" "I" ∈ mWs := mWs_in (tl_1 (List.mem_of_getElem? (i := 229) (by decide +kernel))) rfl
theorem m_300 : Jvm.Cond.lays "AtlasDesk$Region" "AtlasDesk$Region" "y0" "I" ∈ mWs := mWs_in (tl_1 (List.mem_of_getElem? (i := 231) (by decide +kernel))) rfl
theorem m_302 : Jvm.Cond.lays "AtlasDesk$Region" "AtlasDesk$Region" "x1" "I" ∈ mWs := mWs_in (tl_1 (List.mem_of_getElem? (i := 233) (by decide +kernel))) rfl
theorem m_304 : Jvm.Cond.lays "AtlasDesk$Region" "AtlasDesk$Region" "y1" "I" ∈ mWs := mWs_in (tl_1 (List.mem_of_getElem? (i := 235) (by decide +kernel))) rfl
theorem m_306 : Jvm.Cond.lays "AtlasDesk$Region" "AtlasDesk$Region" "zoom" "I" ∈ mWs := mWs_in (tl_1 (List.mem_of_getElem? (i := 237) (by decide +kernel))) rfl
theorem m_309 : Jvm.Cond.classLink "AtlasDesk" 48 "AtlasDesk$Pack" ∈ mWs := mWs_in (tl_2 (List.mem_of_getElem? (i := 0) (by decide +kernel))) rfl
theorem m_310 : Jvm.Cond.instantiable "AtlasDesk$Pack" 14 ∈ mWs := mWs_in (tl_2 (List.mem_of_getElem? (i := 1) (by decide +kernel))) rfl
theorem m_311 : Jvm.Cond.methodLinkNest "AtlasDesk" 50 ⟨"AtlasDesk$Pack", "<init>", "()V"⟩ "AtlasDesk" ∈ lw_tbl := tl_2 (List.mem_of_getElem? (i := 2) (by decide +kernel))
theorem m_312 : Jvm.Cond.instanceMethod ⟨"AtlasDesk$Pack", "<init>", "()V"⟩ ∈ mWs := mWs_in (tl_2 (List.mem_of_getElem? (i := 3) (by decide +kernel))) rfl
set_option maxRecDepth 8000 in
theorem m_313 : Jvm.Cond.code ⟨"AtlasDesk$Pack", "<init>", "()V"⟩ prog_6_method_1_code 1 none ∈ mWs := mWs_in (tl_2 (List.mem_of_getElem? (i := 4) rfl)) rfl
theorem m_314 : Jvm.Cond.methodLink "AtlasDesk$Pack" 3 ⟨"java/lang/Object", "<init>", "()V"⟩ ∈ mWs := mWs_in (tl_2 (List.mem_of_getElem? (i := 5) (by decide +kernel))) rfl
theorem m_315 : Jvm.Cond.classLink "AtlasDesk$Pack" 9 "AtlasDesk$Region" ∈ mWs := mWs_in (tl_2 (List.mem_of_getElem? (i := 6) (by decide +kernel))) rfl
theorem m_316 : Jvm.Cond.methodLinkNest "AtlasDesk$Pack" 11 ⟨"AtlasDesk$Region", "<init>", "()V"⟩ "AtlasDesk" ∈ lw_tbl := tl_2 (List.mem_of_getElem? (i := 7) (by decide +kernel))
theorem m_317 : Jvm.Cond.classLink "AtlasDesk$Pack" 18 "AtlasDesk$Edition" ∈ mWs := mWs_in (tl_2 (List.mem_of_getElem? (i := 8) (by decide +kernel))) rfl
theorem m_318 : Jvm.Cond.methodLink "AtlasDesk$Pack" 20 ⟨"AtlasDesk$Edition", "<init>", "()V"⟩ ∈ mWs := mWs_in (tl_2 (List.mem_of_getElem? (i := 9) (by decide +kernel))) rfl
theorem m_319 : Jvm.Cond.fieldLink "AtlasDesk$Pack" 51 "AtlasDesk$Pack" "edition" "I" ∈ mWs := mWs_in (tl_2 (List.mem_of_getElem? (i := 10) (by decide +kernel))) rfl
theorem m_320 : Jvm.Cond.fieldLink "AtlasDesk" 208 "AtlasDesk$Pack" "edition" "I" ∈ mWs := mWs_in (tl_2 (List.mem_of_getElem? (i := 11) (by decide +kernel))) rfl
theorem m_321 : Jvm.Cond.fieldLink "AtlasDesk$Pack" 12 "AtlasDesk$Pack" "region" "LAtlasDesk$Region;" ∈ mWs := mWs_in (tl_2 (List.mem_of_getElem? (i := 12) (by decide +kernel))) rfl
theorem m_322 : Jvm.Cond.fieldLink "AtlasDesk$Pack" 21 "AtlasDesk$Pack" "features" "LAtlasDesk$Edition;" ∈ mWs := mWs_in (tl_2 (List.mem_of_getElem? (i := 13) (by decide +kernel))) rfl
theorem m_323 : Jvm.Cond.fieldLink "AtlasDesk$Packer" 60 "AtlasDesk$Pack" "features" "LAtlasDesk$Edition;" ∈ mWs := mWs_in (tl_2 (List.mem_of_getElem? (i := 14) (by decide +kernel))) rfl
theorem m_324 : Jvm.Cond.fieldLink "AtlasDesk" 211 "AtlasDesk$Pack" "features" "LAtlasDesk$Edition;" ∈ mWs := mWs_in (tl_2 (List.mem_of_getElem? (i := 15) (by decide +kernel))) rfl
theorem m_325 : Jvm.Cond.fieldLink "AtlasDesk$Pack" 59 "AtlasDesk$Pack" "tiles" "I" ∈ mWs := mWs_in (tl_2 (List.mem_of_getElem? (i := 16) (by decide +kernel))) rfl
theorem m_326 : Jvm.Cond.fieldLink "AtlasDesk" 179 "AtlasDesk$Pack" "tiles" "I" ∈ mWs := mWs_in (tl_2 (List.mem_of_getElem? (i := 17) (by decide +kernel))) rfl
theorem m_327 : Jvm.Cond.fieldLink "AtlasDesk$Pack" 62 "AtlasDesk$Pack" "stored" "I" ∈ mWs := mWs_in (tl_2 (List.mem_of_getElem? (i := 18) (by decide +kernel))) rfl
theorem m_328 : Jvm.Cond.fieldLink "AtlasDesk" 202 "AtlasDesk$Pack" "stored" "I" ∈ mWs := mWs_in (tl_2 (List.mem_of_getElem? (i := 19) (by decide +kernel))) rfl
theorem m_329 : Jvm.Cond.fieldLink "AtlasDesk$Pack" 65 "AtlasDesk$Pack" "shared" "I" ∈ mWs := mWs_in (tl_2 (List.mem_of_getElem? (i := 20) (by decide +kernel))) rfl
theorem m_330 : Jvm.Cond.fieldLink "AtlasDesk" 205 "AtlasDesk$Pack" "shared" "I" ∈ mWs := mWs_in (tl_2 (List.mem_of_getElem? (i := 21) (by decide +kernel))) rfl
theorem m_331 : Jvm.Cond.fieldLink "AtlasDesk$Pack" 25 "AtlasDesk$Pack" "places" "[I" ∈ mWs := mWs_in (tl_2 (List.mem_of_getElem? (i := 22) (by decide +kernel))) rfl
theorem m_332 : Jvm.Cond.fieldLink "AtlasDesk$Pack" 29 "AtlasDesk$Pack" "zooms" "[I" ∈ mWs := mWs_in (tl_2 (List.mem_of_getElem? (i := 23) (by decide +kernel))) rfl
theorem m_333 : Jvm.Cond.fieldLink "AtlasDesk$Difference" 54 "AtlasDesk$Pack" "zooms" "[I" ∈ mWs := mWs_in (tl_2 (List.mem_of_getElem? (i := 24) (by decide +kernel))) rfl
theorem m_334 : Jvm.Cond.fieldLink "AtlasDesk" 182 "AtlasDesk$Pack" "zooms" "[I" ∈ mWs := mWs_in (tl_2 (List.mem_of_getElem? (i := 25) (by decide +kernel))) rfl
theorem m_335 : Jvm.Cond.fieldLink "AtlasDesk$Pack" 32 "AtlasDesk$Pack" "columns" "[I" ∈ mWs := mWs_in (tl_2 (List.mem_of_getElem? (i := 26) (by decide +kernel))) rfl
theorem m_336 : Jvm.Cond.fieldLink "AtlasDesk$Difference" 55 "AtlasDesk$Pack" "columns" "[I" ∈ mWs := mWs_in (tl_2 (List.mem_of_getElem? (i := 27) (by decide +kernel))) rfl
theorem m_337 : Jvm.Cond.fieldLink "AtlasDesk" 186 "AtlasDesk$Pack" "columns" "[I" ∈ mWs := mWs_in (tl_2 (List.mem_of_getElem? (i := 28) (by decide +kernel))) rfl
theorem m_338 : Jvm.Cond.fieldLink "AtlasDesk$Pack" 35 "AtlasDesk$Pack" "rows" "[I" ∈ mWs := mWs_in (tl_2 (List.mem_of_getElem? (i := 29) (by decide +kernel))) rfl
theorem m_339 : Jvm.Cond.fieldLink "AtlasDesk$Difference" 56 "AtlasDesk$Pack" "rows" "[I" ∈ mWs := mWs_in (tl_2 (List.mem_of_getElem? (i := 30) (by decide +kernel))) rfl
theorem m_340 : Jvm.Cond.fieldLink "AtlasDesk" 189 "AtlasDesk$Pack" "rows" "[I" ∈ mWs := mWs_in (tl_2 (List.mem_of_getElem? (i := 31) (by decide +kernel))) rfl
theorem m_341 : Jvm.Cond.fieldLink "AtlasDesk$Pack" 38 "AtlasDesk$Pack" "sizes" "[I" ∈ mWs := mWs_in (tl_2 (List.mem_of_getElem? (i := 32) (by decide +kernel))) rfl
theorem m_342 : Jvm.Cond.fieldLink "AtlasDesk$Difference" 49 "AtlasDesk$Pack" "sizes" "[I" ∈ mWs := mWs_in (tl_2 (List.mem_of_getElem? (i := 33) (by decide +kernel))) rfl
theorem m_343 : Jvm.Cond.fieldLink "AtlasDesk" 192 "AtlasDesk$Pack" "sizes" "[I" ∈ mWs := mWs_in (tl_2 (List.mem_of_getElem? (i := 34) (by decide +kernel))) rfl
theorem m_344 : Jvm.Cond.fieldLink "AtlasDesk$Pack" 41 "AtlasDesk$Pack" "firsts" "[I" ∈ mWs := mWs_in (tl_2 (List.mem_of_getElem? (i := 35) (by decide +kernel))) rfl
theorem m_345 : Jvm.Cond.fieldLink "AtlasDesk" 195 "AtlasDesk$Pack" "firsts" "[I" ∈ mWs := mWs_in (tl_2 (List.mem_of_getElem? (i := 36) (by decide +kernel))) rfl
theorem m_346 : Jvm.Cond.fieldLink "AtlasDesk$Pack" 44 "AtlasDesk$Pack" "starts" "[I" ∈ mWs := mWs_in (tl_2 (List.mem_of_getElem? (i := 37) (by decide +kernel))) rfl
theorem m_347 : Jvm.Cond.fieldLink "AtlasDesk$Pack" 47 "AtlasDesk$Pack" "data" "[B" ∈ mWs := mWs_in (tl_2 (List.mem_of_getElem? (i := 38) (by decide +kernel))) rfl
theorem m_348 : Jvm.Cond.lays "AtlasDesk$Pack" "AtlasDesk$Pack" "edition" "I" ∈ mWs := mWs_in (tl_2 (List.mem_of_getElem? (i := 39) (by decide +kernel))) rfl
theorem m_350 : Jvm.Cond.laysFinal "AtlasDesk$Pack" "AtlasDesk$Pack" "region" "LAtlasDesk$Region;" ∈ mWs := mWs_in (tl_2 (List.mem_of_getElem? (i := 41) (by decide +kernel))) rfl
theorem m_352 : Jvm.Cond.laysFinal "AtlasDesk$Pack" "AtlasDesk$Pack" "features" "LAtlasDesk$Edition;" ∈ mWs := mWs_in (tl_2 (List.mem_of_getElem? (i := 43) (by decide +kernel))) rfl
theorem m_354 : Jvm.Cond.lays "AtlasDesk$Pack" "AtlasDesk$Pack" "tiles" "I" ∈ mWs := mWs_in (tl_2 (List.mem_of_getElem? (i := 45) (by decide +kernel))) rfl
theorem m_356 : Jvm.Cond.lays "AtlasDesk$Pack" "AtlasDesk$Pack" "stored" "I" ∈ mWs := mWs_in (tl_2 (List.mem_of_getElem? (i := 47) (by decide +kernel))) rfl
theorem m_358 : Jvm.Cond.lays "AtlasDesk$Pack" "AtlasDesk$Pack" "shared" "I" ∈ mWs := mWs_in (tl_2 (List.mem_of_getElem? (i := 49) (by decide +kernel))) rfl
theorem m_360 : Jvm.Cond.laysFinal "AtlasDesk$Pack" "AtlasDesk$Pack" "places" "[I" ∈ mWs := mWs_in (tl_2 (List.mem_of_getElem? (i := 51) (by decide +kernel))) rfl
theorem m_362 : Jvm.Cond.laysFinal "AtlasDesk$Pack" "AtlasDesk$Pack" "zooms" "[I" ∈ mWs := mWs_in (tl_2 (List.mem_of_getElem? (i := 53) (by decide +kernel))) rfl
theorem m_364 : Jvm.Cond.laysFinal "AtlasDesk$Pack" "AtlasDesk$Pack" "columns" "[I" ∈ mWs := mWs_in (tl_2 (List.mem_of_getElem? (i := 55) (by decide +kernel))) rfl
theorem m_366 : Jvm.Cond.laysFinal "AtlasDesk$Pack" "AtlasDesk$Pack" "rows" "[I" ∈ mWs := mWs_in (tl_2 (List.mem_of_getElem? (i := 57) (by decide +kernel))) rfl
theorem m_368 : Jvm.Cond.laysFinal "AtlasDesk$Pack" "AtlasDesk$Pack" "sizes" "[I" ∈ mWs := mWs_in (tl_2 (List.mem_of_getElem? (i := 59) (by decide +kernel))) rfl
theorem m_370 : Jvm.Cond.laysFinal "AtlasDesk$Pack" "AtlasDesk$Pack" "firsts" "[I" ∈ mWs := mWs_in (tl_2 (List.mem_of_getElem? (i := 61) (by decide +kernel))) rfl
theorem m_372 : Jvm.Cond.laysFinal "AtlasDesk$Pack" "AtlasDesk$Pack" "starts" "[I" ∈ mWs := mWs_in (tl_2 (List.mem_of_getElem? (i := 63) (by decide +kernel))) rfl
theorem m_374 : Jvm.Cond.laysFinal "AtlasDesk$Pack" "AtlasDesk$Pack" "data" "[B" ∈ mWs := mWs_in (tl_2 (List.mem_of_getElem? (i := 65) (by decide +kernel))) rfl
theorem m_377 : Jvm.Cond.classLink "AtlasDesk" 58 "AtlasDesk$Difference" ∈ mWs := mWs_in (tl_2 (List.mem_of_getElem? (i := 68) (by decide +kernel))) rfl
theorem m_378 : Jvm.Cond.instantiable "AtlasDesk$Difference" 8 ∈ mWs := mWs_in (tl_2 (List.mem_of_getElem? (i := 69) (by decide +kernel))) rfl
theorem m_379 : Jvm.Cond.methodLinkNest "AtlasDesk" 60 ⟨"AtlasDesk$Difference", "<init>", "()V"⟩ "AtlasDesk" ∈ lw_tbl := tl_2 (List.mem_of_getElem? (i := 70) (by decide +kernel))
theorem m_380 : Jvm.Cond.instanceMethod ⟨"AtlasDesk$Difference", "<init>", "()V"⟩ ∈ mWs := mWs_in (tl_2 (List.mem_of_getElem? (i := 71) (by decide +kernel))) rfl
set_option maxRecDepth 8000 in
theorem m_381 : Jvm.Cond.code ⟨"AtlasDesk$Difference", "<init>", "()V"⟩ prog_2_method_1_code 1 none ∈ mWs := mWs_in (tl_2 (List.mem_of_getElem? (i := 72) rfl)) rfl
theorem m_382 : Jvm.Cond.methodLink "AtlasDesk$Difference" 3 ⟨"java/lang/Object", "<init>", "()V"⟩ ∈ mWs := mWs_in (tl_2 (List.mem_of_getElem? (i := 73) (by decide +kernel))) rfl
theorem m_383 : Jvm.Cond.classLink "AtlasDesk$Difference" 9 "AtlasDesk$Pack" ∈ mWs := mWs_in (tl_2 (List.mem_of_getElem? (i := 74) (by decide +kernel))) rfl
theorem m_384 : Jvm.Cond.methodLinkNest "AtlasDesk$Difference" 11 ⟨"AtlasDesk$Pack", "<init>", "()V"⟩ "AtlasDesk" ∈ lw_tbl := tl_2 (List.mem_of_getElem? (i := 75) (by decide +kernel))
theorem m_385 : Jvm.Cond.fieldLink "AtlasDesk$Difference" 12 "AtlasDesk$Difference" "first" "LAtlasDesk$Pack;" ∈ mWs := mWs_in (tl_2 (List.mem_of_getElem? (i := 76) (by decide +kernel))) rfl
theorem m_386 : Jvm.Cond.fieldLink "AtlasDesk" 214 "AtlasDesk$Difference" "first" "LAtlasDesk$Pack;" ∈ mWs := mWs_in (tl_2 (List.mem_of_getElem? (i := 77) (by decide +kernel))) rfl
theorem m_387 : Jvm.Cond.fieldLink "AtlasDesk$Difference" 18 "AtlasDesk$Difference" "second" "LAtlasDesk$Pack;" ∈ mWs := mWs_in (tl_2 (List.mem_of_getElem? (i := 78) (by decide +kernel))) rfl
theorem m_388 : Jvm.Cond.fieldLink "AtlasDesk" 217 "AtlasDesk$Difference" "second" "LAtlasDesk$Pack;" ∈ mWs := mWs_in (tl_2 (List.mem_of_getElem? (i := 79) (by decide +kernel))) rfl
theorem m_389 : Jvm.Cond.fieldLink "AtlasDesk$Difference" 37 "AtlasDesk$Difference" "count" "I" ∈ mWs := mWs_in (tl_2 (List.mem_of_getElem? (i := 80) (by decide +kernel))) rfl
theorem m_390 : Jvm.Cond.fieldLink "AtlasDesk" 225 "AtlasDesk$Difference" "count" "I" ∈ mWs := mWs_in (tl_2 (List.mem_of_getElem? (i := 81) (by decide +kernel))) rfl
theorem m_391 : Jvm.Cond.fieldLink "AtlasDesk$Difference" 21 "AtlasDesk$Difference" "changes" "[I" ∈ mWs := mWs_in (tl_2 (List.mem_of_getElem? (i := 82) (by decide +kernel))) rfl
theorem m_392 : Jvm.Cond.fieldLink "AtlasDesk" 226 "AtlasDesk$Difference" "changes" "[I" ∈ mWs := mWs_in (tl_2 (List.mem_of_getElem? (i := 83) (by decide +kernel))) rfl
theorem m_393 : Jvm.Cond.fieldLink "AtlasDesk$Difference" 25 "AtlasDesk$Difference" "zooms" "[I" ∈ mWs := mWs_in (tl_2 (List.mem_of_getElem? (i := 84) (by decide +kernel))) rfl
theorem m_394 : Jvm.Cond.fieldLink "AtlasDesk" 229 "AtlasDesk$Difference" "zooms" "[I" ∈ mWs := mWs_in (tl_2 (List.mem_of_getElem? (i := 85) (by decide +kernel))) rfl
theorem m_395 : Jvm.Cond.fieldLink "AtlasDesk$Difference" 28 "AtlasDesk$Difference" "columns" "[I" ∈ mWs := mWs_in (tl_2 (List.mem_of_getElem? (i := 86) (by decide +kernel))) rfl
theorem m_396 : Jvm.Cond.fieldLink "AtlasDesk" 230 "AtlasDesk$Difference" "columns" "[I" ∈ mWs := mWs_in (tl_2 (List.mem_of_getElem? (i := 87) (by decide +kernel))) rfl
theorem m_397 : Jvm.Cond.fieldLink "AtlasDesk$Difference" 31 "AtlasDesk$Difference" "rows" "[I" ∈ mWs := mWs_in (tl_2 (List.mem_of_getElem? (i := 88) (by decide +kernel))) rfl
theorem m_398 : Jvm.Cond.fieldLink "AtlasDesk" 231 "AtlasDesk$Difference" "rows" "[I" ∈ mWs := mWs_in (tl_2 (List.mem_of_getElem? (i := 89) (by decide +kernel))) rfl
theorem m_399 : Jvm.Cond.fieldLink "AtlasDesk$Difference" 34 "AtlasDesk$Difference" "sizes" "[I" ∈ mWs := mWs_in (tl_2 (List.mem_of_getElem? (i := 90) (by decide +kernel))) rfl
theorem m_400 : Jvm.Cond.fieldLink "AtlasDesk" 232 "AtlasDesk$Difference" "sizes" "[I" ∈ mWs := mWs_in (tl_2 (List.mem_of_getElem? (i := 91) (by decide +kernel))) rfl
theorem m_401 : Jvm.Cond.laysFinal "AtlasDesk$Difference" "AtlasDesk$Difference" "first" "LAtlasDesk$Pack;" ∈ mWs := mWs_in (tl_2 (List.mem_of_getElem? (i := 92) (by decide +kernel))) rfl
theorem m_403 : Jvm.Cond.laysFinal "AtlasDesk$Difference" "AtlasDesk$Difference" "second" "LAtlasDesk$Pack;" ∈ mWs := mWs_in (tl_2 (List.mem_of_getElem? (i := 94) (by decide +kernel))) rfl
theorem m_405 : Jvm.Cond.lays "AtlasDesk$Difference" "AtlasDesk$Difference" "count" "I" ∈ mWs := mWs_in (tl_2 (List.mem_of_getElem? (i := 96) (by decide +kernel))) rfl
theorem m_407 : Jvm.Cond.laysFinal "AtlasDesk$Difference" "AtlasDesk$Difference" "changes" "[I" ∈ mWs := mWs_in (tl_2 (List.mem_of_getElem? (i := 98) (by decide +kernel))) rfl
theorem m_409 : Jvm.Cond.laysFinal "AtlasDesk$Difference" "AtlasDesk$Difference" "zooms" "[I" ∈ mWs := mWs_in (tl_2 (List.mem_of_getElem? (i := 100) (by decide +kernel))) rfl
theorem m_411 : Jvm.Cond.laysFinal "AtlasDesk$Difference" "AtlasDesk$Difference" "columns" "[I" ∈ mWs := mWs_in (tl_2 (List.mem_of_getElem? (i := 102) (by decide +kernel))) rfl
theorem m_413 : Jvm.Cond.laysFinal "AtlasDesk$Difference" "AtlasDesk$Difference" "rows" "[I" ∈ mWs := mWs_in (tl_2 (List.mem_of_getElem? (i := 104) (by decide +kernel))) rfl
theorem m_415 : Jvm.Cond.laysFinal "AtlasDesk$Difference" "AtlasDesk$Difference" "sizes" "[I" ∈ mWs := mWs_in (tl_2 (List.mem_of_getElem? (i := 106) (by decide +kernel))) rfl
theorem m_418 : Jvm.Cond.fieldLink "AtlasDesk" 12 "AtlasDesk" "told" "LAtlasDesk$Feature;" ∈ mWs := mWs_in (tl_2 (List.mem_of_getElem? (i := 109) (by decide +kernel))) rfl
theorem m_419 : Jvm.Cond.fieldLink "AtlasDesk" 19 "AtlasDesk" "present" "LAtlasDesk$Edition;" ∈ mWs := mWs_in (tl_2 (List.mem_of_getElem? (i := 110) (by decide +kernel))) rfl
theorem m_420 : Jvm.Cond.fieldLink "AtlasDesk" 23 "AtlasDesk" "kept" "[LAtlasDesk$Edition;" ∈ mWs := mWs_in (tl_2 (List.mem_of_getElem? (i := 111) (by decide +kernel))) rfl
theorem m_421 : Jvm.Cond.fieldLink "AtlasDesk" 108 "AtlasDesk" "closed" "I" ∈ mWs := mWs_in (tl_2 (List.mem_of_getElem? (i := 112) (by decide +kernel))) rfl
theorem m_422 : Jvm.Cond.fieldLink "AtlasDesk" 30 "AtlasDesk" "packer" "LAtlasDesk$Packer;" ∈ mWs := mWs_in (tl_2 (List.mem_of_getElem? (i := 113) (by decide +kernel))) rfl
theorem m_423 : Jvm.Cond.fieldLink "AtlasDesk" 37 "AtlasDesk" "tileInHand" "LAtlasDesk$Octets;" ∈ mWs := mWs_in (tl_2 (List.mem_of_getElem? (i := 114) (by decide +kernel))) rfl
theorem m_424 : Jvm.Cond.fieldLink "AtlasDesk" 44 "AtlasDesk" "regionInForce" "LAtlasDesk$Region;" ∈ mWs := mWs_in (tl_2 (List.mem_of_getElem? (i := 115) (by decide +kernel))) rfl
theorem m_425 : Jvm.Cond.fieldLink "AtlasDesk" 161 "AtlasDesk" "regionSet" "Z" ∈ mWs := mWs_in (tl_2 (List.mem_of_getElem? (i := 116) (by decide +kernel))) rfl
theorem m_426 : Jvm.Cond.fieldLink "AtlasDesk" 51 "AtlasDesk" "packInHand" "LAtlasDesk$Pack;" ∈ mWs := mWs_in (tl_2 (List.mem_of_getElem? (i := 117) (by decide +kernel))) rfl
theorem m_427 : Jvm.Cond.fieldLink "AtlasDesk" 55 "AtlasDesk" "sparePack" "LAtlasDesk$Pack;" ∈ mWs := mWs_in (tl_2 (List.mem_of_getElem? (i := 118) (by decide +kernel))) rfl
theorem m_428 : Jvm.Cond.fieldLink "AtlasDesk" 176 "AtlasDesk" "packSet" "Z" ∈ mWs := mWs_in (tl_2 (List.mem_of_getElem? (i := 119) (by decide +kernel))) rfl
theorem m_429 : Jvm.Cond.fieldLink "AtlasDesk" 61 "AtlasDesk" "differenceTold" "LAtlasDesk$Difference;" ∈ mWs := mWs_in (tl_2 (List.mem_of_getElem? (i := 120) (by decide +kernel))) rfl
theorem m_430 : Jvm.Cond.fieldLink "AtlasDesk" 65 "AtlasDesk" "spareDifference" "LAtlasDesk$Difference;" ∈ mWs := mWs_in (tl_2 (List.mem_of_getElem? (i := 121) (by decide +kernel))) rfl
theorem m_431 : Jvm.Cond.fieldLink "AtlasDesk" 165 "AtlasDesk" "differenceSet" "Z" ∈ mWs := mWs_in (tl_2 (List.mem_of_getElem? (i := 122) (by decide +kernel))) rfl
theorem m_432 : Jvm.Cond.laysFinal "AtlasDesk" "AtlasDesk" "told" "LAtlasDesk$Feature;" ∈ mWs := mWs_in (tl_2 (List.mem_of_getElem? (i := 123) (by decide +kernel))) rfl
theorem m_434 : Jvm.Cond.laysFinal "AtlasDesk" "AtlasDesk" "present" "LAtlasDesk$Edition;" ∈ mWs := mWs_in (tl_2 (List.mem_of_getElem? (i := 125) (by decide +kernel))) rfl
theorem m_436 : Jvm.Cond.laysFinal "AtlasDesk" "AtlasDesk" "kept" "[LAtlasDesk$Edition;" ∈ mWs := mWs_in (tl_2 (List.mem_of_getElem? (i := 127) (by decide +kernel))) rfl
theorem m_438 : Jvm.Cond.lays "AtlasDesk" "AtlasDesk" "closed" "I" ∈ mWs := mWs_in (tl_2 (List.mem_of_getElem? (i := 129) (by decide +kernel))) rfl
theorem m_440 : Jvm.Cond.laysFinal "AtlasDesk" "AtlasDesk" "packer" "LAtlasDesk$Packer;" ∈ mWs := mWs_in (tl_2 (List.mem_of_getElem? (i := 131) (by decide +kernel))) rfl
theorem m_442 : Jvm.Cond.laysFinal "AtlasDesk" "AtlasDesk" "tileInHand" "LAtlasDesk$Octets;" ∈ mWs := mWs_in (tl_2 (List.mem_of_getElem? (i := 133) (by decide +kernel))) rfl
theorem m_444 : Jvm.Cond.laysFinal "AtlasDesk" "AtlasDesk" "regionInForce" "LAtlasDesk$Region;" ∈ mWs := mWs_in (tl_2 (List.mem_of_getElem? (i := 135) (by decide +kernel))) rfl
theorem m_446 : Jvm.Cond.lays "AtlasDesk" "AtlasDesk" "regionSet" "Z" ∈ mWs := mWs_in (tl_2 (List.mem_of_getElem? (i := 137) (by decide +kernel))) rfl
theorem m_448 : Jvm.Cond.lays "AtlasDesk" "AtlasDesk" "packInHand" "LAtlasDesk$Pack;" ∈ mWs := mWs_in (tl_2 (List.mem_of_getElem? (i := 139) (by decide +kernel))) rfl
theorem m_450 : Jvm.Cond.lays "AtlasDesk" "AtlasDesk" "sparePack" "LAtlasDesk$Pack;" ∈ mWs := mWs_in (tl_2 (List.mem_of_getElem? (i := 141) (by decide +kernel))) rfl
theorem m_452 : Jvm.Cond.lays "AtlasDesk" "AtlasDesk" "packSet" "Z" ∈ mWs := mWs_in (tl_2 (List.mem_of_getElem? (i := 143) (by decide +kernel))) rfl
theorem m_454 : Jvm.Cond.lays "AtlasDesk" "AtlasDesk" "differenceTold" "LAtlasDesk$Difference;" ∈ mWs := mWs_in (tl_2 (List.mem_of_getElem? (i := 145) (by decide +kernel))) rfl
theorem m_456 : Jvm.Cond.lays "AtlasDesk" "AtlasDesk" "spareDifference" "LAtlasDesk$Difference;" ∈ mWs := mWs_in (tl_2 (List.mem_of_getElem? (i := 147) (by decide +kernel))) rfl
theorem m_458 : Jvm.Cond.lays "AtlasDesk" "AtlasDesk" "differenceSet" "Z" ∈ mWs := mWs_in (tl_2 (List.mem_of_getElem? (i := 149) (by decide +kernel))) rfl
theorem m_461 : Jvm.Cond.methodLink "AtlasDeskLaw" 52 ⟨"AtlasDesk", "corner", "(II)Z"⟩ ∈ mWs := mWs_in (tl_2 (List.mem_of_getElem? (i := 152) (by decide +kernel))) rfl
theorem m_462 : Jvm.Cond.instanceMethod ⟨"AtlasDesk", "corner", "(II)Z"⟩ ∈ mWs := mWs_in (tl_2 (List.mem_of_getElem? (i := 153) (by decide +kernel))) rfl
theorem m_463 : Jvm.Cond.selects "AtlasDesk" ⟨"AtlasDesk", "corner", "(II)Z"⟩ ⟨"AtlasDesk", "corner", "(II)Z"⟩ ∈ mWs := mWs_in (tl_2 (List.mem_of_getElem? (i := 154) (by decide +kernel))) rfl
set_option maxRecDepth 8000 in
theorem m_464 : Jvm.Cond.code ⟨"AtlasDesk", "corner", "(II)Z"⟩ prog_1_method_2_code 3 (some .boolean) ∈ mWs := mWs_in (tl_2 (List.mem_of_getElem? (i := 155) rfl)) rfl
theorem m_465 : Jvm.Cond.methodLink "AtlasDesk" 68 ⟨"AtlasDesk$Feature", "addCorner", "(II)Z"⟩ ∈ mWs := mWs_in (tl_2 (List.mem_of_getElem? (i := 156) (by decide +kernel))) rfl
theorem m_466 : Jvm.Cond.instanceMethod ⟨"AtlasDesk$Feature", "addCorner", "(II)Z"⟩ ∈ mWs := mWs_in (tl_2 (List.mem_of_getElem? (i := 157) (by decide +kernel))) rfl
theorem m_467 : Jvm.Cond.selects "AtlasDesk$Feature" ⟨"AtlasDesk$Feature", "addCorner", "(II)Z"⟩ ⟨"AtlasDesk$Feature", "addCorner", "(II)Z"⟩ ∈ mWs := mWs_in (tl_2 (List.mem_of_getElem? (i := 158) (by decide +kernel))) rfl
set_option maxRecDepth 8000 in
theorem m_468 : Jvm.Cond.code ⟨"AtlasDesk$Feature", "addCorner", "(II)Z"⟩ prog_4_method_2_code 3 (some .boolean) ∈ mWs := mWs_in (tl_2 (List.mem_of_getElem? (i := 159) rfl)) rfl
theorem m_469 : Jvm.Cond.methodLinkNest "AtlasDesk$Feature" 18 ⟨"AtlasDesk", "isOfWorld", "(II)Z"⟩ "AtlasDesk" ∈ lw_tbl := tl_2 (List.mem_of_getElem? (i := 160) (by decide +kernel))
theorem m_470 : Jvm.Cond.static ⟨"AtlasDesk", "isOfWorld", "(II)Z"⟩ ∈ mWs := mWs_in (tl_2 (List.mem_of_getElem? (i := 161) (by decide +kernel))) rfl
set_option maxRecDepth 8000 in
theorem m_471 : Jvm.Cond.code ⟨"AtlasDesk", "isOfWorld", "(II)Z"⟩ prog_1_method_19_code 2 (some .boolean) ∈ mWs := mWs_in (tl_2 (List.mem_of_getElem? (i := 162) rfl)) rfl
theorem m_472 : Jvm.Cond.methodLink "AtlasDeskLaw" 68 ⟨"AtlasDesk", "drop", "(I)Z"⟩ ∈ mWs := mWs_in (tl_2 (List.mem_of_getElem? (i := 163) (by decide +kernel))) rfl
theorem m_473 : Jvm.Cond.instanceMethod ⟨"AtlasDesk", "drop", "(I)Z"⟩ ∈ mWs := mWs_in (tl_2 (List.mem_of_getElem? (i := 164) (by decide +kernel))) rfl
theorem m_474 : Jvm.Cond.selects "AtlasDesk" ⟨"AtlasDesk", "drop", "(I)Z"⟩ ⟨"AtlasDesk", "drop", "(I)Z"⟩ ∈ mWs := mWs_in (tl_2 (List.mem_of_getElem? (i := 165) (by decide +kernel))) rfl
set_option maxRecDepth 8000 in
theorem m_475 : Jvm.Cond.code ⟨"AtlasDesk", "drop", "(I)Z"⟩ prog_1_method_4_code 2 (some .boolean) ∈ mWs := mWs_in (tl_2 (List.mem_of_getElem? (i := 166) rfl)) rfl
theorem m_476 : Jvm.Cond.methodLink "AtlasDesk" 104 ⟨"AtlasDesk$Edition", "remove", "(I)Z"⟩ ∈ mWs := mWs_in (tl_2 (List.mem_of_getElem? (i := 167) (by decide +kernel))) rfl
theorem m_477 : Jvm.Cond.instanceMethod ⟨"AtlasDesk$Edition", "remove", "(I)Z"⟩ ∈ mWs := mWs_in (tl_2 (List.mem_of_getElem? (i := 168) (by decide +kernel))) rfl
theorem m_478 : Jvm.Cond.selects "AtlasDesk$Edition" ⟨"AtlasDesk$Edition", "remove", "(I)Z"⟩ ⟨"AtlasDesk$Edition", "remove", "(I)Z"⟩ ∈ mWs := mWs_in (tl_2 (List.mem_of_getElem? (i := 169) (by decide +kernel))) rfl
set_option maxRecDepth 8000 in
theorem m_479 : Jvm.Cond.code ⟨"AtlasDesk$Edition", "remove", "(I)Z"⟩ prog_3_method_3_code 5 (some .boolean) ∈ mWs := mWs_in (tl_2 (List.mem_of_getElem? (i := 170) rfl)) rfl
theorem m_480 : Jvm.Cond.methodLink "AtlasDesk$Edition" 22 ⟨"AtlasDesk$Edition", "placeOf", "(I)I"⟩ ∈ mWs := mWs_in (tl_2 (List.mem_of_getElem? (i := 171) (by decide +kernel))) rfl
theorem m_482 : Jvm.Cond.instanceMethod ⟨"AtlasDesk$Edition", "placeOf", "(I)I"⟩ ∈ mWs := mWs_in (tl_2 (List.mem_of_getElem? (i := 173) (by decide +kernel))) rfl
set_option maxRecDepth 8000 in
theorem m_483 : Jvm.Cond.code ⟨"AtlasDesk$Edition", "placeOf", "(I)I"⟩ prog_3_method_4_code 3 (some .int) ∈ mWs := mWs_in (tl_2 (List.mem_of_getElem? (i := 174) rfl)) rfl
theorem m_484 : Jvm.Cond.methodLink "AtlasDesk$Edition" 26 ⟨"AtlasDesk$Edition", "isAt", "(II)Z"⟩ ∈ mWs := mWs_in (tl_2 (List.mem_of_getElem? (i := 175) (by decide +kernel))) rfl
theorem m_486 : Jvm.Cond.instanceMethod ⟨"AtlasDesk$Edition", "isAt", "(II)Z"⟩ ∈ mWs := mWs_in (tl_2 (List.mem_of_getElem? (i := 177) (by decide +kernel))) rfl
set_option maxRecDepth 8000 in
theorem m_487 : Jvm.Cond.code ⟨"AtlasDesk$Edition", "isAt", "(II)Z"⟩ prog_3_method_5_code 3 (some .boolean) ∈ mWs := mWs_in (tl_2 (List.mem_of_getElem? (i := 178) rfl)) rfl
theorem m_488 : Jvm.Cond.methodLink "AtlasDeskLaw" 73 ⟨"AtlasDesk", "edition", "()I"⟩ ∈ mWs := mWs_in (tl_2 (List.mem_of_getElem? (i := 179) (by decide +kernel))) rfl
theorem m_489 : Jvm.Cond.instanceMethod ⟨"AtlasDesk", "edition", "()I"⟩ ∈ mWs := mWs_in (tl_2 (List.mem_of_getElem? (i := 180) (by decide +kernel))) rfl
theorem m_490 : Jvm.Cond.selects "AtlasDesk" ⟨"AtlasDesk", "edition", "()I"⟩ ⟨"AtlasDesk", "edition", "()I"⟩ ∈ mWs := mWs_in (tl_2 (List.mem_of_getElem? (i := 181) (by decide +kernel))) rfl
set_option maxRecDepth 8000 in
theorem m_491 : Jvm.Cond.code ⟨"AtlasDesk", "edition", "()I"⟩ prog_1_method_5_code 1 (some .int) ∈ mWs := mWs_in (tl_2 (List.mem_of_getElem? (i := 182) rfl)) rfl
theorem m_492 : Jvm.Cond.methodLink "AtlasDesk" 111 ⟨"AtlasDesk$Edition", "copyFrom", "(LAtlasDesk$Edition;)V"⟩ ∈ mWs := mWs_in (tl_2 (List.mem_of_getElem? (i := 183) (by decide +kernel))) rfl
theorem m_493 : Jvm.Cond.instanceMethod ⟨"AtlasDesk$Edition", "copyFrom", "(LAtlasDesk$Edition;)V"⟩ ∈ mWs := mWs_in (tl_2 (List.mem_of_getElem? (i := 184) (by decide +kernel))) rfl
theorem m_494 : Jvm.Cond.selects "AtlasDesk$Edition" ⟨"AtlasDesk$Edition", "copyFrom", "(LAtlasDesk$Edition;)V"⟩ ⟨"AtlasDesk$Edition", "copyFrom", "(LAtlasDesk$Edition;)V"⟩ ∈ mWs := mWs_in (tl_2 (List.mem_of_getElem? (i := 185) (by decide +kernel))) rfl
set_option maxRecDepth 8000 in
theorem m_495 : Jvm.Cond.code ⟨"AtlasDesk$Edition", "copyFrom", "(LAtlasDesk$Edition;)V"⟩ prog_3_method_6_code 3 none ∈ mWs := mWs_in (tl_2 (List.mem_of_getElem? (i := 186) rfl)) rfl
theorem m_496 : Jvm.Cond.methodLink "AtlasDesk$Edition" 33 ⟨"AtlasDesk$Feature", "copyFrom", "(LAtlasDesk$Feature;)V"⟩ ∈ mWs := mWs_in (tl_2 (List.mem_of_getElem? (i := 187) (by decide +kernel))) rfl
theorem m_497 : Jvm.Cond.instanceMethod ⟨"AtlasDesk$Feature", "copyFrom", "(LAtlasDesk$Feature;)V"⟩ ∈ mWs := mWs_in (tl_2 (List.mem_of_getElem? (i := 188) (by decide +kernel))) rfl
theorem m_498 : Jvm.Cond.selects "AtlasDesk$Feature" ⟨"AtlasDesk$Feature", "copyFrom", "(LAtlasDesk$Feature;)V"⟩ ⟨"AtlasDesk$Feature", "copyFrom", "(LAtlasDesk$Feature;)V"⟩ ∈ mWs := mWs_in (tl_2 (List.mem_of_getElem? (i := 189) (by decide +kernel))) rfl
set_option maxRecDepth 8000 in
theorem m_499 : Jvm.Cond.code ⟨"AtlasDesk$Feature", "copyFrom", "(LAtlasDesk$Feature;)V"⟩ prog_4_method_4_code 2 none ∈ mWs := mWs_in (tl_2 (List.mem_of_getElem? (i := 190) rfl)) rfl
theorem m_500 : Jvm.Cond.methodLink "AtlasDesk$Feature" 42 ⟨"AtlasDesk$Feature", "describe", "(IIIIJ)V"⟩ ∈ mWs := mWs_in (tl_2 (List.mem_of_getElem? (i := 191) (by decide +kernel))) rfl
theorem m_501 : Jvm.Cond.instanceMethod ⟨"AtlasDesk$Feature", "describe", "(IIIIJ)V"⟩ ∈ mWs := mWs_in (tl_2 (List.mem_of_getElem? (i := 192) (by decide +kernel))) rfl
theorem m_502 : Jvm.Cond.selects "AtlasDesk$Feature" ⟨"AtlasDesk$Feature", "describe", "(IIIIJ)V"⟩ ⟨"AtlasDesk$Feature", "describe", "(IIIIJ)V"⟩ ∈ mWs := mWs_in (tl_2 (List.mem_of_getElem? (i := 193) (by decide +kernel))) rfl
set_option maxRecDepth 8000 in
theorem m_503 : Jvm.Cond.code ⟨"AtlasDesk$Feature", "describe", "(IIIIJ)V"⟩ prog_4_method_3_code 7 none ∈ mWs := mWs_in (tl_2 (List.mem_of_getElem? (i := 194) rfl)) rfl
theorem m_504 : Jvm.Cond.methodLink "AtlasDesk$Feature" 46 ⟨"java/lang/System", "arraycopy", "(Ljava/lang/Object;ILjava/lang/Object;II)V"⟩ ∈ mWs := mWs_in (tl_2 (List.mem_of_getElem? (i := 195) (by decide +kernel))) rfl
theorem m_505 : Jvm.Cond.static ⟨"java/lang/System", "arraycopy", "(Ljava/lang/Object;ILjava/lang/Object;II)V"⟩ ∈ mWs := mWs_in (tl_2 (List.mem_of_getElem? (i := 196) (by decide +kernel))) rfl
theorem m_506 : Jvm.Cond.native ⟨"java/lang/System", "arraycopy", "(Ljava/lang/Object;ILjava/lang/Object;II)V"⟩ ∈ mWs := mWs_in (tl_2 (List.mem_of_getElem? (i := 197) (by decide +kernel))) rfl
theorem m_507 : Jvm.Cond.methodLink "AtlasDeskLaw" 81 ⟨"AtlasDesk", "octet", "(I)I"⟩ ∈ mWs := mWs_in (tl_2 (List.mem_of_getElem? (i := 198) (by decide +kernel))) rfl
theorem m_508 : Jvm.Cond.instanceMethod ⟨"AtlasDesk", "octet", "(I)I"⟩ ∈ mWs := mWs_in (tl_2 (List.mem_of_getElem? (i := 199) (by decide +kernel))) rfl
theorem m_509 : Jvm.Cond.selects "AtlasDesk" ⟨"AtlasDesk", "octet", "(I)I"⟩ ⟨"AtlasDesk", "octet", "(I)I"⟩ ∈ mWs := mWs_in (tl_2 (List.mem_of_getElem? (i := 200) (by decide +kernel))) rfl
set_option maxRecDepth 8000 in
theorem m_510 : Jvm.Cond.code ⟨"AtlasDesk", "octet", "(I)I"⟩ prog_1_method_7_code 2 (some .int) ∈ mWs := mWs_in (tl_2 (List.mem_of_getElem? (i := 201) rfl)) rfl
theorem m_511 : Jvm.Cond.methodLink "AtlasDeskLaw" 93 ⟨"AtlasDesk", "packed", "(II)I"⟩ ∈ mWs := mWs_in (tl_2 (List.mem_of_getElem? (i := 202) (by decide +kernel))) rfl
theorem m_512 : Jvm.Cond.instanceMethod ⟨"AtlasDesk", "packed", "(II)I"⟩ ∈ mWs := mWs_in (tl_2 (List.mem_of_getElem? (i := 203) (by decide +kernel))) rfl
theorem m_513 : Jvm.Cond.selects "AtlasDesk" ⟨"AtlasDesk", "packed", "(II)I"⟩ ⟨"AtlasDesk", "packed", "(II)I"⟩ ∈ mWs := mWs_in (tl_2 (List.mem_of_getElem? (i := 204) (by decide +kernel))) rfl
set_option maxRecDepth 8000 in
theorem m_514 : Jvm.Cond.code ⟨"AtlasDesk", "packed", "(II)I"⟩ prog_1_method_10_code 3 (some .int) ∈ mWs := mWs_in (tl_2 (List.mem_of_getElem? (i := 205) rfl)) rfl
theorem m_515 : Jvm.Cond.methodLink "AtlasDeskLaw" 97 ⟨"AtlasDesk", "take", "(III)I"⟩ ∈ mWs := mWs_in (tl_2 (List.mem_of_getElem? (i := 206) (by decide +kernel))) rfl
theorem m_516 : Jvm.Cond.instanceMethod ⟨"AtlasDesk", "take", "(III)I"⟩ ∈ mWs := mWs_in (tl_2 (List.mem_of_getElem? (i := 207) (by decide +kernel))) rfl
theorem m_517 : Jvm.Cond.selects "AtlasDesk" ⟨"AtlasDesk", "take", "(III)I"⟩ ⟨"AtlasDesk", "take", "(III)I"⟩ ∈ mWs := mWs_in (tl_2 (List.mem_of_getElem? (i := 208) (by decide +kernel))) rfl
set_option maxRecDepth 8000 in
theorem m_518 : Jvm.Cond.code ⟨"AtlasDesk", "take", "(III)I"⟩ prog_1_method_11_code 4 (some .int) ∈ mWs := mWs_in (tl_2 (List.mem_of_getElem? (i := 209) rfl)) rfl
theorem m_519 : Jvm.Cond.methodLink "AtlasDesk" 198 ⟨"AtlasDesk$Pack", "copyTile", "(IIILAtlasDesk$Octets;)V"⟩ ∈ mWs := mWs_in (tl_2 (List.mem_of_getElem? (i := 210) (by decide +kernel))) rfl
theorem m_520 : Jvm.Cond.instanceMethod ⟨"AtlasDesk$Pack", "copyTile", "(IIILAtlasDesk$Octets;)V"⟩ ∈ mWs := mWs_in (tl_2 (List.mem_of_getElem? (i := 211) (by decide +kernel))) rfl
theorem m_521 : Jvm.Cond.selects "AtlasDesk$Pack" ⟨"AtlasDesk$Pack", "copyTile", "(IIILAtlasDesk$Octets;)V"⟩ ⟨"AtlasDesk$Pack", "copyTile", "(IIILAtlasDesk$Octets;)V"⟩ ∈ mWs := mWs_in (tl_2 (List.mem_of_getElem? (i := 212) (by decide +kernel))) rfl
set_option maxRecDepth 8000 in
theorem m_522 : Jvm.Cond.code ⟨"AtlasDesk$Pack", "copyTile", "(IIILAtlasDesk$Octets;)V"⟩ prog_6_method_9_code 6 none ∈ mWs := mWs_in (tl_2 (List.mem_of_getElem? (i := 213) rfl)) rfl
theorem m_523 : Jvm.Cond.methodLink "AtlasDesk$Pack" 78 ⟨"java/lang/System", "arraycopy", "(Ljava/lang/Object;ILjava/lang/Object;II)V"⟩ ∈ mWs := mWs_in (tl_2 (List.mem_of_getElem? (i := 214) (by decide +kernel))) rfl
theorem m_524 : Jvm.Cond.methodLink "AtlasDeskLaw" 102 ⟨"AtlasDesk", "pack", "(I)I"⟩ ∈ mWs := mWs_in (tl_2 (List.mem_of_getElem? (i := 215) (by decide +kernel))) rfl
theorem m_525 : Jvm.Cond.instanceMethod ⟨"AtlasDesk", "pack", "(I)I"⟩ ∈ mWs := mWs_in (tl_2 (List.mem_of_getElem? (i := 216) (by decide +kernel))) rfl
theorem m_526 : Jvm.Cond.selects "AtlasDesk" ⟨"AtlasDesk", "pack", "(I)I"⟩ ⟨"AtlasDesk", "pack", "(I)I"⟩ ∈ mWs := mWs_in (tl_2 (List.mem_of_getElem? (i := 217) (by decide +kernel))) rfl
set_option maxRecDepth 8000 in
theorem m_527 : Jvm.Cond.code ⟨"AtlasDesk", "pack", "(I)I"⟩ prog_1_method_12_code 2 (some .int) ∈ mWs := mWs_in (tl_2 (List.mem_of_getElem? (i := 218) rfl)) rfl
theorem m_528 : Jvm.Cond.methodLink "AtlasDeskLaw" 110 ⟨"AtlasDesk", "differs", "(II)I"⟩ ∈ mWs := mWs_in (tl_2 (List.mem_of_getElem? (i := 219) (by decide +kernel))) rfl
theorem m_529 : Jvm.Cond.instanceMethod ⟨"AtlasDesk", "differs", "(II)I"⟩ ∈ mWs := mWs_in (tl_2 (List.mem_of_getElem? (i := 220) (by decide +kernel))) rfl
theorem m_530 : Jvm.Cond.selects "AtlasDesk" ⟨"AtlasDesk", "differs", "(II)I"⟩ ⟨"AtlasDesk", "differs", "(II)I"⟩ ∈ mWs := mWs_in (tl_2 (List.mem_of_getElem? (i := 221) (by decide +kernel))) rfl
set_option maxRecDepth 8000 in
theorem m_531 : Jvm.Cond.code ⟨"AtlasDesk", "differs", "(II)I"⟩ prog_1_method_14_code 3 (some .int) ∈ mWs := mWs_in (tl_2 (List.mem_of_getElem? (i := 222) rfl)) rfl
theorem m_541 : Jvm.Cond.methodLink "AtlasDesk" 72 ⟨"AtlasDesk$Feature", "describe", "(IIIIJ)V"⟩ ∈ mWs := mWs_in (tl_2 (List.mem_of_getElem? (i := 232) (by decide +kernel))) rfl
theorem m_542 : Jvm.Cond.methodLink "AtlasDesk" 76 ⟨"AtlasDesk$Feature", "isDescribed", "()Z"⟩ ∈ mWs := mWs_in (tl_2 (List.mem_of_getElem? (i := 233) (by decide +kernel))) rfl
theorem m_543 : Jvm.Cond.instanceMethod ⟨"AtlasDesk$Feature", "isDescribed", "()Z"⟩ ∈ mWs := mWs_in (tl_2 (List.mem_of_getElem? (i := 234) (by decide +kernel))) rfl
theorem m_544 : Jvm.Cond.selects "AtlasDesk$Feature" ⟨"AtlasDesk$Feature", "isDescribed", "()Z"⟩ ⟨"AtlasDesk$Feature", "isDescribed", "()Z"⟩ ∈ mWs := mWs_in (tl_2 (List.mem_of_getElem? (i := 235) (by decide +kernel))) rfl
set_option maxRecDepth 8000 in
theorem m_545 : Jvm.Cond.code ⟨"AtlasDesk$Feature", "isDescribed", "()Z"⟩ prog_4_method_5_code 1 (some .boolean) ∈ mWs := mWs_in (tl_2 (List.mem_of_getElem? (i := 236) rfl)) rfl
theorem m_546 : Jvm.Cond.methodLinkNest "AtlasDesk$Feature" 52 ⟨"AtlasDesk", "isZoom", "(I)Z"⟩ "AtlasDesk" ∈ lw_tbl := tl_2 (List.mem_of_getElem? (i := 237) (by decide +kernel))
theorem m_547 : Jvm.Cond.static ⟨"AtlasDesk", "isZoom", "(I)Z"⟩ ∈ mWs := mWs_in (tl_2 (List.mem_of_getElem? (i := 238) (by decide +kernel))) rfl
set_option maxRecDepth 8000 in
theorem m_548 : Jvm.Cond.code ⟨"AtlasDesk", "isZoom", "(I)Z"⟩ prog_1_method_20_code 1 (some .boolean) ∈ mWs := mWs_in (tl_2 (List.mem_of_getElem? (i := 239) rfl)) rfl
theorem m_549 : Jvm.Cond.methodLink "AtlasDesk$Feature" 56 ⟨"AtlasDesk$Feature", "isName", "(J)Z"⟩ ∈ mWs := mWs_in (tl_3 (List.mem_of_getElem? (i := 0) (by decide +kernel))) rfl
theorem m_550 : Jvm.Cond.static ⟨"AtlasDesk$Feature", "isName", "(J)Z"⟩ ∈ mWs := mWs_in (tl_3 (List.mem_of_getElem? (i := 1) (by decide +kernel))) rfl
set_option maxRecDepth 8000 in
theorem m_551 : Jvm.Cond.code ⟨"AtlasDesk$Feature", "isName", "(J)Z"⟩ prog_4_method_18_code 6 (some .boolean) ∈ mWs := mWs_in (tl_3 (List.mem_of_getElem? (i := 2) rfl)) rfl
theorem m_552 : Jvm.Cond.methodLink "AtlasDesk" 80 ⟨"AtlasDesk$Feature", "hasSoundCorners", "()Z"⟩ ∈ mWs := mWs_in (tl_3 (List.mem_of_getElem? (i := 3) (by decide +kernel))) rfl
theorem m_553 : Jvm.Cond.instanceMethod ⟨"AtlasDesk$Feature", "hasSoundCorners", "()Z"⟩ ∈ mWs := mWs_in (tl_3 (List.mem_of_getElem? (i := 4) (by decide +kernel))) rfl
theorem m_554 : Jvm.Cond.selects "AtlasDesk$Feature" ⟨"AtlasDesk$Feature", "hasSoundCorners", "()Z"⟩ ⟨"AtlasDesk$Feature", "hasSoundCorners", "()Z"⟩ ∈ mWs := mWs_in (tl_3 (List.mem_of_getElem? (i := 5) (by decide +kernel))) rfl
set_option maxRecDepth 8000 in
theorem m_555 : Jvm.Cond.code ⟨"AtlasDesk$Feature", "hasSoundCorners", "()Z"⟩ prog_4_method_6_code 1 (some .boolean) ∈ mWs := mWs_in (tl_3 (List.mem_of_getElem? (i := 6) rfl)) rfl
theorem m_556 : Jvm.Cond.methodLink "AtlasDesk$Feature" 60 ⟨"AtlasDesk$Feature", "goesOn", "()Z"⟩ ∈ mWs := mWs_in (tl_3 (List.mem_of_getElem? (i := 7) (by decide +kernel))) rfl
theorem m_558 : Jvm.Cond.instanceMethod ⟨"AtlasDesk$Feature", "goesOn", "()Z"⟩ ∈ mWs := mWs_in (tl_3 (List.mem_of_getElem? (i := 9) (by decide +kernel))) rfl
set_option maxRecDepth 8000 in
theorem m_559 : Jvm.Cond.code ⟨"AtlasDesk$Feature", "goesOn", "()Z"⟩ prog_4_method_7_code 2 (some .boolean) ∈ mWs := mWs_in (tl_3 (List.mem_of_getElem? (i := 10) rfl)) rfl
theorem m_560 : Jvm.Cond.methodLink "AtlasDesk$Feature" 67 ⟨"AtlasDesk$Feature", "samePlace", "(II)Z"⟩ ∈ mWs := mWs_in (tl_3 (List.mem_of_getElem? (i := 11) (by decide +kernel))) rfl
theorem m_562 : Jvm.Cond.instanceMethod ⟨"AtlasDesk$Feature", "samePlace", "(II)Z"⟩ ∈ mWs := mWs_in (tl_3 (List.mem_of_getElem? (i := 13) (by decide +kernel))) rfl
set_option maxRecDepth 8000 in
theorem m_563 : Jvm.Cond.code ⟨"AtlasDesk$Feature", "samePlace", "(II)Z"⟩ prog_4_method_15_code 3 (some .boolean) ∈ mWs := mWs_in (tl_3 (List.mem_of_getElem? (i := 14) rfl)) rfl
theorem m_564 : Jvm.Cond.methodLink "AtlasDesk$Feature" 64 ⟨"AtlasDesk$Feature", "isRing", "()Z"⟩ ∈ mWs := mWs_in (tl_3 (List.mem_of_getElem? (i := 15) (by decide +kernel))) rfl
theorem m_566 : Jvm.Cond.instanceMethod ⟨"AtlasDesk$Feature", "isRing", "()Z"⟩ ∈ mWs := mWs_in (tl_3 (List.mem_of_getElem? (i := 17) (by decide +kernel))) rfl
set_option maxRecDepth 8000 in
theorem m_567 : Jvm.Cond.code ⟨"AtlasDesk$Feature", "isRing", "()Z"⟩ prog_4_method_8_code 3 (some .boolean) ∈ mWs := mWs_in (tl_3 (List.mem_of_getElem? (i := 18) rfl)) rfl
theorem m_568 : Jvm.Cond.methodLink "AtlasDesk$Feature" 70 ⟨"AtlasDesk$Feature", "edgesClash", "(II)Z"⟩ ∈ mWs := mWs_in (tl_3 (List.mem_of_getElem? (i := 19) (by decide +kernel))) rfl
theorem m_570 : Jvm.Cond.instanceMethod ⟨"AtlasDesk$Feature", "edgesClash", "(II)Z"⟩ ∈ mWs := mWs_in (tl_3 (List.mem_of_getElem? (i := 21) (by decide +kernel))) rfl
set_option maxRecDepth 8000 in
theorem m_571 : Jvm.Cond.code ⟨"AtlasDesk$Feature", "edgesClash", "(II)Z"⟩ prog_4_method_9_code 3 (some .boolean) ∈ mWs := mWs_in (tl_3 (List.mem_of_getElem? (i := 22) rfl)) rfl
theorem m_572 : Jvm.Cond.methodLink "AtlasDesk$Feature" 73 ⟨"AtlasDesk$Feature", "next", "(I)I"⟩ ∈ mWs := mWs_in (tl_3 (List.mem_of_getElem? (i := 23) (by decide +kernel))) rfl
theorem m_573 : Jvm.Cond.instanceMethod ⟨"AtlasDesk$Feature", "next", "(I)I"⟩ ∈ mWs := mWs_in (tl_3 (List.mem_of_getElem? (i := 24) (by decide +kernel))) rfl
theorem m_574 : Jvm.Cond.selects "AtlasDesk$Feature" ⟨"AtlasDesk$Feature", "next", "(I)I"⟩ ⟨"AtlasDesk$Feature", "next", "(I)I"⟩ ∈ mWs := mWs_in (tl_3 (List.mem_of_getElem? (i := 25) (by decide +kernel))) rfl
set_option maxRecDepth 8000 in
theorem m_575 : Jvm.Cond.code ⟨"AtlasDesk$Feature", "next", "(I)I"⟩ prog_4_method_16_code 2 (some .int) ∈ mWs := mWs_in (tl_3 (List.mem_of_getElem? (i := 26) rfl)) rfl
theorem m_576 : Jvm.Cond.methodLink "AtlasDesk$Feature" 77 ⟨"AtlasDesk$Feature", "foldsBack", "(III)Z"⟩ ∈ mWs := mWs_in (tl_3 (List.mem_of_getElem? (i := 27) (by decide +kernel))) rfl
theorem m_578 : Jvm.Cond.instanceMethod ⟨"AtlasDesk$Feature", "foldsBack", "(III)Z"⟩ ∈ mWs := mWs_in (tl_3 (List.mem_of_getElem? (i := 29) (by decide +kernel))) rfl
set_option maxRecDepth 8000 in
theorem m_579 : Jvm.Cond.code ⟨"AtlasDesk$Feature", "foldsBack", "(III)Z"⟩ prog_4_method_10_code 5 (some .boolean) ∈ mWs := mWs_in (tl_3 (List.mem_of_getElem? (i := 30) rfl)) rfl
theorem m_580 : Jvm.Cond.methodLink "AtlasDesk$Feature" 85 ⟨"AtlasDesk$Feature", "turnOf", "(III)I"⟩ ∈ mWs := mWs_in (tl_3 (List.mem_of_getElem? (i := 31) (by decide +kernel))) rfl
theorem m_582 : Jvm.Cond.instanceMethod ⟨"AtlasDesk$Feature", "turnOf", "(III)I"⟩ ∈ mWs := mWs_in (tl_3 (List.mem_of_getElem? (i := 33) (by decide +kernel))) rfl
set_option maxRecDepth 8000 in
theorem m_583 : Jvm.Cond.code ⟨"AtlasDesk$Feature", "turnOf", "(III)I"⟩ prog_4_method_14_code 4 (some .int) ∈ mWs := mWs_in (tl_3 (List.mem_of_getElem? (i := 34) rfl)) rfl
theorem m_584 : Jvm.Cond.methodLinkNest "AtlasDesk$Feature" 104 ⟨"AtlasDesk", "turn", "(IIIIII)I"⟩ "AtlasDesk" ∈ lw_tbl := tl_3 (List.mem_of_getElem? (i := 35) (by decide +kernel))
theorem m_585 : Jvm.Cond.static ⟨"AtlasDesk", "turn", "(IIIIII)I"⟩ ∈ mWs := mWs_in (tl_3 (List.mem_of_getElem? (i := 36) (by decide +kernel))) rfl
set_option maxRecDepth 8000 in
theorem m_586 : Jvm.Cond.code ⟨"AtlasDesk", "turn", "(IIIIII)I"⟩ prog_1_method_22_code 6 (some .int) ∈ mWs := mWs_in (tl_3 (List.mem_of_getElem? (i := 37) rfl)) rfl
theorem m_587 : Jvm.Cond.methodLink "AtlasDesk$Feature" 81 ⟨"AtlasDesk$Feature", "edgesMeet", "(IIII)Z"⟩ ∈ mWs := mWs_in (tl_3 (List.mem_of_getElem? (i := 38) (by decide +kernel))) rfl
theorem m_589 : Jvm.Cond.instanceMethod ⟨"AtlasDesk$Feature", "edgesMeet", "(IIII)Z"⟩ ∈ mWs := mWs_in (tl_3 (List.mem_of_getElem? (i := 40) (by decide +kernel))) rfl
set_option maxRecDepth 8000 in
theorem m_590 : Jvm.Cond.code ⟨"AtlasDesk$Feature", "edgesMeet", "(IIII)Z"⟩ prog_4_method_11_code 10 (some .boolean) ∈ mWs := mWs_in (tl_3 (List.mem_of_getElem? (i := 41) rfl)) rfl
theorem m_591 : Jvm.Cond.methodLink "AtlasDesk$Feature" 89 ⟨"AtlasDesk$Feature", "areOpposite", "(II)Z"⟩ ∈ mWs := mWs_in (tl_3 (List.mem_of_getElem? (i := 42) (by decide +kernel))) rfl
theorem m_592 : Jvm.Cond.static ⟨"AtlasDesk$Feature", "areOpposite", "(II)Z"⟩ ∈ mWs := mWs_in (tl_3 (List.mem_of_getElem? (i := 43) (by decide +kernel))) rfl
set_option maxRecDepth 8000 in
theorem m_593 : Jvm.Cond.code ⟨"AtlasDesk$Feature", "areOpposite", "(II)Z"⟩ prog_4_method_12_code 2 (some .boolean) ∈ mWs := mWs_in (tl_3 (List.mem_of_getElem? (i := 44) rfl)) rfl
theorem m_594 : Jvm.Cond.methodLink "AtlasDesk$Feature" 92 ⟨"AtlasDesk$Feature", "isBetween", "(III)Z"⟩ ∈ mWs := mWs_in (tl_3 (List.mem_of_getElem? (i := 45) (by decide +kernel))) rfl
theorem m_596 : Jvm.Cond.instanceMethod ⟨"AtlasDesk$Feature", "isBetween", "(III)Z"⟩ ∈ mWs := mWs_in (tl_3 (List.mem_of_getElem? (i := 47) (by decide +kernel))) rfl
set_option maxRecDepth 8000 in
theorem m_597 : Jvm.Cond.code ⟨"AtlasDesk$Feature", "isBetween", "(III)Z"⟩ prog_4_method_13_code 4 (some .boolean) ∈ mWs := mWs_in (tl_3 (List.mem_of_getElem? (i := 48) rfl)) rfl
theorem m_598 : Jvm.Cond.methodLink "AtlasDesk$Feature" 95 ⟨"java/lang/Math", "min", "(II)I"⟩ ∈ mWs := mWs_in (tl_3 (List.mem_of_getElem? (i := 49) (by decide +kernel))) rfl
theorem m_599 : Jvm.Cond.static ⟨"java/lang/Math", "min", "(II)I"⟩ ∈ mWs := mWs_in (tl_3 (List.mem_of_getElem? (i := 50) (by decide +kernel))) rfl
set_option maxRecDepth 8000 in
theorem m_600 : Jvm.Cond.code ⟨"java/lang/Math", "min", "(II)I"⟩ prog_18_method_69_code 2 (some .int) ∈ mWs := mWs_in (tl_3 (List.mem_of_getElem? (i := 51) rfl)) rfl
theorem m_601 : Jvm.Cond.methodLink "AtlasDesk$Feature" 101 ⟨"java/lang/Math", "max", "(II)I"⟩ ∈ mWs := mWs_in (tl_3 (List.mem_of_getElem? (i := 52) (by decide +kernel))) rfl
theorem m_602 : Jvm.Cond.static ⟨"java/lang/Math", "max", "(II)I"⟩ ∈ mWs := mWs_in (tl_3 (List.mem_of_getElem? (i := 53) (by decide +kernel))) rfl
set_option maxRecDepth 8000 in
theorem m_603 : Jvm.Cond.code ⟨"java/lang/Math", "max", "(II)I"⟩ prog_18_method_65_code 2 (some .int) ∈ mWs := mWs_in (tl_3 (List.mem_of_getElem? (i := 54) rfl)) rfl
theorem m_604 : Jvm.Cond.methodLink "AtlasDesk" 83 ⟨"AtlasDesk$Edition", "put", "(LAtlasDesk$Feature;)Z"⟩ ∈ mWs := mWs_in (tl_3 (List.mem_of_getElem? (i := 55) (by decide +kernel))) rfl
theorem m_605 : Jvm.Cond.instanceMethod ⟨"AtlasDesk$Edition", "put", "(LAtlasDesk$Feature;)Z"⟩ ∈ mWs := mWs_in (tl_3 (List.mem_of_getElem? (i := 56) (by decide +kernel))) rfl
theorem m_606 : Jvm.Cond.selects "AtlasDesk$Edition" ⟨"AtlasDesk$Edition", "put", "(LAtlasDesk$Feature;)Z"⟩ ⟨"AtlasDesk$Edition", "put", "(LAtlasDesk$Feature;)Z"⟩ ∈ mWs := mWs_in (tl_3 (List.mem_of_getElem? (i := 57) (by decide +kernel))) rfl
set_option maxRecDepth 8000 in
theorem m_607 : Jvm.Cond.code ⟨"AtlasDesk$Edition", "put", "(LAtlasDesk$Feature;)Z"⟩ prog_3_method_2_code 5 (some .boolean) ∈ mWs := mWs_in (tl_3 (List.mem_of_getElem? (i := 58) rfl)) rfl
theorem m_700 : Jvm.Cond.methodLink "AtlasDesk" 115 ⟨"AtlasDesk", "editionAt", "(I)LAtlasDesk$Edition;"⟩ ∈ mWs := mWs_in (tl_3 (List.mem_of_getElem? (i := 151) (by decide +kernel))) rfl
theorem m_702 : Jvm.Cond.instanceMethod ⟨"AtlasDesk", "editionAt", "(I)LAtlasDesk$Edition;"⟩ ∈ mWs := mWs_in (tl_3 (List.mem_of_getElem? (i := 153) (by decide +kernel))) rfl
set_option maxRecDepth 8000 in
theorem m_703 : Jvm.Cond.code ⟨"AtlasDesk", "editionAt", "(I)LAtlasDesk$Edition;"⟩ prog_1_method_18_code 3 (some (.object "AtlasDesk$Edition")) ∈ mWs := mWs_in (tl_3 (List.mem_of_getElem? (i := 154) rfl)) rfl
theorem m_704 : Jvm.Cond.methodLink "AtlasDesk" 119 ⟨"AtlasDesk", "isTile", "(III)Z"⟩ ∈ mWs := mWs_in (tl_3 (List.mem_of_getElem? (i := 155) (by decide +kernel))) rfl
theorem m_705 : Jvm.Cond.static ⟨"AtlasDesk", "isTile", "(III)Z"⟩ ∈ mWs := mWs_in (tl_3 (List.mem_of_getElem? (i := 156) (by decide +kernel))) rfl
set_option maxRecDepth 8000 in
theorem m_706 : Jvm.Cond.code ⟨"AtlasDesk", "isTile", "(III)Z"⟩ prog_1_method_21_code 3 (some .boolean) ∈ mWs := mWs_in (tl_3 (List.mem_of_getElem? (i := 157) rfl)) rfl
theorem m_707 : Jvm.Cond.methodLink "AtlasDesk" 152 ⟨"AtlasDesk", "isZoom", "(I)Z"⟩ ∈ mWs := mWs_in (tl_3 (List.mem_of_getElem? (i := 158) (by decide +kernel))) rfl
theorem m_724 : Jvm.Cond.methodLink "AtlasDesk" 132 ⟨"AtlasDesk$TileMaker", "prepare", "(LAtlasDesk$Edition;I)V"⟩ ∈ mWs := mWs_in (tl_3 (List.mem_of_getElem? (i := 175) (by decide +kernel))) rfl
theorem m_725 : Jvm.Cond.instanceMethod ⟨"AtlasDesk$TileMaker", "prepare", "(LAtlasDesk$Edition;I)V"⟩ ∈ mWs := mWs_in (tl_3 (List.mem_of_getElem? (i := 176) (by decide +kernel))) rfl
theorem m_726 : Jvm.Cond.selects "AtlasDesk$TileMaker" ⟨"AtlasDesk$TileMaker", "prepare", "(LAtlasDesk$Edition;I)V"⟩ ⟨"AtlasDesk$TileMaker", "prepare", "(LAtlasDesk$Edition;I)V"⟩ ∈ mWs := mWs_in (tl_3 (List.mem_of_getElem? (i := 177) (by decide +kernel))) rfl
set_option maxRecDepth 8000 in
theorem m_727 : Jvm.Cond.code ⟨"AtlasDesk$TileMaker", "prepare", "(LAtlasDesk$Edition;I)V"⟩ prog_11_method_2_code 4 none ∈ mWs := mWs_in (tl_3 (List.mem_of_getElem? (i := 178) rfl)) rfl
theorem m_728 : Jvm.Cond.methodLink "AtlasDesk$TileMaker" 61 ⟨"AtlasDesk$TileMaker", "makeShape", "(LAtlasDesk$Feature;LAtlasDesk$Path;)V"⟩ ∈ mWs := mWs_in (tl_3 (List.mem_of_getElem? (i := 179) (by decide +kernel))) rfl
theorem m_730 : Jvm.Cond.instanceMethod ⟨"AtlasDesk$TileMaker", "makeShape", "(LAtlasDesk$Feature;LAtlasDesk$Path;)V"⟩ ∈ mWs := mWs_in (tl_3 (List.mem_of_getElem? (i := 181) (by decide +kernel))) rfl
set_option maxRecDepth 8000 in
theorem m_731 : Jvm.Cond.code ⟨"AtlasDesk$TileMaker", "makeShape", "(LAtlasDesk$Feature;LAtlasDesk$Path;)V"⟩ prog_11_method_3_code 5 none ∈ mWs := mWs_in (tl_3 (List.mem_of_getElem? (i := 182) rfl)) rfl
theorem m_732 : Jvm.Cond.methodLink "AtlasDesk$TileMaker" 73 ⟨"AtlasDesk$Path", "add", "(IIZ)V"⟩ ∈ mWs := mWs_in (tl_3 (List.mem_of_getElem? (i := 183) (by decide +kernel))) rfl
theorem m_733 : Jvm.Cond.instanceMethod ⟨"AtlasDesk$Path", "add", "(IIZ)V"⟩ ∈ mWs := mWs_in (tl_3 (List.mem_of_getElem? (i := 184) (by decide +kernel))) rfl
theorem m_734 : Jvm.Cond.selects "AtlasDesk$Path" ⟨"AtlasDesk$Path", "add", "(IIZ)V"⟩ ⟨"AtlasDesk$Path", "add", "(IIZ)V"⟩ ∈ mWs := mWs_in (tl_3 (List.mem_of_getElem? (i := 185) (by decide +kernel))) rfl
set_option maxRecDepth 8000 in
theorem m_735 : Jvm.Cond.code ⟨"AtlasDesk$Path", "add", "(IIZ)V"⟩ prog_8_method_2_code 4 none ∈ mWs := mWs_in (tl_3 (List.mem_of_getElem? (i := 186) rfl)) rfl
theorem m_736 : Jvm.Cond.methodLink "AtlasDesk$TileMaker" 82 ⟨"AtlasDesk$TileMaker", "markStaying", "(LAtlasDesk$Path;)V"⟩ ∈ mWs := mWs_in (tl_3 (List.mem_of_getElem? (i := 187) (by decide +kernel))) rfl
theorem m_738 : Jvm.Cond.instanceMethod ⟨"AtlasDesk$TileMaker", "markStaying", "(LAtlasDesk$Path;)V"⟩ ∈ mWs := mWs_in (tl_3 (List.mem_of_getElem? (i := 189) (by decide +kernel))) rfl
set_option maxRecDepth 8000 in
theorem m_739 : Jvm.Cond.code ⟨"AtlasDesk$TileMaker", "markStaying", "(LAtlasDesk$Path;)V"⟩ prog_11_method_5_code 7 none ∈ mWs := mWs_in (tl_3 (List.mem_of_getElem? (i := 190) rfl)) rfl
theorem m_740 : Jvm.Cond.methodLink "AtlasDesk$TileMaker" 99 ⟨"AtlasDesk$TileMaker", "nextStaying", "(II)I"⟩ ∈ mWs := mWs_in (tl_3 (List.mem_of_getElem? (i := 191) (by decide +kernel))) rfl
theorem m_742 : Jvm.Cond.instanceMethod ⟨"AtlasDesk$TileMaker", "nextStaying", "(II)I"⟩ ∈ mWs := mWs_in (tl_3 (List.mem_of_getElem? (i := 193) (by decide +kernel))) rfl
set_option maxRecDepth 8000 in
theorem m_743 : Jvm.Cond.code ⟨"AtlasDesk$TileMaker", "nextStaying", "(II)I"⟩ prog_11_method_6_code 4 (some .int) ∈ mWs := mWs_in (tl_3 (List.mem_of_getElem? (i := 194) rfl)) rfl
theorem m_744 : Jvm.Cond.methodLink "AtlasDesk$TileMaker" 103 ⟨"AtlasDesk$TileMaker", "farthest", "(LAtlasDesk$Path;II)I"⟩ ∈ mWs := mWs_in (tl_3 (List.mem_of_getElem? (i := 195) (by decide +kernel))) rfl
theorem m_745 : Jvm.Cond.static ⟨"AtlasDesk$TileMaker", "farthest", "(LAtlasDesk$Path;II)I"⟩ ∈ mWs := mWs_in (tl_3 (List.mem_of_getElem? (i := 196) (by decide +kernel))) rfl
set_option maxRecDepth 8000 in
theorem m_746 : Jvm.Cond.code ⟨"AtlasDesk$TileMaker", "farthest", "(LAtlasDesk$Path;II)I"⟩ prog_11_method_7_code 13 (some .int) ∈ mWs := mWs_in (tl_3 (List.mem_of_getElem? (i := 197) rfl)) rfl
theorem m_747 : Jvm.Cond.constantLong "AtlasDesk$TileMaker" 107 (-1) ∈ mWs := mWs_in (tl_3 (List.mem_of_getElem? (i := 198) (by decide +kernel))) rfl
theorem m_748 : Jvm.Cond.methodLink "AtlasDesk$TileMaker" 109 ⟨"java/lang/Math", "abs", "(I)I"⟩ ∈ mWs := mWs_in (tl_3 (List.mem_of_getElem? (i := 199) (by decide +kernel))) rfl
theorem m_749 : Jvm.Cond.static ⟨"java/lang/Math", "abs", "(I)I"⟩ ∈ mWs := mWs_in (tl_3 (List.mem_of_getElem? (i := 200) (by decide +kernel))) rfl
set_option maxRecDepth 8000 in
theorem m_750 : Jvm.Cond.code ⟨"java/lang/Math", "abs", "(I)I"⟩ prog_18_method_59_code 1 (some .int) ∈ mWs := mWs_in (tl_3 (List.mem_of_getElem? (i := 201) rfl)) rfl
theorem m_751 : Jvm.Cond.constantLong "AtlasDesk$TileMaker" 115 (4) ∈ mWs := mWs_in (tl_3 (List.mem_of_getElem? (i := 202) (by decide +kernel))) rfl
theorem m_752 : Jvm.Cond.methodLink "AtlasDesk$TileMaker" 86 ⟨"AtlasDesk$TileMaker", "keepStaying", "(LAtlasDesk$Path;)V"⟩ ∈ mWs := mWs_in (tl_3 (List.mem_of_getElem? (i := 203) (by decide +kernel))) rfl
theorem m_754 : Jvm.Cond.instanceMethod ⟨"AtlasDesk$TileMaker", "keepStaying", "(LAtlasDesk$Path;)V"⟩ ∈ mWs := mWs_in (tl_3 (List.mem_of_getElem? (i := 205) (by decide +kernel))) rfl
set_option maxRecDepth 8000 in
theorem m_755 : Jvm.Cond.code ⟨"AtlasDesk$TileMaker", "keepStaying", "(LAtlasDesk$Path;)V"⟩ prog_11_method_4_code 4 none ∈ mWs := mWs_in (tl_3 (List.mem_of_getElem? (i := 206) rfl)) rfl
theorem m_756 : Jvm.Cond.methodLink "AtlasDesk$TileMaker" 95 ⟨"AtlasDesk$Path", "move", "(II)V"⟩ ∈ mWs := mWs_in (tl_3 (List.mem_of_getElem? (i := 207) (by decide +kernel))) rfl
theorem m_757 : Jvm.Cond.instanceMethod ⟨"AtlasDesk$Path", "move", "(II)V"⟩ ∈ mWs := mWs_in (tl_3 (List.mem_of_getElem? (i := 208) (by decide +kernel))) rfl
theorem m_758 : Jvm.Cond.selects "AtlasDesk$Path" ⟨"AtlasDesk$Path", "move", "(II)V"⟩ ⟨"AtlasDesk$Path", "move", "(II)V"⟩ ∈ mWs := mWs_in (tl_3 (List.mem_of_getElem? (i := 209) (by decide +kernel))) rfl
set_option maxRecDepth 8000 in
theorem m_759 : Jvm.Cond.code ⟨"AtlasDesk$Path", "move", "(II)V"⟩ prog_8_method_4_code 3 none ∈ mWs := mWs_in (tl_3 (List.mem_of_getElem? (i := 210) rfl)) rfl
theorem m_760 : Jvm.Cond.methodLink "AtlasDesk$TileMaker" 89 ⟨"AtlasDesk$Path", "tidy", "(I)V"⟩ ∈ mWs := mWs_in (tl_3 (List.mem_of_getElem? (i := 211) (by decide +kernel))) rfl
theorem m_761 : Jvm.Cond.instanceMethod ⟨"AtlasDesk$Path", "tidy", "(I)V"⟩ ∈ mWs := mWs_in (tl_3 (List.mem_of_getElem? (i := 212) (by decide +kernel))) rfl
theorem m_762 : Jvm.Cond.selects "AtlasDesk$Path" ⟨"AtlasDesk$Path", "tidy", "(I)V"⟩ ⟨"AtlasDesk$Path", "tidy", "(I)V"⟩ ∈ mWs := mWs_in (tl_3 (List.mem_of_getElem? (i := 213) (by decide +kernel))) rfl
set_option maxRecDepth 8000 in
theorem m_763 : Jvm.Cond.code ⟨"AtlasDesk$Path", "tidy", "(I)V"⟩ prog_8_method_5_code 2 none ∈ mWs := mWs_in (tl_3 (List.mem_of_getElem? (i := 214) rfl)) rfl
theorem m_764 : Jvm.Cond.methodLink "AtlasDesk$Path" 26 ⟨"AtlasDesk$Path", "mergeRepeats", "()V"⟩ ∈ mWs := mWs_in (tl_3 (List.mem_of_getElem? (i := 215) (by decide +kernel))) rfl
theorem m_766 : Jvm.Cond.instanceMethod ⟨"AtlasDesk$Path", "mergeRepeats", "()V"⟩ ∈ mWs := mWs_in (tl_3 (List.mem_of_getElem? (i := 217) (by decide +kernel))) rfl
set_option maxRecDepth 8000 in
theorem m_767 : Jvm.Cond.code ⟨"AtlasDesk$Path", "mergeRepeats", "()V"⟩ prog_8_method_6_code 3 none ∈ mWs := mWs_in (tl_3 (List.mem_of_getElem? (i := 218) rfl)) rfl
theorem m_768 : Jvm.Cond.methodLink "AtlasDesk$Path" 32 ⟨"AtlasDesk$Path", "samePlace", "(II)Z"⟩ ∈ mWs := mWs_in (tl_3 (List.mem_of_getElem? (i := 219) (by decide +kernel))) rfl
theorem m_769 : Jvm.Cond.instanceMethod ⟨"AtlasDesk$Path", "samePlace", "(II)Z"⟩ ∈ mWs := mWs_in (tl_3 (List.mem_of_getElem? (i := 220) (by decide +kernel))) rfl
theorem m_770 : Jvm.Cond.selects "AtlasDesk$Path" ⟨"AtlasDesk$Path", "samePlace", "(II)Z"⟩ ⟨"AtlasDesk$Path", "samePlace", "(II)Z"⟩ ∈ mWs := mWs_in (tl_3 (List.mem_of_getElem? (i := 221) (by decide +kernel))) rfl
set_option maxRecDepth 8000 in
theorem m_771 : Jvm.Cond.code ⟨"AtlasDesk$Path", "samePlace", "(II)Z"⟩ prog_8_method_3_code 3 (some .boolean) ∈ mWs := mWs_in (tl_3 (List.mem_of_getElem? (i := 222) rfl)) rfl
theorem m_772 : Jvm.Cond.methodLink "AtlasDesk$Path" 36 ⟨"AtlasDesk$Path", "move", "(II)V"⟩ ∈ mWs := mWs_in (tl_3 (List.mem_of_getElem? (i := 223) (by decide +kernel))) rfl
theorem m_773 : Jvm.Cond.methodLink "AtlasDesk$Path" 29 ⟨"AtlasDesk$Path", "removeLoneCorners", "()V"⟩ ∈ mWs := mWs_in (tl_3 (List.mem_of_getElem? (i := 224) (by decide +kernel))) rfl
theorem m_775 : Jvm.Cond.instanceMethod ⟨"AtlasDesk$Path", "removeLoneCorners", "()V"⟩ ∈ mWs := mWs_in (tl_3 (List.mem_of_getElem? (i := 226) (by decide +kernel))) rfl
set_option maxRecDepth 8000 in
theorem m_776 : Jvm.Cond.code ⟨"AtlasDesk$Path", "removeLoneCorners", "()V"⟩ prog_8_method_7_code 4 none ∈ mWs := mWs_in (tl_3 (List.mem_of_getElem? (i := 227) rfl)) rfl
theorem m_777 : Jvm.Cond.methodLink "AtlasDesk$TileMaker" 92 ⟨"AtlasDesk$Path", "measure", "()V"⟩ ∈ mWs := mWs_in (tl_3 (List.mem_of_getElem? (i := 228) (by decide +kernel))) rfl
theorem m_778 : Jvm.Cond.instanceMethod ⟨"AtlasDesk$Path", "measure", "()V"⟩ ∈ mWs := mWs_in (tl_3 (List.mem_of_getElem? (i := 229) (by decide +kernel))) rfl
theorem m_779 : Jvm.Cond.selects "AtlasDesk$Path" ⟨"AtlasDesk$Path", "measure", "()V"⟩ ⟨"AtlasDesk$Path", "measure", "()V"⟩ ∈ mWs := mWs_in (tl_3 (List.mem_of_getElem? (i := 230) (by decide +kernel))) rfl
set_option maxRecDepth 8000 in
theorem m_780 : Jvm.Cond.code ⟨"AtlasDesk$Path", "measure", "()V"⟩ prog_8_method_10_code 2 none ∈ mWs := mWs_in (tl_3 (List.mem_of_getElem? (i := 231) rfl)) rfl
theorem m_781 : Jvm.Cond.methodLink "AtlasDesk$Path" 52 ⟨"java/lang/Math", "min", "(II)I"⟩ ∈ mWs := mWs_in (tl_3 (List.mem_of_getElem? (i := 232) (by decide +kernel))) rfl
theorem m_782 : Jvm.Cond.methodLink "AtlasDesk$Path" 58 ⟨"java/lang/Math", "max", "(II)I"⟩ ∈ mWs := mWs_in (tl_3 (List.mem_of_getElem? (i := 233) (by decide +kernel))) rfl
theorem m_783 : Jvm.Cond.methodLink "AtlasDesk" 138 ⟨"AtlasDesk$TileMaker", "make", "(IILAtlasDesk$Octets;)V"⟩ ∈ mWs := mWs_in (tl_3 (List.mem_of_getElem? (i := 234) (by decide +kernel))) rfl
theorem m_784 : Jvm.Cond.instanceMethod ⟨"AtlasDesk$TileMaker", "make", "(IILAtlasDesk$Octets;)V"⟩ ∈ mWs := mWs_in (tl_3 (List.mem_of_getElem? (i := 235) (by decide +kernel))) rfl
theorem m_785 : Jvm.Cond.selects "AtlasDesk$TileMaker" ⟨"AtlasDesk$TileMaker", "make", "(IILAtlasDesk$Octets;)V"⟩ ⟨"AtlasDesk$TileMaker", "make", "(IILAtlasDesk$Octets;)V"⟩ ∈ mWs := mWs_in (tl_3 (List.mem_of_getElem? (i := 236) (by decide +kernel))) rfl
set_option maxRecDepth 8000 in
theorem m_786 : Jvm.Cond.code ⟨"AtlasDesk$TileMaker", "make", "(IILAtlasDesk$Octets;)V"⟩ prog_11_method_8_code 9 none ∈ mWs := mWs_in (tl_3 (List.mem_of_getElem? (i := 237) rfl)) rfl
theorem m_787 : Jvm.Cond.methodLink "AtlasDesk$TileMaker" 122 ⟨"AtlasDesk$Path", "misses", "(II)Z"⟩ ∈ mWs := mWs_in (tl_3 (List.mem_of_getElem? (i := 238) (by decide +kernel))) rfl
theorem m_788 : Jvm.Cond.instanceMethod ⟨"AtlasDesk$Path", "misses", "(II)Z"⟩ ∈ mWs := mWs_in (tl_3 (List.mem_of_getElem? (i := 239) (by decide +kernel))) rfl
theorem m_789 : Jvm.Cond.selects "AtlasDesk$Path" ⟨"AtlasDesk$Path", "misses", "(II)Z"⟩ ⟨"AtlasDesk$Path", "misses", "(II)Z"⟩ ∈ mWs := mWs_in (tl_4 (List.mem_of_getElem? (i := 0) (by decide +kernel))) rfl
set_option maxRecDepth 8000 in
theorem m_790 : Jvm.Cond.code ⟨"AtlasDesk$Path", "misses", "(II)Z"⟩ prog_8_method_11_code 3 (some .boolean) ∈ mWs := mWs_in (tl_4 (List.mem_of_getElem? (i := 1) rfl)) rfl
theorem m_791 : Jvm.Cond.methodLink "AtlasDesk$TileMaker" 126 ⟨"AtlasDesk$TileMaker", "cutToTile", "(LAtlasDesk$Path;III)V"⟩ ∈ mWs := mWs_in (tl_4 (List.mem_of_getElem? (i := 2) (by decide +kernel))) rfl
theorem m_793 : Jvm.Cond.instanceMethod ⟨"AtlasDesk$TileMaker", "cutToTile", "(LAtlasDesk$Path;III)V"⟩ ∈ mWs := mWs_in (tl_4 (List.mem_of_getElem? (i := 4) (by decide +kernel))) rfl
set_option maxRecDepth 8000 in
theorem m_794 : Jvm.Cond.code ⟨"AtlasDesk$TileMaker", "cutToTile", "(LAtlasDesk$Path;III)V"⟩ prog_11_method_9_code 7 none ∈ mWs := mWs_in (tl_4 (List.mem_of_getElem? (i := 5) rfl)) rfl
theorem m_795 : Jvm.Cond.methodLink "AtlasDesk$TileMaker" 137 ⟨"AtlasDesk$Path", "copyFrom", "(LAtlasDesk$Path;)V"⟩ ∈ mWs := mWs_in (tl_4 (List.mem_of_getElem? (i := 6) (by decide +kernel))) rfl
theorem m_796 : Jvm.Cond.instanceMethod ⟨"AtlasDesk$Path", "copyFrom", "(LAtlasDesk$Path;)V"⟩ ∈ mWs := mWs_in (tl_4 (List.mem_of_getElem? (i := 7) (by decide +kernel))) rfl
theorem m_797 : Jvm.Cond.selects "AtlasDesk$Path" ⟨"AtlasDesk$Path", "copyFrom", "(LAtlasDesk$Path;)V"⟩ ⟨"AtlasDesk$Path", "copyFrom", "(LAtlasDesk$Path;)V"⟩ ∈ mWs := mWs_in (tl_4 (List.mem_of_getElem? (i := 8) (by decide +kernel))) rfl
set_option maxRecDepth 8000 in
theorem m_798 : Jvm.Cond.code ⟨"AtlasDesk$Path", "copyFrom", "(LAtlasDesk$Path;)V"⟩ prog_8_method_12_code 3 none ∈ mWs := mWs_in (tl_4 (List.mem_of_getElem? (i := 9) rfl)) rfl
theorem m_799 : Jvm.Cond.methodLink "AtlasDesk$Path" 61 ⟨"AtlasDesk$Path", "add", "(IIZ)V"⟩ ∈ mWs := mWs_in (tl_4 (List.mem_of_getElem? (i := 10) (by decide +kernel))) rfl
theorem m_800 : Jvm.Cond.methodLink "AtlasDesk$TileMaker" 140 ⟨"AtlasDesk$Side", "set", "(III)V"⟩ ∈ mWs := mWs_in (tl_4 (List.mem_of_getElem? (i := 11) (by decide +kernel))) rfl
theorem m_801 : Jvm.Cond.instanceMethod ⟨"AtlasDesk$Side", "set", "(III)V"⟩ ∈ mWs := mWs_in (tl_4 (List.mem_of_getElem? (i := 12) (by decide +kernel))) rfl
theorem m_802 : Jvm.Cond.selects "AtlasDesk$Side" ⟨"AtlasDesk$Side", "set", "(III)V"⟩ ⟨"AtlasDesk$Side", "set", "(III)V"⟩ ∈ mWs := mWs_in (tl_4 (List.mem_of_getElem? (i := 13) (by decide +kernel))) rfl
set_option maxRecDepth 8000 in
theorem m_803 : Jvm.Cond.code ⟨"AtlasDesk$Side", "set", "(III)V"⟩ prog_10_method_2_code 5 none ∈ mWs := mWs_in (tl_4 (List.mem_of_getElem? (i := 14) rfl)) rfl
theorem m_804 : Jvm.Cond.methodLink "AtlasDesk$TileMaker" 144 ⟨"AtlasDesk$Path", "cutFrom", "(LAtlasDesk$Path;LAtlasDesk$Side;Z)V"⟩ ∈ mWs := mWs_in (tl_4 (List.mem_of_getElem? (i := 15) (by decide +kernel))) rfl
theorem m_805 : Jvm.Cond.instanceMethod ⟨"AtlasDesk$Path", "cutFrom", "(LAtlasDesk$Path;LAtlasDesk$Side;Z)V"⟩ ∈ mWs := mWs_in (tl_4 (List.mem_of_getElem? (i := 16) (by decide +kernel))) rfl
theorem m_806 : Jvm.Cond.selects "AtlasDesk$Path" ⟨"AtlasDesk$Path", "cutFrom", "(LAtlasDesk$Path;LAtlasDesk$Side;Z)V"⟩ ⟨"AtlasDesk$Path", "cutFrom", "(LAtlasDesk$Path;LAtlasDesk$Side;Z)V"⟩ ∈ mWs := mWs_in (tl_4 (List.mem_of_getElem? (i := 17) (by decide +kernel))) rfl
set_option maxRecDepth 8000 in
theorem m_807 : Jvm.Cond.code ⟨"AtlasDesk$Path", "cutFrom", "(LAtlasDesk$Path;LAtlasDesk$Side;Z)V"⟩ prog_8_method_13_code 7 none ∈ mWs := mWs_in (tl_4 (List.mem_of_getElem? (i := 18) rfl)) rfl
theorem m_808 : Jvm.Cond.methodLink "AtlasDesk$Path" 65 ⟨"AtlasDesk$Side", "holds", "(II)Z"⟩ ∈ mWs := mWs_in (tl_4 (List.mem_of_getElem? (i := 19) (by decide +kernel))) rfl
theorem m_809 : Jvm.Cond.instanceMethod ⟨"AtlasDesk$Side", "holds", "(II)Z"⟩ ∈ mWs := mWs_in (tl_4 (List.mem_of_getElem? (i := 20) (by decide +kernel))) rfl
theorem m_810 : Jvm.Cond.selects "AtlasDesk$Side" ⟨"AtlasDesk$Side", "holds", "(II)Z"⟩ ⟨"AtlasDesk$Side", "holds", "(II)Z"⟩ ∈ mWs := mWs_in (tl_4 (List.mem_of_getElem? (i := 21) (by decide +kernel))) rfl
set_option maxRecDepth 8000 in
theorem m_811 : Jvm.Cond.code ⟨"AtlasDesk$Side", "holds", "(II)Z"⟩ prog_10_method_3_code 4 (some .boolean) ∈ mWs := mWs_in (tl_4 (List.mem_of_getElem? (i := 22) rfl)) rfl
theorem m_812 : Jvm.Cond.methodLink "AtlasDesk$Path" 70 ⟨"AtlasDesk$Path", "putOnBorder", "(LAtlasDesk$Path;IILAtlasDesk$Side;Z)V"⟩ ∈ mWs := mWs_in (tl_4 (List.mem_of_getElem? (i := 23) (by decide +kernel))) rfl
theorem m_814 : Jvm.Cond.instanceMethod ⟨"AtlasDesk$Path", "putOnBorder", "(LAtlasDesk$Path;IILAtlasDesk$Side;Z)V"⟩ ∈ mWs := mWs_in (tl_4 (List.mem_of_getElem? (i := 25) (by decide +kernel))) rfl
set_option maxRecDepth 8000 in
theorem m_815 : Jvm.Cond.code ⟨"AtlasDesk$Path", "putOnBorder", "(LAtlasDesk$Path;IILAtlasDesk$Side;Z)V"⟩ prog_8_method_14_code 7 none ∈ mWs := mWs_in (tl_4 (List.mem_of_getElem? (i := 26) rfl)) rfl
theorem m_816 : Jvm.Cond.methodLink "AtlasDesk$Path" 78 ⟨"AtlasDesk$Side", "cross", "(IIII)I"⟩ ∈ mWs := mWs_in (tl_4 (List.mem_of_getElem? (i := 27) (by decide +kernel))) rfl
theorem m_817 : Jvm.Cond.instanceMethod ⟨"AtlasDesk$Side", "cross", "(IIII)I"⟩ ∈ mWs := mWs_in (tl_4 (List.mem_of_getElem? (i := 28) (by decide +kernel))) rfl
theorem m_818 : Jvm.Cond.selects "AtlasDesk$Side" ⟨"AtlasDesk$Side", "cross", "(IIII)I"⟩ ⟨"AtlasDesk$Side", "cross", "(IIII)I"⟩ ∈ mWs := mWs_in (tl_4 (List.mem_of_getElem? (i := 29) (by decide +kernel))) rfl
set_option maxRecDepth 8000 in
theorem m_819 : Jvm.Cond.code ⟨"AtlasDesk$Side", "cross", "(IIII)I"⟩ prog_10_method_4_code 6 (some .int) ∈ mWs := mWs_in (tl_4 (List.mem_of_getElem? (i := 30) rfl)) rfl
theorem m_820 : Jvm.Cond.methodLink "AtlasDesk$Side" 22 ⟨"java/lang/Math", "floorDiv", "(II)I"⟩ ∈ mWs := mWs_in (tl_4 (List.mem_of_getElem? (i := 31) (by decide +kernel))) rfl
theorem m_821 : Jvm.Cond.static ⟨"java/lang/Math", "floorDiv", "(II)I"⟩ ∈ mWs := mWs_in (tl_4 (List.mem_of_getElem? (i := 32) (by decide +kernel))) rfl
set_option maxRecDepth 8000 in
theorem m_822 : Jvm.Cond.code ⟨"java/lang/Math", "floorDiv", "(II)I"⟩ prog_18_method_47_code 3 (some .int) ∈ mWs := mWs_in (tl_4 (List.mem_of_getElem? (i := 33) rfl)) rfl
theorem m_823 : Jvm.Cond.methodLink "AtlasDesk$TileMaker" 133 ⟨"AtlasDesk$TileMaker", "write", "(LAtlasDesk$Feature;IIILAtlasDesk$Octets;)V"⟩ ∈ mWs := mWs_in (tl_4 (List.mem_of_getElem? (i := 34) (by decide +kernel))) rfl
theorem m_825 : Jvm.Cond.instanceMethod ⟨"AtlasDesk$TileMaker", "write", "(LAtlasDesk$Feature;IIILAtlasDesk$Octets;)V"⟩ ∈ mWs := mWs_in (tl_4 (List.mem_of_getElem? (i := 36) (by decide +kernel))) rfl
set_option maxRecDepth 8000 in
theorem m_826 : Jvm.Cond.code ⟨"AtlasDesk$TileMaker", "write", "(LAtlasDesk$Feature;IIILAtlasDesk$Octets;)V"⟩ prog_11_method_10_code 9 none ∈ mWs := mWs_in (tl_4 (List.mem_of_getElem? (i := 37) rfl)) rfl
theorem m_827 : Jvm.Cond.methodLink "AtlasDesk$TileMaker" 148 ⟨"AtlasDesk$Octets", "addCount", "(I)V"⟩ ∈ mWs := mWs_in (tl_4 (List.mem_of_getElem? (i := 38) (by decide +kernel))) rfl
theorem m_828 : Jvm.Cond.instanceMethod ⟨"AtlasDesk$Octets", "addCount", "(I)V"⟩ ∈ mWs := mWs_in (tl_4 (List.mem_of_getElem? (i := 39) (by decide +kernel))) rfl
theorem m_829 : Jvm.Cond.selects "AtlasDesk$Octets" ⟨"AtlasDesk$Octets", "addCount", "(I)V"⟩ ⟨"AtlasDesk$Octets", "addCount", "(I)V"⟩ ∈ mWs := mWs_in (tl_4 (List.mem_of_getElem? (i := 40) (by decide +kernel))) rfl
set_option maxRecDepth 8000 in
theorem m_830 : Jvm.Cond.code ⟨"AtlasDesk$Octets", "addCount", "(I)V"⟩ prog_5_method_3_code 4 none ∈ mWs := mWs_in (tl_4 (List.mem_of_getElem? (i := 41) rfl)) rfl
theorem m_831 : Jvm.Cond.methodLink "AtlasDesk$Octets" 19 ⟨"AtlasDesk$Octets", "add", "(I)V"⟩ ∈ mWs := mWs_in (tl_4 (List.mem_of_getElem? (i := 42) (by decide +kernel))) rfl
theorem m_832 : Jvm.Cond.instanceMethod ⟨"AtlasDesk$Octets", "add", "(I)V"⟩ ∈ mWs := mWs_in (tl_4 (List.mem_of_getElem? (i := 43) (by decide +kernel))) rfl
theorem m_833 : Jvm.Cond.selects "AtlasDesk$Octets" ⟨"AtlasDesk$Octets", "add", "(I)V"⟩ ⟨"AtlasDesk$Octets", "add", "(I)V"⟩ ∈ mWs := mWs_in (tl_4 (List.mem_of_getElem? (i := 44) (by decide +kernel))) rfl
set_option maxRecDepth 8000 in
theorem m_834 : Jvm.Cond.code ⟨"AtlasDesk$Octets", "add", "(I)V"⟩ prog_5_method_2_code 2 none ∈ mWs := mWs_in (tl_4 (List.mem_of_getElem? (i := 45) rfl)) rfl
theorem m_835 : Jvm.Cond.methodLink "AtlasDesk$TileMaker" 154 ⟨"AtlasDesk$Octets", "add", "(I)V"⟩ ∈ mWs := mWs_in (tl_4 (List.mem_of_getElem? (i := 46) (by decide +kernel))) rfl
theorem m_836 : Jvm.Cond.methodLink "AtlasDesk$TileMaker" 156 ⟨"AtlasDesk$Path", "pieces", "()I"⟩ ∈ mWs := mWs_in (tl_4 (List.mem_of_getElem? (i := 47) (by decide +kernel))) rfl
theorem m_837 : Jvm.Cond.instanceMethod ⟨"AtlasDesk$Path", "pieces", "()I"⟩ ∈ mWs := mWs_in (tl_4 (List.mem_of_getElem? (i := 48) (by decide +kernel))) rfl
theorem m_838 : Jvm.Cond.selects "AtlasDesk$Path" ⟨"AtlasDesk$Path", "pieces", "()I"⟩ ⟨"AtlasDesk$Path", "pieces", "()I"⟩ ∈ mWs := mWs_in (tl_4 (List.mem_of_getElem? (i := 49) (by decide +kernel))) rfl
set_option maxRecDepth 8000 in
theorem m_839 : Jvm.Cond.code ⟨"AtlasDesk$Path", "pieces", "()I"⟩ prog_8_method_8_code 3 (some .int) ∈ mWs := mWs_in (tl_4 (List.mem_of_getElem? (i := 50) rfl)) rfl
theorem m_840 : Jvm.Cond.methodLink "AtlasDesk$TileMaker" 163 ⟨"AtlasDesk$Path", "pieceSize", "(I)I"⟩ ∈ mWs := mWs_in (tl_4 (List.mem_of_getElem? (i := 51) (by decide +kernel))) rfl
theorem m_841 : Jvm.Cond.instanceMethod ⟨"AtlasDesk$Path", "pieceSize", "(I)I"⟩ ∈ mWs := mWs_in (tl_4 (List.mem_of_getElem? (i := 52) (by decide +kernel))) rfl
theorem m_842 : Jvm.Cond.selects "AtlasDesk$Path" ⟨"AtlasDesk$Path", "pieceSize", "(I)I"⟩ ⟨"AtlasDesk$Path", "pieceSize", "(I)I"⟩ ∈ mWs := mWs_in (tl_4 (List.mem_of_getElem? (i := 53) (by decide +kernel))) rfl
set_option maxRecDepth 8000 in
theorem m_843 : Jvm.Cond.code ⟨"AtlasDesk$Path", "pieceSize", "(I)I"⟩ prog_8_method_9_code 4 (some .int) ∈ mWs := mWs_in (tl_4 (List.mem_of_getElem? (i := 54) rfl)) rfl
theorem m_844 : Jvm.Cond.methodLink "AtlasDesk$TileMaker" 166 ⟨"AtlasDesk$Octets", "addStep", "(I)V"⟩ ∈ mWs := mWs_in (tl_4 (List.mem_of_getElem? (i := 55) (by decide +kernel))) rfl
theorem m_845 : Jvm.Cond.instanceMethod ⟨"AtlasDesk$Octets", "addStep", "(I)V"⟩ ∈ mWs := mWs_in (tl_4 (List.mem_of_getElem? (i := 56) (by decide +kernel))) rfl
theorem m_846 : Jvm.Cond.selects "AtlasDesk$Octets" ⟨"AtlasDesk$Octets", "addStep", "(I)V"⟩ ⟨"AtlasDesk$Octets", "addStep", "(I)V"⟩ ∈ mWs := mWs_in (tl_4 (List.mem_of_getElem? (i := 57) (by decide +kernel))) rfl
set_option maxRecDepth 8000 in
theorem m_847 : Jvm.Cond.code ⟨"AtlasDesk$Octets", "addStep", "(I)V"⟩ prog_5_method_4_code 2 none ∈ mWs := mWs_in (tl_4 (List.mem_of_getElem? (i := 58) rfl)) rfl
theorem m_848 : Jvm.Cond.methodLink "AtlasDesk$Octets" 23 ⟨"AtlasDesk$Octets", "addCount", "(I)V"⟩ ∈ mWs := mWs_in (tl_4 (List.mem_of_getElem? (i := 59) (by decide +kernel))) rfl
theorem m_856 : Jvm.Cond.methodLink "AtlasDesk" 149 ⟨"AtlasDesk", "isOfWorld", "(II)Z"⟩ ∈ mWs := mWs_in (tl_4 (List.mem_of_getElem? (i := 67) (by decide +kernel))) rfl
theorem m_858 : Jvm.Cond.methodLink "AtlasDesk" 157 ⟨"AtlasDesk$Region", "set", "(IIIII)V"⟩ ∈ mWs := mWs_in (tl_4 (List.mem_of_getElem? (i := 69) (by decide +kernel))) rfl
theorem m_859 : Jvm.Cond.instanceMethod ⟨"AtlasDesk$Region", "set", "(IIIII)V"⟩ ∈ mWs := mWs_in (tl_4 (List.mem_of_getElem? (i := 70) (by decide +kernel))) rfl
theorem m_860 : Jvm.Cond.selects "AtlasDesk$Region" ⟨"AtlasDesk$Region", "set", "(IIIII)V"⟩ ⟨"AtlasDesk$Region", "set", "(IIIII)V"⟩ ∈ mWs := mWs_in (tl_4 (List.mem_of_getElem? (i := 71) (by decide +kernel))) rfl
set_option maxRecDepth 8000 in
theorem m_861 : Jvm.Cond.code ⟨"AtlasDesk$Region", "set", "(IIIII)V"⟩ prog_9_method_2_code 6 none ∈ mWs := mWs_in (tl_4 (List.mem_of_getElem? (i := 72) rfl)) rfl
theorem m_870 : Jvm.Cond.methodLink "AtlasDesk" 170 ⟨"AtlasDesk$Packer", "fill", "(LAtlasDesk$Pack;LAtlasDesk$Edition;ILAtlasDesk$Region;)Z"⟩ ∈ mWs := mWs_in (tl_4 (List.mem_of_getElem? (i := 81) (by decide +kernel))) rfl
theorem m_871 : Jvm.Cond.instanceMethod ⟨"AtlasDesk$Packer", "fill", "(LAtlasDesk$Pack;LAtlasDesk$Edition;ILAtlasDesk$Region;)Z"⟩ ∈ mWs := mWs_in (tl_4 (List.mem_of_getElem? (i := 82) (by decide +kernel))) rfl
theorem m_872 : Jvm.Cond.selects "AtlasDesk$Packer" ⟨"AtlasDesk$Packer", "fill", "(LAtlasDesk$Pack;LAtlasDesk$Edition;ILAtlasDesk$Region;)Z"⟩ ⟨"AtlasDesk$Packer", "fill", "(LAtlasDesk$Pack;LAtlasDesk$Edition;ILAtlasDesk$Region;)Z"⟩ ∈ mWs := mWs_in (tl_4 (List.mem_of_getElem? (i := 83) (by decide +kernel))) rfl
set_option maxRecDepth 8000 in
theorem m_873 : Jvm.Cond.code ⟨"AtlasDesk$Packer", "fill", "(LAtlasDesk$Pack;LAtlasDesk$Edition;ILAtlasDesk$Region;)Z"⟩ prog_7_method_2_code 11 (some .boolean) ∈ mWs := mWs_in (tl_4 (List.mem_of_getElem? (i := 84) rfl)) rfl
theorem m_874 : Jvm.Cond.methodLink "AtlasDesk$Packer" 25 ⟨"AtlasDesk$Pack", "clear", "(ILAtlasDesk$Region;)V"⟩ ∈ mWs := mWs_in (tl_4 (List.mem_of_getElem? (i := 85) (by decide +kernel))) rfl
theorem m_875 : Jvm.Cond.instanceMethod ⟨"AtlasDesk$Pack", "clear", "(ILAtlasDesk$Region;)V"⟩ ∈ mWs := mWs_in (tl_4 (List.mem_of_getElem? (i := 86) (by decide +kernel))) rfl
theorem m_876 : Jvm.Cond.selects "AtlasDesk$Pack" ⟨"AtlasDesk$Pack", "clear", "(ILAtlasDesk$Region;)V"⟩ ⟨"AtlasDesk$Pack", "clear", "(ILAtlasDesk$Region;)V"⟩ ∈ mWs := mWs_in (tl_4 (List.mem_of_getElem? (i := 87) (by decide +kernel))) rfl
set_option maxRecDepth 8000 in
theorem m_877 : Jvm.Cond.code ⟨"AtlasDesk$Pack", "clear", "(ILAtlasDesk$Region;)V"⟩ prog_6_method_2_code 3 none ∈ mWs := mWs_in (tl_4 (List.mem_of_getElem? (i := 88) rfl)) rfl
theorem m_878 : Jvm.Cond.methodLink "AtlasDesk$Pack" 55 ⟨"AtlasDesk$Region", "copyFrom", "(LAtlasDesk$Region;)V"⟩ ∈ mWs := mWs_in (tl_4 (List.mem_of_getElem? (i := 89) (by decide +kernel))) rfl
theorem m_879 : Jvm.Cond.instanceMethod ⟨"AtlasDesk$Region", "copyFrom", "(LAtlasDesk$Region;)V"⟩ ∈ mWs := mWs_in (tl_4 (List.mem_of_getElem? (i := 90) (by decide +kernel))) rfl
theorem m_880 : Jvm.Cond.selects "AtlasDesk$Region" ⟨"AtlasDesk$Region", "copyFrom", "(LAtlasDesk$Region;)V"⟩ ⟨"AtlasDesk$Region", "copyFrom", "(LAtlasDesk$Region;)V"⟩ ∈ mWs := mWs_in (tl_4 (List.mem_of_getElem? (i := 91) (by decide +kernel))) rfl
set_option maxRecDepth 8000 in
theorem m_881 : Jvm.Cond.code ⟨"AtlasDesk$Region", "copyFrom", "(LAtlasDesk$Region;)V"⟩ prog_9_method_3_code 2 none ∈ mWs := mWs_in (tl_4 (List.mem_of_getElem? (i := 92) rfl)) rfl
theorem m_882 : Jvm.Cond.methodLink "AtlasDesk$Region" 27 ⟨"AtlasDesk$Region", "set", "(IIIII)V"⟩ ∈ mWs := mWs_in (tl_4 (List.mem_of_getElem? (i := 93) (by decide +kernel))) rfl
theorem m_883 : Jvm.Cond.methodLink "AtlasDesk$Packer" 37 ⟨"AtlasDesk$TileMaker", "prepare", "(LAtlasDesk$Edition;I)V"⟩ ∈ mWs := mWs_in (tl_4 (List.mem_of_getElem? (i := 94) (by decide +kernel))) rfl
theorem m_884 : Jvm.Cond.methodLink "AtlasDesk$Packer" 41 ⟨"AtlasDesk$Packer", "everySecondBit", "(I)I"⟩ ∈ mWs := mWs_in (tl_4 (List.mem_of_getElem? (i := 95) (by decide +kernel))) rfl
theorem m_885 : Jvm.Cond.static ⟨"AtlasDesk$Packer", "everySecondBit", "(I)I"⟩ ∈ mWs := mWs_in (tl_4 (List.mem_of_getElem? (i := 96) (by decide +kernel))) rfl
set_option maxRecDepth 8000 in
theorem m_886 : Jvm.Cond.code ⟨"AtlasDesk$Packer", "everySecondBit", "(I)I"⟩ prog_7_method_3_code 3 (some .int) ∈ mWs := mWs_in (tl_4 (List.mem_of_getElem? (i := 97) rfl)) rfl
theorem m_887 : Jvm.Cond.methodLink "AtlasDesk$Packer" 45 ⟨"AtlasDesk$Region", "hasTile", "(III)Z"⟩ ∈ mWs := mWs_in (tl_4 (List.mem_of_getElem? (i := 98) (by decide +kernel))) rfl
theorem m_888 : Jvm.Cond.instanceMethod ⟨"AtlasDesk$Region", "hasTile", "(III)Z"⟩ ∈ mWs := mWs_in (tl_4 (List.mem_of_getElem? (i := 99) (by decide +kernel))) rfl
theorem m_889 : Jvm.Cond.selects "AtlasDesk$Region" ⟨"AtlasDesk$Region", "hasTile", "(III)Z"⟩ ⟨"AtlasDesk$Region", "hasTile", "(III)Z"⟩ ∈ mWs := mWs_in (tl_4 (List.mem_of_getElem? (i := 100) (by decide +kernel))) rfl
set_option maxRecDepth 8000 in
theorem m_890 : Jvm.Cond.code ⟨"AtlasDesk$Region", "hasTile", "(III)Z"⟩ prog_9_method_5_code 5 (some .boolean) ∈ mWs := mWs_in (tl_4 (List.mem_of_getElem? (i := 101) rfl)) rfl
theorem m_891 : Jvm.Cond.methodLink "AtlasDesk$Packer" 49 ⟨"AtlasDesk$TileMaker", "make", "(IILAtlasDesk$Octets;)V"⟩ ∈ mWs := mWs_in (tl_4 (List.mem_of_getElem? (i := 102) (by decide +kernel))) rfl
theorem m_892 : Jvm.Cond.methodLink "AtlasDesk$Packer" 56 ⟨"AtlasDesk$Pack", "addTile", "(IIIILAtlasDesk$Octets;)Z"⟩ ∈ mWs := mWs_in (tl_4 (List.mem_of_getElem? (i := 103) (by decide +kernel))) rfl
theorem m_893 : Jvm.Cond.instanceMethod ⟨"AtlasDesk$Pack", "addTile", "(IIIILAtlasDesk$Octets;)Z"⟩ ∈ mWs := mWs_in (tl_4 (List.mem_of_getElem? (i := 104) (by decide +kernel))) rfl
theorem m_894 : Jvm.Cond.selects "AtlasDesk$Pack" ⟨"AtlasDesk$Pack", "addTile", "(IIIILAtlasDesk$Octets;)Z"⟩ ⟨"AtlasDesk$Pack", "addTile", "(IIIILAtlasDesk$Octets;)Z"⟩ ∈ mWs := mWs_in (tl_4 (List.mem_of_getElem? (i := 105) (by decide +kernel))) rfl
set_option maxRecDepth 8000 in
theorem m_895 : Jvm.Cond.code ⟨"AtlasDesk$Pack", "addTile", "(IIIILAtlasDesk$Octets;)Z"⟩ prog_6_method_3_code 7 (some .boolean) ∈ mWs := mWs_in (tl_4 (List.mem_of_getElem? (i := 106) rfl)) rfl
theorem m_896 : Jvm.Cond.methodLink "AtlasDesk$Pack" 68 ⟨"AtlasDesk$Pack", "firstWith", "(LAtlasDesk$Octets;)I"⟩ ∈ mWs := mWs_in (tl_4 (List.mem_of_getElem? (i := 107) (by decide +kernel))) rfl
theorem m_898 : Jvm.Cond.instanceMethod ⟨"AtlasDesk$Pack", "firstWith", "(LAtlasDesk$Octets;)I"⟩ ∈ mWs := mWs_in (tl_4 (List.mem_of_getElem? (i := 109) (by decide +kernel))) rfl
set_option maxRecDepth 8000 in
theorem m_899 : Jvm.Cond.code ⟨"AtlasDesk$Pack", "firstWith", "(LAtlasDesk$Octets;)I"⟩ prog_6_method_4_code 3 (some .int) ∈ mWs := mWs_in (tl_4 (List.mem_of_getElem? (i := 110) rfl)) rfl
theorem m_900 : Jvm.Cond.methodLink "AtlasDesk$Pack" 84 ⟨"AtlasDesk$Pack", "hasBytes", "(I[BII)Z"⟩ ∈ mWs := mWs_in (tl_4 (List.mem_of_getElem? (i := 111) (by decide +kernel))) rfl
theorem m_902 : Jvm.Cond.instanceMethod ⟨"AtlasDesk$Pack", "hasBytes", "(I[BII)Z"⟩ ∈ mWs := mWs_in (tl_4 (List.mem_of_getElem? (i := 113) (by decide +kernel))) rfl
set_option maxRecDepth 8000 in
theorem m_903 : Jvm.Cond.code ⟨"AtlasDesk$Pack", "hasBytes", "(I[BII)Z"⟩ prog_6_method_5_code 6 (some .boolean) ∈ mWs := mWs_in (tl_4 (List.mem_of_getElem? (i := 114) rfl)) rfl
theorem m_904 : Jvm.Cond.methodLink "AtlasDesk$Packer" 64 ⟨"AtlasDesk$Edition", "copyMeeting", "(LAtlasDesk$Edition;LAtlasDesk$Region;)V"⟩ ∈ mWs := mWs_in (tl_4 (List.mem_of_getElem? (i := 115) (by decide +kernel))) rfl
theorem m_905 : Jvm.Cond.instanceMethod ⟨"AtlasDesk$Edition", "copyMeeting", "(LAtlasDesk$Edition;LAtlasDesk$Region;)V"⟩ ∈ mWs := mWs_in (tl_4 (List.mem_of_getElem? (i := 116) (by decide +kernel))) rfl
theorem m_906 : Jvm.Cond.selects "AtlasDesk$Edition" ⟨"AtlasDesk$Edition", "copyMeeting", "(LAtlasDesk$Edition;LAtlasDesk$Region;)V"⟩ ⟨"AtlasDesk$Edition", "copyMeeting", "(LAtlasDesk$Edition;LAtlasDesk$Region;)V"⟩ ∈ mWs := mWs_in (tl_4 (List.mem_of_getElem? (i := 117) (by decide +kernel))) rfl
set_option maxRecDepth 8000 in
theorem m_907 : Jvm.Cond.code ⟨"AtlasDesk$Edition", "copyMeeting", "(LAtlasDesk$Edition;LAtlasDesk$Region;)V"⟩ prog_3_method_7_code 5 none ∈ mWs := mWs_in (tl_4 (List.mem_of_getElem? (i := 118) rfl)) rfl
theorem m_908 : Jvm.Cond.methodLink "AtlasDesk$Edition" 45 ⟨"AtlasDesk$Region", "meets", "(LAtlasDesk$Feature;)Z"⟩ ∈ mWs := mWs_in (tl_4 (List.mem_of_getElem? (i := 119) (by decide +kernel))) rfl
theorem m_909 : Jvm.Cond.instanceMethod ⟨"AtlasDesk$Region", "meets", "(LAtlasDesk$Feature;)Z"⟩ ∈ mWs := mWs_in (tl_4 (List.mem_of_getElem? (i := 120) (by decide +kernel))) rfl
theorem m_910 : Jvm.Cond.selects "AtlasDesk$Region" ⟨"AtlasDesk$Region", "meets", "(LAtlasDesk$Feature;)Z"⟩ ⟨"AtlasDesk$Region", "meets", "(LAtlasDesk$Feature;)Z"⟩ ∈ mWs := mWs_in (tl_4 (List.mem_of_getElem? (i := 121) (by decide +kernel))) rfl
set_option maxRecDepth 8000 in
theorem m_911 : Jvm.Cond.code ⟨"AtlasDesk$Region", "meets", "(LAtlasDesk$Feature;)Z"⟩ prog_9_method_6_code 4 (some .boolean) ∈ mWs := mWs_in (tl_4 (List.mem_of_getElem? (i := 122) rfl)) rfl
theorem m_912 : Jvm.Cond.methodLink "AtlasDesk$Region" 36 ⟨"AtlasDesk$Region", "meetsEdge", "(LAtlasDesk$Feature;II)Z"⟩ ∈ mWs := mWs_in (tl_4 (List.mem_of_getElem? (i := 123) (by decide +kernel))) rfl
theorem m_914 : Jvm.Cond.instanceMethod ⟨"AtlasDesk$Region", "meetsEdge", "(LAtlasDesk$Feature;II)Z"⟩ ∈ mWs := mWs_in (tl_4 (List.mem_of_getElem? (i := 125) (by decide +kernel))) rfl
set_option maxRecDepth 8000 in
theorem m_915 : Jvm.Cond.code ⟨"AtlasDesk$Region", "meetsEdge", "(LAtlasDesk$Feature;II)Z"⟩ prog_9_method_7_code 14 (some .boolean) ∈ mWs := mWs_in (tl_4 (List.mem_of_getElem? (i := 126) rfl)) rfl
theorem m_916 : Jvm.Cond.methodLink "AtlasDesk$Region" 58 ⟨"java/lang/Math", "max", "(II)I"⟩ ∈ mWs := mWs_in (tl_4 (List.mem_of_getElem? (i := 127) (by decide +kernel))) rfl
theorem m_917 : Jvm.Cond.methodLink "AtlasDesk$Region" 64 ⟨"java/lang/Math", "min", "(II)I"⟩ ∈ mWs := mWs_in (tl_4 (List.mem_of_getElem? (i := 128) (by decide +kernel))) rfl
theorem m_918 : Jvm.Cond.methodLinkNest "AtlasDesk$Region" 67 ⟨"AtlasDesk", "turn", "(IIIIII)I"⟩ "AtlasDesk" ∈ lw_tbl := tl_4 (List.mem_of_getElem? (i := 129) (by decide +kernel))
theorem m_919 : Jvm.Cond.methodLink "AtlasDesk$Region" 43 ⟨"AtlasDesk$Feature", "next", "(I)I"⟩ ∈ mWs := mWs_in (tl_4 (List.mem_of_getElem? (i := 130) (by decide +kernel))) rfl
theorem m_920 : Jvm.Cond.methodLink "AtlasDesk$Region" 47 ⟨"AtlasDesk$Feature", "surrounds", "(II)Z"⟩ ∈ mWs := mWs_in (tl_4 (List.mem_of_getElem? (i := 131) (by decide +kernel))) rfl
theorem m_921 : Jvm.Cond.instanceMethod ⟨"AtlasDesk$Feature", "surrounds", "(II)Z"⟩ ∈ mWs := mWs_in (tl_4 (List.mem_of_getElem? (i := 132) (by decide +kernel))) rfl
theorem m_922 : Jvm.Cond.selects "AtlasDesk$Feature" ⟨"AtlasDesk$Feature", "surrounds", "(II)Z"⟩ ⟨"AtlasDesk$Feature", "surrounds", "(II)Z"⟩ ∈ mWs := mWs_in (tl_4 (List.mem_of_getElem? (i := 133) (by decide +kernel))) rfl
set_option maxRecDepth 8000 in
theorem m_923 : Jvm.Cond.code ⟨"AtlasDesk$Feature", "surrounds", "(II)Z"⟩ prog_4_method_17_code 8 (some .boolean) ∈ mWs := mWs_in (tl_4 (List.mem_of_getElem? (i := 134) rfl)) rfl
theorem m_933 : Jvm.Cond.methodLink "AtlasDesk" 222 ⟨"AtlasDesk$Difference", "compare", "()V"⟩ ∈ mWs := mWs_in (tl_4 (List.mem_of_getElem? (i := 144) (by decide +kernel))) rfl
theorem m_934 : Jvm.Cond.instanceMethod ⟨"AtlasDesk$Difference", "compare", "()V"⟩ ∈ mWs := mWs_in (tl_4 (List.mem_of_getElem? (i := 145) (by decide +kernel))) rfl
theorem m_935 : Jvm.Cond.selects "AtlasDesk$Difference" ⟨"AtlasDesk$Difference", "compare", "()V"⟩ ⟨"AtlasDesk$Difference", "compare", "()V"⟩ ∈ mWs := mWs_in (tl_4 (List.mem_of_getElem? (i := 146) (by decide +kernel))) rfl
set_option maxRecDepth 8000 in
theorem m_936 : Jvm.Cond.code ⟨"AtlasDesk$Difference", "compare", "()V"⟩ prog_2_method_2_code 6 none ∈ mWs := mWs_in (tl_4 (List.mem_of_getElem? (i := 147) rfl)) rfl
theorem m_937 : Jvm.Cond.methodLink "AtlasDesk$Difference" 41 ⟨"AtlasDesk$Pack", "isAt", "(II)Z"⟩ ∈ mWs := mWs_in (tl_4 (List.mem_of_getElem? (i := 148) (by decide +kernel))) rfl
theorem m_938 : Jvm.Cond.instanceMethod ⟨"AtlasDesk$Pack", "isAt", "(II)Z"⟩ ∈ mWs := mWs_in (tl_4 (List.mem_of_getElem? (i := 149) (by decide +kernel))) rfl
theorem m_939 : Jvm.Cond.selects "AtlasDesk$Pack" ⟨"AtlasDesk$Pack", "isAt", "(II)Z"⟩ ⟨"AtlasDesk$Pack", "isAt", "(II)Z"⟩ ∈ mWs := mWs_in (tl_4 (List.mem_of_getElem? (i := 150) (by decide +kernel))) rfl
set_option maxRecDepth 8000 in
theorem m_940 : Jvm.Cond.code ⟨"AtlasDesk$Pack", "isAt", "(II)Z"⟩ prog_6_method_7_code 3 (some .boolean) ∈ mWs := mWs_in (tl_4 (List.mem_of_getElem? (i := 151) rfl)) rfl
theorem m_941 : Jvm.Cond.methodLink "AtlasDesk$Difference" 45 ⟨"AtlasDesk$Pack", "sameBytes", "(ILAtlasDesk$Pack;I)Z"⟩ ∈ mWs := mWs_in (tl_4 (List.mem_of_getElem? (i := 152) (by decide +kernel))) rfl
theorem m_942 : Jvm.Cond.instanceMethod ⟨"AtlasDesk$Pack", "sameBytes", "(ILAtlasDesk$Pack;I)Z"⟩ ∈ mWs := mWs_in (tl_4 (List.mem_of_getElem? (i := 153) (by decide +kernel))) rfl
theorem m_943 : Jvm.Cond.selects "AtlasDesk$Pack" ⟨"AtlasDesk$Pack", "sameBytes", "(ILAtlasDesk$Pack;I)Z"⟩ ⟨"AtlasDesk$Pack", "sameBytes", "(ILAtlasDesk$Pack;I)Z"⟩ ∈ mWs := mWs_in (tl_4 (List.mem_of_getElem? (i := 154) (by decide +kernel))) rfl
set_option maxRecDepth 8000 in
theorem m_944 : Jvm.Cond.code ⟨"AtlasDesk$Pack", "sameBytes", "(ILAtlasDesk$Pack;I)Z"⟩ prog_6_method_6_code 4 (some .boolean) ∈ mWs := mWs_in (tl_4 (List.mem_of_getElem? (i := 155) rfl)) rfl
theorem m_945 : Jvm.Cond.methodLink "AtlasDesk$Difference" 50 ⟨"AtlasDesk$Difference", "tell", "(ILAtlasDesk$Pack;II)V"⟩ ∈ mWs := mWs_in (tl_4 (List.mem_of_getElem? (i := 156) (by decide +kernel))) rfl
theorem m_947 : Jvm.Cond.instanceMethod ⟨"AtlasDesk$Difference", "tell", "(ILAtlasDesk$Pack;II)V"⟩ ∈ mWs := mWs_in (tl_4 (List.mem_of_getElem? (i := 158) (by decide +kernel))) rfl
set_option maxRecDepth 8000 in
theorem m_948 : Jvm.Cond.code ⟨"AtlasDesk$Difference", "tell", "(ILAtlasDesk$Pack;II)V"⟩ prog_2_method_3_code 5 none ∈ mWs := mWs_in (tl_4 (List.mem_of_getElem? (i := 159) rfl)) rfl
theorem m_956 : Jvm.Cond.methodLink "AtlasDesk" 233 ⟨"AtlasDesk$Pack", "isLike", "(LAtlasDesk$Pack;)Z"⟩ ∈ mWs := mWs_in (tl_4 (List.mem_of_getElem? (i := 167) (by decide +kernel))) rfl
theorem m_957 : Jvm.Cond.instanceMethod ⟨"AtlasDesk$Pack", "isLike", "(LAtlasDesk$Pack;)Z"⟩ ∈ mWs := mWs_in (tl_4 (List.mem_of_getElem? (i := 168) (by decide +kernel))) rfl
theorem m_958 : Jvm.Cond.selects "AtlasDesk$Pack" ⟨"AtlasDesk$Pack", "isLike", "(LAtlasDesk$Pack;)Z"⟩ ⟨"AtlasDesk$Pack", "isLike", "(LAtlasDesk$Pack;)Z"⟩ ∈ mWs := mWs_in (tl_4 (List.mem_of_getElem? (i := 169) (by decide +kernel))) rfl
set_option maxRecDepth 8000 in
theorem m_959 : Jvm.Cond.code ⟨"AtlasDesk$Pack", "isLike", "(LAtlasDesk$Pack;)Z"⟩ prog_6_method_8_code 3 (some .boolean) ∈ mWs := mWs_in (tl_4 (List.mem_of_getElem? (i := 170) rfl)) rfl
theorem m_960 : Jvm.Cond.methodLink "AtlasDesk$Pack" 88 ⟨"AtlasDesk$Region", "isLike", "(LAtlasDesk$Region;)Z"⟩ ∈ mWs := mWs_in (tl_4 (List.mem_of_getElem? (i := 171) (by decide +kernel))) rfl
theorem m_961 : Jvm.Cond.instanceMethod ⟨"AtlasDesk$Region", "isLike", "(LAtlasDesk$Region;)Z"⟩ ∈ mWs := mWs_in (tl_4 (List.mem_of_getElem? (i := 172) (by decide +kernel))) rfl
theorem m_962 : Jvm.Cond.selects "AtlasDesk$Region" ⟨"AtlasDesk$Region", "isLike", "(LAtlasDesk$Region;)Z"⟩ ⟨"AtlasDesk$Region", "isLike", "(LAtlasDesk$Region;)Z"⟩ ∈ mWs := mWs_in (tl_4 (List.mem_of_getElem? (i := 173) (by decide +kernel))) rfl
set_option maxRecDepth 8000 in
theorem m_963 : Jvm.Cond.code ⟨"AtlasDesk$Region", "isLike", "(LAtlasDesk$Region;)Z"⟩ prog_9_method_4_code 2 (some .boolean) ∈ mWs := mWs_in (tl_4 (List.mem_of_getElem? (i := 174) rfl)) rfl
theorem m_964 : Jvm.Cond.methodLink "AtlasDesk$Pack" 92 ⟨"AtlasDesk$Pack", "sameBytes", "(ILAtlasDesk$Pack;I)Z"⟩ ∈ mWs := mWs_in (tl_4 (List.mem_of_getElem? (i := 175) (by decide +kernel))) rfl
theorem m_966 : Jvm.Cond.methodLink "AtlasDesk" 239 ⟨"AtlasDesk$Pack", "copyFrom", "(LAtlasDesk$Pack;)V"⟩ ∈ mWs := mWs_in (tl_4 (List.mem_of_getElem? (i := 177) (by decide +kernel))) rfl
theorem m_967 : Jvm.Cond.instanceMethod ⟨"AtlasDesk$Pack", "copyFrom", "(LAtlasDesk$Pack;)V"⟩ ∈ mWs := mWs_in (tl_4 (List.mem_of_getElem? (i := 178) (by decide +kernel))) rfl
theorem m_968 : Jvm.Cond.selects "AtlasDesk$Pack" ⟨"AtlasDesk$Pack", "copyFrom", "(LAtlasDesk$Pack;)V"⟩ ⟨"AtlasDesk$Pack", "copyFrom", "(LAtlasDesk$Pack;)V"⟩ ∈ mWs := mWs_in (tl_4 (List.mem_of_getElem? (i := 179) (by decide +kernel))) rfl
set_option maxRecDepth 8000 in
theorem m_969 : Jvm.Cond.code ⟨"AtlasDesk$Pack", "copyFrom", "(LAtlasDesk$Pack;)V"⟩ prog_6_method_10_code 2 none ∈ mWs := mWs_in (tl_4 (List.mem_of_getElem? (i := 180) rfl)) rfl
theorem m_970 : Jvm.Cond.methodLink "AtlasDesk$Pack" 96 ⟨"AtlasDesk$Pack", "clear", "(ILAtlasDesk$Region;)V"⟩ ∈ mWs := mWs_in (tl_4 (List.mem_of_getElem? (i := 181) (by decide +kernel))) rfl
theorem m_971 : Jvm.Cond.methodLink "AtlasDesk$Pack" 100 ⟨"AtlasDesk$Edition", "copyFrom", "(LAtlasDesk$Edition;)V"⟩ ∈ mWs := mWs_in (tl_4 (List.mem_of_getElem? (i := 182) (by decide +kernel))) rfl
theorem m_980 : Jvm.Cond.methodLink "AtlasDesk" 242 ⟨"AtlasDesk$Edition", "findNamed", "(JI)I"⟩ ∈ mWs := mWs_in (tl_4 (List.mem_of_getElem? (i := 191) (by decide +kernel))) rfl
theorem m_981 : Jvm.Cond.instanceMethod ⟨"AtlasDesk$Edition", "findNamed", "(JI)I"⟩ ∈ mWs := mWs_in (tl_4 (List.mem_of_getElem? (i := 192) (by decide +kernel))) rfl
theorem m_982 : Jvm.Cond.selects "AtlasDesk$Edition" ⟨"AtlasDesk$Edition", "findNamed", "(JI)I"⟩ ⟨"AtlasDesk$Edition", "findNamed", "(JI)I"⟩ ∈ mWs := mWs_in (tl_4 (List.mem_of_getElem? (i := 193) (by decide +kernel))) rfl
set_option maxRecDepth 8000 in
theorem m_983 : Jvm.Cond.code ⟨"AtlasDesk$Edition", "findNamed", "(JI)I"⟩ prog_3_method_8_code 5 (some .int) ∈ mWs := mWs_in (tl_4 (List.mem_of_getElem? (i := 194) rfl)) rfl
theorem m_984 : Jvm.Cond.methodLink "AtlasDesk$Edition" 49 ⟨"AtlasDesk$Feature", "nameBegins", "(J)Z"⟩ ∈ mWs := mWs_in (tl_4 (List.mem_of_getElem? (i := 195) (by decide +kernel))) rfl
theorem m_985 : Jvm.Cond.instanceMethod ⟨"AtlasDesk$Feature", "nameBegins", "(J)Z"⟩ ∈ mWs := mWs_in (tl_4 (List.mem_of_getElem? (i := 196) (by decide +kernel))) rfl
theorem m_986 : Jvm.Cond.selects "AtlasDesk$Feature" ⟨"AtlasDesk$Feature", "nameBegins", "(J)Z"⟩ ⟨"AtlasDesk$Feature", "nameBegins", "(J)Z"⟩ ∈ mWs := mWs_in (tl_4 (List.mem_of_getElem? (i := 197) (by decide +kernel))) rfl
set_option maxRecDepth 8000 in
theorem m_987 : Jvm.Cond.code ⟨"AtlasDesk$Feature", "nameBegins", "(J)Z"⟩ prog_4_method_20_code 5 (some .boolean) ∈ mWs := mWs_in (tl_4 (List.mem_of_getElem? (i := 198) rfl)) rfl
theorem m_988 : Jvm.Cond.methodLink "AtlasDesk$Feature" 108 ⟨"AtlasDesk$Feature", "letters", "(J)I"⟩ ∈ mWs := mWs_in (tl_4 (List.mem_of_getElem? (i := 199) (by decide +kernel))) rfl
theorem m_989 : Jvm.Cond.static ⟨"AtlasDesk$Feature", "letters", "(J)I"⟩ ∈ mWs := mWs_in (tl_4 (List.mem_of_getElem? (i := 200) (by decide +kernel))) rfl
set_option maxRecDepth 8000 in
theorem m_990 : Jvm.Cond.code ⟨"AtlasDesk$Feature", "letters", "(J)I"⟩ prog_4_method_19_code 3 (some .int) ∈ mWs := mWs_in (tl_4 (List.mem_of_getElem? (i := 201) rfl)) rfl
theorem m_991 : Jvm.Cond.methodLink "AtlasDesk$Edition" 53 ⟨"AtlasDesk$Edition", "namedAhead", "(LAtlasDesk$Feature;J)I"⟩ ∈ mWs := mWs_in (tl_4 (List.mem_of_getElem? (i := 202) (by decide +kernel))) rfl
theorem m_993 : Jvm.Cond.instanceMethod ⟨"AtlasDesk$Edition", "namedAhead", "(LAtlasDesk$Feature;J)I"⟩ ∈ mWs := mWs_in (tl_4 (List.mem_of_getElem? (i := 204) (by decide +kernel))) rfl
set_option maxRecDepth 8000 in
theorem m_994 : Jvm.Cond.code ⟨"AtlasDesk$Edition", "namedAhead", "(LAtlasDesk$Feature;J)I"⟩ prog_3_method_9_code 6 (some .int) ∈ mWs := mWs_in (tl_4 (List.mem_of_getElem? (i := 205) rfl)) rfl
theorem m_995 : Jvm.Cond.methodLink "AtlasDesk$Edition" 57 ⟨"AtlasDesk$Feature", "isNamedAhead", "(LAtlasDesk$Feature;)Z"⟩ ∈ mWs := mWs_in (tl_4 (List.mem_of_getElem? (i := 206) (by decide +kernel))) rfl
theorem m_996 : Jvm.Cond.instanceMethod ⟨"AtlasDesk$Feature", "isNamedAhead", "(LAtlasDesk$Feature;)Z"⟩ ∈ mWs := mWs_in (tl_4 (List.mem_of_getElem? (i := 207) (by decide +kernel))) rfl
theorem m_997 : Jvm.Cond.selects "AtlasDesk$Feature" ⟨"AtlasDesk$Feature", "isNamedAhead", "(LAtlasDesk$Feature;)Z"⟩ ⟨"AtlasDesk$Feature", "isNamedAhead", "(LAtlasDesk$Feature;)Z"⟩ ∈ mWs := mWs_in (tl_4 (List.mem_of_getElem? (i := 208) (by decide +kernel))) rfl
set_option maxRecDepth 8000 in
theorem m_998 : Jvm.Cond.code ⟨"AtlasDesk$Feature", "isNamedAhead", "(LAtlasDesk$Feature;)Z"⟩ prog_4_method_22_code 6 (some .boolean) ∈ mWs := mWs_in (tl_4 (List.mem_of_getElem? (i := 209) rfl)) rfl
theorem m_999 : Jvm.Cond.methodLink "AtlasDesk$Feature" 112 ⟨"AtlasDesk$Feature", "nameInBook", "()J"⟩ ∈ mWs := mWs_in (tl_4 (List.mem_of_getElem? (i := 210) (by decide +kernel))) rfl
theorem m_1001 : Jvm.Cond.instanceMethod ⟨"AtlasDesk$Feature", "nameInBook", "()J"⟩ ∈ mWs := mWs_in (tl_4 (List.mem_of_getElem? (i := 212) (by decide +kernel))) rfl
set_option maxRecDepth 8000 in
theorem m_1002 : Jvm.Cond.code ⟨"AtlasDesk$Feature", "nameInBook", "()J"⟩ prog_4_method_21_code 1 (some .long) ∈ mWs := mWs_in (tl_4 (List.mem_of_getElem? (i := 213) rfl)) rfl
theorem m_1026 : Jvm.Cond.methodLink "AtlasDesk" 251 ⟨"AtlasDesk$Edition", "findNear", "(IIII)I"⟩ ∈ mWs := mWs_in (tl_4 (List.mem_of_getElem? (i := 237) (by decide +kernel))) rfl
theorem m_1027 : Jvm.Cond.instanceMethod ⟨"AtlasDesk$Edition", "findNear", "(IIII)I"⟩ ∈ mWs := mWs_in (tl_4 (List.mem_of_getElem? (i := 238) (by decide +kernel))) rfl
theorem m_1028 : Jvm.Cond.selects "AtlasDesk$Edition" ⟨"AtlasDesk$Edition", "findNear", "(IIII)I"⟩ ⟨"AtlasDesk$Edition", "findNear", "(IIII)I"⟩ ∈ mWs := mWs_in (tl_4 (List.mem_of_getElem? (i := 239) (by decide +kernel))) rfl
set_option maxRecDepth 8000 in
theorem m_1029 : Jvm.Cond.code ⟨"AtlasDesk$Edition", "findNear", "(IIII)I"⟩ prog_3_method_10_code 6 (some .int) ∈ mWs := mWs_in (tl_5 (List.mem_of_getElem? (i := 0) rfl)) rfl
theorem m_1030 : Jvm.Cond.methodLink "AtlasDesk$Edition" 60 ⟨"AtlasDesk$Feature", "isPointOf", "(I)Z"⟩ ∈ mWs := mWs_in (tl_5 (List.mem_of_getElem? (i := 1) (by decide +kernel))) rfl
theorem m_1031 : Jvm.Cond.instanceMethod ⟨"AtlasDesk$Feature", "isPointOf", "(I)Z"⟩ ∈ mWs := mWs_in (tl_5 (List.mem_of_getElem? (i := 2) (by decide +kernel))) rfl
theorem m_1032 : Jvm.Cond.selects "AtlasDesk$Feature" ⟨"AtlasDesk$Feature", "isPointOf", "(I)Z"⟩ ⟨"AtlasDesk$Feature", "isPointOf", "(I)Z"⟩ ∈ mWs := mWs_in (tl_5 (List.mem_of_getElem? (i := 3) (by decide +kernel))) rfl
set_option maxRecDepth 8000 in
theorem m_1033 : Jvm.Cond.code ⟨"AtlasDesk$Feature", "isPointOf", "(I)Z"⟩ prog_4_method_25_code 2 (some .boolean) ∈ mWs := mWs_in (tl_5 (List.mem_of_getElem? (i := 4) rfl)) rfl
theorem m_1034 : Jvm.Cond.methodLink "AtlasDesk$Edition" 64 ⟨"AtlasDesk$Edition", "nearer", "(LAtlasDesk$Feature;II)I"⟩ ∈ mWs := mWs_in (tl_5 (List.mem_of_getElem? (i := 5) (by decide +kernel))) rfl
theorem m_1036 : Jvm.Cond.instanceMethod ⟨"AtlasDesk$Edition", "nearer", "(LAtlasDesk$Feature;II)I"⟩ ∈ mWs := mWs_in (tl_5 (List.mem_of_getElem? (i := 7) (by decide +kernel))) rfl
set_option maxRecDepth 8000 in
theorem m_1037 : Jvm.Cond.code ⟨"AtlasDesk$Edition", "nearer", "(LAtlasDesk$Feature;II)I"⟩ prog_3_method_11_code 6 (some .int) ∈ mWs := mWs_in (tl_5 (List.mem_of_getElem? (i := 8) rfl)) rfl
theorem m_1038 : Jvm.Cond.methodLink "AtlasDesk$Edition" 71 ⟨"AtlasDesk$Feature", "isNearer", "(LAtlasDesk$Feature;II)Z"⟩ ∈ mWs := mWs_in (tl_5 (List.mem_of_getElem? (i := 9) (by decide +kernel))) rfl
theorem m_1039 : Jvm.Cond.instanceMethod ⟨"AtlasDesk$Feature", "isNearer", "(LAtlasDesk$Feature;II)Z"⟩ ∈ mWs := mWs_in (tl_5 (List.mem_of_getElem? (i := 10) (by decide +kernel))) rfl
theorem m_1040 : Jvm.Cond.selects "AtlasDesk$Feature" ⟨"AtlasDesk$Feature", "isNearer", "(LAtlasDesk$Feature;II)Z"⟩ ⟨"AtlasDesk$Feature", "isNearer", "(LAtlasDesk$Feature;II)Z"⟩ ∈ mWs := mWs_in (tl_5 (List.mem_of_getElem? (i := 11) (by decide +kernel))) rfl
set_option maxRecDepth 8000 in
theorem m_1041 : Jvm.Cond.code ⟨"AtlasDesk$Feature", "isNearer", "(LAtlasDesk$Feature;II)Z"⟩ prog_4_method_23_code 8 (some .boolean) ∈ mWs := mWs_in (tl_5 (List.mem_of_getElem? (i := 12) rfl)) rfl
theorem m_1042 : Jvm.Cond.methodLink "AtlasDesk$Feature" 116 ⟨"AtlasDesk$Feature", "farness", "(II)J"⟩ ∈ mWs := mWs_in (tl_5 (List.mem_of_getElem? (i := 13) (by decide +kernel))) rfl
theorem m_1044 : Jvm.Cond.instanceMethod ⟨"AtlasDesk$Feature", "farness", "(II)J"⟩ ∈ mWs := mWs_in (tl_5 (List.mem_of_getElem? (i := 15) (by decide +kernel))) rfl
set_option maxRecDepth 8000 in
theorem m_1045 : Jvm.Cond.code ⟨"AtlasDesk$Feature", "farness", "(II)J"⟩ prog_4_method_24_code 3 (some .long) ∈ mWs := mWs_in (tl_5 (List.mem_of_getElem? (i := 16) rfl)) rfl
theorem m_1046 : Jvm.Cond.constantLong "AtlasDesk$Feature" 120 (2) ∈ mWs := mWs_in (tl_5 (List.mem_of_getElem? (i := 17) (by decide +kernel))) rfl
theorem m_1048 : Jvm.Cond.classLink "AtlasDeskLaw" 49 "AtlasDeskModel" ∈ mWs := mWs_in (tl_5 (List.mem_of_getElem? (i := 19) (by decide +kernel))) rfl
theorem m_1049 : Jvm.Cond.instantiable "AtlasDeskModel" 51 ∈ mWs := mWs_in (tl_5 (List.mem_of_getElem? (i := 20) (by decide +kernel))) rfl
theorem m_1050 : Jvm.Cond.methodLink "AtlasDeskLaw" 51 ⟨"AtlasDeskModel", "<init>", "()V"⟩ ∈ mWs := mWs_in (tl_5 (List.mem_of_getElem? (i := 21) (by decide +kernel))) rfl
theorem m_1051 : Jvm.Cond.instanceMethod ⟨"AtlasDeskModel", "<init>", "()V"⟩ ∈ mWs := mWs_in (tl_5 (List.mem_of_getElem? (i := 22) (by decide +kernel))) rfl
set_option maxRecDepth 8000 in
theorem m_1052 : Jvm.Cond.code ⟨"AtlasDeskModel", "<init>", "()V"⟩ prog_13_method_1_code 1 none ∈ mWs := mWs_in (tl_5 (List.mem_of_getElem? (i := 23) rfl)) rfl
theorem m_1053 : Jvm.Cond.methodLink "AtlasDeskModel" 1 ⟨"java/lang/Object", "<init>", "()V"⟩ ∈ mWs := mWs_in (tl_5 (List.mem_of_getElem? (i := 24) (by decide +kernel))) rfl
theorem m_1054 : Jvm.Cond.fieldLink "AtlasDeskModel" 7 "AtlasDeskModel" "many" "[I" ∈ mWs := mWs_in (tl_5 (List.mem_of_getElem? (i := 25) (by decide +kernel))) rfl
theorem m_1055 : Jvm.Cond.fieldLink "AtlasDeskModel" 13 "AtlasDeskModel" "number" "[I" ∈ mWs := mWs_in (tl_5 (List.mem_of_getElem? (i := 26) (by decide +kernel))) rfl
theorem m_1056 : Jvm.Cond.fieldLink "AtlasDeskModel" 16 "AtlasDeskModel" "kind" "[I" ∈ mWs := mWs_in (tl_5 (List.mem_of_getElem? (i := 27) (by decide +kernel))) rfl
theorem m_1057 : Jvm.Cond.fieldLink "AtlasDeskModel" 19 "AtlasDeskModel" "sort" "[I" ∈ mWs := mWs_in (tl_5 (List.mem_of_getElem? (i := 28) (by decide +kernel))) rfl
theorem m_1058 : Jvm.Cond.fieldLink "AtlasDeskModel" 22 "AtlasDeskModel" "least" "[I" ∈ mWs := mWs_in (tl_5 (List.mem_of_getElem? (i := 29) (by decide +kernel))) rfl
theorem m_1059 : Jvm.Cond.fieldLink "AtlasDeskModel" 25 "AtlasDeskModel" "name" "[J" ∈ mWs := mWs_in (tl_5 (List.mem_of_getElem? (i := 30) (by decide +kernel))) rfl
theorem m_1060 : Jvm.Cond.fieldLink "AtlasDeskModel" 29 "AtlasDeskModel" "long1" "[I" ∈ mWs := mWs_in (tl_5 (List.mem_of_getElem? (i := 31) (by decide +kernel))) rfl
theorem m_1061 : Jvm.Cond.fieldLink "AtlasDeskModel" 32 "AtlasDeskModel" "fx" "[I" ∈ mWs := mWs_in (tl_5 (List.mem_of_getElem? (i := 32) (by decide +kernel))) rfl
theorem m_1062 : Jvm.Cond.fieldLink "AtlasDeskModel" 35 "AtlasDeskModel" "fy" "[I" ∈ mWs := mWs_in (tl_5 (List.mem_of_getElem? (i := 33) (by decide +kernel))) rfl
theorem m_1063 : Jvm.Cond.fieldLink "AtlasDeskModel" 182 "AtlasDeskModel" "closed" "I" ∈ mWs := mWs_in (tl_5 (List.mem_of_getElem? (i := 34) (by decide +kernel))) rfl
theorem m_1064 : Jvm.Cond.fieldLink "AtlasDeskModel" 38 "AtlasDeskModel" "nextX" "[I" ∈ mWs := mWs_in (tl_5 (List.mem_of_getElem? (i := 35) (by decide +kernel))) rfl
theorem m_1065 : Jvm.Cond.fieldLink "AtlasDeskModel" 41 "AtlasDeskModel" "nextY" "[I" ∈ mWs := mWs_in (tl_5 (List.mem_of_getElem? (i := 36) (by decide +kernel))) rfl
theorem m_1066 : Jvm.Cond.fieldLink "AtlasDeskModel" 145 "AtlasDeskModel" "nextLong" "I" ∈ mWs := mWs_in (tl_5 (List.mem_of_getElem? (i := 37) (by decide +kernel))) rfl
theorem m_1067 : Jvm.Cond.fieldLink "AtlasDeskModel" 133 "AtlasDeskModel" "thrown" "I" ∈ mWs := mWs_in (tl_5 (List.mem_of_getElem? (i := 38) (by decide +kernel))) rfl
theorem m_1068 : Jvm.Cond.fieldLink "AtlasDeskModel" 44 "AtlasDeskModel" "region" "[I" ∈ mWs := mWs_in (tl_5 (List.mem_of_getElem? (i := 39) (by decide +kernel))) rfl
theorem m_1069 : Jvm.Cond.fieldLink "AtlasDeskModel" 270 "AtlasDeskModel" "hasRegion" "Z" ∈ mWs := mWs_in (tl_5 (List.mem_of_getElem? (i := 40) (by decide +kernel))) rfl
theorem m_1070 : Jvm.Cond.fieldLink "AtlasDeskModel" 274 "AtlasDeskModel" "hasDifference" "Z" ∈ mWs := mWs_in (tl_5 (List.mem_of_getElem? (i := 41) (by decide +kernel))) rfl
theorem m_1071 : Jvm.Cond.fieldLink "AtlasDeskModel" 47 "AtlasDeskModel" "there" "[Z" ∈ mWs := mWs_in (tl_5 (List.mem_of_getElem? (i := 42) (by decide +kernel))) rfl
theorem m_1072 : Jvm.Cond.fieldLink "AtlasDeskModel" 51 "AtlasDeskModel" "edition" "[I" ∈ mWs := mWs_in (tl_5 (List.mem_of_getElem? (i := 43) (by decide +kernel))) rfl
theorem m_1073 : Jvm.Cond.fieldLink "AtlasDeskModel" 54 "AtlasDeskModel" "packRegion" "[I" ∈ mWs := mWs_in (tl_5 (List.mem_of_getElem? (i := 44) (by decide +kernel))) rfl
theorem m_1074 : Jvm.Cond.fieldLink "AtlasDeskModel" 57 "AtlasDeskModel" "tiles" "[I" ∈ mWs := mWs_in (tl_5 (List.mem_of_getElem? (i := 45) (by decide +kernel))) rfl
theorem m_1075 : Jvm.Cond.fieldLink "AtlasDeskModel" 60 "AtlasDeskModel" "tileZ" "[I" ∈ mWs := mWs_in (tl_5 (List.mem_of_getElem? (i := 46) (by decide +kernel))) rfl
theorem m_1076 : Jvm.Cond.fieldLink "AtlasDeskModel" 63 "AtlasDeskModel" "tileX" "[I" ∈ mWs := mWs_in (tl_5 (List.mem_of_getElem? (i := 47) (by decide +kernel))) rfl
theorem m_1077 : Jvm.Cond.fieldLink "AtlasDeskModel" 66 "AtlasDeskModel" "tileY" "[I" ∈ mWs := mWs_in (tl_5 (List.mem_of_getElem? (i := 48) (by decide +kernel))) rfl
theorem m_1078 : Jvm.Cond.fieldLink "AtlasDeskModel" 69 "AtlasDeskModel" "tileLong" "[I" ∈ mWs := mWs_in (tl_5 (List.mem_of_getElem? (i := 49) (by decide +kernel))) rfl
theorem m_1079 : Jvm.Cond.fieldLink "AtlasDeskModel" 72 "AtlasDeskModel" "tileAt" "[I" ∈ mWs := mWs_in (tl_5 (List.mem_of_getElem? (i := 50) (by decide +kernel))) rfl
theorem m_1080 : Jvm.Cond.fieldLink "AtlasDeskModel" 75 "AtlasDeskModel" "tileFirst" "[I" ∈ mWs := mWs_in (tl_5 (List.mem_of_getElem? (i := 51) (by decide +kernel))) rfl
theorem m_1081 : Jvm.Cond.fieldLink "AtlasDeskModel" 78 "AtlasDeskModel" "stored" "[I" ∈ mWs := mWs_in (tl_5 (List.mem_of_getElem? (i := 52) (by decide +kernel))) rfl
theorem m_1082 : Jvm.Cond.fieldLink "AtlasDeskModel" 81 "AtlasDeskModel" "bytes" "[B" ∈ mWs := mWs_in (tl_5 (List.mem_of_getElem? (i := 53) (by decide +kernel))) rfl
theorem m_1083 : Jvm.Cond.fieldLink "AtlasDeskModel" 85 "AtlasDeskModel" "members" "[I" ∈ mWs := mWs_in (tl_5 (List.mem_of_getElem? (i := 54) (by decide +kernel))) rfl
theorem m_1084 : Jvm.Cond.fieldLink "AtlasDeskModel" 88 "AtlasDeskModel" "memberNumber" "[I" ∈ mWs := mWs_in (tl_5 (List.mem_of_getElem? (i := 55) (by decide +kernel))) rfl
theorem m_1085 : Jvm.Cond.fieldLink "AtlasDeskModel" 91 "AtlasDeskModel" "memberKind" "[I" ∈ mWs := mWs_in (tl_5 (List.mem_of_getElem? (i := 56) (by decide +kernel))) rfl
theorem m_1086 : Jvm.Cond.fieldLink "AtlasDeskModel" 94 "AtlasDeskModel" "memberSort" "[I" ∈ mWs := mWs_in (tl_5 (List.mem_of_getElem? (i := 57) (by decide +kernel))) rfl
theorem m_1087 : Jvm.Cond.fieldLink "AtlasDeskModel" 97 "AtlasDeskModel" "memberName" "[J" ∈ mWs := mWs_in (tl_5 (List.mem_of_getElem? (i := 58) (by decide +kernel))) rfl
theorem m_1088 : Jvm.Cond.fieldLink "AtlasDeskModel" 100 "AtlasDeskModel" "memberX" "[I" ∈ mWs := mWs_in (tl_5 (List.mem_of_getElem? (i := 59) (by decide +kernel))) rfl
theorem m_1089 : Jvm.Cond.fieldLink "AtlasDeskModel" 103 "AtlasDeskModel" "memberY" "[I" ∈ mWs := mWs_in (tl_5 (List.mem_of_getElem? (i := 60) (by decide +kernel))) rfl
theorem m_1090 : Jvm.Cond.fieldLink "AtlasDeskModel" 106 "AtlasDeskModel" "out" "[I" ∈ mWs := mWs_in (tl_5 (List.mem_of_getElem? (i := 61) (by decide +kernel))) rfl
theorem m_1091 : Jvm.Cond.fieldLink "AtlasDeskModel" 240 "AtlasDeskModel" "outLong" "I" ∈ mWs := mWs_in (tl_5 (List.mem_of_getElem? (i := 62) (by decide +kernel))) rfl
theorem m_1092 : Jvm.Cond.fieldLink "AtlasDeskModel" 109 "AtlasDeskModel" "hand" "[I" ∈ mWs := mWs_in (tl_5 (List.mem_of_getElem? (i := 63) (by decide +kernel))) rfl
theorem m_1093 : Jvm.Cond.fieldLink "AtlasDeskModel" 267 "AtlasDeskModel" "handLong" "I" ∈ mWs := mWs_in (tl_5 (List.mem_of_getElem? (i := 64) (by decide +kernel))) rfl
theorem m_1094 : Jvm.Cond.fieldLink "AtlasDeskModel" 112 "AtlasDeskModel" "cx" "[I" ∈ mWs := mWs_in (tl_5 (List.mem_of_getElem? (i := 65) (by decide +kernel))) rfl
theorem m_1095 : Jvm.Cond.fieldLink "AtlasDeskModel" 115 "AtlasDeskModel" "cy" "[I" ∈ mWs := mWs_in (tl_5 (List.mem_of_getElem? (i := 66) (by decide +kernel))) rfl
theorem m_1096 : Jvm.Cond.fieldLink "AtlasDeskModel" 118 "AtlasDeskModel" "begins" "[Z" ∈ mWs := mWs_in (tl_5 (List.mem_of_getElem? (i := 67) (by decide +kernel))) rfl
theorem m_1097 : Jvm.Cond.fieldLink "AtlasDeskModel" 191 "AtlasDeskModel" "corners" "I" ∈ mWs := mWs_in (tl_5 (List.mem_of_getElem? (i := 68) (by decide +kernel))) rfl
theorem m_1098 : Jvm.Cond.fieldLink "AtlasDeskModel" 121 "AtlasDeskModel" "wx" "[I" ∈ mWs := mWs_in (tl_5 (List.mem_of_getElem? (i := 69) (by decide +kernel))) rfl
theorem m_1099 : Jvm.Cond.fieldLink "AtlasDeskModel" 124 "AtlasDeskModel" "wy" "[I" ∈ mWs := mWs_in (tl_5 (List.mem_of_getElem? (i := 70) (by decide +kernel))) rfl
theorem m_1100 : Jvm.Cond.fieldLink "AtlasDeskModel" 127 "AtlasDeskModel" "wBegins" "[Z" ∈ mWs := mWs_in (tl_5 (List.mem_of_getElem? (i := 71) (by decide +kernel))) rfl
theorem m_1101 : Jvm.Cond.fieldLink "AtlasDeskModel" 197 "AtlasDeskModel" "written" "I" ∈ mWs := mWs_in (tl_5 (List.mem_of_getElem? (i := 72) (by decide +kernel))) rfl
theorem m_1102 : Jvm.Cond.fieldLink "AtlasDeskModel" 130 "AtlasDeskModel" "stays" "[Z" ∈ mWs := mWs_in (tl_5 (List.mem_of_getElem? (i := 73) (by decide +kernel))) rfl
theorem m_1103 : Jvm.Cond.fieldLink "AtlasDeskModel" 318 "AtlasDeskModel" "foundBefore" "I" ∈ mWs := mWs_in (tl_5 (List.mem_of_getElem? (i := 74) (by decide +kernel))) rfl
theorem m_1104 : Jvm.Cond.fieldLink "AtlasDeskModel" 321 "AtlasDeskModel" "foundAfter" "I" ∈ mWs := mWs_in (tl_5 (List.mem_of_getElem? (i := 75) (by decide +kernel))) rfl
theorem m_1105 : Jvm.Cond.laysFinal "AtlasDeskModel" "AtlasDeskModel" "many" "[I" ∈ mWs := mWs_in (tl_5 (List.mem_of_getElem? (i := 76) (by decide +kernel))) rfl
theorem m_1107 : Jvm.Cond.laysFinal "AtlasDeskModel" "AtlasDeskModel" "number" "[I" ∈ mWs := mWs_in (tl_5 (List.mem_of_getElem? (i := 78) (by decide +kernel))) rfl
theorem m_1109 : Jvm.Cond.laysFinal "AtlasDeskModel" "AtlasDeskModel" "kind" "[I" ∈ mWs := mWs_in (tl_5 (List.mem_of_getElem? (i := 80) (by decide +kernel))) rfl
theorem m_1111 : Jvm.Cond.laysFinal "AtlasDeskModel" "AtlasDeskModel" "sort" "[I" ∈ mWs := mWs_in (tl_5 (List.mem_of_getElem? (i := 82) (by decide +kernel))) rfl
theorem m_1113 : Jvm.Cond.laysFinal "AtlasDeskModel" "AtlasDeskModel" "least" "[I" ∈ mWs := mWs_in (tl_5 (List.mem_of_getElem? (i := 84) (by decide +kernel))) rfl
theorem m_1115 : Jvm.Cond.laysFinal "AtlasDeskModel" "AtlasDeskModel" "name" "[J" ∈ mWs := mWs_in (tl_5 (List.mem_of_getElem? (i := 86) (by decide +kernel))) rfl
theorem m_1117 : Jvm.Cond.laysFinal "AtlasDeskModel" "AtlasDeskModel" "long1" "[I" ∈ mWs := mWs_in (tl_5 (List.mem_of_getElem? (i := 88) (by decide +kernel))) rfl
theorem m_1119 : Jvm.Cond.laysFinal "AtlasDeskModel" "AtlasDeskModel" "fx" "[I" ∈ mWs := mWs_in (tl_5 (List.mem_of_getElem? (i := 90) (by decide +kernel))) rfl
theorem m_1121 : Jvm.Cond.laysFinal "AtlasDeskModel" "AtlasDeskModel" "fy" "[I" ∈ mWs := mWs_in (tl_5 (List.mem_of_getElem? (i := 92) (by decide +kernel))) rfl
theorem m_1123 : Jvm.Cond.lays "AtlasDeskModel" "AtlasDeskModel" "closed" "I" ∈ mWs := mWs_in (tl_5 (List.mem_of_getElem? (i := 94) (by decide +kernel))) rfl
theorem m_1125 : Jvm.Cond.laysFinal "AtlasDeskModel" "AtlasDeskModel" "nextX" "[I" ∈ mWs := mWs_in (tl_5 (List.mem_of_getElem? (i := 96) (by decide +kernel))) rfl
theorem m_1127 : Jvm.Cond.laysFinal "AtlasDeskModel" "AtlasDeskModel" "nextY" "[I" ∈ mWs := mWs_in (tl_5 (List.mem_of_getElem? (i := 98) (by decide +kernel))) rfl
theorem m_1129 : Jvm.Cond.lays "AtlasDeskModel" "AtlasDeskModel" "nextLong" "I" ∈ mWs := mWs_in (tl_5 (List.mem_of_getElem? (i := 100) (by decide +kernel))) rfl
theorem m_1131 : Jvm.Cond.lays "AtlasDeskModel" "AtlasDeskModel" "thrown" "I" ∈ mWs := mWs_in (tl_5 (List.mem_of_getElem? (i := 102) (by decide +kernel))) rfl
theorem m_1133 : Jvm.Cond.laysFinal "AtlasDeskModel" "AtlasDeskModel" "region" "[I" ∈ mWs := mWs_in (tl_5 (List.mem_of_getElem? (i := 104) (by decide +kernel))) rfl
theorem m_1135 : Jvm.Cond.lays "AtlasDeskModel" "AtlasDeskModel" "hasRegion" "Z" ∈ mWs := mWs_in (tl_5 (List.mem_of_getElem? (i := 106) (by decide +kernel))) rfl
theorem m_1137 : Jvm.Cond.lays "AtlasDeskModel" "AtlasDeskModel" "hasDifference" "Z" ∈ mWs := mWs_in (tl_5 (List.mem_of_getElem? (i := 108) (by decide +kernel))) rfl
theorem m_1139 : Jvm.Cond.laysFinal "AtlasDeskModel" "AtlasDeskModel" "there" "[Z" ∈ mWs := mWs_in (tl_5 (List.mem_of_getElem? (i := 110) (by decide +kernel))) rfl
theorem m_1141 : Jvm.Cond.laysFinal "AtlasDeskModel" "AtlasDeskModel" "edition" "[I" ∈ mWs := mWs_in (tl_5 (List.mem_of_getElem? (i := 112) (by decide +kernel))) rfl
theorem m_1143 : Jvm.Cond.laysFinal "AtlasDeskModel" "AtlasDeskModel" "packRegion" "[I" ∈ mWs := mWs_in (tl_5 (List.mem_of_getElem? (i := 114) (by decide +kernel))) rfl
theorem m_1145 : Jvm.Cond.laysFinal "AtlasDeskModel" "AtlasDeskModel" "tiles" "[I" ∈ mWs := mWs_in (tl_5 (List.mem_of_getElem? (i := 116) (by decide +kernel))) rfl
theorem m_1147 : Jvm.Cond.laysFinal "AtlasDeskModel" "AtlasDeskModel" "tileZ" "[I" ∈ mWs := mWs_in (tl_5 (List.mem_of_getElem? (i := 118) (by decide +kernel))) rfl
theorem m_1149 : Jvm.Cond.laysFinal "AtlasDeskModel" "AtlasDeskModel" "tileX" "[I" ∈ mWs := mWs_in (tl_5 (List.mem_of_getElem? (i := 120) (by decide +kernel))) rfl
theorem m_1151 : Jvm.Cond.laysFinal "AtlasDeskModel" "AtlasDeskModel" "tileY" "[I" ∈ mWs := mWs_in (tl_5 (List.mem_of_getElem? (i := 122) (by decide +kernel))) rfl
theorem m_1153 : Jvm.Cond.laysFinal "AtlasDeskModel" "AtlasDeskModel" "tileLong" "[I" ∈ mWs := mWs_in (tl_5 (List.mem_of_getElem? (i := 124) (by decide +kernel))) rfl
theorem m_1155 : Jvm.Cond.laysFinal "AtlasDeskModel" "AtlasDeskModel" "tileAt" "[I" ∈ mWs := mWs_in (tl_5 (List.mem_of_getElem? (i := 126) (by decide +kernel))) rfl
theorem m_1157 : Jvm.Cond.laysFinal "AtlasDeskModel" "AtlasDeskModel" "tileFirst" "[I" ∈ mWs := mWs_in (tl_5 (List.mem_of_getElem? (i := 128) (by decide +kernel))) rfl
theorem m_1159 : Jvm.Cond.laysFinal "AtlasDeskModel" "AtlasDeskModel" "stored" "[I" ∈ mWs := mWs_in (tl_5 (List.mem_of_getElem? (i := 130) (by decide +kernel))) rfl
theorem m_1161 : Jvm.Cond.laysFinal "AtlasDeskModel" "AtlasDeskModel" "bytes" "[B" ∈ mWs := mWs_in (tl_5 (List.mem_of_getElem? (i := 132) (by decide +kernel))) rfl
theorem m_1163 : Jvm.Cond.laysFinal "AtlasDeskModel" "AtlasDeskModel" "members" "[I" ∈ mWs := mWs_in (tl_5 (List.mem_of_getElem? (i := 134) (by decide +kernel))) rfl
theorem m_1165 : Jvm.Cond.laysFinal "AtlasDeskModel" "AtlasDeskModel" "memberNumber" "[I" ∈ mWs := mWs_in (tl_5 (List.mem_of_getElem? (i := 136) (by decide +kernel))) rfl
theorem m_1167 : Jvm.Cond.laysFinal "AtlasDeskModel" "AtlasDeskModel" "memberKind" "[I" ∈ mWs := mWs_in (tl_5 (List.mem_of_getElem? (i := 138) (by decide +kernel))) rfl
theorem m_1169 : Jvm.Cond.laysFinal "AtlasDeskModel" "AtlasDeskModel" "memberSort" "[I" ∈ mWs := mWs_in (tl_5 (List.mem_of_getElem? (i := 140) (by decide +kernel))) rfl
theorem m_1171 : Jvm.Cond.laysFinal "AtlasDeskModel" "AtlasDeskModel" "memberName" "[J" ∈ mWs := mWs_in (tl_5 (List.mem_of_getElem? (i := 142) (by decide +kernel))) rfl
theorem m_1173 : Jvm.Cond.laysFinal "AtlasDeskModel" "AtlasDeskModel" "memberX" "[I" ∈ mWs := mWs_in (tl_5 (List.mem_of_getElem? (i := 144) (by decide +kernel))) rfl
theorem m_1175 : Jvm.Cond.laysFinal "AtlasDeskModel" "AtlasDeskModel" "memberY" "[I" ∈ mWs := mWs_in (tl_5 (List.mem_of_getElem? (i := 146) (by decide +kernel))) rfl
theorem m_1177 : Jvm.Cond.laysFinal "AtlasDeskModel" "AtlasDeskModel" "out" "[I" ∈ mWs := mWs_in (tl_5 (List.mem_of_getElem? (i := 148) (by decide +kernel))) rfl
theorem m_1179 : Jvm.Cond.lays "AtlasDeskModel" "AtlasDeskModel" "outLong" "I" ∈ mWs := mWs_in (tl_5 (List.mem_of_getElem? (i := 150) (by decide +kernel))) rfl
theorem m_1181 : Jvm.Cond.laysFinal "AtlasDeskModel" "AtlasDeskModel" "hand" "[I" ∈ mWs := mWs_in (tl_5 (List.mem_of_getElem? (i := 152) (by decide +kernel))) rfl
theorem m_1183 : Jvm.Cond.lays "AtlasDeskModel" "AtlasDeskModel" "handLong" "I" ∈ mWs := mWs_in (tl_5 (List.mem_of_getElem? (i := 154) (by decide +kernel))) rfl
theorem m_1185 : Jvm.Cond.laysFinal "AtlasDeskModel" "AtlasDeskModel" "cx" "[I" ∈ mWs := mWs_in (tl_5 (List.mem_of_getElem? (i := 156) (by decide +kernel))) rfl
theorem m_1187 : Jvm.Cond.laysFinal "AtlasDeskModel" "AtlasDeskModel" "cy" "[I" ∈ mWs := mWs_in (tl_5 (List.mem_of_getElem? (i := 158) (by decide +kernel))) rfl
theorem m_1189 : Jvm.Cond.laysFinal "AtlasDeskModel" "AtlasDeskModel" "begins" "[Z" ∈ mWs := mWs_in (tl_5 (List.mem_of_getElem? (i := 160) (by decide +kernel))) rfl
theorem m_1191 : Jvm.Cond.lays "AtlasDeskModel" "AtlasDeskModel" "corners" "I" ∈ mWs := mWs_in (tl_5 (List.mem_of_getElem? (i := 162) (by decide +kernel))) rfl
theorem m_1193 : Jvm.Cond.laysFinal "AtlasDeskModel" "AtlasDeskModel" "wx" "[I" ∈ mWs := mWs_in (tl_5 (List.mem_of_getElem? (i := 164) (by decide +kernel))) rfl
theorem m_1195 : Jvm.Cond.laysFinal "AtlasDeskModel" "AtlasDeskModel" "wy" "[I" ∈ mWs := mWs_in (tl_5 (List.mem_of_getElem? (i := 166) (by decide +kernel))) rfl
theorem m_1197 : Jvm.Cond.laysFinal "AtlasDeskModel" "AtlasDeskModel" "wBegins" "[Z" ∈ mWs := mWs_in (tl_5 (List.mem_of_getElem? (i := 168) (by decide +kernel))) rfl
theorem m_1199 : Jvm.Cond.lays "AtlasDeskModel" "AtlasDeskModel" "written" "I" ∈ mWs := mWs_in (tl_5 (List.mem_of_getElem? (i := 170) (by decide +kernel))) rfl
theorem m_1201 : Jvm.Cond.laysFinal "AtlasDeskModel" "AtlasDeskModel" "stays" "[Z" ∈ mWs := mWs_in (tl_5 (List.mem_of_getElem? (i := 172) (by decide +kernel))) rfl
theorem m_1203 : Jvm.Cond.lays "AtlasDeskModel" "AtlasDeskModel" "foundBefore" "I" ∈ mWs := mWs_in (tl_5 (List.mem_of_getElem? (i := 174) (by decide +kernel))) rfl
theorem m_1205 : Jvm.Cond.lays "AtlasDeskModel" "AtlasDeskModel" "foundAfter" "I" ∈ mWs := mWs_in (tl_5 (List.mem_of_getElem? (i := 176) (by decide +kernel))) rfl
theorem m_1208 : Jvm.Cond.arrayClass .long ∈ mWs := mWs_in (tl_5 (List.mem_of_getElem? (i := 179) (by decide +kernel))) rfl
theorem m_1209 : Jvm.Cond.methodLink "AtlasDeskLaw" 65 ⟨"AtlasDeskModel", "thrown", "()I"⟩ ∈ mWs := mWs_in (tl_5 (List.mem_of_getElem? (i := 180) (by decide +kernel))) rfl
theorem m_1210 : Jvm.Cond.instanceMethod ⟨"AtlasDeskModel", "thrown", "()I"⟩ ∈ mWs := mWs_in (tl_5 (List.mem_of_getElem? (i := 181) (by decide +kernel))) rfl
theorem m_1211 : Jvm.Cond.selects "AtlasDeskModel" ⟨"AtlasDeskModel", "thrown", "()I"⟩ ⟨"AtlasDeskModel", "thrown", "()I"⟩ ∈ mWs := mWs_in (tl_5 (List.mem_of_getElem? (i := 182) (by decide +kernel))) rfl
set_option maxRecDepth 8000 in
theorem m_1212 : Jvm.Cond.code ⟨"AtlasDeskModel", "thrown", "()I"⟩ prog_13_method_2_code 1 (some .int) ∈ mWs := mWs_in (tl_5 (List.mem_of_getElem? (i := 183) rfl)) rfl
theorem m_1213 : Jvm.Cond.methodLink "AtlasDeskLaw" 56 ⟨"AtlasDeskModel", "corner", "(II)Z"⟩ ∈ mWs := mWs_in (tl_5 (List.mem_of_getElem? (i := 184) (by decide +kernel))) rfl
theorem m_1214 : Jvm.Cond.instanceMethod ⟨"AtlasDeskModel", "corner", "(II)Z"⟩ ∈ mWs := mWs_in (tl_5 (List.mem_of_getElem? (i := 185) (by decide +kernel))) rfl
theorem m_1215 : Jvm.Cond.selects "AtlasDeskModel" ⟨"AtlasDeskModel", "corner", "(II)Z"⟩ ⟨"AtlasDeskModel", "corner", "(II)Z"⟩ ∈ mWs := mWs_in (tl_5 (List.mem_of_getElem? (i := 186) (by decide +kernel))) rfl
set_option maxRecDepth 8000 in
theorem m_1216 : Jvm.Cond.code ⟨"AtlasDeskModel", "corner", "(II)Z"⟩ prog_13_method_5_code 3 (some .boolean) ∈ mWs := mWs_in (tl_5 (List.mem_of_getElem? (i := 187) rfl)) rfl
theorem m_1217 : Jvm.Cond.methodLink "AtlasDeskModel" 141 ⟨"AtlasDeskModel", "inWorld", "(I)Z"⟩ ∈ mWs := mWs_in (tl_5 (List.mem_of_getElem? (i := 188) (by decide +kernel))) rfl
theorem m_1218 : Jvm.Cond.static ⟨"AtlasDeskModel", "inWorld", "(I)Z"⟩ ∈ mWs := mWs_in (tl_5 (List.mem_of_getElem? (i := 189) (by decide +kernel))) rfl
set_option maxRecDepth 8000 in
theorem m_1219 : Jvm.Cond.code ⟨"AtlasDeskModel", "inWorld", "(I)Z"⟩ prog_13_method_4_code 1 (some .boolean) ∈ mWs := mWs_in (tl_5 (List.mem_of_getElem? (i := 190) rfl)) rfl
theorem m_1220 : Jvm.Cond.methodLink "AtlasDeskModel" 137 ⟨"AtlasDeskModel", "within", "(III)Z"⟩ ∈ mWs := mWs_in (tl_5 (List.mem_of_getElem? (i := 191) (by decide +kernel))) rfl
theorem m_1221 : Jvm.Cond.static ⟨"AtlasDeskModel", "within", "(III)Z"⟩ ∈ mWs := mWs_in (tl_5 (List.mem_of_getElem? (i := 192) (by decide +kernel))) rfl
set_option maxRecDepth 8000 in
theorem m_1222 : Jvm.Cond.code ⟨"AtlasDeskModel", "within", "(III)Z"⟩ prog_13_method_3_code 3 (some .boolean) ∈ mWs := mWs_in (tl_5 (List.mem_of_getElem? (i := 193) rfl)) rfl
theorem m_1223 : Jvm.Cond.methodLink "AtlasDeskLaw" 64 ⟨"AtlasDeskModel", "feature", "(IIIIJ)I"⟩ ∈ mWs := mWs_in (tl_5 (List.mem_of_getElem? (i := 194) (by decide +kernel))) rfl
theorem m_1224 : Jvm.Cond.instanceMethod ⟨"AtlasDeskModel", "feature", "(IIIIJ)I"⟩ ∈ mWs := mWs_in (tl_5 (List.mem_of_getElem? (i := 195) (by decide +kernel))) rfl
theorem m_1225 : Jvm.Cond.selects "AtlasDeskModel" ⟨"AtlasDeskModel", "feature", "(IIIIJ)I"⟩ ⟨"AtlasDeskModel", "feature", "(IIIIJ)I"⟩ ∈ mWs := mWs_in (tl_5 (List.mem_of_getElem? (i := 196) (by decide +kernel))) rfl
set_option maxRecDepth 8000 in
theorem m_1226 : Jvm.Cond.code ⟨"AtlasDeskModel", "feature", "(IIIIJ)I"⟩ prog_13_method_15_code 11 (some .int) ∈ mWs := mWs_in (tl_5 (List.mem_of_getElem? (i := 197) rfl)) rfl
theorem m_1227 : Jvm.Cond.methodLink "AtlasDeskModel" 167 ⟨"AtlasDeskModel", "isName", "(J)Z"⟩ ∈ mWs := mWs_in (tl_5 (List.mem_of_getElem? (i := 198) (by decide +kernel))) rfl
theorem m_1228 : Jvm.Cond.static ⟨"AtlasDeskModel", "isName", "(J)Z"⟩ ∈ mWs := mWs_in (tl_5 (List.mem_of_getElem? (i := 199) (by decide +kernel))) rfl
set_option maxRecDepth 8000 in
theorem m_1229 : Jvm.Cond.code ⟨"AtlasDeskModel", "isName", "(J)Z"⟩ prog_13_method_6_code 5 (some .boolean) ∈ mWs := mWs_in (tl_5 (List.mem_of_getElem? (i := 200) rfl)) rfl
theorem m_1230 : Jvm.Cond.methodLink "AtlasDeskModel" 171 ⟨"AtlasDeskModel", "cornersGood", "(I)Z"⟩ ∈ mWs := mWs_in (tl_5 (List.mem_of_getElem? (i := 201) (by decide +kernel))) rfl
theorem m_1232 : Jvm.Cond.instanceMethod ⟨"AtlasDeskModel", "cornersGood", "(I)Z"⟩ ∈ mWs := mWs_in (tl_5 (List.mem_of_getElem? (i := 203) (by decide +kernel))) rfl
set_option maxRecDepth 8000 in
theorem m_1233 : Jvm.Cond.code ⟨"AtlasDeskModel", "cornersGood", "(I)Z"⟩ prog_13_method_12_code 3 (some .boolean) ∈ mWs := mWs_in (tl_5 (List.mem_of_getElem? (i := 204) rfl)) rfl
theorem m_1234 : Jvm.Cond.methodLink "AtlasDeskModel" 163 ⟨"AtlasDeskModel", "isRing", "()Z"⟩ ∈ mWs := mWs_in (tl_5 (List.mem_of_getElem? (i := 205) (by decide +kernel))) rfl
theorem m_1236 : Jvm.Cond.instanceMethod ⟨"AtlasDeskModel", "isRing", "()Z"⟩ ∈ mWs := mWs_in (tl_5 (List.mem_of_getElem? (i := 207) (by decide +kernel))) rfl
set_option maxRecDepth 8000 in
theorem m_1237 : Jvm.Cond.code ⟨"AtlasDeskModel", "isRing", "()Z"⟩ prog_13_method_11_code 8 (some .boolean) ∈ mWs := mWs_in (tl_5 (List.mem_of_getElem? (i := 208) rfl)) rfl
theorem m_1238 : Jvm.Cond.methodLink "AtlasDeskModel" 152 ⟨"AtlasDeskModel", "sideOf", "(III)I"⟩ ∈ mWs := mWs_in (tl_5 (List.mem_of_getElem? (i := 209) (by decide +kernel))) rfl
theorem m_1240 : Jvm.Cond.instanceMethod ⟨"AtlasDeskModel", "sideOf", "(III)I"⟩ ∈ mWs := mWs_in (tl_5 (List.mem_of_getElem? (i := 211) (by decide +kernel))) rfl
set_option maxRecDepth 8000 in
theorem m_1241 : Jvm.Cond.code ⟨"AtlasDeskModel", "sideOf", "(III)I"⟩ prog_13_method_8_code 6 (some .int) ∈ mWs := mWs_in (tl_5 (List.mem_of_getElem? (i := 212) rfl)) rfl
theorem m_1242 : Jvm.Cond.methodLink "AtlasDeskModel" 148 ⟨"AtlasDeskModel", "cross", "(JJJJ)J"⟩ ∈ mWs := mWs_in (tl_5 (List.mem_of_getElem? (i := 213) (by decide +kernel))) rfl
theorem m_1243 : Jvm.Cond.static ⟨"AtlasDeskModel", "cross", "(JJJJ)J"⟩ ∈ mWs := mWs_in (tl_5 (List.mem_of_getElem? (i := 214) (by decide +kernel))) rfl
set_option maxRecDepth 8000 in
theorem m_1244 : Jvm.Cond.code ⟨"AtlasDeskModel", "cross", "(JJJJ)J"⟩ prog_13_method_7_code 8 (some .long) ∈ mWs := mWs_in (tl_5 (List.mem_of_getElem? (i := 215) rfl)) rfl
theorem m_1245 : Jvm.Cond.methodLink "AtlasDeskModel" 159 ⟨"AtlasDeskModel", "meet", "(IIII)Z"⟩ ∈ mWs := mWs_in (tl_5 (List.mem_of_getElem? (i := 216) (by decide +kernel))) rfl
theorem m_1247 : Jvm.Cond.instanceMethod ⟨"AtlasDeskModel", "meet", "(IIII)Z"⟩ ∈ mWs := mWs_in (tl_5 (List.mem_of_getElem? (i := 218) (by decide +kernel))) rfl
set_option maxRecDepth 8000 in
theorem m_1248 : Jvm.Cond.code ⟨"AtlasDeskModel", "meet", "(IIII)Z"⟩ prog_13_method_10_code 9 (some .boolean) ∈ mWs := mWs_in (tl_5 (List.mem_of_getElem? (i := 219) rfl)) rfl
theorem m_1249 : Jvm.Cond.methodLink "AtlasDeskModel" 156 ⟨"AtlasDeskModel", "between", "(III)Z"⟩ ∈ mWs := mWs_in (tl_5 (List.mem_of_getElem? (i := 220) (by decide +kernel))) rfl
theorem m_1251 : Jvm.Cond.instanceMethod ⟨"AtlasDeskModel", "between", "(III)Z"⟩ ∈ mWs := mWs_in (tl_5 (List.mem_of_getElem? (i := 222) (by decide +kernel))) rfl
set_option maxRecDepth 8000 in
theorem m_1252 : Jvm.Cond.code ⟨"AtlasDeskModel", "between", "(III)Z"⟩ prog_13_method_9_code 5 (some .boolean) ∈ mWs := mWs_in (tl_5 (List.mem_of_getElem? (i := 223) rfl)) rfl
theorem m_1253 : Jvm.Cond.methodLink "AtlasDeskModel" 174 ⟨"AtlasDeskModel", "find", "(II)I"⟩ ∈ mWs := mWs_in (tl_5 (List.mem_of_getElem? (i := 224) (by decide +kernel))) rfl
theorem m_1255 : Jvm.Cond.instanceMethod ⟨"AtlasDeskModel", "find", "(II)I"⟩ ∈ mWs := mWs_in (tl_5 (List.mem_of_getElem? (i := 226) (by decide +kernel))) rfl
set_option maxRecDepth 8000 in
theorem m_1256 : Jvm.Cond.code ⟨"AtlasDeskModel", "find", "(II)I"⟩ prog_13_method_13_code 4 (some .int) ∈ mWs := mWs_in (tl_5 (List.mem_of_getElem? (i := 227) rfl)) rfl
theorem m_1257 : Jvm.Cond.methodLink "AtlasDeskModel" 178 ⟨"AtlasDeskModel", "copyFeature", "(II)V"⟩ ∈ mWs := mWs_in (tl_5 (List.mem_of_getElem? (i := 228) (by decide +kernel))) rfl
theorem m_1259 : Jvm.Cond.instanceMethod ⟨"AtlasDeskModel", "copyFeature", "(II)V"⟩ ∈ mWs := mWs_in (tl_5 (List.mem_of_getElem? (i := 230) (by decide +kernel))) rfl
set_option maxRecDepth 8000 in
theorem m_1260 : Jvm.Cond.code ⟨"AtlasDeskModel", "copyFeature", "(II)V"⟩ prog_13_method_14_code 4 none ∈ mWs := mWs_in (tl_5 (List.mem_of_getElem? (i := 231) rfl)) rfl
theorem m_1261 : Jvm.Cond.methodLink "AtlasDeskLaw" 72 ⟨"AtlasDeskModel", "drop", "(I)Z"⟩ ∈ mWs := mWs_in (tl_5 (List.mem_of_getElem? (i := 232) (by decide +kernel))) rfl
theorem m_1262 : Jvm.Cond.instanceMethod ⟨"AtlasDeskModel", "drop", "(I)Z"⟩ ∈ mWs := mWs_in (tl_5 (List.mem_of_getElem? (i := 233) (by decide +kernel))) rfl
theorem m_1263 : Jvm.Cond.selects "AtlasDeskModel" ⟨"AtlasDeskModel", "drop", "(I)Z"⟩ ⟨"AtlasDeskModel", "drop", "(I)Z"⟩ ∈ mWs := mWs_in (tl_5 (List.mem_of_getElem? (i := 234) (by decide +kernel))) rfl
set_option maxRecDepth 8000 in
theorem m_1264 : Jvm.Cond.code ⟨"AtlasDeskModel", "drop", "(I)Z"⟩ prog_13_method_16_code 4 (some .boolean) ∈ mWs := mWs_in (tl_5 (List.mem_of_getElem? (i := 235) rfl)) rfl
theorem m_1265 : Jvm.Cond.methodLink "AtlasDeskLaw" 76 ⟨"AtlasDeskModel", "edition", "()I"⟩ ∈ mWs := mWs_in (tl_5 (List.mem_of_getElem? (i := 236) (by decide +kernel))) rfl
theorem m_1266 : Jvm.Cond.instanceMethod ⟨"AtlasDeskModel", "edition", "()I"⟩ ∈ mWs := mWs_in (tl_5 (List.mem_of_getElem? (i := 237) (by decide +kernel))) rfl
theorem m_1267 : Jvm.Cond.selects "AtlasDeskModel" ⟨"AtlasDeskModel", "edition", "()I"⟩ ⟨"AtlasDeskModel", "edition", "()I"⟩ ∈ mWs := mWs_in (tl_5 (List.mem_of_getElem? (i := 238) (by decide +kernel))) rfl
set_option maxRecDepth 8000 in
theorem m_1268 : Jvm.Cond.code ⟨"AtlasDeskModel", "edition", "()I"⟩ prog_13_method_17_code 3 (some .int) ∈ mWs := mWs_in (tl_5 (List.mem_of_getElem? (i := 239) rfl)) rfl
theorem m_1269 : Jvm.Cond.methodLink "AtlasDeskLaw" 80 ⟨"AtlasDeskModel", "tile", "(IIII)I"⟩ ∈ mWs := mWs_in (tl_6 (List.mem_of_getElem? (i := 0) (by decide +kernel))) rfl
theorem m_1270 : Jvm.Cond.instanceMethod ⟨"AtlasDeskModel", "tile", "(IIII)I"⟩ ∈ mWs := mWs_in (tl_6 (List.mem_of_getElem? (i := 1) (by decide +kernel))) rfl
theorem m_1271 : Jvm.Cond.selects "AtlasDeskModel" ⟨"AtlasDeskModel", "tile", "(IIII)I"⟩ ⟨"AtlasDeskModel", "tile", "(IIII)I"⟩ ∈ mWs := mWs_in (tl_6 (List.mem_of_getElem? (i := 2) (by decide +kernel))) rfl
set_option maxRecDepth 8000 in
theorem m_1272 : Jvm.Cond.code ⟨"AtlasDeskModel", "tile", "(IIII)I"⟩ prog_13_method_38_code 7 (some .int) ∈ mWs := mWs_in (tl_6 (List.mem_of_getElem? (i := 3) rfl)) rfl
theorem m_1273 : Jvm.Cond.methodLink "AtlasDeskModel" 260 ⟨"AtlasDeskModel", "slotOf", "(I)I"⟩ ∈ mWs := mWs_in (tl_6 (List.mem_of_getElem? (i := 4) (by decide +kernel))) rfl
theorem m_1275 : Jvm.Cond.instanceMethod ⟨"AtlasDeskModel", "slotOf", "(I)I"⟩ ∈ mWs := mWs_in (tl_6 (List.mem_of_getElem? (i := 6) (by decide +kernel))) rfl
set_option maxRecDepth 8000 in
theorem m_1276 : Jvm.Cond.code ⟨"AtlasDeskModel", "slotOf", "(I)I"⟩ prog_13_method_18_code 2 (some .int) ∈ mWs := mWs_in (tl_6 (List.mem_of_getElem? (i := 7) rfl)) rfl
theorem m_1277 : Jvm.Cond.methodLink "AtlasDeskModel" 264 ⟨"AtlasDeskModel", "makeTile", "(IIII)V"⟩ ∈ mWs := mWs_in (tl_6 (List.mem_of_getElem? (i := 8) (by decide +kernel))) rfl
theorem m_1279 : Jvm.Cond.instanceMethod ⟨"AtlasDeskModel", "makeTile", "(IIII)V"⟩ ∈ mWs := mWs_in (tl_6 (List.mem_of_getElem? (i := 10) (by decide +kernel))) rfl
set_option maxRecDepth 8000 in
theorem m_1280 : Jvm.Cond.code ⟨"AtlasDeskModel", "makeTile", "(IIII)V"⟩ prog_13_method_37_code 8 none ∈ mWs := mWs_in (tl_6 (List.mem_of_getElem? (i := 11) rfl)) rfl
theorem m_1281 : Jvm.Cond.methodLink "AtlasDeskModel" 253 ⟨"AtlasDeskModel", "reduce", "(IIII)V"⟩ ∈ mWs := mWs_in (tl_6 (List.mem_of_getElem? (i := 12) (by decide +kernel))) rfl
theorem m_1283 : Jvm.Cond.instanceMethod ⟨"AtlasDeskModel", "reduce", "(IIII)V"⟩ ∈ mWs := mWs_in (tl_6 (List.mem_of_getElem? (i := 14) (by decide +kernel))) rfl
set_option maxRecDepth 8000 in
theorem m_1284 : Jvm.Cond.code ⟨"AtlasDeskModel", "reduce", "(IIII)V"⟩ prog_13_method_32_code 9 none ∈ mWs := mWs_in (tl_6 (List.mem_of_getElem? (i := 15) rfl)) rfl
theorem m_1285 : Jvm.Cond.methodLink "AtlasDeskModel" 227 ⟨"AtlasDeskModel", "simplify", "()V"⟩ ∈ mWs := mWs_in (tl_6 (List.mem_of_getElem? (i := 16) (by decide +kernel))) rfl
theorem m_1287 : Jvm.Cond.instanceMethod ⟨"AtlasDeskModel", "simplify", "()V"⟩ ∈ mWs := mWs_in (tl_6 (List.mem_of_getElem? (i := 18) (by decide +kernel))) rfl
set_option maxRecDepth 8000 in
theorem m_1288 : Jvm.Cond.code ⟨"AtlasDeskModel", "simplify", "()V"⟩ prog_13_method_21_code 6 none ∈ mWs := mWs_in (tl_6 (List.mem_of_getElem? (i := 19) rfl)) rfl
theorem m_1289 : Jvm.Cond.methodLink "AtlasDeskModel" 194 ⟨"AtlasDeskModel", "farthest", "(II)I"⟩ ∈ mWs := mWs_in (tl_6 (List.mem_of_getElem? (i := 20) (by decide +kernel))) rfl
theorem m_1291 : Jvm.Cond.instanceMethod ⟨"AtlasDeskModel", "farthest", "(II)I"⟩ ∈ mWs := mWs_in (tl_6 (List.mem_of_getElem? (i := 22) (by decide +kernel))) rfl
set_option maxRecDepth 8000 in
theorem m_1292 : Jvm.Cond.code ⟨"AtlasDeskModel", "farthest", "(II)I"⟩ prog_13_method_20_code 10 (some .int) ∈ mWs := mWs_in (tl_6 (List.mem_of_getElem? (i := 23) rfl)) rfl
theorem m_1293 : Jvm.Cond.methodLink "AtlasDeskModel" 185 ⟨"AtlasDeskModel", "farness", "(III)J"⟩ ∈ mWs := mWs_in (tl_6 (List.mem_of_getElem? (i := 24) (by decide +kernel))) rfl
theorem m_1295 : Jvm.Cond.instanceMethod ⟨"AtlasDeskModel", "farness", "(III)J"⟩ ∈ mWs := mWs_in (tl_6 (List.mem_of_getElem? (i := 26) (by decide +kernel))) rfl
set_option maxRecDepth 8000 in
theorem m_1296 : Jvm.Cond.code ⟨"AtlasDeskModel", "farness", "(III)J"⟩ prog_13_method_19_code 14 (some .long) ∈ mWs := mWs_in (tl_6 (List.mem_of_getElem? (i := 27) rfl)) rfl
theorem m_1297 : Jvm.Cond.constantLong "AtlasDeskModel" 189 (4) ∈ mWs := mWs_in (tl_6 (List.mem_of_getElem? (i := 28) (by decide +kernel))) rfl
theorem m_1298 : Jvm.Cond.methodLink "AtlasDeskModel" 230 ⟨"AtlasDeskModel", "once", "(Z)V"⟩ ∈ mWs := mWs_in (tl_6 (List.mem_of_getElem? (i := 29) (by decide +kernel))) rfl
theorem m_1300 : Jvm.Cond.instanceMethod ⟨"AtlasDeskModel", "once", "(Z)V"⟩ ∈ mWs := mWs_in (tl_6 (List.mem_of_getElem? (i := 31) (by decide +kernel))) rfl
set_option maxRecDepth 8000 in
theorem m_1301 : Jvm.Cond.code ⟨"AtlasDeskModel", "once", "(Z)V"⟩ prog_13_method_24_code 3 none ∈ mWs := mWs_in (tl_6 (List.mem_of_getElem? (i := 32) rfl)) rfl
theorem m_1302 : Jvm.Cond.methodLink "AtlasDeskModel" 200 ⟨"AtlasDeskModel", "put", "(IIZ)V"⟩ ∈ mWs := mWs_in (tl_6 (List.mem_of_getElem? (i := 33) (by decide +kernel))) rfl
theorem m_1304 : Jvm.Cond.instanceMethod ⟨"AtlasDeskModel", "put", "(IIZ)V"⟩ ∈ mWs := mWs_in (tl_6 (List.mem_of_getElem? (i := 35) (by decide +kernel))) rfl
set_option maxRecDepth 8000 in
theorem m_1305 : Jvm.Cond.code ⟨"AtlasDeskModel", "put", "(IIZ)V"⟩ prog_13_method_22_code 4 none ∈ mWs := mWs_in (tl_6 (List.mem_of_getElem? (i := 36) rfl)) rfl
theorem m_1306 : Jvm.Cond.methodLink "AtlasDeskModel" 204 ⟨"AtlasDeskModel", "takeWritten", "()V"⟩ ∈ mWs := mWs_in (tl_6 (List.mem_of_getElem? (i := 37) (by decide +kernel))) rfl
theorem m_1308 : Jvm.Cond.instanceMethod ⟨"AtlasDeskModel", "takeWritten", "()V"⟩ ∈ mWs := mWs_in (tl_6 (List.mem_of_getElem? (i := 39) (by decide +kernel))) rfl
set_option maxRecDepth 8000 in
theorem m_1309 : Jvm.Cond.code ⟨"AtlasDeskModel", "takeWritten", "()V"⟩ prog_13_method_23_code 2 none ∈ mWs := mWs_in (tl_6 (List.mem_of_getElem? (i := 40) rfl)) rfl
theorem m_1310 : Jvm.Cond.methodLink "AtlasDeskModel" 217 ⟨"AtlasDeskModel", "inside", "(III)Z"⟩ ∈ mWs := mWs_in (tl_6 (List.mem_of_getElem? (i := 41) (by decide +kernel))) rfl
theorem m_1312 : Jvm.Cond.instanceMethod ⟨"AtlasDeskModel", "inside", "(III)Z"⟩ ∈ mWs := mWs_in (tl_6 (List.mem_of_getElem? (i := 43) (by decide +kernel))) rfl
set_option maxRecDepth 8000 in
theorem m_1313 : Jvm.Cond.code ⟨"AtlasDeskModel", "inside", "(III)Z"⟩ prog_13_method_26_code 4 (some .boolean) ∈ mWs := mWs_in (tl_6 (List.mem_of_getElem? (i := 44) rfl)) rfl
theorem m_1314 : Jvm.Cond.methodLink "AtlasDeskModel" 234 ⟨"AtlasDeskModel", "cutRing", "(II)V"⟩ ∈ mWs := mWs_in (tl_6 (List.mem_of_getElem? (i := 45) (by decide +kernel))) rfl
theorem m_1316 : Jvm.Cond.instanceMethod ⟨"AtlasDeskModel", "cutRing", "(II)V"⟩ ∈ mWs := mWs_in (tl_6 (List.mem_of_getElem? (i := 47) (by decide +kernel))) rfl
set_option maxRecDepth 8000 in
theorem m_1317 : Jvm.Cond.code ⟨"AtlasDeskModel", "cutRing", "(II)V"⟩ prog_13_method_31_code 6 none ∈ mWs := mWs_in (tl_6 (List.mem_of_getElem? (i := 48) rfl)) rfl
theorem m_1318 : Jvm.Cond.methodLink "AtlasDeskModel" 220 ⟨"AtlasDeskModel", "putBorder", "(IIIIZ)V"⟩ ∈ mWs := mWs_in (tl_6 (List.mem_of_getElem? (i := 49) (by decide +kernel))) rfl
theorem m_1320 : Jvm.Cond.instanceMethod ⟨"AtlasDeskModel", "putBorder", "(IIIIZ)V"⟩ ∈ mWs := mWs_in (tl_6 (List.mem_of_getElem? (i := 51) (by decide +kernel))) rfl
set_option maxRecDepth 8000 in
theorem m_1321 : Jvm.Cond.code ⟨"AtlasDeskModel", "putBorder", "(IIIIZ)V"⟩ prog_13_method_29_code 6 none ∈ mWs := mWs_in (tl_6 (List.mem_of_getElem? (i := 52) rfl)) rfl
theorem m_1322 : Jvm.Cond.methodLink "AtlasDeskModel" 213 ⟨"AtlasDeskModel", "cutAt", "(IIIII)I"⟩ ∈ mWs := mWs_in (tl_6 (List.mem_of_getElem? (i := 53) (by decide +kernel))) rfl
theorem m_1323 : Jvm.Cond.static ⟨"AtlasDeskModel", "cutAt", "(IIIII)I"⟩ ∈ mWs := mWs_in (tl_6 (List.mem_of_getElem? (i := 54) (by decide +kernel))) rfl
set_option maxRecDepth 8000 in
theorem m_1324 : Jvm.Cond.code ⟨"AtlasDeskModel", "cutAt", "(IIIII)I"⟩ prog_13_method_28_code 9 (some .int) ∈ mWs := mWs_in (tl_6 (List.mem_of_getElem? (i := 55) rfl)) rfl
theorem m_1325 : Jvm.Cond.constantLong "AtlasDeskModel" 207 (2) ∈ mWs := mWs_in (tl_6 (List.mem_of_getElem? (i := 56) (by decide +kernel))) rfl
theorem m_1326 : Jvm.Cond.methodLink "AtlasDeskModel" 209 ⟨"AtlasDeskModel", "floor", "(JJ)J"⟩ ∈ mWs := mWs_in (tl_6 (List.mem_of_getElem? (i := 57) (by decide +kernel))) rfl
theorem m_1327 : Jvm.Cond.static ⟨"AtlasDeskModel", "floor", "(JJ)J"⟩ ∈ mWs := mWs_in (tl_6 (List.mem_of_getElem? (i := 58) (by decide +kernel))) rfl
set_option maxRecDepth 8000 in
theorem m_1328 : Jvm.Cond.code ⟨"AtlasDeskModel", "floor", "(JJ)J"⟩ prog_13_method_27_code 6 (some .long) ∈ mWs := mWs_in (tl_6 (List.mem_of_getElem? (i := 59) rfl)) rfl
theorem m_1329 : Jvm.Cond.methodLink "AtlasDeskModel" 237 ⟨"AtlasDeskModel", "cutLine", "(II)V"⟩ ∈ mWs := mWs_in (tl_6 (List.mem_of_getElem? (i := 60) (by decide +kernel))) rfl
theorem m_1331 : Jvm.Cond.instanceMethod ⟨"AtlasDeskModel", "cutLine", "(II)V"⟩ ∈ mWs := mWs_in (tl_6 (List.mem_of_getElem? (i := 62) (by decide +kernel))) rfl
set_option maxRecDepth 8000 in
theorem m_1332 : Jvm.Cond.code ⟨"AtlasDeskModel", "cutLine", "(II)V"⟩ prog_13_method_30_code 6 none ∈ mWs := mWs_in (tl_6 (List.mem_of_getElem? (i := 63) rfl)) rfl
theorem m_1333 : Jvm.Cond.methodLink "AtlasDeskModel" 224 ⟨"AtlasDeskModel", "dropSingles", "()V"⟩ ∈ mWs := mWs_in (tl_6 (List.mem_of_getElem? (i := 64) (by decide +kernel))) rfl
theorem m_1335 : Jvm.Cond.instanceMethod ⟨"AtlasDeskModel", "dropSingles", "()V"⟩ ∈ mWs := mWs_in (tl_6 (List.mem_of_getElem? (i := 66) (by decide +kernel))) rfl
set_option maxRecDepth 8000 in
theorem m_1336 : Jvm.Cond.code ⟨"AtlasDeskModel", "dropSingles", "()V"⟩ prog_13_method_25_code 3 none ∈ mWs := mWs_in (tl_6 (List.mem_of_getElem? (i := 67) rfl)) rfl
theorem m_1337 : Jvm.Cond.methodLink "AtlasDeskModel" 257 ⟨"AtlasDeskModel", "writeFeature", "(IIII)V"⟩ ∈ mWs := mWs_in (tl_6 (List.mem_of_getElem? (i := 68) (by decide +kernel))) rfl
theorem m_1339 : Jvm.Cond.instanceMethod ⟨"AtlasDeskModel", "writeFeature", "(IIII)V"⟩ ∈ mWs := mWs_in (tl_6 (List.mem_of_getElem? (i := 70) (by decide +kernel))) rfl
set_option maxRecDepth 8000 in
theorem m_1340 : Jvm.Cond.code ⟨"AtlasDeskModel", "writeFeature", "(IIII)V"⟩ prog_13_method_36_code 10 none ∈ mWs := mWs_in (tl_6 (List.mem_of_getElem? (i := 71) rfl)) rfl
theorem m_1341 : Jvm.Cond.methodLink "AtlasDeskModel" 247 ⟨"AtlasDeskModel", "countOut", "(I)V"⟩ ∈ mWs := mWs_in (tl_6 (List.mem_of_getElem? (i := 72) (by decide +kernel))) rfl
theorem m_1343 : Jvm.Cond.instanceMethod ⟨"AtlasDeskModel", "countOut", "(I)V"⟩ ∈ mWs := mWs_in (tl_6 (List.mem_of_getElem? (i := 74) (by decide +kernel))) rfl
set_option maxRecDepth 8000 in
theorem m_1344 : Jvm.Cond.code ⟨"AtlasDeskModel", "countOut", "(I)V"⟩ prog_13_method_34_code 3 none ∈ mWs := mWs_in (tl_6 (List.mem_of_getElem? (i := 75) rfl)) rfl
theorem m_1345 : Jvm.Cond.methodLink "AtlasDeskModel" 243 ⟨"AtlasDeskModel", "octetOut", "(I)V"⟩ ∈ mWs := mWs_in (tl_6 (List.mem_of_getElem? (i := 76) (by decide +kernel))) rfl
theorem m_1347 : Jvm.Cond.instanceMethod ⟨"AtlasDeskModel", "octetOut", "(I)V"⟩ ∈ mWs := mWs_in (tl_6 (List.mem_of_getElem? (i := 78) (by decide +kernel))) rfl
set_option maxRecDepth 8000 in
theorem m_1348 : Jvm.Cond.code ⟨"AtlasDeskModel", "octetOut", "(I)V"⟩ prog_13_method_33_code 2 none ∈ mWs := mWs_in (tl_6 (List.mem_of_getElem? (i := 79) rfl)) rfl
theorem m_1349 : Jvm.Cond.methodLink "AtlasDeskModel" 250 ⟨"AtlasDeskModel", "differenceOut", "(I)V"⟩ ∈ mWs := mWs_in (tl_6 (List.mem_of_getElem? (i := 80) (by decide +kernel))) rfl
theorem m_1351 : Jvm.Cond.instanceMethod ⟨"AtlasDeskModel", "differenceOut", "(I)V"⟩ ∈ mWs := mWs_in (tl_6 (List.mem_of_getElem? (i := 82) (by decide +kernel))) rfl
set_option maxRecDepth 8000 in
theorem m_1352 : Jvm.Cond.code ⟨"AtlasDeskModel", "differenceOut", "(I)V"⟩ prog_13_method_35_code 2 none ∈ mWs := mWs_in (tl_6 (List.mem_of_getElem? (i := 83) rfl)) rfl
theorem m_1353 : Jvm.Cond.methodLink "AtlasDeskLaw" 84 ⟨"AtlasDeskModel", "octet", "(I)I"⟩ ∈ mWs := mWs_in (tl_6 (List.mem_of_getElem? (i := 84) (by decide +kernel))) rfl
theorem m_1354 : Jvm.Cond.instanceMethod ⟨"AtlasDeskModel", "octet", "(I)I"⟩ ∈ mWs := mWs_in (tl_6 (List.mem_of_getElem? (i := 85) (by decide +kernel))) rfl
theorem m_1355 : Jvm.Cond.selects "AtlasDeskModel" ⟨"AtlasDeskModel", "octet", "(I)I"⟩ ⟨"AtlasDeskModel", "octet", "(I)I"⟩ ∈ mWs := mWs_in (tl_6 (List.mem_of_getElem? (i := 86) (by decide +kernel))) rfl
set_option maxRecDepth 8000 in
theorem m_1356 : Jvm.Cond.code ⟨"AtlasDeskModel", "octet", "(I)I"⟩ prog_13_method_39_code 2 (some .int) ∈ mWs := mWs_in (tl_6 (List.mem_of_getElem? (i := 87) rfl)) rfl
theorem m_1357 : Jvm.Cond.methodLink "AtlasDeskLaw" 88 ⟨"AtlasDeskModel", "region", "(IIIII)V"⟩ ∈ mWs := mWs_in (tl_6 (List.mem_of_getElem? (i := 88) (by decide +kernel))) rfl
theorem m_1358 : Jvm.Cond.instanceMethod ⟨"AtlasDeskModel", "region", "(IIIII)V"⟩ ∈ mWs := mWs_in (tl_6 (List.mem_of_getElem? (i := 89) (by decide +kernel))) rfl
theorem m_1359 : Jvm.Cond.selects "AtlasDeskModel" ⟨"AtlasDeskModel", "region", "(IIIII)V"⟩ ⟨"AtlasDeskModel", "region", "(IIIII)V"⟩ ∈ mWs := mWs_in (tl_6 (List.mem_of_getElem? (i := 90) (by decide +kernel))) rfl
set_option maxRecDepth 8000 in
theorem m_1360 : Jvm.Cond.code ⟨"AtlasDeskModel", "region", "(IIIII)V"⟩ prog_13_method_40_code 7 none ∈ mWs := mWs_in (tl_6 (List.mem_of_getElem? (i := 91) rfl)) rfl
theorem m_1361 : Jvm.Cond.methodLink "AtlasDeskLaw" 92 ⟨"AtlasDeskModel", "extract", "(I)I"⟩ ∈ mWs := mWs_in (tl_6 (List.mem_of_getElem? (i := 92) (by decide +kernel))) rfl
theorem m_1362 : Jvm.Cond.instanceMethod ⟨"AtlasDeskModel", "extract", "(I)I"⟩ ∈ mWs := mWs_in (tl_6 (List.mem_of_getElem? (i := 93) (by decide +kernel))) rfl
theorem m_1363 : Jvm.Cond.selects "AtlasDeskModel" ⟨"AtlasDeskModel", "extract", "(I)I"⟩ ⟨"AtlasDeskModel", "extract", "(I)I"⟩ ∈ mWs := mWs_in (tl_6 (List.mem_of_getElem? (i := 94) (by decide +kernel))) rfl
set_option maxRecDepth 8000 in
theorem m_1364 : Jvm.Cond.code ⟨"AtlasDeskModel", "extract", "(I)I"⟩ prog_13_method_50_code 2 (some .int) ∈ mWs := mWs_in (tl_6 (List.mem_of_getElem? (i := 95) rfl)) rfl
theorem m_1365 : Jvm.Cond.methodLink "AtlasDeskModel" 298 ⟨"AtlasDeskModel", "makePack", "(II)Z"⟩ ∈ mWs := mWs_in (tl_6 (List.mem_of_getElem? (i := 96) (by decide +kernel))) rfl
theorem m_1367 : Jvm.Cond.instanceMethod ⟨"AtlasDeskModel", "makePack", "(II)Z"⟩ ∈ mWs := mWs_in (tl_6 (List.mem_of_getElem? (i := 98) (by decide +kernel))) rfl
set_option maxRecDepth 8000 in
theorem m_1368 : Jvm.Cond.code ⟨"AtlasDeskModel", "makePack", "(II)Z"⟩ prog_13_method_48_code 9 (some .boolean) ∈ mWs := mWs_in (tl_6 (List.mem_of_getElem? (i := 99) rfl)) rfl
theorem m_1369 : Jvm.Cond.methodLink "AtlasDeskModel" 289 ⟨"AtlasDeskModel", "inRegion", "(IIII)Z"⟩ ∈ mWs := mWs_in (tl_6 (List.mem_of_getElem? (i := 100) (by decide +kernel))) rfl
theorem m_1371 : Jvm.Cond.instanceMethod ⟨"AtlasDeskModel", "inRegion", "(IIII)Z"⟩ ∈ mWs := mWs_in (tl_6 (List.mem_of_getElem? (i := 102) (by decide +kernel))) rfl
set_option maxRecDepth 8000 in
theorem m_1372 : Jvm.Cond.code ⟨"AtlasDeskModel", "inRegion", "(IIII)Z"⟩ prog_13_method_44_code 5 (some .boolean) ∈ mWs := mWs_in (tl_6 (List.mem_of_getElem? (i := 103) rfl)) rfl
theorem m_1373 : Jvm.Cond.methodLink "AtlasDeskModel" 292 ⟨"AtlasDeskModel", "addTile", "(IIII)Z"⟩ ∈ mWs := mWs_in (tl_6 (List.mem_of_getElem? (i := 104) (by decide +kernel))) rfl
theorem m_1375 : Jvm.Cond.instanceMethod ⟨"AtlasDeskModel", "addTile", "(IIII)Z"⟩ ∈ mWs := mWs_in (tl_6 (List.mem_of_getElem? (i := 106) (by decide +kernel))) rfl
set_option maxRecDepth 8000 in
theorem m_1376 : Jvm.Cond.code ⟨"AtlasDeskModel", "addTile", "(IIII)Z"⟩ prog_13_method_46_code 8 (some .boolean) ∈ mWs := mWs_in (tl_6 (List.mem_of_getElem? (i := 107) rfl)) rfl
theorem m_1377 : Jvm.Cond.methodLink "AtlasDeskModel" 283 ⟨"AtlasDeskModel", "sameAs", "(I)I"⟩ ∈ mWs := mWs_in (tl_6 (List.mem_of_getElem? (i := 108) (by decide +kernel))) rfl
theorem m_1379 : Jvm.Cond.instanceMethod ⟨"AtlasDeskModel", "sameAs", "(I)I"⟩ ∈ mWs := mWs_in (tl_6 (List.mem_of_getElem? (i := 110) (by decide +kernel))) rfl
set_option maxRecDepth 8000 in
theorem m_1380 : Jvm.Cond.code ⟨"AtlasDeskModel", "sameAs", "(I)I"⟩ prog_13_method_45_code 6 (some .int) ∈ mWs := mWs_in (tl_6 (List.mem_of_getElem? (i := 111) rfl)) rfl
theorem m_1381 : Jvm.Cond.methodLink "AtlasDeskModel" 295 ⟨"AtlasDeskModel", "addMembers", "(II)V"⟩ ∈ mWs := mWs_in (tl_6 (List.mem_of_getElem? (i := 112) (by decide +kernel))) rfl
theorem m_1383 : Jvm.Cond.instanceMethod ⟨"AtlasDeskModel", "addMembers", "(II)V"⟩ ∈ mWs := mWs_in (tl_6 (List.mem_of_getElem? (i := 114) (by decide +kernel))) rfl
set_option maxRecDepth 8000 in
theorem m_1384 : Jvm.Cond.code ⟨"AtlasDeskModel", "addMembers", "(II)V"⟩ prog_13_method_47_code 6 none ∈ mWs := mWs_in (tl_6 (List.mem_of_getElem? (i := 115) rfl)) rfl
theorem m_1385 : Jvm.Cond.methodLink "AtlasDeskModel" 286 ⟨"AtlasDeskModel", "meetsRegion", "(I)Z"⟩ ∈ mWs := mWs_in (tl_6 (List.mem_of_getElem? (i := 116) (by decide +kernel))) rfl
theorem m_1387 : Jvm.Cond.instanceMethod ⟨"AtlasDeskModel", "meetsRegion", "(I)Z"⟩ ∈ mWs := mWs_in (tl_6 (List.mem_of_getElem? (i := 118) (by decide +kernel))) rfl
set_option maxRecDepth 8000 in
theorem m_1388 : Jvm.Cond.code ⟨"AtlasDeskModel", "meetsRegion", "(I)Z"⟩ prog_13_method_43_code 4 (some .boolean) ∈ mWs := mWs_in (tl_6 (List.mem_of_getElem? (i := 119) rfl)) rfl
theorem m_1389 : Jvm.Cond.methodLink "AtlasDeskModel" 277 ⟨"AtlasDeskModel", "edgeMeets", "(III)Z"⟩ ∈ mWs := mWs_in (tl_6 (List.mem_of_getElem? (i := 120) (by decide +kernel))) rfl
theorem m_1391 : Jvm.Cond.instanceMethod ⟨"AtlasDeskModel", "edgeMeets", "(III)Z"⟩ ∈ mWs := mWs_in (tl_6 (List.mem_of_getElem? (i := 122) (by decide +kernel))) rfl
set_option maxRecDepth 8000 in
theorem m_1392 : Jvm.Cond.code ⟨"AtlasDeskModel", "edgeMeets", "(III)Z"⟩ prog_13_method_41_code 17 (some .boolean) ∈ mWs := mWs_in (tl_6 (List.mem_of_getElem? (i := 123) rfl)) rfl
theorem m_1393 : Jvm.Cond.methodLink "AtlasDeskModel" 280 ⟨"AtlasDeskModel", "holdsRegion", "(I)Z"⟩ ∈ mWs := mWs_in (tl_6 (List.mem_of_getElem? (i := 124) (by decide +kernel))) rfl
theorem m_1395 : Jvm.Cond.instanceMethod ⟨"AtlasDeskModel", "holdsRegion", "(I)Z"⟩ ∈ mWs := mWs_in (tl_6 (List.mem_of_getElem? (i := 126) (by decide +kernel))) rfl
set_option maxRecDepth 8000 in
theorem m_1396 : Jvm.Cond.code ⟨"AtlasDeskModel", "holdsRegion", "(I)Z"⟩ prog_13_method_42_code 19 (some .boolean) ∈ mWs := mWs_in (tl_6 (List.mem_of_getElem? (i := 127) rfl)) rfl
theorem m_1397 : Jvm.Cond.methodLink "AtlasDeskModel" 302 ⟨"AtlasDeskModel", "copyPack", "(II)V"⟩ ∈ mWs := mWs_in (tl_6 (List.mem_of_getElem? (i := 128) (by decide +kernel))) rfl
theorem m_1399 : Jvm.Cond.instanceMethod ⟨"AtlasDeskModel", "copyPack", "(II)V"⟩ ∈ mWs := mWs_in (tl_6 (List.mem_of_getElem? (i := 130) (by decide +kernel))) rfl
set_option maxRecDepth 8000 in
theorem m_1400 : Jvm.Cond.code ⟨"AtlasDeskModel", "copyPack", "(II)V"⟩ prog_13_method_49_code 4 none ∈ mWs := mWs_in (tl_6 (List.mem_of_getElem? (i := 131) rfl)) rfl
theorem m_1401 : Jvm.Cond.methodLink "AtlasDeskLaw" 96 ⟨"AtlasDeskModel", "packed", "(II)I"⟩ ∈ mWs := mWs_in (tl_6 (List.mem_of_getElem? (i := 132) (by decide +kernel))) rfl
theorem m_1402 : Jvm.Cond.instanceMethod ⟨"AtlasDeskModel", "packed", "(II)I"⟩ ∈ mWs := mWs_in (tl_6 (List.mem_of_getElem? (i := 133) (by decide +kernel))) rfl
theorem m_1403 : Jvm.Cond.selects "AtlasDeskModel" ⟨"AtlasDeskModel", "packed", "(II)I"⟩ ⟨"AtlasDeskModel", "packed", "(II)I"⟩ ∈ mWs := mWs_in (tl_6 (List.mem_of_getElem? (i := 134) (by decide +kernel))) rfl
set_option maxRecDepth 8000 in
theorem m_1404 : Jvm.Cond.code ⟨"AtlasDeskModel", "packed", "(II)I"⟩ prog_13_method_51_code 3 (some .int) ∈ mWs := mWs_in (tl_6 (List.mem_of_getElem? (i := 135) rfl)) rfl
theorem m_1405 : Jvm.Cond.methodLink "AtlasDeskLaw" 101 ⟨"AtlasDeskModel", "take", "(III)I"⟩ ∈ mWs := mWs_in (tl_6 (List.mem_of_getElem? (i := 136) (by decide +kernel))) rfl
theorem m_1406 : Jvm.Cond.instanceMethod ⟨"AtlasDeskModel", "take", "(III)I"⟩ ∈ mWs := mWs_in (tl_6 (List.mem_of_getElem? (i := 137) (by decide +kernel))) rfl
theorem m_1407 : Jvm.Cond.selects "AtlasDeskModel" ⟨"AtlasDeskModel", "take", "(III)I"⟩ ⟨"AtlasDeskModel", "take", "(III)I"⟩ ∈ mWs := mWs_in (tl_6 (List.mem_of_getElem? (i := 138) (by decide +kernel))) rfl
set_option maxRecDepth 8000 in
theorem m_1408 : Jvm.Cond.code ⟨"AtlasDeskModel", "take", "(III)I"⟩ prog_13_method_53_code 6 (some .int) ∈ mWs := mWs_in (tl_6 (List.mem_of_getElem? (i := 139) rfl)) rfl
theorem m_1409 : Jvm.Cond.methodLink "AtlasDeskModel" 305 ⟨"AtlasDeskModel", "tileIn", "(IIII)I"⟩ ∈ mWs := mWs_in (tl_6 (List.mem_of_getElem? (i := 140) (by decide +kernel))) rfl
theorem m_1411 : Jvm.Cond.instanceMethod ⟨"AtlasDeskModel", "tileIn", "(IIII)I"⟩ ∈ mWs := mWs_in (tl_6 (List.mem_of_getElem? (i := 142) (by decide +kernel))) rfl
set_option maxRecDepth 8000 in
theorem m_1412 : Jvm.Cond.code ⟨"AtlasDeskModel", "tileIn", "(IIII)I"⟩ prog_13_method_52_code 6 (some .int) ∈ mWs := mWs_in (tl_6 (List.mem_of_getElem? (i := 143) rfl)) rfl
theorem m_1413 : Jvm.Cond.methodLink "AtlasDeskLaw" 105 ⟨"AtlasDeskModel", "pack", "(I)I"⟩ ∈ mWs := mWs_in (tl_6 (List.mem_of_getElem? (i := 144) (by decide +kernel))) rfl
theorem m_1414 : Jvm.Cond.instanceMethod ⟨"AtlasDeskModel", "pack", "(I)I"⟩ ∈ mWs := mWs_in (tl_6 (List.mem_of_getElem? (i := 145) (by decide +kernel))) rfl
theorem m_1415 : Jvm.Cond.selects "AtlasDeskModel" ⟨"AtlasDeskModel", "pack", "(I)I"⟩ ⟨"AtlasDeskModel", "pack", "(I)I"⟩ ∈ mWs := mWs_in (tl_6 (List.mem_of_getElem? (i := 146) (by decide +kernel))) rfl
set_option maxRecDepth 8000 in
theorem m_1416 : Jvm.Cond.code ⟨"AtlasDeskModel", "pack", "(I)I"⟩ prog_13_method_54_code 4 (some .int) ∈ mWs := mWs_in (tl_6 (List.mem_of_getElem? (i := 147) rfl)) rfl
theorem m_1417 : Jvm.Cond.methodLink "AtlasDeskLaw" 109 ⟨"AtlasDeskModel", "difference", "(II)I"⟩ ∈ mWs := mWs_in (tl_6 (List.mem_of_getElem? (i := 148) (by decide +kernel))) rfl
theorem m_1418 : Jvm.Cond.instanceMethod ⟨"AtlasDeskModel", "difference", "(II)I"⟩ ∈ mWs := mWs_in (tl_6 (List.mem_of_getElem? (i := 149) (by decide +kernel))) rfl
theorem m_1419 : Jvm.Cond.selects "AtlasDeskModel" ⟨"AtlasDeskModel", "difference", "(II)I"⟩ ⟨"AtlasDeskModel", "difference", "(II)I"⟩ ∈ mWs := mWs_in (tl_6 (List.mem_of_getElem? (i := 150) (by decide +kernel))) rfl
set_option maxRecDepth 8000 in
theorem m_1420 : Jvm.Cond.code ⟨"AtlasDeskModel", "difference", "(II)I"⟩ prog_13_method_56_code 3 (some .int) ∈ mWs := mWs_in (tl_6 (List.mem_of_getElem? (i := 151) rfl)) rfl
theorem m_1421 : Jvm.Cond.methodLink "AtlasDeskModel" 309 ⟨"AtlasDeskModel", "told", "(I)I"⟩ ∈ mWs := mWs_in (tl_6 (List.mem_of_getElem? (i := 152) (by decide +kernel))) rfl
theorem m_1423 : Jvm.Cond.instanceMethod ⟨"AtlasDeskModel", "told", "(I)I"⟩ ∈ mWs := mWs_in (tl_6 (List.mem_of_getElem? (i := 154) (by decide +kernel))) rfl
set_option maxRecDepth 8000 in
theorem m_1424 : Jvm.Cond.code ⟨"AtlasDeskModel", "told", "(I)I"⟩ prog_13_method_58_code 8 (some .int) ∈ mWs := mWs_in (tl_6 (List.mem_of_getElem? (i := 155) rfl)) rfl
theorem m_1425 : Jvm.Cond.methodLink "AtlasDeskModel" 312 ⟨"AtlasDeskModel", "ahead", "(IIII)Z"⟩ ∈ mWs := mWs_in (tl_6 (List.mem_of_getElem? (i := 156) (by decide +kernel))) rfl
theorem m_1427 : Jvm.Cond.instanceMethod ⟨"AtlasDeskModel", "ahead", "(IIII)Z"⟩ ∈ mWs := mWs_in (tl_6 (List.mem_of_getElem? (i := 158) (by decide +kernel))) rfl
set_option maxRecDepth 8000 in
theorem m_1428 : Jvm.Cond.code ⟨"AtlasDeskModel", "ahead", "(IIII)Z"⟩ prog_13_method_57_code 10 (some .boolean) ∈ mWs := mWs_in (tl_6 (List.mem_of_getElem? (i := 159) rfl)) rfl
theorem m_1429 : Jvm.Cond.methodLink "AtlasDeskModel" 315 ⟨"AtlasDeskModel", "sameBytes", "(IIII)Z"⟩ ∈ mWs := mWs_in (tl_6 (List.mem_of_getElem? (i := 160) (by decide +kernel))) rfl
theorem m_1431 : Jvm.Cond.instanceMethod ⟨"AtlasDeskModel", "sameBytes", "(IIII)Z"⟩ ∈ mWs := mWs_in (tl_6 (List.mem_of_getElem? (i := 162) (by decide +kernel))) rfl
set_option maxRecDepth 8000 in
theorem m_1432 : Jvm.Cond.code ⟨"AtlasDeskModel", "sameBytes", "(IIII)Z"⟩ prog_13_method_55_code 8 (some .boolean) ∈ mWs := mWs_in (tl_6 (List.mem_of_getElem? (i := 163) rfl)) rfl
theorem m_1433 : Jvm.Cond.methodLink "AtlasDeskLaw" 113 ⟨"AtlasDeskModel", "differs", "(II)I"⟩ ∈ mWs := mWs_in (tl_6 (List.mem_of_getElem? (i := 164) (by decide +kernel))) rfl
theorem m_1434 : Jvm.Cond.instanceMethod ⟨"AtlasDeskModel", "differs", "(II)I"⟩ ∈ mWs := mWs_in (tl_6 (List.mem_of_getElem? (i := 165) (by decide +kernel))) rfl
theorem m_1435 : Jvm.Cond.selects "AtlasDeskModel" ⟨"AtlasDeskModel", "differs", "(II)I"⟩ ⟨"AtlasDeskModel", "differs", "(II)I"⟩ ∈ mWs := mWs_in (tl_6 (List.mem_of_getElem? (i := 166) (by decide +kernel))) rfl
set_option maxRecDepth 8000 in
theorem m_1436 : Jvm.Cond.code ⟨"AtlasDeskModel", "differs", "(II)I"⟩ prog_13_method_59_code 4 (some .int) ∈ mWs := mWs_in (tl_6 (List.mem_of_getElem? (i := 167) rfl)) rfl
theorem m_1437 : Jvm.Cond.methodLink "AtlasDeskLaw" 117 ⟨"AtlasDeskModel", "apply", "()I"⟩ ∈ mWs := mWs_in (tl_6 (List.mem_of_getElem? (i := 168) (by decide +kernel))) rfl
theorem m_1438 : Jvm.Cond.instanceMethod ⟨"AtlasDeskModel", "apply", "()I"⟩ ∈ mWs := mWs_in (tl_6 (List.mem_of_getElem? (i := 169) (by decide +kernel))) rfl
theorem m_1439 : Jvm.Cond.selects "AtlasDeskModel" ⟨"AtlasDeskModel", "apply", "()I"⟩ ⟨"AtlasDeskModel", "apply", "()I"⟩ ∈ mWs := mWs_in (tl_6 (List.mem_of_getElem? (i := 170) (by decide +kernel))) rfl
set_option maxRecDepth 8000 in
theorem m_1440 : Jvm.Cond.code ⟨"AtlasDeskModel", "apply", "()I"⟩ prog_13_method_61_code 1 (some .int) ∈ mWs := mWs_in (tl_6 (List.mem_of_getElem? (i := 171) rfl)) rfl
theorem m_1441 : Jvm.Cond.methodLink "AtlasDeskModel" 324 ⟨"AtlasDeskModel", "isBefore", "()Z"⟩ ∈ mWs := mWs_in (tl_6 (List.mem_of_getElem? (i := 172) (by decide +kernel))) rfl
theorem m_1443 : Jvm.Cond.instanceMethod ⟨"AtlasDeskModel", "isBefore", "()Z"⟩ ∈ mWs := mWs_in (tl_6 (List.mem_of_getElem? (i := 174) (by decide +kernel))) rfl
set_option maxRecDepth 8000 in
theorem m_1444 : Jvm.Cond.code ⟨"AtlasDeskModel", "isBefore", "()Z"⟩ prog_13_method_60_code 3 (some .boolean) ∈ mWs := mWs_in (tl_6 (List.mem_of_getElem? (i := 175) rfl)) rfl
theorem m_1445 : Jvm.Cond.methodLink "AtlasDeskLaw" 121 ⟨"AtlasDeskModel", "lookUp", "(JI)I"⟩ ∈ mWs := mWs_in (tl_6 (List.mem_of_getElem? (i := 176) (by decide +kernel))) rfl
theorem m_1446 : Jvm.Cond.instanceMethod ⟨"AtlasDeskModel", "lookUp", "(JI)I"⟩ ∈ mWs := mWs_in (tl_6 (List.mem_of_getElem? (i := 177) (by decide +kernel))) rfl
theorem m_1447 : Jvm.Cond.selects "AtlasDeskModel" ⟨"AtlasDeskModel", "lookUp", "(JI)I"⟩ ⟨"AtlasDeskModel", "lookUp", "(JI)I"⟩ ∈ mWs := mWs_in (tl_6 (List.mem_of_getElem? (i := 178) (by decide +kernel))) rfl
set_option maxRecDepth 8000 in
theorem m_1448 : Jvm.Cond.code ⟨"AtlasDeskModel", "lookUp", "(JI)I"⟩ prog_13_method_66_code 8 (some .int) ∈ mWs := mWs_in (tl_6 (List.mem_of_getElem? (i := 179) rfl)) rfl
theorem m_1449 : Jvm.Cond.methodLink "AtlasDeskModel" 337 ⟨"AtlasDeskModel", "startsWith", "(JJ)Z"⟩ ∈ mWs := mWs_in (tl_6 (List.mem_of_getElem? (i := 180) (by decide +kernel))) rfl
theorem m_1450 : Jvm.Cond.static ⟨"AtlasDeskModel", "startsWith", "(JJ)Z"⟩ ∈ mWs := mWs_in (tl_6 (List.mem_of_getElem? (i := 181) (by decide +kernel))) rfl
set_option maxRecDepth 8000 in
theorem m_1451 : Jvm.Cond.code ⟨"AtlasDeskModel", "startsWith", "(JJ)Z"⟩ prog_13_method_65_code 5 (some .boolean) ∈ mWs := mWs_in (tl_6 (List.mem_of_getElem? (i := 182) rfl)) rfl
theorem m_1452 : Jvm.Cond.methodLink "AtlasDeskModel" 329 ⟨"AtlasDeskModel", "letters", "(J)I"⟩ ∈ mWs := mWs_in (tl_6 (List.mem_of_getElem? (i := 183) (by decide +kernel))) rfl
theorem m_1453 : Jvm.Cond.static ⟨"AtlasDeskModel", "letters", "(J)I"⟩ ∈ mWs := mWs_in (tl_6 (List.mem_of_getElem? (i := 184) (by decide +kernel))) rfl
set_option maxRecDepth 8000 in
theorem m_1454 : Jvm.Cond.code ⟨"AtlasDeskModel", "letters", "(J)I"⟩ prog_13_method_62_code 4 (some .int) ∈ mWs := mWs_in (tl_6 (List.mem_of_getElem? (i := 185) rfl)) rfl
theorem m_1455 : Jvm.Cond.constantLong "AtlasDeskModel" 327 (255) ∈ mWs := mWs_in (tl_6 (List.mem_of_getElem? (i := 186) (by decide +kernel))) rfl
theorem m_1456 : Jvm.Cond.methodLink "AtlasDeskModel" 333 ⟨"AtlasDeskModel", "letter", "(JI)I"⟩ ∈ mWs := mWs_in (tl_6 (List.mem_of_getElem? (i := 187) (by decide +kernel))) rfl
theorem m_1457 : Jvm.Cond.static ⟨"AtlasDeskModel", "letter", "(JI)I"⟩ ∈ mWs := mWs_in (tl_6 (List.mem_of_getElem? (i := 188) (by decide +kernel))) rfl
set_option maxRecDepth 8000 in
theorem m_1458 : Jvm.Cond.code ⟨"AtlasDeskModel", "letter", "(JI)I"⟩ prog_13_method_63_code 3 (some .int) ∈ mWs := mWs_in (tl_6 (List.mem_of_getElem? (i := 189) rfl)) rfl
theorem m_1459 : Jvm.Cond.methodLink "AtlasDeskModel" 341 ⟨"AtlasDeskModel", "compared", "(JJ)I"⟩ ∈ mWs := mWs_in (tl_6 (List.mem_of_getElem? (i := 190) (by decide +kernel))) rfl
theorem m_1460 : Jvm.Cond.static ⟨"AtlasDeskModel", "compared", "(JJ)I"⟩ ∈ mWs := mWs_in (tl_6 (List.mem_of_getElem? (i := 191) (by decide +kernel))) rfl
set_option maxRecDepth 8000 in
theorem m_1461 : Jvm.Cond.code ⟨"AtlasDeskModel", "compared", "(JJ)I"⟩ prog_13_method_64_code 6 (some .int) ∈ mWs := mWs_in (tl_6 (List.mem_of_getElem? (i := 192) rfl)) rfl
theorem m_1462 : Jvm.Cond.methodLink "AtlasDeskLaw" 124 ⟨"AtlasDeskModel", "near", "(IIII)I"⟩ ∈ mWs := mWs_in (tl_6 (List.mem_of_getElem? (i := 193) (by decide +kernel))) rfl
theorem m_1463 : Jvm.Cond.instanceMethod ⟨"AtlasDeskModel", "near", "(IIII)I"⟩ ∈ mWs := mWs_in (tl_6 (List.mem_of_getElem? (i := 194) (by decide +kernel))) rfl
theorem m_1464 : Jvm.Cond.selects "AtlasDeskModel" ⟨"AtlasDeskModel", "near", "(IIII)I"⟩ ⟨"AtlasDeskModel", "near", "(IIII)I"⟩ ∈ mWs := mWs_in (tl_6 (List.mem_of_getElem? (i := 195) (by decide +kernel))) rfl
set_option maxRecDepth 8000 in
theorem m_1465 : Jvm.Cond.code ⟨"AtlasDeskModel", "near", "(IIII)I"⟩ prog_13_method_68_code 8 (some .int) ∈ mWs := mWs_in (tl_6 (List.mem_of_getElem? (i := 196) rfl)) rfl
theorem m_1466 : Jvm.Cond.methodLink "AtlasDeskModel" 345 ⟨"AtlasDeskModel", "nearer", "(IIII)Z"⟩ ∈ mWs := mWs_in (tl_6 (List.mem_of_getElem? (i := 197) (by decide +kernel))) rfl
theorem m_1468 : Jvm.Cond.instanceMethod ⟨"AtlasDeskModel", "nearer", "(IIII)Z"⟩ ∈ mWs := mWs_in (tl_6 (List.mem_of_getElem? (i := 199) (by decide +kernel))) rfl
set_option maxRecDepth 8000 in
theorem m_1469 : Jvm.Cond.code ⟨"AtlasDeskModel", "nearer", "(IIII)Z"⟩ prog_13_method_67_code 9 (some .boolean) ∈ mWs := mWs_in (tl_6 (List.mem_of_getElem? (i := 200) rfl)) rfl
theorem m_1470 : Jvm.Cond.constantLong "AtlasDeskLaw" 57 (4294967295) ∈ mWs := mWs_in (tl_6 (List.mem_of_getElem? (i := 201) (by decide +kernel))) rfl
