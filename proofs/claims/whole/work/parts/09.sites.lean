/-! sites: written by wip/whole/gen/sites.py -/
theorem in_FB : ∀ w ∈ u_ws "FactBinder" T_FB 3, w ∈ gB := by
  intro w hw
  have h : w ∈ [Cond.laysFinal "FactBinder" "FactBinder" "taxonomy" "LFactBinder$Taxonomy;", Cond.laysFinal "FactBinder" "FactBinder" "report" "LFactBinder$Report;", Cond.laysFinal "FactBinder" "FactBinder" "review" "LFactBinder$Review;"] := hw
  simp only [List.mem_cons, List.not_mem_nil, or_false] at h
  rcases h with rfl | rfl | rfl
  · exact k207
  · exact k209
  · exact k211
theorem ft_FB : gFt "FactBinder" T_FB 3 t_FB := ⟨by decide +kernel, by decide +kernel⟩
theorem in_Tax : ∀ w ∈ u_ws "FactBinder$Taxonomy" T_Tax 6, w ∈ gB := by
  intro w hw
  have h : w ∈ [Cond.laysFinal "FactBinder$Taxonomy" "FactBinder$Taxonomy" "documents" "LFactBinder$Documents;", Cond.laysFinal "FactBinder$Taxonomy" "FactBinder$Taxonomy" "concepts" "[LFactBinder$Concept;", Cond.lays "FactBinder$Taxonomy" "FactBinder$Taxonomy" "conceptCount" "I", Cond.laysFinal "FactBinder$Taxonomy" "FactBinder$Taxonomy" "arcs" "[LFactBinder$Arc;", Cond.lays "FactBinder$Taxonomy" "FactBinder$Taxonomy" "arcCount" "I", Cond.lays "FactBinder$Taxonomy" "FactBinder$Taxonomy" "setting" "LFactBinder$Setting;"] := hw
  simp only [List.mem_cons, List.not_mem_nil, or_false] at h
  rcases h with rfl | rfl | rfl | rfl | rfl | rfl
  · exact k84
  · exact k86
  · exact k88
  · exact k90
  · exact k92
  · exact k94
theorem ft_Tax : gFt "FactBinder$Taxonomy" T_Tax 6 t_Tax := ⟨by decide +kernel, by decide +kernel⟩
theorem in_Doc : ∀ w ∈ u_ws "FactBinder$Documents" T_Doc 3, w ∈ gB := by
  intro w hw
  have h : w ∈ [Cond.laysFinal "FactBinder$Documents" "FactBinder$Documents" "referred" "[I", Cond.lays "FactBinder$Documents" "FactBinder$Documents" "entries" "I", Cond.lays "FactBinder$Documents" "FactBinder$Documents" "reached" "I"] := hw
  simp only [List.mem_cons, List.not_mem_nil, or_false] at h
  rcases h with rfl | rfl | rfl
  · exact k38
  · exact k40
  · exact k42
theorem ft_Doc : gFt "FactBinder$Documents" T_Doc 3 t_Doc := ⟨by decide +kernel, by decide +kernel⟩
theorem in_Rep : ∀ w ∈ u_ws "FactBinder$Report" T_Rep 7, w ∈ gB := by
  intro w hw
  have h : w ∈ [Cond.laysFinal "FactBinder$Report" "FactBinder$Report" "contexts" "[LFactBinder$Context;", Cond.lays "FactBinder$Report" "FactBinder$Report" "contextCount" "I", Cond.laysFinal "FactBinder$Report" "FactBinder$Report" "units" "[LFactBinder$Unit;", Cond.lays "FactBinder$Report" "FactBinder$Report" "unitCount" "I", Cond.laysFinal "FactBinder$Report" "FactBinder$Report" "facts" "[LFactBinder$Fact;", Cond.lays "FactBinder$Report" "FactBinder$Report" "factCount" "I", Cond.laysFinal "FactBinder$Report" "FactBinder$Report" "numeral" "LFactBinder$Numeral;"] := hw
  simp only [List.mem_cons, List.not_mem_nil, or_false] at h
  rcases h with rfl | rfl | rfl | rfl | rfl | rfl | rfl
  · exact k137
  · exact k139
  · exact k141
  · exact k143
  · exact k145
  · exact k147
  · exact k149
theorem ft_Rep : gFt "FactBinder$Report" T_Rep 7 t_Rep := ⟨by decide +kernel, by decide +kernel⟩
theorem in_Num : ∀ w ∈ u_ws "FactBinder$Numeral" T_Num 2, w ∈ gB := by
  intro w hw
  have h : w ∈ [Cond.laysFinal "FactBinder$Numeral" "FactBinder$Numeral" "text" "[C", Cond.lays "FactBinder$Numeral" "FactBinder$Numeral" "length" "I"] := hw
  simp only [List.mem_cons, List.not_mem_nil, or_false] at h
  rcases h with rfl | rfl
  · exact k118
  · exact k120
theorem ft_Num : gFt "FactBinder$Numeral" T_Num 2 t_Num := ⟨by decide +kernel, by decide +kernel⟩
theorem in_Rev : ∀ w ∈ u_ws "FactBinder$Review" T_Rev 13, w ∈ gB := by
  intro w hw
  have h : w ∈ [Cond.laysFinal "FactBinder$Review" "FactBinder$Review" "taxonomy" "LFactBinder$Taxonomy;", Cond.laysFinal "FactBinder$Review" "FactBinder$Review" "report" "LFactBinder$Report;", Cond.laysFinal "FactBinder$Review" "FactBinder$Review" "arcCounts" "[Z", Cond.laysFinal "FactBinder$Review" "FactBinder$Review" "arcLeft" "[Z", Cond.laysFinal "FactBinder$Review" "FactBinder$Review" "faults" "[I", Cond.laysFinal "FactBinder$Review" "FactBinder$Review" "twins" "[I", Cond.laysFinal "FactBinder$Review" "FactBinder$Review" "ways" "[I", Cond.laysFinal "FactBinder$Review" "FactBinder$Review" "found" "[I", Cond.lays "FactBinder$Review" "FactBinder$Review" "foundCount" "I", Cond.lays "FactBinder$Review" "FactBinder$Review" "stale" "Z", Cond.lays "FactBinder$Review" "FactBinder$Review" "parts" "I", Cond.lays "FactBinder$Review" "FactBinder$Review" "total" "J", Cond.lays "FactBinder$Review" "FactBinder$Review" "hasVaguePart" "Z"] := hw
  simp only [List.mem_cons, List.not_mem_nil, or_false] at h
  rcases h with rfl | rfl | rfl | rfl | rfl | rfl | rfl | rfl | rfl | rfl | rfl | rfl | rfl
  · exact k176
  · exact k178
  · exact k180
  · exact k182
  · exact k184
  · exact k186
  · exact k188
  · exact k190
  · exact k192
  · exact k194
  · exact k196
  · exact k198
  · exact k200
theorem ft_Rev : gFt "FactBinder$Review" T_Rev 13 t_Rev := ⟨by decide +kernel, by decide +kernel⟩
theorem in_Con : ∀ w ∈ u_ws "FactBinder$Concept" T_Con 4, w ∈ gB := by
  intro w hw
  have h : w ∈ [Cond.laysFinal "FactBinder$Concept" "FactBinder$Concept" "document" "I", Cond.laysFinal "FactBinder$Concept" "FactBinder$Concept" "type" "I", Cond.laysFinal "FactBinder$Concept" "FactBinder$Concept" "balance" "I", Cond.laysFinal "FactBinder$Concept" "FactBinder$Concept" "period" "I"] := hw
  simp only [List.mem_cons, List.not_mem_nil, or_false] at h
  rcases h with rfl | rfl | rfl | rfl
  · exact k269
  · exact k271
  · exact k273
  · exact k275
theorem ft_Con : gFt "FactBinder$Concept" T_Con 4 t_Con := ⟨by decide +kernel, by decide +kernel⟩
theorem in_Set : ∀ w ∈ u_ws "FactBinder$Setting" T_Set 3, w ∈ gB := by
  intro w hw
  have h : w ∈ [Cond.laysFinal "FactBinder$Setting" "FactBinder$Setting" "role" "I", Cond.laysFinal "FactBinder$Setting" "FactBinder$Setting" "priority" "I", Cond.laysFinal "FactBinder$Setting" "FactBinder$Setting" "prohibits" "Z"] := hw
  simp only [List.mem_cons, List.not_mem_nil, or_false] at h
  rcases h with rfl | rfl | rfl
  · exact k63
  · exact k65
  · exact k67
theorem ft_Set : gFt "FactBinder$Setting" T_Set 3 t_Set := ⟨by decide +kernel, by decide +kernel⟩
theorem in_Arc : ∀ w ∈ u_ws "FactBinder$Arc" T_Arc 6, w ∈ gB := by
  intro w hw
  have h : w ∈ [Cond.laysFinal "FactBinder$Arc" "FactBinder$Arc" "document" "I", Cond.laysFinal "FactBinder$Arc" "FactBinder$Arc" "sort" "I", Cond.laysFinal "FactBinder$Arc" "FactBinder$Arc" "from" "I", Cond.laysFinal "FactBinder$Arc" "FactBinder$Arc" "to" "I", Cond.laysFinal "FactBinder$Arc" "FactBinder$Arc" "n" "I", Cond.laysFinal "FactBinder$Arc" "FactBinder$Arc" "setting" "LFactBinder$Setting;"] := hw
  simp only [List.mem_cons, List.not_mem_nil, or_false] at h
  rcases h with rfl | rfl | rfl | rfl | rfl | rfl
  · exact k319
  · exact k321
  · exact k323
  · exact k325
  · exact k327
  · exact k329
theorem ft_Arc : gFt "FactBinder$Arc" T_Arc 6 t_Arc := ⟨by decide +kernel, by decide +kernel⟩
theorem in_Ctx : ∀ w ∈ u_ws "FactBinder$Context" T_Ctx 4, w ∈ gB := by
  intro w hw
  have h : w ∈ [Cond.laysFinal "FactBinder$Context" "FactBinder$Context" "entity" "I", Cond.laysFinal "FactBinder$Context" "FactBinder$Context" "start" "I", Cond.laysFinal "FactBinder$Context" "FactBinder$Context" "end" "I", Cond.laysFinal "FactBinder$Context" "FactBinder$Context" "scene" "I"] := hw
  simp only [List.mem_cons, List.not_mem_nil, or_false] at h
  rcases h with rfl | rfl | rfl | rfl
  · exact k354
  · exact k356
  · exact k358
  · exact k360
theorem ft_Ctx : gFt "FactBinder$Context" T_Ctx 4 t_Ctx := ⟨by decide +kernel, by decide +kernel⟩
theorem in_Uni : ∀ w ∈ u_ws "FactBinder$Unit" T_Uni 3, w ∈ gB := by
  intro w hw
  have h : w ∈ [Cond.laysFinal "FactBinder$Unit" "FactBinder$Unit" "first" "I", Cond.laysFinal "FactBinder$Unit" "FactBinder$Unit" "second" "I", Cond.laysFinal "FactBinder$Unit" "FactBinder$Unit" "below" "I"] := hw
  simp only [List.mem_cons, List.not_mem_nil, or_false] at h
  rcases h with rfl | rfl | rfl
  · exact k379
  · exact k381
  · exact k383
theorem ft_Uni : gFt "FactBinder$Unit" T_Uni 3 t_Uni := ⟨by decide +kernel, by decide +kernel⟩
theorem in_Fac : ∀ w ∈ u_ws "FactBinder$Fact" T_Fac 8, w ∈ gB := by
  intro w hw
  have h : w ∈ [Cond.laysFinal "FactBinder$Fact" "FactBinder$Fact" "concept" "I", Cond.laysFinal "FactBinder$Fact" "FactBinder$Fact" "context" "LFactBinder$Context;", Cond.laysFinal "FactBinder$Fact" "FactBinder$Fact" "unit" "LFactBinder$Unit;", Cond.laysFinal "FactBinder$Fact" "FactBinder$Fact" "mode" "I", Cond.laysFinal "FactBinder$Fact" "FactBinder$Fact" "k" "I", Cond.laysFinal "FactBinder$Fact" "FactBinder$Fact" "amount" "J", Cond.laysFinal "FactBinder$Fact" "FactBinder$Fact" "accuratePlaces" "I", Cond.laysFinal "FactBinder$Fact" "FactBinder$Fact" "roundedAmount" "J"] := hw
  simp only [List.mem_cons, List.not_mem_nil, or_false] at h
  rcases h with rfl | rfl | rfl | rfl | rfl | rfl | rfl | rfl
  · exact k481
  · exact k483
  · exact k485
  · exact k487
  · exact k489
  · exact k491
  · exact k493
  · exact k495
theorem ft_Fac : gFt "FactBinder$Fact" T_Fac 8 t_Fac := ⟨by decide +kernel, by decide +kernel⟩
theorem in_Mod : ∀ w ∈ u_ws "FactBinderModel" T_Mod 43, w ∈ gB := by
  intro w hw
  have h : w ∈ [Cond.lays "FactBinderModel" "FactBinderModel" "refers" "[Z", Cond.lays "FactBinderModel" "FactBinderModel" "entry" "[Z", Cond.lays "FactBinderModel" "FactBinderModel" "found" "[Z", Cond.lays "FactBinderModel" "FactBinderModel" "concepts" "I", Cond.lays "FactBinderModel" "FactBinderModel" "cDocument" "[I", Cond.lays "FactBinderModel" "FactBinderModel" "cType" "[I", Cond.lays "FactBinderModel" "FactBinderModel" "cBalance" "[I", Cond.lays "FactBinderModel" "FactBinderModel" "cPeriod" "[I", Cond.lays "FactBinderModel" "FactBinderModel" "role" "I", Cond.lays "FactBinderModel" "FactBinderModel" "priority" "I", Cond.lays "FactBinderModel" "FactBinderModel" "prohibits" "Z", Cond.lays "FactBinderModel" "FactBinderModel" "arcs" "I", Cond.lays "FactBinderModel" "FactBinderModel" "aDocument" "[I", Cond.lays "FactBinderModel" "FactBinderModel" "aRole" "[I", Cond.lays "FactBinderModel" "FactBinderModel" "aSort" "[I", Cond.lays "FactBinderModel" "FactBinderModel" "aFrom" "[I", Cond.lays "FactBinderModel" "FactBinderModel" "aTo" "[I", Cond.lays "FactBinderModel" "FactBinderModel" "aNumber" "[I", Cond.lays "FactBinderModel" "FactBinderModel" "aPriority" "[I", Cond.lays "FactBinderModel" "FactBinderModel" "aProhibits" "[Z", Cond.lays "FactBinderModel" "FactBinderModel" "contexts" "I", Cond.lays "FactBinderModel" "FactBinderModel" "xEntity" "[I", Cond.lays "FactBinderModel" "FactBinderModel" "xStart" "[I", Cond.lays "FactBinderModel" "FactBinderModel" "xEnd" "[I", Cond.lays "FactBinderModel" "FactBinderModel" "xScene" "[I", Cond.lays "FactBinderModel" "FactBinderModel" "units" "I", Cond.lays "FactBinderModel" "FactBinderModel" "over1" "[I", Cond.lays "FactBinderModel" "FactBinderModel" "over2" "[I", Cond.lays "FactBinderModel" "FactBinderModel" "under" "[I", Cond.lays "FactBinderModel" "FactBinderModel" "written" "[I", Cond.lays "FactBinderModel" "FactBinderModel" "size" "I", Cond.lays "FactBinderModel" "FactBinderModel" "read" "J", Cond.lays "FactBinderModel" "FactBinderModel" "facts" "I", Cond.lays "FactBinderModel" "FactBinderModel" "fConcept" "[I", Cond.lays "FactBinderModel" "FactBinderModel" "fContext" "[I", Cond.lays "FactBinderModel" "FactBinderModel" "fUnit" "[I", Cond.lays "FactBinderModel" "FactBinderModel" "fMode" "[I", Cond.lays "FactBinderModel" "FactBinderModel" "fK" "[I", Cond.lays "FactBinderModel" "FactBinderModel" "fValue" "[J", Cond.lays "FactBinderModel" "FactBinderModel" "way" "[Z", Cond.lays "FactBinderModel" "FactBinderModel" "met" "I", Cond.lays "FactBinderModel" "FactBinderModel" "wanted" "I", Cond.lays "FactBinderModel" "FactBinderModel" "answer" "I"] := hw
  simp only [List.mem_cons, List.not_mem_nil, or_false] at h
  rcases h with rfl | rfl | rfl | rfl | rfl | rfl | rfl | rfl | rfl | rfl | rfl | rfl | rfl | rfl | rfl | rfl | rfl | rfl | rfl | rfl | rfl | rfl | rfl | rfl | rfl | rfl | rfl | rfl | rfl | rfl | rfl | rfl | rfl | rfl | rfl | rfl | rfl | rfl | rfl | rfl | rfl | rfl | rfl
  · exact k739
  · exact k741
  · exact k743
  · exact k745
  · exact k747
  · exact k749
  · exact k751
  · exact k753
  · exact k755
  · exact k757
  · exact k759
  · exact k761
  · exact k763
  · exact k765
  · exact k767
  · exact k769
  · exact k771
  · exact k773
  · exact k775
  · exact k777
  · exact k779
  · exact k781
  · exact k783
  · exact k785
  · exact k787
  · exact k789
  · exact k791
  · exact k793
  · exact k795
  · exact k797
  · exact k799
  · exact k801
  · exact k803
  · exact k805
  · exact k807
  · exact k809
  · exact k811
  · exact k813
  · exact k815
  · exact k817
  · exact k819
  · exact k821
  · exact k823
theorem ft_Mod : gFt "FactBinderModel" T_Mod 43 t_Mod := ⟨by decide +kernel, by decide +kernel⟩
theorem f_Doc_9 : gF "FactBinder$Documents" 9 2 0 "FactBinder$Documents" T_Doc 3 := ⟨rfl, in_Doc, by decide, k35⟩
theorem f_Doc_26 : gF "FactBinder$Documents" 26 2 1 "FactBinder$Documents" T_Doc 3 := ⟨rfl, in_Doc, by decide, k36⟩
theorem f_Doc_30 : gF "FactBinder$Documents" 30 2 2 "FactBinder$Documents" T_Doc 3 := ⟨rfl, in_Doc, by decide, k37⟩
theorem f_Set_7 : gF "FactBinder$Setting" 7 7 0 "FactBinder$Setting" T_Set 3 := ⟨rfl, in_Set, by decide, k56⟩
theorem f_Set_13 : gF "FactBinder$Setting" 13 7 1 "FactBinder$Setting" T_Set 3 := ⟨rfl, in_Set, by decide, k58⟩
theorem f_Set_16 : gF "FactBinder$Setting" 16 7 2 "FactBinder$Setting" T_Set 3 := ⟨rfl, in_Set, by decide, k60⟩
theorem f_Tax_12 : gF "FactBinder$Taxonomy" 12 1 0 "FactBinder$Taxonomy" T_Tax 6 := ⟨rfl, in_Tax, by decide, k70⟩
theorem f_Tax_20 : gF "FactBinder$Taxonomy" 20 1 1 "FactBinder$Taxonomy" T_Tax 6 := ⟨rfl, in_Tax, by decide, k73⟩
theorem f_Tax_39 : gF "FactBinder$Taxonomy" 39 1 2 "FactBinder$Taxonomy" T_Tax 6 := ⟨rfl, in_Tax, by decide, k76⟩
theorem f_Tax_26 : gF "FactBinder$Taxonomy" 26 1 3 "FactBinder$Taxonomy" T_Tax 6 := ⟨rfl, in_Tax, by decide, k78⟩
theorem f_Tax_47 : gF "FactBinder$Taxonomy" 47 1 4 "FactBinder$Taxonomy" T_Tax 6 := ⟨rfl, in_Tax, by decide, k80⟩
theorem f_Tax_35 : gF "FactBinder$Taxonomy" 35 1 5 "FactBinder$Taxonomy" T_Tax 6 := ⟨rfl, in_Tax, by decide, k82⟩
theorem f_Num_9 : gF "FactBinder$Numeral" 9 4 0 "FactBinder$Numeral" T_Num 2 := ⟨rfl, in_Num, by decide, k115⟩
theorem f_Num_19 : gF "FactBinder$Numeral" 19 4 1 "FactBinder$Numeral" T_Num 2 := ⟨rfl, in_Num, by decide, k116⟩
theorem f_Rep_11 : gF "FactBinder$Report" 11 3 0 "FactBinder$Report" T_Rep 7 := ⟨rfl, in_Rep, by decide, k124⟩
theorem f_Rep_36 : gF "FactBinder$Report" 36 3 1 "FactBinder$Report" T_Rep 7 := ⟨rfl, in_Rep, by decide, k126⟩
theorem f_Rep_19 : gF "FactBinder$Report" 19 3 2 "FactBinder$Report" T_Rep 7 := ⟨rfl, in_Rep, by decide, k127⟩
theorem f_Rep_44 : gF "FactBinder$Report" 44 3 3 "FactBinder$Report" T_Rep 7 := ⟨rfl, in_Rep, by decide, k129⟩
theorem f_Rep_25 : gF "FactBinder$Report" 25 3 4 "FactBinder$Report" T_Rep 7 := ⟨rfl, in_Rep, by decide, k130⟩
theorem f_Rep_47 : gF "FactBinder$Report" 47 3 5 "FactBinder$Report" T_Rep 7 := ⟨rfl, in_Rep, by decide, k133⟩
theorem f_Rep_32 : gF "FactBinder$Report" 32 3 6 "FactBinder$Report" T_Rep 7 := ⟨rfl, in_Rep, by decide, k135⟩
theorem f_Rev_31 : gF "FactBinder$Review" 31 5 0 "FactBinder$Review" T_Rev 13 := ⟨rfl, in_Rev, by decide, k158⟩
theorem f_Rev_35 : gF "FactBinder$Review" 35 5 1 "FactBinder$Review" T_Rev 13 := ⟨rfl, in_Rev, by decide, k159⟩
theorem f_Rev_9 : gF "FactBinder$Review" 9 5 2 "FactBinder$Review" T_Rev 13 := ⟨rfl, in_Rev, by decide, k160⟩
theorem f_Rev_15 : gF "FactBinder$Review" 15 5 3 "FactBinder$Review" T_Rev 13 := ⟨rfl, in_Rev, by decide, k161⟩
theorem f_Rev_18 : gF "FactBinder$Review" 18 5 4 "FactBinder$Review" T_Rev 13 := ⟨rfl, in_Rev, by decide, k163⟩
theorem f_Rev_22 : gF "FactBinder$Review" 22 5 5 "FactBinder$Review" T_Rev 13 := ⟨rfl, in_Rev, by decide, k164⟩
theorem f_Rev_25 : gF "FactBinder$Review" 25 5 6 "FactBinder$Review" T_Rev 13 := ⟨rfl, in_Rev, by decide, k165⟩
theorem f_Rev_28 : gF "FactBinder$Review" 28 5 7 "FactBinder$Review" T_Rev 13 := ⟨rfl, in_Rev, by decide, k166⟩
theorem f_Rev_43 : gF "FactBinder$Review" 43 5 8 "FactBinder$Review" T_Rev 13 := ⟨rfl, in_Rev, by decide, k168⟩
theorem f_Rev_39 : gF "FactBinder$Review" 39 5 9 "FactBinder$Review" T_Rev 13 := ⟨rfl, in_Rev, by decide, k170⟩
theorem f_Rev_177 : gF "FactBinder$Review" 177 5 10 "FactBinder$Review" T_Rev 13 := ⟨rfl, in_Rev, by decide, k172⟩
theorem f_Rev_198 : gF "FactBinder$Review" 198 5 11 "FactBinder$Review" T_Rev 13 := ⟨rfl, in_Rev, by decide, k173⟩
theorem f_Rev_188 : gF "FactBinder$Review" 188 5 12 "FactBinder$Review" T_Rev 13 := ⟨rfl, in_Rev, by decide, k175⟩
theorem f_FB_12 : gF "FactBinder" 12 0 0 "FactBinder" T_FB 3 := ⟨rfl, in_FB, by decide, k204⟩
theorem f_FB_19 : gF "FactBinder" 19 0 1 "FactBinder" T_FB 3 := ⟨rfl, in_FB, by decide, k205⟩
theorem f_FB_28 : gF "FactBinder" 28 0 2 "FactBinder" T_FB 3 := ⟨rfl, in_FB, by decide, k206⟩
theorem f_Con_7 : gF "FactBinder$Concept" 7 6 0 "FactBinder$Concept" T_Con 4 := ⟨rfl, in_Con, by decide, k259⟩
theorem f_Con_13 : gF "FactBinder$Concept" 13 6 1 "FactBinder$Concept" T_Con 4 := ⟨rfl, in_Con, by decide, k261⟩
theorem f_Con_16 : gF "FactBinder$Concept" 16 6 2 "FactBinder$Concept" T_Con 4 := ⟨rfl, in_Con, by decide, k265⟩
theorem f_Con_19 : gF "FactBinder$Concept" 19 6 3 "FactBinder$Concept" T_Con 4 := ⟨rfl, in_Con, by decide, k267⟩
theorem f_Arc_7 : gF "FactBinder$Arc" 7 8 0 "FactBinder$Arc" T_Arc 6 := ⟨rfl, in_Arc, by decide, k302⟩
theorem f_Arc_13 : gF "FactBinder$Arc" 13 8 1 "FactBinder$Arc" T_Arc 6 := ⟨rfl, in_Arc, by decide, k305⟩
theorem f_Arc_16 : gF "FactBinder$Arc" 16 8 2 "FactBinder$Arc" T_Arc 6 := ⟨rfl, in_Arc, by decide, k307⟩
theorem f_Arc_19 : gF "FactBinder$Arc" 19 8 3 "FactBinder$Arc" T_Arc 6 := ⟨rfl, in_Arc, by decide, k310⟩
theorem f_Arc_22 : gF "FactBinder$Arc" 22 8 4 "FactBinder$Arc" T_Arc 6 := ⟨rfl, in_Arc, by decide, k313⟩
theorem f_Arc_25 : gF "FactBinder$Arc" 25 8 5 "FactBinder$Arc" T_Arc 6 := ⟨rfl, in_Arc, by decide, k316⟩
theorem f_Ctx_9 : gF "FactBinder$Context" 9 9 0 "FactBinder$Context" T_Ctx 4 := ⟨rfl, in_Ctx, by decide, k350⟩
theorem f_Ctx_15 : gF "FactBinder$Context" 15 9 1 "FactBinder$Context" T_Ctx 4 := ⟨rfl, in_Ctx, by decide, k351⟩
theorem f_Ctx_18 : gF "FactBinder$Context" 18 9 2 "FactBinder$Context" T_Ctx 4 := ⟨rfl, in_Ctx, by decide, k352⟩
theorem f_Ctx_21 : gF "FactBinder$Context" 21 9 3 "FactBinder$Context" T_Ctx 4 := ⟨rfl, in_Ctx, by decide, k353⟩
theorem f_Uni_9 : gF "FactBinder$Unit" 9 10 0 "FactBinder$Unit" T_Uni 3 := ⟨rfl, in_Uni, by decide, k376⟩
theorem f_Uni_15 : gF "FactBinder$Unit" 15 10 1 "FactBinder$Unit" T_Uni 3 := ⟨rfl, in_Uni, by decide, k377⟩
theorem f_Uni_18 : gF "FactBinder$Unit" 18 10 2 "FactBinder$Unit" T_Uni 3 := ⟨rfl, in_Uni, by decide, k378⟩
theorem f_Fac_9 : gF "FactBinder$Fact" 9 11 0 "FactBinder$Fact" T_Fac 8 := ⟨rfl, in_Fac, by decide, k466⟩
theorem f_Fac_15 : gF "FactBinder$Fact" 15 11 1 "FactBinder$Fact" T_Fac 8 := ⟨rfl, in_Fac, by decide, k469⟩
theorem f_Fac_19 : gF "FactBinder$Fact" 19 11 2 "FactBinder$Fact" T_Fac 8 := ⟨rfl, in_Fac, by decide, k470⟩
theorem f_Fac_23 : gF "FactBinder$Fact" 23 11 3 "FactBinder$Fact" T_Fac 8 := ⟨rfl, in_Fac, by decide, k471⟩
theorem f_Fac_26 : gF "FactBinder$Fact" 26 11 4 "FactBinder$Fact" T_Fac 8 := ⟨rfl, in_Fac, by decide, k472⟩
theorem f_Fac_29 : gF "FactBinder$Fact" 29 11 5 "FactBinder$Fact" T_Fac 8 := ⟨rfl, in_Fac, by decide, k473⟩
theorem f_Fac_37 : gF "FactBinder$Fact" 37 11 6 "FactBinder$Fact" T_Fac 8 := ⟨rfl, in_Fac, by decide, k475⟩
theorem f_Fac_48 : gF "FactBinder$Fact" 48 11 7 "FactBinder$Fact" T_Fac 8 := ⟨rfl, in_Fac, by decide, k478⟩
theorem f_Mod_7 : gF "FactBinderModel" 7 12 0 "FactBinderModel" T_Mod 43 := ⟨rfl, in_Mod, by decide, k696⟩
theorem f_Mod_13 : gF "FactBinderModel" 13 12 1 "FactBinderModel" T_Mod 43 := ⟨rfl, in_Mod, by decide, k697⟩
theorem f_Mod_16 : gF "FactBinderModel" 16 12 2 "FactBinderModel" T_Mod 43 := ⟨rfl, in_Mod, by decide, k698⟩
theorem f_Mod_109 : gF "FactBinderModel" 109 12 3 "FactBinderModel" T_Mod 43 := ⟨rfl, in_Mod, by decide, k699⟩
theorem f_Mod_19 : gF "FactBinderModel" 19 12 4 "FactBinderModel" T_Mod 43 := ⟨rfl, in_Mod, by decide, k700⟩
theorem f_Mod_23 : gF "FactBinderModel" 23 12 5 "FactBinderModel" T_Mod 43 := ⟨rfl, in_Mod, by decide, k701⟩
theorem f_Mod_26 : gF "FactBinderModel" 26 12 6 "FactBinderModel" T_Mod 43 := ⟨rfl, in_Mod, by decide, k702⟩
theorem f_Mod_29 : gF "FactBinderModel" 29 12 7 "FactBinderModel" T_Mod 43 := ⟨rfl, in_Mod, by decide, k703⟩
theorem f_Mod_126 : gF "FactBinderModel" 126 12 8 "FactBinderModel" T_Mod 43 := ⟨rfl, in_Mod, by decide, k704⟩
theorem f_Mod_129 : gF "FactBinderModel" 129 12 9 "FactBinderModel" T_Mod 43 := ⟨rfl, in_Mod, by decide, k705⟩
theorem f_Mod_132 : gF "FactBinderModel" 132 12 10 "FactBinderModel" T_Mod 43 := ⟨rfl, in_Mod, by decide, k706⟩
theorem f_Mod_136 : gF "FactBinderModel" 136 12 11 "FactBinderModel" T_Mod 43 := ⟨rfl, in_Mod, by decide, k707⟩
theorem f_Mod_32 : gF "FactBinderModel" 32 12 12 "FactBinderModel" T_Mod 43 := ⟨rfl, in_Mod, by decide, k708⟩
theorem f_Mod_35 : gF "FactBinderModel" 35 12 13 "FactBinderModel" T_Mod 43 := ⟨rfl, in_Mod, by decide, k709⟩
theorem f_Mod_38 : gF "FactBinderModel" 38 12 14 "FactBinderModel" T_Mod 43 := ⟨rfl, in_Mod, by decide, k710⟩
theorem f_Mod_41 : gF "FactBinderModel" 41 12 15 "FactBinderModel" T_Mod 43 := ⟨rfl, in_Mod, by decide, k711⟩
theorem f_Mod_44 : gF "FactBinderModel" 44 12 16 "FactBinderModel" T_Mod 43 := ⟨rfl, in_Mod, by decide, k712⟩
theorem f_Mod_47 : gF "FactBinderModel" 47 12 17 "FactBinderModel" T_Mod 43 := ⟨rfl, in_Mod, by decide, k713⟩
theorem f_Mod_50 : gF "FactBinderModel" 50 12 18 "FactBinderModel" T_Mod 43 := ⟨rfl, in_Mod, by decide, k714⟩
theorem f_Mod_53 : gF "FactBinderModel" 53 12 19 "FactBinderModel" T_Mod 43 := ⟨rfl, in_Mod, by decide, k715⟩
theorem f_Mod_113 : gF "FactBinderModel" 113 12 20 "FactBinderModel" T_Mod 43 := ⟨rfl, in_Mod, by decide, k716⟩
theorem f_Mod_56 : gF "FactBinderModel" 56 12 21 "FactBinderModel" T_Mod 43 := ⟨rfl, in_Mod, by decide, k717⟩
theorem f_Mod_59 : gF "FactBinderModel" 59 12 22 "FactBinderModel" T_Mod 43 := ⟨rfl, in_Mod, by decide, k718⟩
theorem f_Mod_62 : gF "FactBinderModel" 62 12 23 "FactBinderModel" T_Mod 43 := ⟨rfl, in_Mod, by decide, k719⟩
theorem f_Mod_65 : gF "FactBinderModel" 65 12 24 "FactBinderModel" T_Mod 43 := ⟨rfl, in_Mod, by decide, k720⟩
theorem f_Mod_120 : gF "FactBinderModel" 120 12 25 "FactBinderModel" T_Mod 43 := ⟨rfl, in_Mod, by decide, k721⟩
theorem f_Mod_68 : gF "FactBinderModel" 68 12 26 "FactBinderModel" T_Mod 43 := ⟨rfl, in_Mod, by decide, k722⟩
theorem f_Mod_71 : gF "FactBinderModel" 71 12 27 "FactBinderModel" T_Mod 43 := ⟨rfl, in_Mod, by decide, k723⟩
theorem f_Mod_74 : gF "FactBinderModel" 74 12 28 "FactBinderModel" T_Mod 43 := ⟨rfl, in_Mod, by decide, k724⟩
theorem f_Mod_77 : gF "FactBinderModel" 77 12 29 "FactBinderModel" T_Mod 43 := ⟨rfl, in_Mod, by decide, k725⟩
theorem f_Mod_152 : gF "FactBinderModel" 152 12 30 "FactBinderModel" T_Mod 43 := ⟨rfl, in_Mod, by decide, k726⟩
theorem f_Mod_159 : gF "FactBinderModel" 159 12 31 "FactBinderModel" T_Mod 43 := ⟨rfl, in_Mod, by decide, k727⟩
theorem f_Mod_165 : gF "FactBinderModel" 165 12 32 "FactBinderModel" T_Mod 43 := ⟨rfl, in_Mod, by decide, k728⟩
theorem f_Mod_80 : gF "FactBinderModel" 80 12 33 "FactBinderModel" T_Mod 43 := ⟨rfl, in_Mod, by decide, k729⟩
theorem f_Mod_83 : gF "FactBinderModel" 83 12 34 "FactBinderModel" T_Mod 43 := ⟨rfl, in_Mod, by decide, k730⟩
theorem f_Mod_86 : gF "FactBinderModel" 86 12 35 "FactBinderModel" T_Mod 43 := ⟨rfl, in_Mod, by decide, k731⟩
theorem f_Mod_89 : gF "FactBinderModel" 89 12 36 "FactBinderModel" T_Mod 43 := ⟨rfl, in_Mod, by decide, k732⟩
theorem f_Mod_92 : gF "FactBinderModel" 92 12 37 "FactBinderModel" T_Mod 43 := ⟨rfl, in_Mod, by decide, k733⟩
theorem f_Mod_95 : gF "FactBinderModel" 95 12 38 "FactBinderModel" T_Mod 43 := ⟨rfl, in_Mod, by decide, k734⟩
theorem f_Mod_99 : gF "FactBinderModel" 99 12 39 "FactBinderModel" T_Mod 43 := ⟨rfl, in_Mod, by decide, k735⟩
theorem f_Mod_220 : gF "FactBinderModel" 220 12 40 "FactBinderModel" T_Mod 43 := ⟨rfl, in_Mod, by decide, k736⟩
theorem f_Mod_223 : gF "FactBinderModel" 223 12 41 "FactBinderModel" T_Mod 43 := ⟨rfl, in_Mod, by decide, k737⟩
theorem f_Mod_226 : gF "FactBinderModel" 226 12 42 "FactBinderModel" T_Mod 43 := ⟨rfl, in_Mod, by decide, k738⟩
theorem f_Arc_29 : gFN "FactBinder$Arc" 29 7 0 "FactBinder$Setting" T_Set 3 := ⟨rfl, in_Set, by decide, _, k57⟩
theorem f_Tax_84 : gFN "FactBinder$Taxonomy" 84 7 1 "FactBinder$Setting" T_Set 3 := ⟨rfl, in_Set, by decide, _, k59⟩
theorem f_Rev_94 : gFN "FactBinder$Review" 94 7 2 "FactBinder$Setting" T_Set 3 := ⟨rfl, in_Set, by decide, _, k61⟩
theorem f_Tax_87 : gFN "FactBinder$Taxonomy" 87 7 2 "FactBinder$Setting" T_Set 3 := ⟨rfl, in_Set, by decide, _, k62⟩
theorem f_FB_32 : gFN "FactBinder" 32 1 0 "FactBinder$Taxonomy" T_Tax 6 := ⟨rfl, in_Tax, by decide, _, k71⟩
theorem f_Rev_136 : gFN "FactBinder$Review" 136 1 0 "FactBinder$Taxonomy" T_Tax 6 := ⟨rfl, in_Tax, by decide, _, k72⟩
theorem f_Rev_120 : gFN "FactBinder$Review" 120 1 1 "FactBinder$Taxonomy" T_Tax 6 := ⟨rfl, in_Tax, by decide, _, k74⟩
theorem f_FB_91 : gFN "FactBinder" 91 1 1 "FactBinder$Taxonomy" T_Tax 6 := ⟨rfl, in_Tax, by decide, _, k75⟩
theorem f_Rev_158 : gFN "FactBinder$Review" 158 1 2 "FactBinder$Taxonomy" T_Tax 6 := ⟨rfl, in_Tax, by decide, _, k77⟩
theorem f_Rev_76 : gFN "FactBinder$Review" 76 1 3 "FactBinder$Taxonomy" T_Tax 6 := ⟨rfl, in_Tax, by decide, _, k79⟩
theorem f_Rev_71 : gFN "FactBinder$Review" 71 1 4 "FactBinder$Taxonomy" T_Tax 6 := ⟨rfl, in_Tax, by decide, _, k81⟩
theorem f_FB_63 : gFN "FactBinder" 63 1 5 "FactBinder$Taxonomy" T_Tax 6 := ⟨rfl, in_Tax, by decide, _, k83⟩
theorem f_Rep_81 : gFN "FactBinder$Report" 81 4 1 "FactBinder$Numeral" T_Num 2 := ⟨rfl, in_Num, by decide, _, k117⟩
theorem f_FB_121 : gFN "FactBinder" 121 3 0 "FactBinder$Report" T_Rep 7 := ⟨rfl, in_Rep, by decide, _, k125⟩
theorem f_FB_134 : gFN "FactBinder" 134 3 2 "FactBinder$Report" T_Rep 7 := ⟨rfl, in_Rep, by decide, _, k128⟩
theorem f_Rev_108 : gFN "FactBinder$Review" 108 3 4 "FactBinder$Report" T_Rep 7 := ⟨rfl, in_Rep, by decide, _, k131⟩
theorem f_FB_147 : gFN "FactBinder" 147 3 4 "FactBinder$Report" T_Rep 7 := ⟨rfl, in_Rep, by decide, _, k132⟩
theorem f_Rev_103 : gFN "FactBinder$Review" 103 3 5 "FactBinder$Report" T_Rep 7 := ⟨rfl, in_Rep, by decide, _, k134⟩
theorem f_FB_78 : gFN "FactBinder" 78 3 6 "FactBinder$Report" T_Rep 7 := ⟨rfl, in_Rep, by decide, _, k136⟩
theorem f_FB_114 : gFN "FactBinder" 114 5 3 "FactBinder$Review" T_Rev 13 := ⟨rfl, in_Rev, by decide, _, k162⟩
theorem f_FB_173 : gFN "FactBinder" 173 5 7 "FactBinder$Review" T_Rev 13 := ⟨rfl, in_Rev, by decide, _, k167⟩
theorem f_FB_170 : gFN "FactBinder" 170 5 8 "FactBinder$Review" T_Rev 13 := ⟨rfl, in_Rev, by decide, _, k169⟩
theorem f_FB_42 : gFN "FactBinder" 42 5 9 "FactBinder$Review" T_Rev 13 := ⟨rfl, in_Rev, by decide, _, k171⟩
theorem f_FB_167 : gFN "FactBinder" 167 5 11 "FactBinder$Review" T_Rev 13 := ⟨rfl, in_Rev, by decide, _, k174⟩
theorem f_Tax_63 : gFN "FactBinder$Taxonomy" 63 6 0 "FactBinder$Concept" T_Con 4 := ⟨rfl, in_Con, by decide, _, k260⟩
theorem f_Fac_86 : gFN "FactBinder$Fact" 86 6 1 "FactBinder$Concept" T_Con 4 := ⟨rfl, in_Con, by decide, _, k262⟩
theorem f_FB_95 : gFN "FactBinder" 95 6 1 "FactBinder$Concept" T_Con 4 := ⟨rfl, in_Con, by decide, _, k263⟩
theorem f_Rev_224 : gFN "FactBinder$Review" 224 6 1 "FactBinder$Concept" T_Con 4 := ⟨rfl, in_Con, by decide, _, k264⟩
theorem f_Tax_91 : gFN "FactBinder$Taxonomy" 91 6 2 "FactBinder$Concept" T_Con 4 := ⟨rfl, in_Con, by decide, _, k266⟩
theorem f_Fac_99 : gFN "FactBinder$Fact" 99 6 3 "FactBinder$Concept" T_Con 4 := ⟨rfl, in_Con, by decide, _, k268⟩
theorem f_Tax_69 : gFN "FactBinder$Taxonomy" 69 8 0 "FactBinder$Arc" T_Arc 6 := ⟨rfl, in_Arc, by decide, _, k303⟩
theorem f_Rev_140 : gFN "FactBinder$Review" 140 8 0 "FactBinder$Arc" T_Arc 6 := ⟨rfl, in_Arc, by decide, _, k304⟩
theorem f_Rev_148 : gFN "FactBinder$Review" 148 8 1 "FactBinder$Arc" T_Arc 6 := ⟨rfl, in_Arc, by decide, _, k306⟩
theorem f_Tax_70 : gFN "FactBinder$Taxonomy" 70 8 2 "FactBinder$Arc" T_Arc 6 := ⟨rfl, in_Arc, by decide, _, k308⟩
theorem f_Rev_164 : gFN "FactBinder$Review" 164 8 2 "FactBinder$Arc" T_Arc 6 := ⟨rfl, in_Arc, by decide, _, k309⟩
theorem f_Tax_76 : gFN "FactBinder$Taxonomy" 76 8 3 "FactBinder$Arc" T_Arc 6 := ⟨rfl, in_Arc, by decide, _, k311⟩
theorem f_Rev_167 : gFN "FactBinder$Review" 167 8 3 "FactBinder$Arc" T_Arc 6 := ⟨rfl, in_Arc, by decide, _, k312⟩
theorem f_Tax_94 : gFN "FactBinder$Taxonomy" 94 8 4 "FactBinder$Arc" T_Arc 6 := ⟨rfl, in_Arc, by decide, _, k314⟩
theorem f_Rev_221 : gFN "FactBinder$Review" 221 8 4 "FactBinder$Arc" T_Arc 6 := ⟨rfl, in_Arc, by decide, _, k315⟩
theorem f_Rev_88 : gFN "FactBinder$Review" 88 8 5 "FactBinder$Arc" T_Arc 6 := ⟨rfl, in_Arc, by decide, _, k317⟩
theorem f_Tax_83 : gFN "FactBinder$Taxonomy" 83 8 5 "FactBinder$Arc" T_Arc 6 := ⟨rfl, in_Arc, by decide, _, k318⟩
theorem f_Rev_112 : gFN "FactBinder$Review" 112 11 0 "FactBinder$Fact" T_Fac 8 := ⟨rfl, in_Fac, by decide, _, k467⟩
theorem f_Rep_84 : gFN "FactBinder$Report" 84 11 0 "FactBinder$Fact" T_Fac 8 := ⟨rfl, in_Fac, by decide, _, k468⟩
theorem f_FB_151 : gFN "FactBinder" 151 11 5 "FactBinder$Fact" T_Fac 8 := ⟨rfl, in_Fac, by decide, _, k474⟩
theorem f_Rev_191 : gFN "FactBinder$Review" 191 11 6 "FactBinder$Fact" T_Fac 8 := ⟨rfl, in_Fac, by decide, _, k476⟩
theorem f_FB_157 : gFN "FactBinder" 157 11 6 "FactBinder$Fact" T_Fac 8 := ⟨rfl, in_Fac, by decide, _, k477⟩
theorem f_Rev_208 : gFN "FactBinder$Review" 208 11 7 "FactBinder$Fact" T_Fac 8 := ⟨rfl, in_Fac, by decide, _, k479⟩
theorem f_FB_160 : gFN "FactBinder" 160 11 7 "FactBinder$Fact" T_Fac 8 := ⟨rfl, in_Fac, by decide, _, k480⟩
theorem Y_FB_init : gY y_FB_init c_FB_init 1 none 0 := ⟨k19, k1, by decide +kernel, by decide +kernel, by decide +kernel⟩
theorem Y_Tax_init : gY y_Tax_init c_Tax_init 1 none 0 := ⟨k27, k2, by decide +kernel, by decide +kernel, by decide +kernel⟩
theorem Y_Doc_init : gY y_Doc_init c_Doc_init 1 none 0 := ⟨k33, k3, by decide +kernel, by decide +kernel, by decide +kernel⟩
theorem Y_Set_init : gY y_Set_init c_Set_init 4 none 3 := ⟨k54, k4, by decide +kernel, by decide +kernel, by decide +kernel⟩
theorem Y_Rep_init : gY y_Rep_init c_Rep_init 1 none 0 := ⟨k101, k5, by decide +kernel, by decide +kernel, by decide +kernel⟩
theorem Y_Num_init : gY y_Num_init c_Num_init 1 none 0 := ⟨k113, k6, by decide +kernel, by decide +kernel, by decide +kernel⟩
theorem Y_Rev_init : gY y_Rev_init c_Rev_init 3 none 2 := ⟨k156, k7, by decide +kernel, by decide +kernel, by decide +kernel⟩
theorem Y_FB_refer : gY y_FB_refer c_FB_refer 4 (some .boolean) 2 := ⟨k217, k1, by decide +kernel, by decide +kernel, by decide +kernel⟩
theorem Y_Doc_link : gY y_Doc_link c_Doc_link 3 (some .boolean) 2 := ⟨k221, k3, by decide +kernel, by decide +kernel, by decide +kernel⟩
theorem Y_Doc_exists : gY y_Doc_exists c_Doc_exists 1 (some .boolean) 1 := ⟨k224, k3, by decide +kernel, by decide +kernel, by decide +kernel⟩
theorem Y_FB_within : gY y_FB_within c_FB_within 3 (some .boolean) 3 := ⟨k227, k1, by decide +kernel, by decide +kernel, by decide +kernel⟩
theorem Y_Doc_spread : gY y_Doc_spread c_Doc_spread 3 none 0 := ⟨k231, k3, by decide +kernel, by decide +kernel, by decide +kernel⟩
theorem Y_Doc_isReached : gY y_Doc_isReached c_Doc_isReached 2 (some .boolean) 1 := ⟨k235, k3, by decide +kernel, by decide +kernel, by decide +kernel⟩
theorem Y_FB_enter : gY y_FB_enter c_FB_enter 3 (some .boolean) 1 := ⟨k239, k1, by decide +kernel, by decide +kernel, by decide +kernel⟩
theorem Y_Doc_addEntry : gY y_Doc_addEntry c_Doc_addEntry 2 (some .boolean) 1 := ⟨k243, k3, by decide +kernel, by decide +kernel, by decide +kernel⟩
theorem Y_FB_concept : gY y_FB_concept c_FB_concept 5 (some .int) 4 := ⟨k247, k1, by decide +kernel, by decide +kernel, by decide +kernel⟩
theorem Y_Tax_addConcept : gY y_Tax_addConcept c_Tax_addConcept 6 (some .int) 4 := ⟨k251, k2, by decide +kernel, by decide +kernel, by decide +kernel⟩
theorem Y_Con_init : gY y_Con_init c_Con_init 5 none 4 := ⟨k257, k9, by decide +kernel, by decide +kernel, by decide +kernel⟩
theorem Y_FB_setting : gY y_FB_setting c_FB_setting 4 (some .boolean) 3 := ⟨k281, k1, by decide +kernel, by decide +kernel, by decide +kernel⟩
theorem Y_FB_arc : gY y_FB_arc c_FB_arc 7 (some .int) 5 := ⟨k288, k1, by decide +kernel, by decide +kernel, by decide +kernel⟩
theorem Y_Tax_addArc : gY y_Tax_addArc c_Tax_addArc 7 (some .int) 5 := ⟨k292, k2, by decide +kernel, by decide +kernel, by decide +kernel⟩
theorem Y_Tax_hasConcept : gY y_Tax_hasConcept c_Tax_hasConcept 2 (some .boolean) 1 := ⟨k296, k2, by decide +kernel, by decide +kernel, by decide +kernel⟩
theorem Y_Arc_init : gY y_Arc_init c_Arc_init 7 none 6 := ⟨k300, k10, by decide +kernel, by decide +kernel, by decide +kernel⟩
theorem Y_FB_context : gY y_FB_context c_FB_context 5 (some .int) 4 := ⟨k335, k1, by decide +kernel, by decide +kernel, by decide +kernel⟩
theorem Y_Rep_addContext : gY y_Rep_addContext c_Rep_addContext 7 (some .int) 4 := ⟨k339, k5, by decide +kernel, by decide +kernel, by decide +kernel⟩
theorem Y_Ctx_isDay : gY y_Ctx_isDay c_Ctx_isDay 1 (some .boolean) 1 := ⟨k342, k11, by decide +kernel, by decide +kernel, by decide +kernel⟩
theorem Y_Ctx_init : gY y_Ctx_init c_Ctx_init 5 none 4 := ⟨k348, k11, by decide +kernel, by decide +kernel, by decide +kernel⟩
theorem Y_FB_unit : gY y_FB_unit c_FB_unit 4 (some .int) 3 := ⟨k366, k1, by decide +kernel, by decide +kernel, by decide +kernel⟩
theorem Y_Rep_addUnit : gY y_Rep_addUnit c_Rep_addUnit 5 (some .int) 3 := ⟨k370, k5, by decide +kernel, by decide +kernel, by decide +kernel⟩
theorem Y_Uni_init : gY y_Uni_init c_Uni_init 4 none 3 := ⟨k374, k12, by decide +kernel, by decide +kernel, by decide +kernel⟩
theorem Y_FB_write : gY y_FB_write c_FB_write 2 (some .boolean) 1 := ⟨k389, k1, by decide +kernel, by decide +kernel, by decide +kernel⟩
theorem Y_Num_append : gY y_Num_append c_Num_append 3 (some .boolean) 1 := ⟨k393, k6, by decide +kernel, by decide +kernel, by decide +kernel⟩
theorem Y_FB_isDigit : gY y_FB_isDigit c_FB_isDigit 1 (some .boolean) 1 := ⟨k396, k1, by decide +kernel, by decide +kernel, by decide +kernel⟩
theorem Y_FB_fact : gY y_FB_fact c_FB_fact 8 (some .int) 5 := ⟨k400, k1, by decide +kernel, by decide +kernel, by decide +kernel⟩
theorem Y_Rep_addFact : gY y_Rep_addFact c_Rep_addFact 11 (some .int) 6 := ⟨k405, k5, by decide +kernel, by decide +kernel, by decide +kernel⟩
theorem Y_Rep_hasContext : gY y_Rep_hasContext c_Rep_hasContext 2 (some .boolean) 1 := ⟨k409, k5, by decide +kernel, by decide +kernel, by decide +kernel⟩
theorem Y_Rep_hasUnit : gY y_Rep_hasUnit c_Rep_hasUnit 2 (some .boolean) 1 := ⟨k413, k5, by decide +kernel, by decide +kernel, by decide +kernel⟩
theorem Y_Fac_isAccuracy : gY y_Fac_isAccuracy c_Fac_isAccuracy 2 (some .boolean) 2 := ⟨k416, k13, by decide +kernel, by decide +kernel, by decide +kernel⟩
theorem Y_Num_isNumber : gY y_Num_isNumber c_Num_isNumber 4 (some .boolean) 0 := ⟨k421, k6, by decide +kernel, by decide +kernel, by decide +kernel⟩
theorem Y_Num_hasSign : gY y_Num_hasSign c_Num_hasSign 1 (some .boolean) 0 := ⟨k425, k6, by decide +kernel, by decide +kernel, by decide +kernel⟩
theorem Y_Num_digitsFrom : gY y_Num_digitsFrom c_Num_digitsFrom 3 (some .int) 1 := ⟨k429, k6, by decide +kernel, by decide +kernel, by decide +kernel⟩
theorem Y_Num_inMillionths : gY y_Num_inMillionths c_Num_inMillionths 7 (some .long) 0 := ⟨k433, k6, by decide +kernel, by decide +kernel, by decide +kernel⟩
theorem Y_FB_tenTo : gY y_FB_tenTo c_FB_tenTo 1 (some .long) 1 := ⟨k437, k1, by decide +kernel, by decide +kernel, by decide +kernel⟩
theorem Y_Fac_init : gY y_Fac_init c_Fac_init 8 none 6 := ⟨k443, k13, by decide +kernel, by decide +kernel, by decide +kernel⟩
theorem Y_Fac_findPlaces : gY y_Fac_findPlaces c_Fac_findPlaces 9 (some .int) 3 := ⟨k447, k13, by decide +kernel, by decide +kernel, by decide +kernel⟩
theorem Y_FB_countDigits : gY y_FB_countDigits c_FB_countDigits 3 (some .int) 1 := ⟨k451, k1, by decide +kernel, by decide +kernel, by decide +kernel⟩
theorem Y_Math_min : gY y_Math_min c_Math_min 2 (some .int) 2 := ⟨k454, k14, by decide +kernel, by decide +kernel, by decide +kernel⟩
theorem Y_Math_max : gY y_Math_max c_Math_max 2 (some .int) 2 := ⟨k457, k14, by decide +kernel, by decide +kernel, by decide +kernel⟩
theorem Y_FB_roundTo : gY y_FB_roundTo c_FB_roundTo 9 (some .long) 2 := ⟨k461, k1, by decide +kernel, by decide +kernel, by decide +kernel⟩
theorem Y_Math_floorDiv : gY y_Math_floorDiv c_Math_floorDiv 6 (some .long) 2 := ⟨k464, k14, by decide +kernel, by decide +kernel, by decide +kernel⟩
theorem Y_FB_discovered : gY y_FB_discovered c_FB_discovered 2 (some .boolean) 1 := ⟨k501, k1, by decide +kernel, by decide +kernel, by decide +kernel⟩
theorem Y_FB_left : gY y_FB_left c_FB_left 2 (some .boolean) 1 := ⟨k506, k1, by decide +kernel, by decide +kernel, by decide +kernel⟩
theorem Y_Tax_hasArc : gY y_Tax_hasArc c_Tax_hasArc 2 (some .boolean) 1 := ⟨k510, k2, by decide +kernel, by decide +kernel, by decide +kernel⟩
theorem Y_Rev_refresh : gY y_Rev_refresh c_Rev_refresh 1 none 0 := ⟨k514, k7, by decide +kernel, by decide +kernel, by decide +kernel⟩
theorem Y_Rev_markArcs : gY y_Rev_markArcs c_Rev_markArcs 2 none 0 := ⟨k518, k7, by decide +kernel, by decide +kernel, by decide +kernel⟩
theorem Y_Tax_doesCount : gY y_Tax_doesCount c_Tax_doesCount 2 (some .boolean) 1 := ⟨k522, k2, by decide +kernel, by decide +kernel, by decide +kernel⟩
theorem Y_Tax_isKnown : gY y_Tax_isKnown c_Tax_isKnown 2 (some .boolean) 1 := ⟨k527, k2, by decide +kernel, by decide +kernel, by decide +kernel⟩
theorem Y_Rev_isLeft : gY y_Rev_isLeft c_Rev_isLeft 3 (some .boolean) 1 := ⟨k531, k7, by decide +kernel, by decide +kernel, by decide +kernel⟩
theorem Y_Tax_beats : gY y_Tax_beats c_Tax_beats 5 (some .boolean) 2 := ⟨k535, k2, by decide +kernel, by decide +kernel, by decide +kernel⟩
theorem Y_Arc_isAlike : gY y_Arc_isAlike c_Arc_isAlike 2 (some .boolean) 1 := ⟨k539, k10, by decide +kernel, by decide +kernel, by decide +kernel⟩
theorem Y_Rev_markFacts : gY y_Rev_markFacts c_Rev_markFacts 4 none 0 := ⟨k543, k7, by decide +kernel, by decide +kernel, by decide +kernel⟩
theorem Y_Fac_findFault : gY y_Fac_findFault c_Fac_findFault 5 (some .int) 2 := ⟨k548, k13, by decide +kernel, by decide +kernel, by decide +kernel⟩
theorem Y_Fac_hasUnitFor : gY y_Fac_hasUnitFor c_Fac_hasUnitFor 2 (some .boolean) 1 := ⟨k552, k13, by decide +kernel, by decide +kernel, by decide +kernel⟩
theorem Y_Uni_isCurrency : gY y_Uni_isCurrency c_Uni_isCurrency 1 (some .boolean) 0 := ⟨k556, k12, by decide +kernel, by decide +kernel, by decide +kernel⟩
theorem Y_Ctx_periodKind : gY y_Ctx_periodKind c_Ctx_periodKind 1 (some .int) 0 := ⟨k560, k11, by decide +kernel, by decide +kernel, by decide +kernel⟩
theorem Y_Rep_lowestTwin : gY y_Rep_lowestTwin c_Rep_lowestTwin 3 (some .int) 1 := ⟨k564, k5, by decide +kernel, by decide +kernel, by decide +kernel⟩
theorem Y_Rep_areTwins : gY y_Rep_areTwins c_Rep_areTwins 3 (some .boolean) 2 := ⟨k568, k5, by decide +kernel, by decide +kernel, by decide +kernel⟩
theorem Y_Fac_standsWith : gY y_Fac_standsWith c_Fac_standsWith 2 (some .boolean) 1 := ⟨k572, k13, by decide +kernel, by decide +kernel, by decide +kernel⟩
theorem Y_Ctx_matches : gY y_Ctx_matches c_Ctx_matches 2 (some .boolean) 1 := ⟨k576, k11, by decide +kernel, by decide +kernel, by decide +kernel⟩
theorem Y_Uni_areSame : gY y_Uni_areSame c_Uni_areSame 4 (some .boolean) 2 := ⟨k579, k12, by decide +kernel, by decide +kernel, by decide +kernel⟩
theorem Y_Rev_tellFaults : gY y_Rev_tellFaults c_Rev_tellFaults 3 none 0 := ⟨k583, k7, by decide +kernel, by decide +kernel, by decide +kernel⟩
theorem Y_Rev_tell : gY y_Rev_tell c_Rev_tell 4 none 3 := ⟨k587, k7, by decide +kernel, by decide +kernel, by decide +kernel⟩
theorem Y_Rev_tellTwins : gY y_Rev_tellTwins c_Rev_tellTwins 2 none 0 := ⟨k591, k7, by decide +kernel, by decide +kernel, by decide +kernel⟩
theorem Y_Rev_tellLooseArcs : gY y_Rev_tellLooseArcs c_Rev_tellLooseArcs 2 none 0 := ⟨k595, k7, by decide +kernel, by decide +kernel, by decide +kernel⟩
theorem Y_Rev_tellSigns : gY y_Rev_tellSigns c_Rev_tellSigns 3 none 0 := ⟨k600, k7, by decide +kernel, by decide +kernel, by decide +kernel⟩
theorem Y_Tax_hasWrongSign : gY y_Tax_hasWrongSign c_Tax_hasWrongSign 4 (some .boolean) 1 := ⟨k604, k2, by decide +kernel, by decide +kernel, by decide +kernel⟩
theorem Y_Rev_tellCycles : gY y_Rev_tellCycles c_Rev_tellCycles 3 none 0 := ⟨k608, k7, by decide +kernel, by decide +kernel, by decide +kernel⟩
theorem Y_Rev_findWays : gY y_Rev_findWays c_Rev_findWays 4 none 1 := ⟨k612, k7, by decide +kernel, by decide +kernel, by decide +kernel⟩
theorem Y_Arc_isIn : gY y_Arc_isIn c_Arc_isIn 3 (some .boolean) 2 := ⟨k616, k10, by decide +kernel, by decide +kernel, by decide +kernel⟩
theorem Y_Rev_joinWays : gY y_Rev_joinWays c_Rev_joinWays 3 none 0 := ⟨k620, k7, by decide +kernel, by decide +kernel, by decide +kernel⟩
theorem Y_Rev_tellTotals : gY y_Rev_tellTotals c_Rev_tellTotals 3 none 0 := ⟨k624, k7, by decide +kernel, by decide +kernel, by decide +kernel⟩
theorem Y_Rev_gatherParts : gY y_Rev_gatherParts c_Rev_gatherParts 6 none 2 := ⟨k628, k7, by decide +kernel, by decide +kernel, by decide +kernel⟩
theorem Y_Rev_canAdd : gY y_Rev_canAdd c_Rev_canAdd 3 (some .boolean) 1 := ⟨k632, k7, by decide +kernel, by decide +kernel, by decide +kernel⟩
theorem Y_Rev_gatherPartsOf : gY y_Rev_gatherPartsOf c_Rev_gatherPartsOf 5 none 2 := ⟨k636, k7, by decide +kernel, by decide +kernel, by decide +kernel⟩
theorem Y_Fac_isVague : gY y_Fac_isVague c_Fac_isVague 1 (some .boolean) 0 := ⟨k641, k13, by decide +kernel, by decide +kernel, by decide +kernel⟩
theorem Y_Rev_agrees : gY y_Rev_agrees c_Rev_agrees 4 (some .boolean) 1 := ⟨k645, k7, by decide +kernel, by decide +kernel, by decide +kernel⟩
theorem Y_FB_sameContext : gY y_FB_sameContext c_FB_sameContext 3 (some .boolean) 2 := ⟨k652, k1, by decide +kernel, by decide +kernel, by decide +kernel⟩
theorem Y_FB_sameUnit : gY y_FB_sameUnit c_FB_sameUnit 3 (some .boolean) 2 := ⟨k658, k1, by decide +kernel, by decide +kernel, by decide +kernel⟩
theorem Y_FB_value : gY y_FB_value c_FB_value 2 (some .long) 1 := ⟨k664, k1, by decide +kernel, by decide +kernel, by decide +kernel⟩
theorem Y_Rep_hasFact : gY y_Rep_hasFact c_Rep_hasFact 2 (some .boolean) 1 := ⟨k668, k5, by decide +kernel, by decide +kernel, by decide +kernel⟩
theorem Y_FB_places : gY y_FB_places c_FB_places 2 (some .int) 1 := ⟨k672, k1, by decide +kernel, by decide +kernel, by decide +kernel⟩
theorem Y_FB_rounded : gY y_FB_rounded c_FB_rounded 2 (some .long) 1 := ⟨k676, k1, by decide +kernel, by decide +kernel, by decide +kernel⟩
theorem Y_FB_sum : gY y_FB_sum c_FB_sum 3 (some .long) 2 := ⟨k680, k1, by decide +kernel, by decide +kernel, by decide +kernel⟩
theorem Y_FB_problems : gY y_FB_problems c_FB_problems 1 (some .int) 0 := ⟨k685, k1, by decide +kernel, by decide +kernel, by decide +kernel⟩
theorem Y_FB_problem : gY y_FB_problem c_FB_problem 2 (some .int) 1 := ⟨k689, k1, by decide +kernel, by decide +kernel, by decide +kernel⟩
theorem Y_Mod_init : gY y_Mod_init c_Mod_init 1 none 0 := ⟨k694, k8, by decide +kernel, by decide +kernel, by decide +kernel⟩
theorem Y_Mod_refer : gY y_Mod_refer c_Mod_refer 3 (some .boolean) 2 := ⟨k830, k8, by decide +kernel, by decide +kernel, by decide +kernel⟩
theorem Y_Mod_in : gY y_Mod_in c_Mod_in 3 (some .boolean) 3 := ⟨k833, k8, by decide +kernel, by decide +kernel, by decide +kernel⟩
theorem Y_Mod_enter : gY y_Mod_enter c_Mod_enter 2 (some .boolean) 1 := ⟨k837, k8, by decide +kernel, by decide +kernel, by decide +kernel⟩
theorem Y_Mod_discovered : gY y_Mod_discovered c_Mod_discovered 2 (some .boolean) 1 := ⟨k841, k8, by decide +kernel, by decide +kernel, by decide +kernel⟩
theorem Y_Mod_discover : gY y_Mod_discover c_Mod_discover 3 none 0 := ⟨k845, k8, by decide +kernel, by decide +kernel, by decide +kernel⟩
theorem Y_Mod_concept : gY y_Mod_concept c_Mod_concept 6 (some .int) 4 := ⟨k849, k8, by decide +kernel, by decide +kernel, by decide +kernel⟩
theorem Y_Mod_context : gY y_Mod_context c_Mod_context 6 (some .int) 4 := ⟨k853, k8, by decide +kernel, by decide +kernel, by decide +kernel⟩
theorem Y_Mod_sameContext : gY y_Mod_sameContext c_Mod_sameContext 3 (some .boolean) 2 := ⟨k857, k8, by decide +kernel, by decide +kernel, by decide +kernel⟩
theorem Y_Mod_equalContexts : gY y_Mod_equalContexts c_Mod_equalContexts 3 (some .boolean) 2 := ⟨k861, k8, by decide +kernel, by decide +kernel, by decide +kernel⟩
theorem Y_Mod_unit : gY y_Mod_unit c_Mod_unit 4 (some .int) 3 := ⟨k865, k8, by decide +kernel, by decide +kernel, by decide +kernel⟩
theorem Y_Mod_sameUnit : gY y_Mod_sameUnit c_Mod_sameUnit 3 (some .boolean) 2 := ⟨k869, k8, by decide +kernel, by decide +kernel, by decide +kernel⟩
theorem Y_Mod_equalUnits : gY y_Mod_equalUnits c_Mod_equalUnits 5 (some .boolean) 2 := ⟨k873, k8, by decide +kernel, by decide +kernel, by decide +kernel⟩
theorem Y_Mod_setting : gY y_Mod_setting c_Mod_setting 4 (some .boolean) 3 := ⟨k877, k8, by decide +kernel, by decide +kernel, by decide +kernel⟩
theorem Y_Mod_arc : gY y_Mod_arc c_Mod_arc 7 (some .int) 5 := ⟨k881, k8, by decide +kernel, by decide +kernel, by decide +kernel⟩
theorem Y_Mod_left : gY y_Mod_left c_Mod_left 2 (some .boolean) 1 := ⟨k885, k8, by decide +kernel, by decide +kernel, by decide +kernel⟩
theorem Y_Mod_isLeft : gY y_Mod_isLeft c_Mod_isLeft 7 (some .boolean) 1 := ⟨k889, k8, by decide +kernel, by decide +kernel, by decide +kernel⟩
theorem Y_Mod_counts : gY y_Mod_counts c_Mod_counts 2 (some .boolean) 1 := ⟨k893, k8, by decide +kernel, by decide +kernel, by decide +kernel⟩
theorem Y_Mod_known : gY y_Mod_known c_Mod_known 2 (some .boolean) 1 := ⟨k897, k8, by decide +kernel, by decide +kernel, by decide +kernel⟩
theorem Y_Mod_alike : gY y_Mod_alike c_Mod_alike 3 (some .boolean) 2 := ⟨k901, k8, by decide +kernel, by decide +kernel, by decide +kernel⟩
theorem Y_Mod_write : gY y_Mod_write c_Mod_write 3 (some .boolean) 1 := ⟨k905, k8, by decide +kernel, by decide +kernel, by decide +kernel⟩
theorem Y_Mod_fact : gY y_Mod_fact c_Mod_fact 8 (some .int) 5 := ⟨k909, k8, by decide +kernel, by decide +kernel, by decide +kernel⟩
theorem Y_Mod_isNumber : gY y_Mod_isNumber c_Mod_isNumber 9 (some .boolean) 0 := ⟨k913, k8, by decide +kernel, by decide +kernel, by decide +kernel⟩
theorem Y_Mod_value : gY y_Mod_value c_Mod_value 2 (some .long) 1 := ⟨k919, k8, by decide +kernel, by decide +kernel, by decide +kernel⟩
theorem Y_Mod_isFact : gY y_Mod_isFact c_Mod_isFact 2 (some .boolean) 1 := ⟨k923, k8, by decide +kernel, by decide +kernel, by decide +kernel⟩
theorem Y_Mod_places : gY y_Mod_places c_Mod_places 2 (some .int) 1 := ⟨k927, k8, by decide +kernel, by decide +kernel, by decide +kernel⟩
theorem Y_Mod_placesOf : gY y_Mod_placesOf c_Mod_placesOf 7 (some .int) 1 := ⟨k931, k8, by decide +kernel, by decide +kernel, by decide +kernel⟩
theorem Y_Mod_rounded : gY y_Mod_rounded c_Mod_rounded 2 (some .long) 1 := ⟨k937, k8, by decide +kernel, by decide +kernel, by decide +kernel⟩
theorem Y_Mod_roundedOf : gY y_Mod_roundedOf c_Mod_roundedOf 5 (some .long) 1 := ⟨k941, k8, by decide +kernel, by decide +kernel, by decide +kernel⟩
theorem Y_Mod_ten : gY y_Mod_ten c_Mod_ten 4 (some .long) 1 := ⟨k944, k8, by decide +kernel, by decide +kernel, by decide +kernel⟩
theorem Y_Mod_round : gY y_Mod_round c_Mod_round 9 (some .long) 2 := ⟨k947, k8, by decide +kernel, by decide +kernel, by decide +kernel⟩
theorem Y_Mod_sum : gY y_Mod_sum c_Mod_sum 3 (some .long) 2 := ⟨k952, k8, by decide +kernel, by decide +kernel, by decide +kernel⟩
theorem Y_Mod_bound : gY y_Mod_bound c_Mod_bound 5 (some .boolean) 2 := ⟨k956, k8, by decide +kernel, by decide +kernel, by decide +kernel⟩
theorem Y_Mod_part : gY y_Mod_part c_Mod_part 6 (some .boolean) 4 := ⟨k960, k8, by decide +kernel, by decide +kernel, by decide +kernel⟩
theorem Y_Mod_single : gY y_Mod_single c_Mod_single 2 (some .boolean) 1 := ⟨k964, k8, by decide +kernel, by decide +kernel, by decide +kernel⟩
theorem Y_Mod_fault : gY y_Mod_fault c_Mod_fault 6 (some .int) 1 := ⟨k968, k8, by decide +kernel, by decide +kernel, by decide +kernel⟩
theorem Y_Mod_twin : gY y_Mod_twin c_Mod_twin 4 (some .int) 1 := ⟨k972, k8, by decide +kernel, by decide +kernel, by decide +kernel⟩
theorem Y_Mod_twins : gY y_Mod_twins c_Mod_twins 3 (some .boolean) 2 := ⟨k976, k8, by decide +kernel, by decide +kernel, by decide +kernel⟩
theorem Y_Mod_sumOf : gY y_Mod_sumOf c_Mod_sumOf 7 (some .long) 2 := ⟨k980, k8, by decide +kernel, by decide +kernel, by decide +kernel⟩
theorem Y_Mod_problems : gY y_Mod_problems c_Mod_problems 1 (some .int) 0 := ⟨k984, k8, by decide +kernel, by decide +kernel, by decide +kernel⟩
theorem Y_Mod_all : gY y_Mod_all c_Mod_all 5 (some .int) 1 := ⟨k988, k8, by decide +kernel, by decide +kernel, by decide +kernel⟩
theorem Y_Mod_factProblems : gY y_Mod_factProblems c_Mod_factProblems 3 none 0 := ⟨k992, k8, by decide +kernel, by decide +kernel, by decide +kernel⟩
theorem Y_Mod_meet : gY y_Mod_meet c_Mod_meet 2 none 1 := ⟨k996, k8, by decide +kernel, by decide +kernel, by decide +kernel⟩
theorem Y_Mod_wrongSign : gY y_Mod_wrongSign c_Mod_wrongSign 4 (some .boolean) 1 := ⟨k1002, k8, by decide +kernel, by decide +kernel, by decide +kernel⟩
theorem Y_Mod_ways : gY y_Mod_ways c_Mod_ways 4 none 1 := ⟨k1007, k8, by decide +kernel, by decide +kernel, by decide +kernel⟩
theorem Y_Mod_agrees : gY y_Mod_agrees c_Mod_agrees 9 (some .boolean) 2 := ⟨k1012, k8, by decide +kernel, by decide +kernel, by decide +kernel⟩
theorem Y_Mod_vague : gY y_Mod_vague c_Mod_vague 2 (some .boolean) 1 := ⟨k1016, k8, by decide +kernel, by decide +kernel, by decide +kernel⟩
theorem Y_Mod_problem : gY y_Mod_problem c_Mod_problem 2 (some .int) 1 := ⟨k1021, k8, by decide +kernel, by decide +kernel, by decide +kernel⟩
/-- the reference's object; b: where its cells are -/
def mdO (b : Nat → Nat) (N : Nat → Nat) (J : Nat → Int32) (ph : Bool) (rd : Int64) : List Value := [.ref (b 1), .ref (b 2), .ref (b 3), .int (nI (N 0)), .ref (b 4), .ref (b 5), .ref (b 6), .ref (b 7), .int (J 0), .int (J 1), .int (b2i ph), .int (nI (N 1)), .ref (b 8), .ref (b 9), .ref (b 10), .ref (b 11), .ref (b 12), .ref (b 13), .ref (b 14), .ref (b 15), .int (nI (N 2)), .ref (b 16), .ref (b 17), .ref (b 18), .ref (b 19), .int (nI (N 3)), .ref (b 20), .ref (b 21), .ref (b 22), .ref (b 23), .int (nI (N 4)), .long rd, .int (nI (N 5)), .ref (b 24), .ref (b 25), .ref (b 26), .ref (b 27), .ref (b 28), .ref (b 29), .ref (b 30), .int (J 2), .int (J 3), .int (J 4)]
/-- the reference's world -/
def mdW (b : Nat → Nat) (ty : Nat → ClassId) (B : Nat → Nat → Bool) (N : Nat → Nat) (E : Nat → Nat → Int32) (J : Nat → Int32) (ph : Bool) (V : Nat → Int64) (rd : Int64) (rest : va_W) : va_W := (b 0, .inr (12, mdO b N J ph rd)) :: (b 1, .inl (ty 2, 64, .inl (fun j => b2i (B 0 j)))) :: (b 2, .inl (ty 2, 8, .inl (fun j => b2i (B 1 j)))) :: (b 3, .inl (ty 2, 8, .inl (fun j => b2i (B 2 j)))) :: (b 4, .inl (ty 0, 16, .inl (E 0))) :: (b 5, .inl (ty 0, 16, .inl (E 1))) :: (b 6, .inl (ty 0, 16, .inl (E 2))) :: (b 7, .inl (ty 0, 16, .inl (E 3))) :: (b 8, .inl (ty 0, 32, .inl (E 4))) :: (b 9, .inl (ty 0, 32, .inl (E 5))) :: (b 10, .inl (ty 0, 32, .inl (E 6))) :: (b 11, .inl (ty 0, 32, .inl (E 7))) :: (b 12, .inl (ty 0, 32, .inl (E 8))) :: (b 13, .inl (ty 0, 32, .inl (E 9))) :: (b 14, .inl (ty 0, 32, .inl (E 10))) :: (b 15, .inl (ty 2, 32, .inl (fun j => b2i (B 3 j)))) :: (b 16, .inl (ty 0, 12, .inl (E 11))) :: (b 17, .inl (ty 0, 12, .inl (E 12))) :: (b 18, .inl (ty 0, 12, .inl (E 13))) :: (b 19, .inl (ty 0, 12, .inl (E 14))) :: (b 20, .inl (ty 0, 8, .inl (E 15))) :: (b 21, .inl (ty 0, 8, .inl (E 16))) :: (b 22, .inl (ty 0, 8, .inl (E 17))) :: (b 23, .inl (ty 0, 20, .inl (E 18))) :: (b 24, .inl (ty 0, 20, .inl (E 19))) :: (b 25, .inl (ty 0, 20, .inl (E 20))) :: (b 26, .inl (ty 0, 20, .inl (E 21))) :: (b 27, .inl (ty 0, 20, .inl (E 22))) :: (b 28, .inl (ty 0, 20, .inl (E 23))) :: (b 29, .inl (ty 1, 20, .inr (.inl V))) :: (b 30, .inl (ty 2, 256, .inl (fun j => b2i (B 4 j)))) :: rest
/-- an index that is in range -/
def rg (x : Int32) (n : Nat) : Prop := x = nI (ix x) ∧ ix x < n
theorem rg_nI {c n : Nat} (h : c < n) (hn : n < 2 ^ 31) : rg (nI c) n := by
  have e := ix_nI (n := c) (by omega)
  exact ⟨by rw [e], by rw [e]; exact h⟩
theorem rg_of {x : Int32} {n : Nat} (h0 : 0 ≤ x) (h1 : x < nI n) (hn : n < 2 ^ 31) : rg x n := by
  have h2 := Int32.le_iff_toInt_le.mp h0
  have h3 := Int32.lt_iff_toInt_lt.mp h1
  rw [nI_toInt hn] at h3
  have e0 : (0 : Int32).toInt = 0 := rfl
  obtain ⟨j, hj, rfl⟩ : ∃ j : Nat, j < n ∧ x = nI j := ⟨x.toInt.toNat, by omega, Int32.toInt_inj.mp (by rw [nI_toInt (by omega)]; omega)⟩
  exact rg_nI hj hn
def mI (E : Nat → Nat → Int32) : Prop := (∀ c, rg (E 0 c) 8) ∧ (∀ a, rg (E 4 a) 8) ∧ (∀ a, rg (E 7 a) 16) ∧ (∀ a, rg (E 8 a) 16) ∧ (∀ f, rg (E 19 f) 16) ∧ (∀ f, rg (E 20 f) 12) ∧ (∀ f, E 21 f < 0 ∨ rg (E 21 f) 8)
def mN (N : Nat → Nat) : Prop := N 0 ≤ 16 ∧ N 1 ≤ 32 ∧ N 2 ≤ 12 ∧ N 3 ≤ 8 ∧ N 4 ≤ 20 ∧ N 5 ≤ 20
