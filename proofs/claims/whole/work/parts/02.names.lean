/-! NAMES, by program out of the claim's own listing: words, kinds of objects and arrays, methods -/
def x_Ts : List Cond := lw_tbl.filter goodWord
theorem x_in1 {w : Cond} (i : Nat) (h : tables_1[i]? = some w) (hg : goodWord w = true) : w ∈ x_Ts :=
  List.mem_filter.mpr ⟨List.mem_append_right _ (List.mem_of_getElem? h), hg⟩
theorem x_in2 {w : Cond} (i : Nat) (q : MethodName × Nat) (h : lw_privs[i]? = some q) (hw : Cond.selects q.1.cls q.1 q.1 = w) (hg : goodWord w = true) : w ∈ x_Ts :=
  List.mem_filter.mpr ⟨List.mem_append_left _ (by rw [← hw]; exact List.mem_map.mpr ⟨q, List.mem_of_getElem? h, rfl⟩), hg⟩
theorem x_in3 {w : Cond} (h : w ∈ tables_1) (hg : goodWord w = true) : w ∈ x_Ts := List.mem_filter.mpr ⟨List.mem_append_right _ h, hg⟩
theorem x_r1 {w : Cond} (i : Nat) (h : tables_1_1[i]? = some w) : w ∈ tables_1 := List.mem_append_left _ (List.mem_of_getElem? h)
theorem x_r2 {w : Cond} (i : Nat) (h : tables_1_2[i]? = some w) : w ∈ tables_1 := List.mem_append_right _ (List.mem_append_left _ (List.mem_of_getElem? h))
theorem x_r3 {w : Cond} (i : Nat) (h : tables_1_3[i]? = some w) : w ∈ tables_1 := List.mem_append_right _ (List.mem_append_right _ (List.mem_append_left _ (List.mem_of_getElem? h)))
theorem x_r4 {w : Cond} (i : Nat) (h : tables_1_4[i]? = some w) : w ∈ tables_1 := List.mem_append_right _ (List.mem_append_right _ (List.mem_append_right _ (List.mem_append_left _ (List.mem_of_getElem? h))))
theorem x_r5 {w : Cond} (i : Nat) (h : tables_1_5[i]? = some w) : w ∈ tables_1 := List.mem_append_right _ (List.mem_append_right _ (List.mem_append_right _ (List.mem_append_right _ (List.mem_append_left _ (List.mem_of_getElem? h)))))
theorem x_r6 {w : Cond} (i : Nat) (h : tables_1_6[i]? = some w) : w ∈ tables_1 := List.mem_append_right _ (List.mem_append_right _ (List.mem_append_right _ (List.mem_append_right _ (List.mem_append_right _ (List.mem_of_getElem? h)))))
theorem x_up {a w : Cond} (h : w ∈ x_Ts) : w ∈ (a :: x_Ts) := List.mem_cons_of_mem _ h
theorem x_gd {a : Cond} {ws : List Cond} (h : ∀ w ∈ ws, w ∈ x_Ts) : GoodIn (a :: x_Ts) ws := fun w hw => ⟨x_up (h w hw), good_of_word (List.mem_filter.mp (h w hw)).2⟩
theorem x_gd1 {a c : Cond} (hc : c ∈ x_Ts) : GoodIn (a :: x_Ts) (c :: x_Ts) := x_gd (List.forall_mem_cons.2 ⟨hc, fun _ h => h⟩)
theorem x_gdV {a c : Cond} {own C : String} {idx : Nat} {y : MethodName} (h1 : Cond.methodLink own idx y ∈ x_Ts) (h2 : Cond.instanceMethod y ∈ x_Ts) (h3 : Cond.selects C y y ∈ x_Ts) (h4 : Cond.initialized C ∈ x_Ts) (hc : c ∈ x_Ts) : GoodIn (a :: x_Ts) (wsV own idx C y (c :: x_Ts)) :=
  x_gd (List.forall_mem_cons.2 ⟨h1, List.forall_mem_cons.2 ⟨h2, List.forall_mem_cons.2 ⟨h3, List.forall_mem_cons.2 ⟨h4, List.forall_mem_cons.2 ⟨hc, fun _ h => h⟩⟩⟩⟩⟩)
theorem x_gdS {a c : Cond} {own : String} {idx : Nat} {y : MethodName} (h1 : Cond.methodLink own idx y ∈ x_Ts) (h2 : Cond.static y ∈ x_Ts) (h3 : Cond.initialized y.cls ∈ x_Ts) (hc : c ∈ x_Ts) : GoodIn (a :: x_Ts) (va_wsS own idx y (c :: x_Ts)) :=
  x_gd (List.forall_mem_cons.2 ⟨h1, List.forall_mem_cons.2 ⟨h2, List.forall_mem_cons.2 ⟨h3, List.forall_mem_cons.2 ⟨hc, fun _ h => h⟩⟩⟩⟩)
theorem mw_0 : (Cond.laysFinal "ProofDesk" "ProofDesk" "paper" "LProofDesk$Draft;") ∈ x_Ts := x_in1 209 (by decide +kernel) rfl
theorem mw_1 : (Cond.laysFinal "ProofDesk" "ProofDesk" "desk" "[LProofDesk$Clause;") ∈ x_Ts := x_in1 211 (by decide +kernel) rfl
theorem mw_2 : (Cond.lays "ProofDesk" "ProofDesk" "count" "I") ∈ x_Ts := x_in1 213 (by decide +kernel) rfl
theorem mw_3 : (Cond.laysFinal "ProofDesk" "ProofDesk" "uses" "LProofDesk$Uses;") ∈ x_Ts := x_in1 215 (by decide +kernel) rfl
theorem mw_4 : (Cond.laysFinal "ProofDesk" "ProofDesk" "claim" "LProofDesk$Form;") ∈ x_Ts := x_in1 217 (by decide +kernel) rfl
theorem mw_5 : (Cond.lays "ProofDesk" "ProofDesk" "claimed" "Z") ∈ x_Ts := x_in1 219 (by decide +kernel) rfl
theorem mw_6 : (Cond.lays "ProofDesk" "ProofDesk" "claimFault" "I") ∈ x_Ts := x_in1 221 (by decide +kernel) rfl
theorem mw_7 : (Cond.laysFinal "ProofDesk" "ProofDesk" "deduction" "LProofDesk$Deduction;") ∈ x_Ts := x_in1 223 (by decide +kernel) rfl
theorem mw_8 : (Cond.laysFinal "ProofDesk" "ProofDesk" "matcher" "LProofDesk$Matcher;") ∈ x_Ts := x_in1 225 (by decide +kernel) rfl
theorem mw_9 : (Cond.lays "ProofDesk" "ProofDesk" "latestFault" "I") ∈ x_Ts := x_in1 227 (by decide +kernel) rfl
theorem mw_10 : (Cond.laysFinal "ProofDesk$Clause" "ProofDesk$Clause" "form" "LProofDesk$Form;") ∈ x_Ts := x_in1 746 (by decide +kernel) rfl
theorem mw_11 : (Cond.laysFinal "ProofDesk$Clause" "ProofDesk$Clause" "level" "I") ∈ x_Ts := x_in1 748 (by decide +kernel) rfl
theorem mw_12 : (Cond.laysFinal "ProofDesk$Clause" "ProofDesk$Clause" "sources" "I") ∈ x_Ts := x_in1 750 (by decide +kernel) rfl
theorem mw_13 : (Cond.laysFinal "ProofDesk$Clause" "ProofDesk$Clause" "text" "Ljava/lang/String;") ∈ x_Ts := x_in1 752 (by decide +kernel) rfl
theorem mw_14 : (Cond.laysFinal "ProofDesk$Deduction" "ProofDesk$Deduction" "result" "LProofDesk$Form;") ∈ x_Ts := x_in1 166 (by decide +kernel) rfl
theorem mw_15 : (Cond.laysFinal "ProofDesk$Deduction" "ProofDesk$Deduction" "graph" "LProofDesk$Graph;") ∈ x_Ts := x_in1 168 (by decide +kernel) rfl
theorem mw_16 : (Cond.lays "ProofDesk$Deduction" "ProofDesk$Deduction" "one" "I") ∈ x_Ts := x_in1 170 (by decide +kernel) rfl
theorem mw_17 : (Cond.lays "ProofDesk$Deduction" "ProofDesk$Deduction" "other" "I") ∈ x_Ts := x_in1 172 (by decide +kernel) rfl
theorem mw_18 : (Cond.lays "ProofDesk$Deduction" "ProofDesk$Deduction" "firstLeftOut" "I") ∈ x_Ts := x_in1 174 (by decide +kernel) rfl
theorem mw_19 : (Cond.lays "ProofDesk$Deduction" "ProofDesk$Deduction" "secondLeftOut" "I") ∈ x_Ts := x_in1 176 (by decide +kernel) rfl
theorem mw_20 : (Cond.lays "ProofDesk$Deduction" "ProofDesk$Deduction" "place" "I") ∈ x_Ts := x_in1 178 (by decide +kernel) rfl
theorem mw_21 : (Cond.lays "ProofDesk$Deduction" "ProofDesk$Deduction" "filling" "I") ∈ x_Ts := x_in1 180 (by decide +kernel) rfl
theorem mw_22 : (Cond.laysFinal "ProofDesk$Draft" "ProofDesk$Draft" "text" "[C") ∈ x_Ts := x_in1 46 (by decide +kernel) rfl
theorem mw_23 : (Cond.lays "ProofDesk$Draft" "ProofDesk$Draft" "at" "I") ∈ x_Ts := x_in1 48 (by decide +kernel) rfl
theorem mw_24 : (Cond.lays "ProofDesk$Draft" "ProofDesk$Draft" "length" "I") ∈ x_Ts := x_in1 50 (by decide +kernel) rfl
theorem mw_25 : (Cond.laysFinal "ProofDesk$Form" "ProofDesk$Form" "symbols" "[I") ∈ x_Ts := x_in1 101 (by decide +kernel) rfl
theorem mw_26 : (Cond.laysFinal "ProofDesk$Form" "ProofDesk$Form" "ends" "[I") ∈ x_Ts := x_in1 103 (by decide +kernel) rfl
theorem mw_27 : (Cond.laysFinal "ProofDesk$Form" "ProofDesk$Form" "negated" "[Z") ∈ x_Ts := x_in1 105 (by decide +kernel) rfl
theorem mw_28 : (Cond.lays "ProofDesk$Form" "ProofDesk$Form" "count" "I") ∈ x_Ts := x_in1 107 (by decide +kernel) rfl
theorem mw_29 : (Cond.lays "ProofDesk$Form" "ProofDesk$Form" "length" "I") ∈ x_Ts := x_in1 109 (by decide +kernel) rfl
theorem mw_30 : (Cond.lays "ProofDesk$Form" "ProofDesk$Form" "opened" "I") ∈ x_Ts := x_in1 111 (by decide +kernel) rfl
theorem mw_31 : (Cond.laysFinal "ProofDesk$Graph" "ProofDesk$Graph" "symbols" "[I") ∈ x_Ts := x_in1 138 (by decide +kernel) rfl
theorem mw_32 : (Cond.laysFinal "ProofDesk$Graph" "ProofDesk$Graph" "ends" "[I") ∈ x_Ts := x_in1 140 (by decide +kernel) rfl
theorem mw_33 : (Cond.laysFinal "ProofDesk$Graph" "ProofDesk$Graph" "roots" "[I") ∈ x_Ts := x_in1 142 (by decide +kernel) rfl
theorem mw_34 : (Cond.laysFinal "ProofDesk$Graph" "ProofDesk$Graph" "firsts" "[I") ∈ x_Ts := x_in1 144 (by decide +kernel) rfl
theorem mw_35 : (Cond.laysFinal "ProofDesk$Graph" "ProofDesk$Graph" "finite" "[Z") ∈ x_Ts := x_in1 146 (by decide +kernel) rfl
theorem mw_36 : (Cond.laysFinal "ProofDesk$Graph" "ProofDesk$Graph" "ones" "[I") ∈ x_Ts := x_in1 148 (by decide +kernel) rfl
theorem mw_37 : (Cond.laysFinal "ProofDesk$Graph" "ProofDesk$Graph" "others" "[I") ∈ x_Ts := x_in1 150 (by decide +kernel) rfl
theorem mw_38 : (Cond.lays "ProofDesk$Graph" "ProofDesk$Graph" "length" "I") ∈ x_Ts := x_in1 152 (by decide +kernel) rfl
theorem mw_39 : (Cond.lays "ProofDesk$Graph" "ProofDesk$Graph" "waiting" "I") ∈ x_Ts := x_in1 154 (by decide +kernel) rfl
theorem mw_40 : (Cond.laysFinal "ProofDesk$Matcher" "ProofDesk$Matcher" "terms" "[I") ∈ x_Ts := x_in1 192 (by decide +kernel) rfl
theorem mw_41 : (Cond.laysFinal "ProofDesk$Matcher" "ProofDesk$Matcher" "bound" "[I") ∈ x_Ts := x_in1 194 (by decide +kernel) rfl
theorem mw_42 : (Cond.lays "ProofDesk$Matcher" "ProofDesk$Matcher" "many" "I") ∈ x_Ts := x_in1 196 (by decide +kernel) rfl
theorem mw_43 : (Cond.laysFinal "ProofDesk$Uses" "ProofDesk$Uses" "known" "[I") ∈ x_Ts := x_in1 64 (by decide +kernel) rfl
theorem mw_44 : (Cond.laysFinal "ProofDesk$Uses" "ProofDesk$Uses" "trial" "[I") ∈ x_Ts := x_in1 66 (by decide +kernel) rfl
theorem mw_45 : (Cond.lays "ProofDeskModel" "ProofDeskModel" "fault" "I") ∈ x_Ts := x_in1 998 (by decide +kernel) rfl
theorem mw_46 : (Cond.lays "ProofDeskModel" "ProofDeskModel" "why" "I") ∈ x_Ts := x_in1 1000 (by decide +kernel) rfl
theorem mw_47 : (Cond.lays "ProofDeskModel" "ProofDeskModel" "clauses" "I") ∈ x_Ts := x_in1 1002 (by decide +kernel) rfl
theorem mw_48 : (Cond.laysFinal "ProofDeskModel" "ProofDeskModel" "sign" "[I") ∈ x_Ts := x_in1 1004 (by decide +kernel) rfl
theorem mw_49 : (Cond.laysFinal "ProofDeskModel" "ProofDeskModel" "begin" "[I") ∈ x_Ts := x_in1 1006 (by decide +kernel) rfl
theorem mw_50 : (Cond.laysFinal "ProofDeskModel" "ProofDeskModel" "many" "[I") ∈ x_Ts := x_in1 1008 (by decide +kernel) rfl
theorem mw_51 : (Cond.laysFinal "ProofDeskModel" "ProofDeskModel" "depth" "[I") ∈ x_Ts := x_in1 1010 (by decide +kernel) rfl
theorem mw_52 : (Cond.laysFinal "ProofDeskModel" "ProofDeskModel" "need" "[I") ∈ x_Ts := x_in1 1012 (by decide +kernel) rfl
theorem mw_53 : (Cond.laysFinal "ProofDeskModel" "ProofDeskModel" "negated" "[Z") ∈ x_Ts := x_in1 1014 (by decide +kernel) rfl
theorem mw_54 : (Cond.laysFinal "ProofDeskModel" "ProofDeskModel" "isGiven" "[Z") ∈ x_Ts := x_in1 1016 (by decide +kernel) rfl
theorem mw_55 : (Cond.laysFinal "ProofDeskModel" "ProofDeskModel" "use" "[I") ∈ x_Ts := x_in1 1018 (by decide +kernel) rfl
theorem mw_56 : (Cond.laysFinal "ProofDeskModel" "ProofDeskModel" "used" "[I") ∈ x_Ts := x_in1 1020 (by decide +kernel) rfl
theorem mw_57 : (Cond.laysFinal "ProofDeskModel" "ProofDeskModel" "draft" "[C") ∈ x_Ts := x_in1 1022 (by decide +kernel) rfl
theorem mw_58 : (Cond.lays "ProofDeskModel" "ProofDeskModel" "drafted" "I") ∈ x_Ts := x_in1 1024 (by decide +kernel) rfl
theorem mw_59 : (Cond.lays "ProofDeskModel" "ProofDeskModel" "at" "I") ∈ x_Ts := x_in1 1026 (by decide +kernel) rfl
theorem mw_60 : (Cond.lays "ProofDeskModel" "ProofDeskModel" "bad" "Z") ∈ x_Ts := x_in1 1028 (by decide +kernel) rfl
theorem mw_61 : (Cond.lays "ProofDeskModel" "ProofDeskModel" "unlike" "Z") ∈ x_Ts := x_in1 1030 (by decide +kernel) rfl
theorem mw_62 : (Cond.laysFinal "ProofDeskModel" "ProofDeskModel" "row" "[I") ∈ x_Ts := x_in1 1032 (by decide +kernel) rfl
theorem mw_63 : (Cond.laysFinal "ProofDeskModel" "ProofDeskModel" "start" "[I") ∈ x_Ts := x_in1 1034 (by decide +kernel) rfl
theorem mw_64 : (Cond.laysFinal "ProofDeskModel" "ProofDeskModel" "map" "[I") ∈ x_Ts := x_in1 1036 (by decide +kernel) rfl
theorem mw_65 : (Cond.laysFinal "ProofDeskModel" "ProofDeskModel" "minus" "[Z") ∈ x_Ts := x_in1 1038 (by decide +kernel) rfl
theorem mw_66 : (Cond.lays "ProofDeskModel" "ProofDeskModel" "rows" "I") ∈ x_Ts := x_in1 1040 (by decide +kernel) rfl
theorem mw_67 : (Cond.lays "ProofDeskModel" "ProofDeskModel" "literals" "I") ∈ x_Ts := x_in1 1042 (by decide +kernel) rfl
theorem mw_68 : (Cond.lays "ProofDeskModel" "ProofDeskModel" "names" "I") ∈ x_Ts := x_in1 1044 (by decide +kernel) rfl
theorem mw_69 : (Cond.lays "ProofDeskModel" "ProofDeskModel" "great" "Z") ∈ x_Ts := x_in1 1046 (by decide +kernel) rfl
theorem mw_70 : (Cond.laysFinal "ProofDeskModel" "ProofDeskModel" "claim" "[I") ∈ x_Ts := x_in1 1048 (by decide +kernel) rfl
theorem mw_71 : (Cond.laysFinal "ProofDeskModel" "ProofDeskModel" "claimStart" "[I") ∈ x_Ts := x_in1 1050 (by decide +kernel) rfl
theorem mw_72 : (Cond.laysFinal "ProofDeskModel" "ProofDeskModel" "claimMinus" "[Z") ∈ x_Ts := x_in1 1052 (by decide +kernel) rfl
theorem mw_73 : (Cond.lays "ProofDeskModel" "ProofDeskModel" "claims" "I") ∈ x_Ts := x_in1 1054 (by decide +kernel) rfl
theorem mw_74 : (Cond.laysFinal "ProofDeskModel" "ProofDeskModel" "place" "[I") ∈ x_Ts := x_in1 1056 (by decide +kernel) rfl
theorem mw_75 : (Cond.laysFinal "ProofDeskModel" "ProofDeskModel" "bound" "[I") ∈ x_Ts := x_in1 1058 (by decide +kernel) rfl
theorem mw_76 : (Cond.laysFinal "ProofDeskModel" "ProofDeskModel" "left" "[I") ∈ x_Ts := x_in1 1060 (by decide +kernel) rfl
theorem mw_77 : (Cond.laysFinal "ProofDeskModel" "ProofDeskModel" "right" "[I") ∈ x_Ts := x_in1 1062 (by decide +kernel) rfl
theorem mw_78 : (Cond.laysFinal "ProofDeskModel" "ProofDeskModel" "stack" "[I") ∈ x_Ts := x_in1 1064 (by decide +kernel) rfl
theorem mw_79 : (Cond.laysFinal "ProofDeskModel" "ProofDeskModel" "ends" "[I") ∈ x_Ts := x_in1 1066 (by decide +kernel) rfl
theorem mw_80 : (Cond.laysFinal "ProofDeskModel" "ProofDeskModel" "chosen" "[I") ∈ x_Ts := x_in1 1068 (by decide +kernel) rfl
theorem mw_81 : (Cond.lays "ProofDeskModel" "ProofDeskModel" "shown" "I") ∈ x_Ts := x_in1 1070 (by decide +kernel) rfl
theorem mw_82 : (Cond.lays "ProofDeskModel" "ProofDeskModel" "wanted" "I") ∈ x_Ts := x_in1 1072 (by decide +kernel) rfl
theorem mw_83 : (Cond.lays "ProofDeskModel" "ProofDeskModel" "got" "I") ∈ x_Ts := x_in1 1074 (by decide +kernel) rfl
theorem mw_84 : (Cond.laysFinal "java/lang/String" "java/lang/String" "value" "[B") ∈ x_Ts := x_in1 725 (by decide +kernel) rfl
theorem mw_85 : (Cond.laysFinal "java/lang/String" "java/lang/String" "coder" "B") ∈ x_Ts := x_in1 727 (by decide +kernel) rfl
theorem mw_86 : (Cond.lays "java/lang/String" "java/lang/String" "hash" "I") ∈ x_Ts := x_in1 729 (by decide +kernel) rfl
theorem mw_87 : (Cond.lays "java/lang/String" "java/lang/String" "hashIsZero" "Z") ∈ x_Ts := x_in1 731 (by decide +kernel) rfl
theorem mw_88 : (Cond.lays "java/lang/StringBuilder" "java/lang/AbstractStringBuilder" "value" "[B") ∈ x_Ts := x_in1 587 (by decide +kernel) rfl
theorem mw_89 : (Cond.lays "java/lang/StringBuilder" "java/lang/AbstractStringBuilder" "coder" "B") ∈ x_Ts := x_in1 589 (by decide +kernel) rfl
theorem mw_90 : (Cond.lays "java/lang/StringBuilder" "java/lang/AbstractStringBuilder" "maybeLatin1" "Z") ∈ x_Ts := x_in1 591 (by decide +kernel) rfl
theorem mw_91 : (Cond.lays "java/lang/StringBuilder" "java/lang/AbstractStringBuilder" "count" "I") ∈ x_Ts := x_in1 593 (by decide +kernel) rfl
theorem mw_92 : (Cond.initialized "java/lang/Throwable") ∈ x_Ts := x_in1 11 (by decide +kernel) rfl
theorem mw_93 : (Cond.superclass "java/lang/Throwable" "java/lang/Object") ∈ x_Ts := x_in1 473 (by decide +kernel) rfl
theorem mw_94 : (Cond.instanceMethod ⟨"java/lang/Throwable", "fillInStackTrace", "()Ljava/lang/Throwable;"⟩) ∈ x_Ts := x_in1 482 (by decide +kernel) rfl
theorem mw_95 : (Cond.codeSync ⟨"java/lang/Throwable", "fillInStackTrace", "()Ljava/lang/Throwable;"⟩ prog_24_method_18_code 1 (Option.some (.object "java/lang/Throwable"))) ∈ x_Ts := x_in3 (x_r3 7 rfl) rfl
theorem mw_96 : (Cond.instanceMethod ⟨"java/lang/Throwable", "fillInStackTrace", "(I)Ljava/lang/Throwable;"⟩) ∈ x_Ts := x_in1 490 (by decide +kernel) rfl
theorem mw_97 : (Cond.native ⟨"java/lang/Throwable", "fillInStackTrace", "(I)Ljava/lang/Throwable;"⟩) ∈ x_Ts := x_in1 492 (by decide +kernel) rfl
theorem mw_98 : (Cond.instanceMethod ⟨"java/lang/Throwable", "<init>", "()V"⟩) ∈ x_Ts := x_in1 474 (by decide +kernel) rfl
theorem mw_99 : (Cond.code ⟨"java/lang/Throwable", "<init>", "()V"⟩ prog_24_method_1_code 1 (Option.none : Option Jvm.ClassFile.FieldType)) ∈ x_Ts := x_in3 (x_r2 235 rfl) rfl
theorem mw_100 : (Cond.instanceMethod ⟨"java/lang/Object", "<init>", "()V"⟩) ∈ x_Ts := x_in1 34 (by decide +kernel) rfl
theorem mw_101 : (Cond.methodLink "java/lang/Throwable" 1 ⟨"java/lang/Object", "<init>", "()V"⟩) ∈ x_Ts := x_in1 476 (by decide +kernel) rfl
theorem mw_102 : (Cond.methodLink "java/lang/Throwable" 27 ⟨"java/lang/Throwable", "fillInStackTrace", "()Ljava/lang/Throwable;"⟩) ∈ x_Ts := x_in1 481 (by decide +kernel) rfl
theorem mw_103 : (Cond.methodLink "java/lang/Throwable" 202 ⟨"java/lang/Throwable", "fillInStackTrace", "(I)Ljava/lang/Throwable;"⟩) ∈ x_Ts := x_in1 488 (by decide +kernel) rfl
theorem mw_104 : (Cond.fieldLink "java/lang/Throwable" 7 "java/lang/Throwable" "cause" "Ljava/lang/Throwable;") ∈ x_Ts := x_in1 508 (by decide +kernel) rfl
theorem mw_105 : (Cond.lays "java/lang/Throwable" "java/lang/Throwable" "cause" "Ljava/lang/Throwable;") ∈ x_Ts := x_in1 463 (by decide +kernel) rfl
theorem mw_106 : (Cond.fieldLink "java/lang/Throwable" 17 "java/lang/Throwable" "stackTrace" "[Ljava/lang/StackTraceElement;") ∈ x_Ts := x_in1 509 (by decide +kernel) rfl
theorem mw_107 : (Cond.lays "java/lang/Throwable" "java/lang/Throwable" "stackTrace" "[Ljava/lang/StackTraceElement;") ∈ x_Ts := x_in1 465 (by decide +kernel) rfl
theorem mw_108 : (Cond.fieldLink "java/lang/Throwable" 24 "java/lang/Throwable" "suppressedExceptions" "Ljava/util/List;") ∈ x_Ts := x_in1 510 (by decide +kernel) rfl
theorem mw_109 : (Cond.lays "java/lang/Throwable" "java/lang/Throwable" "suppressedExceptions" "Ljava/util/List;") ∈ x_Ts := x_in1 467 (by decide +kernel) rfl
theorem mw_110 : (Cond.fieldLink "java/lang/Throwable" 13 "java/lang/Throwable" "UNASSIGNED_STACK" "[Ljava/lang/StackTraceElement;") ∈ x_Ts := x_in1 477 (by decide +kernel) rfl
theorem mw_111 : (Cond.fieldLink "java/lang/Throwable" 20 "java/lang/Throwable" "SUPPRESSED_SENTINEL" "Ljava/util/List;") ∈ x_Ts := x_in1 479 (by decide +kernel) rfl
theorem mw_112 : (Cond.lays "java/lang/Throwable" "java/lang/Throwable" "detailMessage" "Ljava/lang/String;") ∈ x_Ts := x_in1 469 (by decide +kernel) rfl
theorem mw_113 : (Cond.instanceMethod ⟨"java/lang/Throwable", "<init>", "(Ljava/lang/String;)V"⟩) ∈ x_Ts := x_in1 504 (by decide +kernel) rfl
theorem mw_114 : (Cond.code ⟨"java/lang/Throwable", "<init>", "(Ljava/lang/String;)V"⟩ prog_24_method_2_code 2 (Option.none : Option Jvm.ClassFile.FieldType)) ∈ x_Ts := x_in3 (x_r3 25 rfl) rfl
theorem mw_115 : (Cond.fieldLink "java/lang/Throwable" 31 "java/lang/Throwable" "detailMessage" "Ljava/lang/String;") ∈ x_Ts := x_in1 507 (by decide +kernel) rfl
theorem mw_116 : (Cond.instanceMethod ⟨"java/lang/IllegalArgumentException", "<init>", "(Ljava/lang/String;)V"⟩) ∈ x_Ts := x_in1 531 (by decide +kernel) rfl
theorem mw_117 : (Cond.code ⟨"java/lang/IllegalArgumentException", "<init>", "(Ljava/lang/String;)V"⟩ prog_15_method_2_code 2 (Option.none : Option Jvm.ClassFile.FieldType)) ∈ x_Ts := x_in3 (x_r3 52 rfl) rfl
theorem mw_118 : (Cond.methodLink "java/lang/IllegalArgumentException" 7 ⟨"java/lang/RuntimeException", "<init>", "(Ljava/lang/String;)V"⟩) ∈ x_Ts := x_in1 533 (by decide +kernel) rfl
theorem mw_119 : (Cond.instanceMethod ⟨"java/lang/RuntimeException", "<init>", "(Ljava/lang/String;)V"⟩) ∈ x_Ts := x_in1 498 (by decide +kernel) rfl
theorem mw_120 : (Cond.code ⟨"java/lang/RuntimeException", "<init>", "(Ljava/lang/String;)V"⟩ prog_18_method_2_code 2 (Option.none : Option Jvm.ClassFile.FieldType)) ∈ x_Ts := x_in3 (x_r3 19 rfl) rfl
theorem mw_121 : (Cond.methodLink "java/lang/RuntimeException" 7 ⟨"java/lang/Exception", "<init>", "(Ljava/lang/String;)V"⟩) ∈ x_Ts := x_in1 500 (by decide +kernel) rfl
theorem mw_122 : (Cond.instanceMethod ⟨"java/lang/Exception", "<init>", "(Ljava/lang/String;)V"⟩) ∈ x_Ts := x_in1 501 (by decide +kernel) rfl
theorem mw_123 : (Cond.code ⟨"java/lang/Exception", "<init>", "(Ljava/lang/String;)V"⟩ prog_14_method_2_code 2 (Option.none : Option Jvm.ClassFile.FieldType)) ∈ x_Ts := x_in3 (x_r3 22 rfl) rfl
theorem mw_124 : (Cond.methodLink "java/lang/Exception" 7 ⟨"java/lang/Throwable", "<init>", "(Ljava/lang/String;)V"⟩) ∈ x_Ts := x_in1 503 (by decide +kernel) rfl
theorem mw_125 : (Cond.methodLink "ProofDesk" 78 ⟨"java/lang/IllegalArgumentException", "<init>", "(Ljava/lang/String;)V"⟩) ∈ x_Ts := x_in1 530 (by decide +kernel) rfl
theorem mw_126 : (Cond.instantiable "java/lang/IllegalArgumentException" 6) ∈ x_Ts := x_in1 521 (by decide +kernel) rfl
theorem mw_127 : (Cond.selects "java/lang/IllegalArgumentException" ⟨"java/lang/Throwable", "fillInStackTrace", "(I)Ljava/lang/Throwable;"⟩ ⟨"java/lang/Throwable", "fillInStackTrace", "(I)Ljava/lang/Throwable;"⟩) ∈ x_Ts := x_in1 523 (by decide +kernel) rfl
theorem mw_128 : (Cond.selects "java/lang/IllegalArgumentException" ⟨"java/lang/Throwable", "fillInStackTrace", "()Ljava/lang/Throwable;"⟩ ⟨"java/lang/Throwable", "fillInStackTrace", "()Ljava/lang/Throwable;"⟩) ∈ x_Ts := x_in1 484 (by decide +kernel) rfl
theorem mw_129 : (Cond.lays "java/lang/IllegalArgumentException" "java/lang/Throwable" "cause" "Ljava/lang/Throwable;") ∈ x_Ts := x_in1 524 (by decide +kernel) rfl
theorem mw_130 : (Cond.lays "java/lang/IllegalArgumentException" "java/lang/Throwable" "stackTrace" "[Ljava/lang/StackTraceElement;") ∈ x_Ts := x_in1 525 (by decide +kernel) rfl
theorem mw_131 : (Cond.lays "java/lang/IllegalArgumentException" "java/lang/Throwable" "suppressedExceptions" "Ljava/util/List;") ∈ x_Ts := x_in1 526 (by decide +kernel) rfl
theorem mw_132 : (Cond.lays "java/lang/IllegalArgumentException" "java/lang/Throwable" "detailMessage" "Ljava/lang/String;") ∈ x_Ts := x_in1 527 (by decide +kernel) rfl
theorem mw_133 : (Cond.fieldLink "java/lang/Throwable" 198 "java/lang/Throwable" "backtrace" "Ljava/lang/Object;") ∈ x_Ts := x_in1 472 (by decide +kernel) rfl
theorem mw_134 : (Cond.lays "java/lang/Throwable" "java/lang/Throwable" "backtrace" "Ljava/lang/Object;") ∈ x_Ts := x_in1 471 (by decide +kernel) rfl
theorem mw_135 : (Cond.lays "java/lang/IllegalArgumentException" "java/lang/Throwable" "backtrace" "Ljava/lang/Object;") ∈ x_Ts := x_in1 528 (by decide +kernel) rfl
theorem mw_136 : (Cond.instanceMethod ⟨"java/lang/IllegalStateException", "<init>", "(Ljava/lang/String;)V"⟩) ∈ x_Ts := x_in1 495 (by decide +kernel) rfl
theorem mw_137 : (Cond.code ⟨"java/lang/IllegalStateException", "<init>", "(Ljava/lang/String;)V"⟩ prog_16_method_2_code 2 (Option.none : Option Jvm.ClassFile.FieldType)) ∈ x_Ts := x_in3 (x_r3 16 rfl) rfl
theorem mw_138 : (Cond.methodLink "java/lang/IllegalStateException" 7 ⟨"java/lang/RuntimeException", "<init>", "(Ljava/lang/String;)V"⟩) ∈ x_Ts := x_in1 497 (by decide +kernel) rfl
theorem mw_139 : (Cond.methodLink "ProofDesk" 71 ⟨"java/lang/IllegalStateException", "<init>", "(Ljava/lang/String;)V"⟩) ∈ x_Ts := x_in1 494 (by decide +kernel) rfl
theorem mw_140 : (Cond.instantiable "java/lang/IllegalStateException" 6) ∈ x_Ts := x_in1 452 (by decide +kernel) rfl
theorem mw_141 : (Cond.selects "java/lang/IllegalStateException" ⟨"java/lang/Throwable", "fillInStackTrace", "(I)Ljava/lang/Throwable;"⟩ ⟨"java/lang/Throwable", "fillInStackTrace", "(I)Ljava/lang/Throwable;"⟩) ∈ x_Ts := x_in1 460 (by decide +kernel) rfl
theorem mw_142 : (Cond.selects "java/lang/IllegalStateException" ⟨"java/lang/Throwable", "fillInStackTrace", "()Ljava/lang/Throwable;"⟩ ⟨"java/lang/Throwable", "fillInStackTrace", "()Ljava/lang/Throwable;"⟩) ∈ x_Ts := x_in1 461 (by decide +kernel) rfl
theorem mw_143 : (Cond.lays "java/lang/IllegalStateException" "java/lang/Throwable" "cause" "Ljava/lang/Throwable;") ∈ x_Ts := x_in1 462 (by decide +kernel) rfl
theorem mw_144 : (Cond.lays "java/lang/IllegalStateException" "java/lang/Throwable" "stackTrace" "[Ljava/lang/StackTraceElement;") ∈ x_Ts := x_in1 464 (by decide +kernel) rfl
theorem mw_145 : (Cond.lays "java/lang/IllegalStateException" "java/lang/Throwable" "suppressedExceptions" "Ljava/util/List;") ∈ x_Ts := x_in1 466 (by decide +kernel) rfl
theorem mw_146 : (Cond.lays "java/lang/IllegalStateException" "java/lang/Throwable" "detailMessage" "Ljava/lang/String;") ∈ x_Ts := x_in1 468 (by decide +kernel) rfl
theorem mw_147 : (Cond.lays "java/lang/IllegalStateException" "java/lang/Throwable" "backtrace" "Ljava/lang/Object;") ∈ x_Ts := x_in1 470 (by decide +kernel) rfl
theorem mw_148 : (Cond.instanceMethod ⟨"java/util/NoSuchElementException", "<init>", "(Ljava/lang/String;)V"⟩) ∈ x_Ts := x_in1 931 (by decide +kernel) rfl
theorem mw_149 : (Cond.code ⟨"java/util/NoSuchElementException", "<init>", "(Ljava/lang/String;)V"⟩ prog_27_method_4_code 2 (Option.none : Option Jvm.ClassFile.FieldType)) ∈ x_Ts := x_in3 (x_r4 212 rfl) rfl
theorem mw_150 : (Cond.methodLink "java/util/NoSuchElementException" 13 ⟨"java/lang/RuntimeException", "<init>", "(Ljava/lang/String;)V"⟩) ∈ x_Ts := x_in1 933 (by decide +kernel) rfl
theorem mw_151 : (Cond.methodLink "ProofDesk" 91 ⟨"java/util/NoSuchElementException", "<init>", "(Ljava/lang/String;)V"⟩) ∈ x_Ts := x_in1 930 (by decide +kernel) rfl
theorem mw_152 : (Cond.instantiable "java/util/NoSuchElementException" 6) ∈ x_Ts := x_in1 921 (by decide +kernel) rfl
theorem mw_153 : (Cond.selects "java/util/NoSuchElementException" ⟨"java/lang/Throwable", "fillInStackTrace", "(I)Ljava/lang/Throwable;"⟩ ⟨"java/lang/Throwable", "fillInStackTrace", "(I)Ljava/lang/Throwable;"⟩) ∈ x_Ts := x_in1 923 (by decide +kernel) rfl
theorem mw_154 : (Cond.selects "java/util/NoSuchElementException" ⟨"java/lang/Throwable", "fillInStackTrace", "()Ljava/lang/Throwable;"⟩ ⟨"java/lang/Throwable", "fillInStackTrace", "()Ljava/lang/Throwable;"⟩) ∈ x_Ts := x_in1 486 (by decide +kernel) rfl
theorem mw_155 : (Cond.lays "java/util/NoSuchElementException" "java/lang/Throwable" "cause" "Ljava/lang/Throwable;") ∈ x_Ts := x_in1 924 (by decide +kernel) rfl
theorem mw_156 : (Cond.lays "java/util/NoSuchElementException" "java/lang/Throwable" "stackTrace" "[Ljava/lang/StackTraceElement;") ∈ x_Ts := x_in1 925 (by decide +kernel) rfl
theorem mw_157 : (Cond.lays "java/util/NoSuchElementException" "java/lang/Throwable" "suppressedExceptions" "Ljava/util/List;") ∈ x_Ts := x_in1 926 (by decide +kernel) rfl
theorem mw_158 : (Cond.lays "java/util/NoSuchElementException" "java/lang/Throwable" "detailMessage" "Ljava/lang/String;") ∈ x_Ts := x_in1 927 (by decide +kernel) rfl
theorem mw_159 : (Cond.lays "java/util/NoSuchElementException" "java/lang/Throwable" "backtrace" "Ljava/lang/Object;") ∈ x_Ts := x_in1 928 (by decide +kernel) rfl
theorem mw_160 : (Cond.instanceMethod ⟨"java/lang/UnsupportedOperationException", "<init>", "(Ljava/lang/String;)V"⟩) ∈ x_Ts := x_in1 948 (by decide +kernel) rfl
theorem mw_161 : (Cond.code ⟨"java/lang/UnsupportedOperationException", "<init>", "(Ljava/lang/String;)V"⟩ prog_25_method_2_code 2 (Option.none : Option Jvm.ClassFile.FieldType)) ∈ x_Ts := x_in3 (x_r4 229 rfl) rfl
theorem mw_162 : (Cond.methodLink "java/lang/UnsupportedOperationException" 7 ⟨"java/lang/RuntimeException", "<init>", "(Ljava/lang/String;)V"⟩) ∈ x_Ts := x_in1 950 (by decide +kernel) rfl
theorem mw_163 : (Cond.methodLink "ProofDesk" 98 ⟨"java/lang/UnsupportedOperationException", "<init>", "(Ljava/lang/String;)V"⟩) ∈ x_Ts := x_in1 947 (by decide +kernel) rfl
theorem mw_164 : (Cond.instantiable "java/lang/UnsupportedOperationException" 6) ∈ x_Ts := x_in1 938 (by decide +kernel) rfl
theorem mw_165 : (Cond.selects "java/lang/UnsupportedOperationException" ⟨"java/lang/Throwable", "fillInStackTrace", "(I)Ljava/lang/Throwable;"⟩ ⟨"java/lang/Throwable", "fillInStackTrace", "(I)Ljava/lang/Throwable;"⟩) ∈ x_Ts := x_in1 940 (by decide +kernel) rfl
theorem mw_166 : (Cond.selects "java/lang/UnsupportedOperationException" ⟨"java/lang/Throwable", "fillInStackTrace", "()Ljava/lang/Throwable;"⟩ ⟨"java/lang/Throwable", "fillInStackTrace", "()Ljava/lang/Throwable;"⟩) ∈ x_Ts := x_in1 485 (by decide +kernel) rfl
theorem mw_167 : (Cond.lays "java/lang/UnsupportedOperationException" "java/lang/Throwable" "cause" "Ljava/lang/Throwable;") ∈ x_Ts := x_in1 941 (by decide +kernel) rfl
theorem mw_168 : (Cond.lays "java/lang/UnsupportedOperationException" "java/lang/Throwable" "stackTrace" "[Ljava/lang/StackTraceElement;") ∈ x_Ts := x_in1 942 (by decide +kernel) rfl
theorem mw_169 : (Cond.lays "java/lang/UnsupportedOperationException" "java/lang/Throwable" "suppressedExceptions" "Ljava/util/List;") ∈ x_Ts := x_in1 943 (by decide +kernel) rfl
theorem mw_170 : (Cond.lays "java/lang/UnsupportedOperationException" "java/lang/Throwable" "detailMessage" "Ljava/lang/String;") ∈ x_Ts := x_in1 944 (by decide +kernel) rfl
theorem mw_171 : (Cond.lays "java/lang/UnsupportedOperationException" "java/lang/Throwable" "backtrace" "Ljava/lang/Object;") ∈ x_Ts := x_in1 945 (by decide +kernel) rfl
theorem mw_172 : (Cond.code ⟨"ProofDesk$Symbol", "isVariable", "(I)Z"⟩ prog_8_method_4_code 1 (Option.some .boolean)) ∈ x_Ts := x_in3 (x_r2 205 rfl) rfl
theorem mw_173 : (Cond.methodLink "ProofDesk$Symbol" 11 ⟨"ProofDesk$Symbol", "isVariable", "(I)Z"⟩) ∈ x_Ts := x_in1 672 (by decide +kernel) rfl
theorem mw_174 : (Cond.static ⟨"ProofDesk$Symbol", "isVariable", "(I)Z"⟩) ∈ x_Ts := x_in1 444 (by decide +kernel) rfl
theorem mw_175 : (Cond.initialized "ProofDesk$Symbol") ∈ x_Ts := x_in1 9 (by decide +kernel) rfl
theorem mw_176 : (Cond.code ⟨"ProofDesk$Symbol", "variable", "(I)I"⟩ prog_8_method_5_code 1 (Option.some .int)) ∈ x_Ts := x_in3 (x_r3 195 rfl) rfl
theorem mw_177 : (Cond.methodLink "ProofDesk$Symbol" 15 ⟨"ProofDesk$Symbol", "variable", "(I)I"⟩) ∈ x_Ts := x_in1 673 (by decide +kernel) rfl
theorem mw_178 : (Cond.static ⟨"ProofDesk$Symbol", "variable", "(I)I"⟩) ∈ x_Ts := x_in1 674 (by decide +kernel) rfl
theorem mw_179 : (Cond.code ⟨"ProofDesk$Symbol", "name", "(I)I"⟩ prog_8_method_6_code 1 (Option.some .int)) ∈ x_Ts := x_in3 (x_r2 197 rfl) rfl
theorem mw_180 : (Cond.methodLink "ProofDesk$Symbol" 19 ⟨"ProofDesk$Symbol", "name", "(I)I"⟩) ∈ x_Ts := x_in1 676 (by decide +kernel) rfl
theorem mw_181 : (Cond.static ⟨"ProofDesk$Symbol", "name", "(I)I"⟩) ∈ x_Ts := x_in1 436 (by decide +kernel) rfl
theorem mw_182 : (Cond.methodLink "ProofDesk$Clause" 1 ⟨"java/lang/Object", "<init>", "()V"⟩) ∈ x_Ts := x_in1 737 (by decide +kernel) rfl
theorem mw_183 : (Cond.fieldLink "ProofDesk$Clause" 7 "ProofDesk$Clause" "form" "LProofDesk$Form;") ∈ x_Ts := x_in1 738 (by decide +kernel) rfl
theorem mw_184 : (Cond.fieldLink "ProofDesk$Clause" 13 "ProofDesk$Clause" "level" "I") ∈ x_Ts := x_in1 740 (by decide +kernel) rfl
theorem mw_185 : (Cond.fieldLink "ProofDesk$Clause" 17 "ProofDesk$Clause" "sources" "I") ∈ x_Ts := x_in1 742 (by decide +kernel) rfl
theorem mw_186 : (Cond.fieldLink "ProofDesk$Clause" 20 "ProofDesk$Clause" "text" "Ljava/lang/String;") ∈ x_Ts := x_in1 744 (by decide +kernel) rfl
theorem mw_187 : (Cond.methodLink "ProofDesk$Form" 3 ⟨"java/lang/Object", "<init>", "()V"⟩) ∈ x_Ts := x_in1 75 (by decide +kernel) rfl
theorem mw_188 : (Cond.arrayClass .int) ∈ x_Ts := x_in1 69 (by decide +kernel) rfl
theorem mw_189 : (Cond.fieldLink "ProofDesk$Form" 9 "ProofDesk$Form" "symbols" "[I") ∈ x_Ts := x_in1 76 (by decide +kernel) rfl
theorem mw_190 : (Cond.fieldLink "ProofDesk$Form" 15 "ProofDesk$Form" "ends" "[I") ∈ x_Ts := x_in1 82 (by decide +kernel) rfl
theorem mw_191 : (Cond.arrayClass .boolean) ∈ x_Ts := x_in1 114 (by decide +kernel) rfl
theorem mw_192 : (Cond.fieldLink "ProofDesk$Form" 18 "ProofDesk$Form" "negated" "[Z") ∈ x_Ts := x_in1 86 (by decide +kernel) rfl
theorem mw_193 : (Cond.fieldLink "ProofDesk$Form" 22 "ProofDesk$Form" "length" "I") ∈ x_Ts := x_in1 95 (by decide +kernel) rfl
theorem mw_194 : (Cond.code ⟨"java/util/Arrays", "copyOf", "([II)[I"⟩ prog_26_method_123_code 3 (Option.some (.array .int))) ∈ x_Ts := x_in3 (x_r3 70 rfl) rfl
theorem mw_195 : (Cond.methodLink "ProofDesk$Form" 26 ⟨"java/util/Arrays", "copyOf", "([II)[I"⟩) ∈ x_Ts := x_in1 548 (by decide +kernel) rfl
theorem mw_196 : (Cond.static ⟨"java/util/Arrays", "copyOf", "([II)[I"⟩) ∈ x_Ts := x_in1 549 (by decide +kernel) rfl
theorem mw_197 : (Cond.initialized "java/util/Arrays") ∈ x_Ts := x_in1 17 (by decide +kernel) rfl
theorem mw_198 : (Cond.fieldLink "ProofDesk$Form" 32 "ProofDesk$Form" "count" "I") ∈ x_Ts := x_in1 90 (by decide +kernel) rfl
theorem mw_199 : (Cond.code ⟨"ProofDesk$Form", "start", "(I)I"⟩ prog_5_method_4_code 2 (Option.some .int)) ∈ x_Ts := x_in3 (x_r2 97 rfl) rfl
theorem mw_200 : (Cond.methodLink "ProofDesk$Form" 35 ⟨"ProofDesk$Form", "start", "(I)I"⟩) ∈ x_Ts := x_in1 334 (by decide +kernel) rfl
theorem mw_201 : (Cond.instanceMethod ⟨"ProofDesk$Form", "start", "(I)I"⟩) ∈ x_Ts := x_in1 335 (by decide +kernel) rfl
theorem mw_202 : (Cond.selects "ProofDesk$Form" ⟨"ProofDesk$Form", "start", "(I)I"⟩ ⟨"ProofDesk$Form", "start", "(I)I"⟩) ∈ x_Ts := x_in1 336 (by decide +kernel) rfl
theorem mw_203 : (Cond.initialized "ProofDesk$Form") ∈ x_Ts := x_in1 4 (by decide +kernel) rfl
theorem mw_204 : (Cond.methodLink "ProofDesk$Form" 41 ⟨"ProofDesk$Symbol", "isVariable", "(I)Z"⟩) ∈ x_Ts := x_in1 443 (by decide +kernel) rfl
theorem mw_205 : (Cond.fieldLink "ProofDesk$Form" 45 "ProofDesk$Form" "opened" "I") ∈ x_Ts := x_in1 100 (by decide +kernel) rfl
theorem mw_206 : (Cond.code ⟨"ProofDesk$Form", "hasSameAtom", "(II)Z"⟩ prog_5_method_11_code 5 (Option.some .boolean)) ∈ x_Ts := x_in3 (x_r2 116 rfl) rfl
theorem mw_207 : (Cond.methodLink "ProofDesk$Form" 48 ⟨"ProofDesk$Form", "hasSameAtom", "(II)Z"⟩) ∈ x_Ts := x_in1 353 (by decide +kernel) rfl
theorem mw_208 : (Cond.instanceMethod ⟨"ProofDesk$Form", "hasSameAtom", "(II)Z"⟩) ∈ x_Ts := x_in1 354 (by decide +kernel) rfl
theorem mw_209 : (Cond.selects "ProofDesk$Form" ⟨"ProofDesk$Form", "hasSameAtom", "(II)Z"⟩ ⟨"ProofDesk$Form", "hasSameAtom", "(II)Z"⟩) ∈ x_Ts := x_in1 355 (by decide +kernel) rfl
theorem mw_210 : (Cond.code ⟨"ProofDesk$Form", "hasSameSymbols", "(III)Z"⟩ prog_5_method_12_code 5 (Option.some .boolean)) ∈ x_Ts := x_in3 (x_r2 112 rfl) rfl
theorem mw_211 : (Cond.methodLink "ProofDesk$Form" 52 ⟨"ProofDesk$Form", "hasSameSymbols", "(III)Z"⟩) ∈ x_Ts := x_in1 349 (by decide +kernel) rfl
theorem mw_212 : (Cond.instanceMethod ⟨"ProofDesk$Form", "hasSameSymbols", "(III)Z"⟩) ∈ x_Ts := x_in1 350 (by decide +kernel) rfl
theorem mw_213 : (Cond.selects "ProofDesk$Form" ⟨"ProofDesk$Form", "hasSameSymbols", "(III)Z"⟩ ⟨"ProofDesk$Form", "hasSameSymbols", "(III)Z"⟩) ∈ x_Ts := x_in1 351 (by decide +kernel) rfl
theorem mw_214 : (Cond.code ⟨"ProofDesk$Symbol", "terms", "(I)I"⟩ prog_8_method_7_code 1 (Option.some .int)) ∈ x_Ts := x_in3 (x_r2 108 rfl) rfl
theorem mw_215 : (Cond.methodLink "ProofDesk$Form" 56 ⟨"ProofDesk$Symbol", "terms", "(I)I"⟩) ∈ x_Ts := x_in1 346 (by decide +kernel) rfl
theorem mw_216 : (Cond.static ⟨"ProofDesk$Symbol", "terms", "(I)I"⟩) ∈ x_Ts := x_in1 347 (by decide +kernel) rfl
theorem mw_217 : (Cond.code ⟨"ProofDesk$Form", "replaceFrom", "(III)V"⟩ prog_5_method_15_code 5 (Option.none : Option Jvm.ClassFile.FieldType)) ∈ x_Ts := x_in3 (x_r2 209 rfl) rfl
theorem mw_218 : (Cond.methodLink "ProofDesk$Form" 59 ⟨"ProofDesk$Form", "replaceFrom", "(III)V"⟩) ∈ x_Ts := x_in1 446 (by decide +kernel) rfl
theorem mw_219 : (Cond.instanceMethod ⟨"ProofDesk$Form", "replaceFrom", "(III)V"⟩) ∈ x_Ts := x_in1 448 (by decide +kernel) rfl
theorem mw_220 : (Cond.selects "ProofDesk$Form" ⟨"ProofDesk$Form", "replaceFrom", "(III)V"⟩ ⟨"ProofDesk$Form", "replaceFrom", "(III)V"⟩) ∈ x_Ts := x_in2 9 (⟨"ProofDesk$Form", "replaceFrom", "(III)V"⟩, 6) (by decide +kernel) rfl rfl
theorem mw_221 : (Cond.code ⟨"ProofDesk$Symbol", "ofVariable", "(I)I"⟩ prog_8_method_3_code 1 (Option.some .int)) ∈ x_Ts := x_in3 (x_r2 176 rfl) rfl
theorem mw_222 : (Cond.methodLink "ProofDesk$Form" 63 ⟨"ProofDesk$Symbol", "ofVariable", "(I)I"⟩) ∈ x_Ts := x_in1 450 (by decide +kernel) rfl
theorem mw_223 : (Cond.static ⟨"ProofDesk$Symbol", "ofVariable", "(I)I"⟩) ∈ x_Ts := x_in1 415 (by decide +kernel) rfl
theorem mw_224 : (Cond.code ⟨"ProofDesk$Form", "isEquation", "(I)Z"⟩ prog_5_method_6_code 2 (Option.some .boolean)) ∈ x_Ts := x_in3 (x_r2 93 rfl) rfl
theorem mw_225 : (Cond.methodLink "ProofDesk$Form" 66 ⟨"ProofDesk$Form", "isEquation", "(I)Z"⟩) ∈ x_Ts := x_in1 330 (by decide +kernel) rfl
theorem mw_226 : (Cond.instanceMethod ⟨"ProofDesk$Form", "isEquation", "(I)Z"⟩) ∈ x_Ts := x_in1 331 (by decide +kernel) rfl
theorem mw_227 : (Cond.selects "ProofDesk$Form" ⟨"ProofDesk$Form", "isEquation", "(I)Z"⟩ ⟨"ProofDesk$Form", "isEquation", "(I)Z"⟩) ∈ x_Ts := x_in1 332 (by decide +kernel) rfl
theorem mw_228 : (Cond.code ⟨"ProofDesk$Form", "hasSameSides", "(I)Z"⟩ prog_5_method_18_code 4 (Option.some .boolean)) ∈ x_Ts := x_in3 (x_r2 101 rfl) rfl
theorem mw_229 : (Cond.methodLink "ProofDesk$Form" 69 ⟨"ProofDesk$Form", "hasSameSides", "(I)Z"⟩) ∈ x_Ts := x_in1 338 (by decide +kernel) rfl
theorem mw_230 : (Cond.instanceMethod ⟨"ProofDesk$Form", "hasSameSides", "(I)Z"⟩) ∈ x_Ts := x_in1 340 (by decide +kernel) rfl
theorem mw_231 : (Cond.selects "ProofDesk$Form" ⟨"ProofDesk$Form", "hasSameSides", "(I)Z"⟩ ⟨"ProofDesk$Form", "hasSameSides", "(I)Z"⟩) ∈ x_Ts := x_in2 1 (⟨"ProofDesk$Form", "hasSameSides", "(I)Z"⟩, 6) (by decide +kernel) rfl rfl
theorem mw_232 : (Cond.code ⟨"ProofDesk$Form", "termEnd", "(I)I"⟩ prog_5_method_13_code 4 (Option.some .int)) ∈ x_Ts := x_in3 (x_r2 105 rfl) rfl
theorem mw_233 : (Cond.methodLink "ProofDesk$Form" 72 ⟨"ProofDesk$Form", "termEnd", "(I)I"⟩) ∈ x_Ts := x_in1 342 (by decide +kernel) rfl
theorem mw_234 : (Cond.instanceMethod ⟨"ProofDesk$Form", "termEnd", "(I)I"⟩) ∈ x_Ts := x_in1 343 (by decide +kernel) rfl
theorem mw_235 : (Cond.selects "ProofDesk$Form" ⟨"ProofDesk$Form", "termEnd", "(I)I"⟩ ⟨"ProofDesk$Form", "termEnd", "(I)I"⟩) ∈ x_Ts := x_in1 344 (by decide +kernel) rfl
theorem mw_236 : (Cond.methodLink "ProofDesk$Draft" 3 ⟨"java/lang/Object", "<init>", "()V"⟩) ∈ x_Ts := x_in1 41 (by decide +kernel) rfl
theorem mw_237 : (Cond.arrayClass .char) ∈ x_Ts := x_in1 53 (by decide +kernel) rfl
theorem mw_238 : (Cond.fieldLink "ProofDesk$Draft" 9 "ProofDesk$Draft" "text" "[C") ∈ x_Ts := x_in1 42 (by decide +kernel) rfl
theorem mw_239 : (Cond.fieldLink "ProofDesk$Draft" 15 "ProofDesk$Draft" "length" "I") ∈ x_Ts := x_in1 44 (by decide +kernel) rfl
theorem mw_240 : (Cond.fieldLink "ProofDesk$Draft" 19 "ProofDesk$Draft" "at" "I") ∈ x_Ts := x_in1 43 (by decide +kernel) rfl
theorem mw_241 : (Cond.code ⟨"ProofDesk$Form", "clear", "()V"⟩ prog_5_method_3_code 1 (Option.none : Option Jvm.ClassFile.FieldType)) ∈ x_Ts := x_in3 (x_r2 141 rfl) rfl
theorem mw_242 : (Cond.methodLink "ProofDesk$Draft" 22 ⟨"ProofDesk$Form", "clear", "()V"⟩) ∈ x_Ts := x_in1 378 (by decide +kernel) rfl
theorem mw_243 : (Cond.instanceMethod ⟨"ProofDesk$Form", "clear", "()V"⟩) ∈ x_Ts := x_in1 379 (by decide +kernel) rfl
theorem mw_244 : (Cond.selects "ProofDesk$Form" ⟨"ProofDesk$Form", "clear", "()V"⟩ ⟨"ProofDesk$Form", "clear", "()V"⟩) ∈ x_Ts := x_in1 380 (by decide +kernel) rfl
theorem mw_245 : (Cond.code ⟨"ProofDesk$Draft", "readClause", "(LProofDesk$Form;)Z"⟩ prog_4_method_4_code 3 (Option.some .boolean)) ∈ x_Ts := x_in3 (x_r2 145 rfl) rfl
theorem mw_246 : (Cond.methodLink "ProofDesk$Draft" 27 ⟨"ProofDesk$Draft", "readClause", "(LProofDesk$Form;)Z"⟩) ∈ x_Ts := x_in1 382 (by decide +kernel) rfl
theorem mw_247 : (Cond.instanceMethod ⟨"ProofDesk$Draft", "readClause", "(LProofDesk$Form;)Z"⟩) ∈ x_Ts := x_in1 384 (by decide +kernel) rfl
theorem mw_248 : (Cond.selects "ProofDesk$Draft" ⟨"ProofDesk$Draft", "readClause", "(LProofDesk$Form;)Z"⟩ ⟨"ProofDesk$Draft", "readClause", "(LProofDesk$Form;)Z"⟩) ∈ x_Ts := x_in2 3 (⟨"ProofDesk$Draft", "readClause", "(LProofDesk$Form;)Z"⟩, 3) (by decide +kernel) rfl rfl
theorem mw_249 : (Cond.initialized "ProofDesk$Draft") ∈ x_Ts := x_in1 2 (by decide +kernel) rfl
theorem mw_250 : (Cond.code ⟨"ProofDesk$Draft", "readLiteral", "(LProofDesk$Form;)Z"⟩ prog_4_method_5_code 2 (Option.some .boolean)) ∈ x_Ts := x_in3 (x_r2 149 rfl) rfl
theorem mw_251 : (Cond.methodLink "ProofDesk$Draft" 31 ⟨"ProofDesk$Draft", "readLiteral", "(LProofDesk$Form;)Z"⟩) ∈ x_Ts := x_in1 386 (by decide +kernel) rfl
theorem mw_252 : (Cond.instanceMethod ⟨"ProofDesk$Draft", "readLiteral", "(LProofDesk$Form;)Z"⟩) ∈ x_Ts := x_in1 388 (by decide +kernel) rfl
theorem mw_253 : (Cond.selects "ProofDesk$Draft" ⟨"ProofDesk$Draft", "readLiteral", "(LProofDesk$Form;)Z"⟩ ⟨"ProofDesk$Draft", "readLiteral", "(LProofDesk$Form;)Z"⟩) ∈ x_Ts := x_in2 4 (⟨"ProofDesk$Draft", "readLiteral", "(LProofDesk$Form;)Z"⟩, 3) (by decide +kernel) rfl rfl
theorem mw_254 : (Cond.code ⟨"ProofDesk$Draft", "take", "(C)Z"⟩ prog_4_method_9_code 2 (Option.some .boolean)) ∈ x_Ts := x_in3 (x_r2 153 rfl) rfl
theorem mw_255 : (Cond.methodLink "ProofDesk$Draft" 34 ⟨"ProofDesk$Draft", "take", "(C)Z"⟩) ∈ x_Ts := x_in1 390 (by decide +kernel) rfl
theorem mw_256 : (Cond.instanceMethod ⟨"ProofDesk$Draft", "take", "(C)Z"⟩) ∈ x_Ts := x_in1 392 (by decide +kernel) rfl
theorem mw_257 : (Cond.selects "ProofDesk$Draft" ⟨"ProofDesk$Draft", "take", "(C)Z"⟩ ⟨"ProofDesk$Draft", "take", "(C)Z"⟩) ∈ x_Ts := x_in2 5 (⟨"ProofDesk$Draft", "take", "(C)Z"⟩, 3) (by decide +kernel) rfl rfl
theorem mw_258 : (Cond.code ⟨"ProofDesk$Form", "open", "(Z)V"⟩ prog_5_method_8_code 2 (Option.none : Option Jvm.ClassFile.FieldType)) ∈ x_Ts := x_in3 (x_r2 157 rfl) rfl
theorem mw_259 : (Cond.methodLink "ProofDesk$Draft" 38 ⟨"ProofDesk$Form", "open", "(Z)V"⟩) ∈ x_Ts := x_in1 394 (by decide +kernel) rfl
theorem mw_260 : (Cond.instanceMethod ⟨"ProofDesk$Form", "open", "(Z)V"⟩) ∈ x_Ts := x_in1 395 (by decide +kernel) rfl
theorem mw_261 : (Cond.selects "ProofDesk$Form" ⟨"ProofDesk$Form", "open", "(Z)V"⟩ ⟨"ProofDesk$Form", "open", "(Z)V"⟩) ∈ x_Ts := x_in1 396 (by decide +kernel) rfl
theorem mw_262 : (Cond.code ⟨"ProofDesk$Draft", "isEquationAhead", "()Z"⟩ prog_4_method_6_code 2 (Option.some .boolean)) ∈ x_Ts := x_in3 (x_r2 161 rfl) rfl
theorem mw_263 : (Cond.methodLink "ProofDesk$Draft" 42 ⟨"ProofDesk$Draft", "isEquationAhead", "()Z"⟩) ∈ x_Ts := x_in1 398 (by decide +kernel) rfl
theorem mw_264 : (Cond.instanceMethod ⟨"ProofDesk$Draft", "isEquationAhead", "()Z"⟩) ∈ x_Ts := x_in1 400 (by decide +kernel) rfl
theorem mw_265 : (Cond.selects "ProofDesk$Draft" ⟨"ProofDesk$Draft", "isEquationAhead", "()Z"⟩ ⟨"ProofDesk$Draft", "isEquationAhead", "()Z"⟩) ∈ x_Ts := x_in2 6 (⟨"ProofDesk$Draft", "isEquationAhead", "()Z"⟩, 3) (by decide +kernel) rfl rfl
theorem mw_266 : (Cond.code ⟨"ProofDesk$Form", "put", "(I)Z"⟩ prog_5_method_9_code 2 (Option.some .boolean)) ∈ x_Ts := x_in3 (x_r2 165 rfl) rfl
theorem mw_267 : (Cond.methodLink "ProofDesk$Draft" 48 ⟨"ProofDesk$Form", "put", "(I)Z"⟩) ∈ x_Ts := x_in1 402 (by decide +kernel) rfl
theorem mw_268 : (Cond.instanceMethod ⟨"ProofDesk$Form", "put", "(I)Z"⟩) ∈ x_Ts := x_in1 403 (by decide +kernel) rfl
theorem mw_269 : (Cond.selects "ProofDesk$Form" ⟨"ProofDesk$Form", "put", "(I)Z"⟩ ⟨"ProofDesk$Form", "put", "(I)Z"⟩) ∈ x_Ts := x_in1 404 (by decide +kernel) rfl
theorem mw_270 : (Cond.code ⟨"ProofDesk$Draft", "readTerm", "(LProofDesk$Form;I)Z"⟩ prog_4_method_8_code 6 (Option.some .boolean)) ∈ x_Ts := x_in3 (x_r2 169 rfl) rfl
theorem mw_271 : (Cond.methodLink "ProofDesk$Draft" 52 ⟨"ProofDesk$Draft", "readTerm", "(LProofDesk$Form;I)Z"⟩) ∈ x_Ts := x_in1 406 (by decide +kernel) rfl
theorem mw_272 : (Cond.instanceMethod ⟨"ProofDesk$Draft", "readTerm", "(LProofDesk$Form;I)Z"⟩) ∈ x_Ts := x_in1 408 (by decide +kernel) rfl
theorem mw_273 : (Cond.selects "ProofDesk$Draft" ⟨"ProofDesk$Draft", "readTerm", "(LProofDesk$Form;I)Z"⟩ ⟨"ProofDesk$Draft", "readTerm", "(LProofDesk$Form;I)Z"⟩) ∈ x_Ts := x_in2 7 (⟨"ProofDesk$Draft", "readTerm", "(LProofDesk$Form;I)Z"⟩, 3) (by decide +kernel) rfl rfl
theorem mw_274 : (Cond.code ⟨"ProofDesk$Form", "close", "()Z"⟩ prog_5_method_10_code 2 (Option.some .boolean)) ∈ x_Ts := x_in3 (x_r2 183 rfl) rfl
theorem mw_275 : (Cond.methodLink "ProofDesk$Draft" 56 ⟨"ProofDesk$Form", "close", "()Z"⟩) ∈ x_Ts := x_in1 420 (by decide +kernel) rfl
theorem mw_276 : (Cond.instanceMethod ⟨"ProofDesk$Form", "close", "()Z"⟩) ∈ x_Ts := x_in1 421 (by decide +kernel) rfl
theorem mw_277 : (Cond.selects "ProofDesk$Form" ⟨"ProofDesk$Form", "close", "()Z"⟩ ⟨"ProofDesk$Form", "close", "()Z"⟩) ∈ x_Ts := x_in1 422 (by decide +kernel) rfl
theorem mw_278 : (Cond.code ⟨"ProofDesk$Draft", "isVariableAhead", "()Z"⟩ prog_4_method_7_code 1 (Option.some .boolean)) ∈ x_Ts := x_in3 (x_r2 173 rfl) rfl
theorem mw_279 : (Cond.methodLink "ProofDesk$Draft" 59 ⟨"ProofDesk$Draft", "isVariableAhead", "()Z"⟩) ∈ x_Ts := x_in1 410 (by decide +kernel) rfl
theorem mw_280 : (Cond.instanceMethod ⟨"ProofDesk$Draft", "isVariableAhead", "()Z"⟩) ∈ x_Ts := x_in1 412 (by decide +kernel) rfl
theorem mw_281 : (Cond.selects "ProofDesk$Draft" ⟨"ProofDesk$Draft", "isVariableAhead", "()Z"⟩ ⟨"ProofDesk$Draft", "isVariableAhead", "()Z"⟩) ∈ x_Ts := x_in2 8 (⟨"ProofDesk$Draft", "isVariableAhead", "()Z"⟩, 3) (by decide +kernel) rfl rfl
theorem mw_282 : (Cond.methodLink "ProofDesk$Draft" 62 ⟨"ProofDesk$Symbol", "ofVariable", "(I)I"⟩) ∈ x_Ts := x_in1 414 (by decide +kernel) rfl
theorem mw_283 : (Cond.fieldLink "ProofDesk$Draft" 66 "ProofDesk$Form" "length" "I") ∈ x_Ts := x_in1 99 (by decide +kernel) rfl
theorem mw_284 : (Cond.code ⟨"ProofDesk$Symbol", "ofLetter", "(CI)I"⟩ prog_8_method_2_code 2 (Option.some .int)) ∈ x_Ts := x_in3 (x_r2 179 rfl) rfl
theorem mw_285 : (Cond.methodLink "ProofDesk$Draft" 67 ⟨"ProofDesk$Symbol", "ofLetter", "(CI)I"⟩) ∈ x_Ts := x_in1 417 (by decide +kernel) rfl
theorem mw_286 : (Cond.static ⟨"ProofDesk$Symbol", "ofLetter", "(CI)I"⟩) ∈ x_Ts := x_in1 418 (by decide +kernel) rfl
theorem mw_287 : (Cond.fieldLink "ProofDesk$Draft" 71 "ProofDesk$Form" "symbols" "[I") ∈ x_Ts := x_in1 80 (by decide +kernel) rfl
theorem mw_288 : (Cond.methodLink "ProofDesk$Uses" 3 ⟨"java/lang/Object", "<init>", "()V"⟩) ∈ x_Ts := x_in1 61 (by decide +kernel) rfl
theorem mw_289 : (Cond.fieldLink "ProofDesk$Uses" 9 "ProofDesk$Uses" "known" "[I") ∈ x_Ts := x_in1 62 (by decide +kernel) rfl
theorem mw_290 : (Cond.fieldLink "ProofDesk$Uses" 15 "ProofDesk$Uses" "trial" "[I") ∈ x_Ts := x_in1 63 (by decide +kernel) rfl
theorem mw_291 : (Cond.methodLink "ProofDesk$Uses" 18 ⟨"java/lang/System", "arraycopy", "(Ljava/lang/Object;ILjava/lang/Object;II)V"⟩) ∈ x_Ts := x_in1 428 (by decide +kernel) rfl
theorem mw_292 : (Cond.native ⟨"java/lang/System", "arraycopy", "(Ljava/lang/Object;ILjava/lang/Object;II)V"⟩) ∈ x_Ts := x_in1 430 (by decide +kernel) rfl
theorem mw_293 : (Cond.static ⟨"java/lang/System", "arraycopy", "(Ljava/lang/Object;ILjava/lang/Object;II)V"⟩) ∈ x_Ts := x_in1 429 (by decide +kernel) rfl
theorem mw_294 : (Cond.initialized "java/lang/System") ∈ x_Ts := x_in1 10 (by decide +kernel) rfl
theorem mw_295 : (Cond.code ⟨"ProofDesk$Uses", "enter", "(LProofDesk$Form;[I)Z"⟩ prog_9_method_4_code 8 (Option.some .boolean)) ∈ x_Ts := x_in3 (x_r2 193 rfl) rfl
theorem mw_296 : (Cond.methodLink "ProofDesk$Uses" 24 ⟨"ProofDesk$Uses", "enter", "(LProofDesk$Form;[I)Z"⟩) ∈ x_Ts := x_in1 431 (by decide +kernel) rfl
theorem mw_297 : (Cond.static ⟨"ProofDesk$Uses", "enter", "(LProofDesk$Form;[I)Z"⟩) ∈ x_Ts := x_in1 432 (by decide +kernel) rfl
theorem mw_298 : (Cond.initialized "ProofDesk$Uses") ∈ x_Ts := x_in1 3 (by decide +kernel) rfl
theorem mw_299 : (Cond.fieldLink "ProofDesk$Uses" 28 "ProofDesk$Form" "count" "I") ∈ x_Ts := x_in1 92 (by decide +kernel) rfl
theorem mw_300 : (Cond.methodLink "ProofDesk$Uses" 34 ⟨"ProofDesk$Form", "start", "(I)I"⟩) ∈ x_Ts := x_in1 434 (by decide +kernel) rfl
theorem mw_301 : (Cond.fieldLink "ProofDesk$Uses" 38 "ProofDesk$Form" "ends" "[I") ∈ x_Ts := x_in1 83 (by decide +kernel) rfl
theorem mw_302 : (Cond.fieldLink "ProofDesk$Uses" 41 "ProofDesk$Form" "symbols" "[I") ∈ x_Ts := x_in1 78 (by decide +kernel) rfl
theorem mw_303 : (Cond.methodLink "ProofDesk$Uses" 44 ⟨"ProofDesk$Symbol", "name", "(I)I"⟩) ∈ x_Ts := x_in1 435 (by decide +kernel) rfl
theorem mw_304 : (Cond.methodLink "ProofDesk$Uses" 49 ⟨"ProofDesk$Symbol", "terms", "(I)I"⟩) ∈ x_Ts := x_in1 438 (by decide +kernel) rfl
theorem mw_305 : (Cond.methodLink "ProofDesk$Graph" 5 ⟨"java/lang/Object", "<init>", "()V"⟩) ∈ x_Ts := x_in1 128 (by decide +kernel) rfl
theorem mw_306 : (Cond.fieldLink "ProofDesk$Graph" 11 "ProofDesk$Graph" "symbols" "[I") ∈ x_Ts := x_in1 129 (by decide +kernel) rfl
theorem mw_307 : (Cond.fieldLink "ProofDesk$Graph" 15 "ProofDesk$Graph" "ends" "[I") ∈ x_Ts := x_in1 130 (by decide +kernel) rfl
theorem mw_308 : (Cond.fieldLink "ProofDesk$Graph" 18 "ProofDesk$Graph" "roots" "[I") ∈ x_Ts := x_in1 131 (by decide +kernel) rfl
theorem mw_309 : (Cond.fieldLink "ProofDesk$Graph" 21 "ProofDesk$Graph" "firsts" "[I") ∈ x_Ts := x_in1 132 (by decide +kernel) rfl
theorem mw_310 : (Cond.fieldLink "ProofDesk$Graph" 24 "ProofDesk$Graph" "finite" "[Z") ∈ x_Ts := x_in1 133 (by decide +kernel) rfl
theorem mw_311 : (Cond.fieldLink "ProofDesk$Graph" 28 "ProofDesk$Graph" "ones" "[I") ∈ x_Ts := x_in1 134 (by decide +kernel) rfl
theorem mw_312 : (Cond.fieldLink "ProofDesk$Graph" 31 "ProofDesk$Graph" "others" "[I") ∈ x_Ts := x_in1 135 (by decide +kernel) rfl
theorem mw_313 : (Cond.fieldLink "ProofDesk$Graph" 34 "ProofDesk$Graph" "length" "I") ∈ x_Ts := x_in1 136 (by decide +kernel) rfl
theorem mw_314 : (Cond.code ⟨"java/util/Arrays", "fill", "([II)V"⟩ prog_26_method_103_code 4 (Option.none : Option Jvm.ClassFile.FieldType)) ∈ x_Ts := x_in3 (x_r4 77 rfl) rfl
theorem mw_315 : (Cond.methodLink "ProofDesk$Graph" 38 ⟨"java/util/Arrays", "fill", "([II)V"⟩) ∈ x_Ts := x_in1 795 (by decide +kernel) rfl
theorem mw_316 : (Cond.static ⟨"java/util/Arrays", "fill", "([II)V"⟩) ∈ x_Ts := x_in1 796 (by decide +kernel) rfl
theorem mw_317 : (Cond.code ⟨"ProofDesk$Graph", "append", "(LProofDesk$Form;I)V"⟩ prog_6_method_3_code 6 (Option.none : Option Jvm.ClassFile.FieldType)) ∈ x_Ts := x_in3 (x_r4 81 rfl) rfl
theorem mw_318 : (Cond.methodLink "ProofDesk$Graph" 44 ⟨"ProofDesk$Graph", "append", "(LProofDesk$Form;I)V"⟩) ∈ x_Ts := x_in1 798 (by decide +kernel) rfl
theorem mw_319 : (Cond.instanceMethod ⟨"ProofDesk$Graph", "append", "(LProofDesk$Form;I)V"⟩) ∈ x_Ts := x_in1 799 (by decide +kernel) rfl
theorem mw_320 : (Cond.selects "ProofDesk$Graph" ⟨"ProofDesk$Graph", "append", "(LProofDesk$Form;I)V"⟩ ⟨"ProofDesk$Graph", "append", "(LProofDesk$Form;I)V"⟩) ∈ x_Ts := x_in1 800 (by decide +kernel) rfl
theorem mw_321 : (Cond.initialized "ProofDesk$Graph") ∈ x_Ts := x_in1 6 (by decide +kernel) rfl
theorem mw_322 : (Cond.fieldLink "ProofDesk$Graph" 48 "ProofDesk$Form" "length" "I") ∈ x_Ts := x_in1 97 (by decide +kernel) rfl
theorem mw_323 : (Cond.fieldLink "ProofDesk$Graph" 51 "ProofDesk$Form" "symbols" "[I") ∈ x_Ts := x_in1 77 (by decide +kernel) rfl
theorem mw_324 : (Cond.methodLink "ProofDesk$Graph" 52 ⟨"ProofDesk$Symbol", "isVariable", "(I)Z"⟩) ∈ x_Ts := x_in1 802 (by decide +kernel) rfl
theorem mw_325 : (Cond.methodLink "ProofDesk$Graph" 58 ⟨"ProofDesk$Symbol", "variable", "(I)I"⟩) ∈ x_Ts := x_in1 803 (by decide +kernel) rfl
theorem mw_326 : (Cond.methodLink "ProofDesk$Graph" 62 ⟨"java/lang/Math", "min", "(II)I"⟩) ∈ x_Ts := x_in1 804 (by decide +kernel) rfl
theorem mw_327 : (Cond.static ⟨"java/lang/Math", "min", "(II)I"⟩) ∈ x_Ts := x_in1 559 (by decide +kernel) rfl
theorem mw_328 : (Cond.initialized "java/lang/Math") ∈ x_Ts := x_in1 18 (by decide +kernel) rfl
theorem mw_329 : (Cond.code ⟨"java/lang/Math", "min", "(II)I"⟩ prog_17_method_69_code 2 (Option.some .int)) ∈ x_Ts := x_in3 (x_r3 80 rfl) rfl
theorem mw_330 : (Cond.methodLink "ProofDesk$Graph" 68 ⟨"ProofDesk$Symbol", "terms", "(I)I"⟩) ∈ x_Ts := x_in1 810 (by decide +kernel) rfl
theorem mw_331 : (Cond.fieldLink "ProofDesk$Graph" 71 "ProofDesk$Graph" "waiting" "I") ∈ x_Ts := x_in1 137 (by decide +kernel) rfl
theorem mw_332 : (Cond.code ⟨"ProofDesk$Graph", "join", "(II)V"⟩ prog_6_method_7_code 3 (Option.none : Option Jvm.ClassFile.FieldType)) ∈ x_Ts := x_in3 (x_r4 125 rfl) rfl
theorem mw_333 : (Cond.methodLink "ProofDesk$Graph" 74 ⟨"ProofDesk$Graph", "join", "(II)V"⟩) ∈ x_Ts := x_in1 842 (by decide +kernel) rfl
theorem mw_334 : (Cond.instanceMethod ⟨"ProofDesk$Graph", "join", "(II)V"⟩) ∈ x_Ts := x_in1 844 (by decide +kernel) rfl
theorem mw_335 : (Cond.selects "ProofDesk$Graph" ⟨"ProofDesk$Graph", "join", "(II)V"⟩ ⟨"ProofDesk$Graph", "join", "(II)V"⟩) ∈ x_Ts := x_in2 19 (⟨"ProofDesk$Graph", "join", "(II)V"⟩, 9) (by decide +kernel) rfl rfl
theorem mw_336 : (Cond.code ⟨"ProofDesk$Graph", "findRoot", "(I)I"⟩ prog_6_method_9_code 4 (Option.some .int)) ∈ x_Ts := x_in3 (x_r4 129 rfl) rfl
theorem mw_337 : (Cond.methodLink "ProofDesk$Graph" 78 ⟨"ProofDesk$Graph", "findRoot", "(I)I"⟩) ∈ x_Ts := x_in1 846 (by decide +kernel) rfl
theorem mw_338 : (Cond.instanceMethod ⟨"ProofDesk$Graph", "findRoot", "(I)I"⟩) ∈ x_Ts := x_in1 848 (by decide +kernel) rfl
theorem mw_339 : (Cond.selects "ProofDesk$Graph" ⟨"ProofDesk$Graph", "findRoot", "(I)I"⟩ ⟨"ProofDesk$Graph", "findRoot", "(I)I"⟩) ∈ x_Ts := x_in2 20 (⟨"ProofDesk$Graph", "findRoot", "(I)I"⟩, 9) (by decide +kernel) rfl rfl
theorem mw_340 : (Cond.code ⟨"ProofDesk$Graph", "joinTerms", "(II)V"⟩ prog_6_method_8_code 7 (Option.none : Option Jvm.ClassFile.FieldType)) ∈ x_Ts := x_in3 (x_r4 133 rfl) rfl
theorem mw_341 : (Cond.methodLink "ProofDesk$Graph" 81 ⟨"ProofDesk$Graph", "joinTerms", "(II)V"⟩) ∈ x_Ts := x_in1 850 (by decide +kernel) rfl
theorem mw_342 : (Cond.instanceMethod ⟨"ProofDesk$Graph", "joinTerms", "(II)V"⟩) ∈ x_Ts := x_in1 852 (by decide +kernel) rfl
theorem mw_343 : (Cond.selects "ProofDesk$Graph" ⟨"ProofDesk$Graph", "joinTerms", "(II)V"⟩ ⟨"ProofDesk$Graph", "joinTerms", "(II)V"⟩) ∈ x_Ts := x_in2 21 (⟨"ProofDesk$Graph", "joinTerms", "(II)V"⟩, 9) (by decide +kernel) rfl rfl
theorem mw_344 : (Cond.code ⟨"ProofDesk$Graph", "areAllFinite", "()Z"⟩ prog_6_method_10_code 5 (Option.some .boolean)) ∈ x_Ts := x_in3 (x_r4 138 rfl) rfl
theorem mw_345 : (Cond.methodLink "ProofDesk$Graph" 84 ⟨"ProofDesk$Graph", "areAllFinite", "()Z"⟩) ∈ x_Ts := x_in1 855 (by decide +kernel) rfl
theorem mw_346 : (Cond.instanceMethod ⟨"ProofDesk$Graph", "areAllFinite", "()Z"⟩) ∈ x_Ts := x_in1 857 (by decide +kernel) rfl
theorem mw_347 : (Cond.selects "ProofDesk$Graph" ⟨"ProofDesk$Graph", "areAllFinite", "()Z"⟩ ⟨"ProofDesk$Graph", "areAllFinite", "()Z"⟩) ∈ x_Ts := x_in2 22 (⟨"ProofDesk$Graph", "areAllFinite", "()Z"⟩, 9) (by decide +kernel) rfl rfl
theorem mw_348 : (Cond.code ⟨"ProofDesk$Graph", "end", "(I)I"⟩ prog_6_method_5_code 2 (Option.some .int)) ∈ x_Ts := x_in3 (x_r4 111 rfl) rfl
theorem mw_349 : (Cond.methodLink "ProofDesk$Graph" 88 ⟨"ProofDesk$Graph", "end", "(I)I"⟩) ∈ x_Ts := x_in1 854 (by decide +kernel) rfl
theorem mw_350 : (Cond.instanceMethod ⟨"ProofDesk$Graph", "end", "(I)I"⟩) ∈ x_Ts := x_in1 829 (by decide +kernel) rfl
theorem mw_351 : (Cond.selects "ProofDesk$Graph" ⟨"ProofDesk$Graph", "end", "(I)I"⟩ ⟨"ProofDesk$Graph", "end", "(I)I"⟩) ∈ x_Ts := x_in1 830 (by decide +kernel) rfl
theorem mw_352 : (Cond.code ⟨"ProofDesk$Graph", "areTermsFinite", "(I)Z"⟩ prog_6_method_11_code 5 (Option.some .boolean)) ∈ x_Ts := x_in3 (x_r4 142 rfl) rfl
theorem mw_353 : (Cond.methodLink "ProofDesk$Graph" 91 ⟨"ProofDesk$Graph", "areTermsFinite", "(I)Z"⟩) ∈ x_Ts := x_in1 859 (by decide +kernel) rfl
theorem mw_354 : (Cond.instanceMethod ⟨"ProofDesk$Graph", "areTermsFinite", "(I)Z"⟩) ∈ x_Ts := x_in1 861 (by decide +kernel) rfl
theorem mw_355 : (Cond.selects "ProofDesk$Graph" ⟨"ProofDesk$Graph", "areTermsFinite", "(I)Z"⟩ ⟨"ProofDesk$Graph", "areTermsFinite", "(I)Z"⟩) ∈ x_Ts := x_in2 23 (⟨"ProofDesk$Graph", "areTermsFinite", "(I)Z"⟩, 9) (by decide +kernel) rfl rfl
theorem mw_356 : (Cond.code ⟨"ProofDesk$Graph", "copyTerm", "(ILProofDesk$Form;)Z"⟩ prog_6_method_13_code 9 (Option.some .boolean)) ∈ x_Ts := x_in3 (x_r4 160 rfl) rfl
theorem mw_357 : (Cond.methodLink "ProofDesk$Graph" 94 ⟨"ProofDesk$Graph", "copyTerm", "(ILProofDesk$Form;)Z"⟩) ∈ x_Ts := x_in1 877 (by decide +kernel) rfl
theorem mw_358 : (Cond.instanceMethod ⟨"ProofDesk$Graph", "copyTerm", "(ILProofDesk$Form;)Z"⟩) ∈ x_Ts := x_in1 879 (by decide +kernel) rfl
theorem mw_359 : (Cond.selects "ProofDesk$Graph" ⟨"ProofDesk$Graph", "copyTerm", "(ILProofDesk$Form;)Z"⟩ ⟨"ProofDesk$Graph", "copyTerm", "(ILProofDesk$Form;)Z"⟩) ∈ x_Ts := x_in2 26 (⟨"ProofDesk$Graph", "copyTerm", "(ILProofDesk$Form;)Z"⟩, 9) (by decide +kernel) rfl rfl
theorem mw_360 : (Cond.methodLink "ProofDesk$Graph" 98 ⟨"ProofDesk$Form", "put", "(I)Z"⟩) ∈ x_Ts := x_in1 882 (by decide +kernel) rfl
theorem mw_361 : (Cond.methodLink "ProofDesk$Graph" 101 ⟨"ProofDesk$Symbol", "ofVariable", "(I)I"⟩) ∈ x_Ts := x_in1 881 (by decide +kernel) rfl
theorem mw_362 : (Cond.methodLink "ProofDesk$Matcher" 3 ⟨"java/lang/Object", "<init>", "()V"⟩) ∈ x_Ts := x_in1 188 (by decide +kernel) rfl
theorem mw_363 : (Cond.fieldLink "ProofDesk$Matcher" 9 "ProofDesk$Matcher" "terms" "[I") ∈ x_Ts := x_in1 189 (by decide +kernel) rfl
theorem mw_364 : (Cond.fieldLink "ProofDesk$Matcher" 15 "ProofDesk$Matcher" "bound" "[I") ∈ x_Ts := x_in1 190 (by decide +kernel) rfl
theorem mw_365 : (Cond.methodLink "ProofDesk$Matcher" 18 ⟨"java/util/Arrays", "fill", "([II)V"⟩) ∈ x_Ts := x_in1 893 (by decide +kernel) rfl
theorem mw_366 : (Cond.fieldLink "ProofDesk$Matcher" 24 "ProofDesk$Matcher" "many" "I") ∈ x_Ts := x_in1 191 (by decide +kernel) rfl
theorem mw_367 : (Cond.code ⟨"ProofDesk$Matcher", "matchFrom", "(LProofDesk$Form;ILProofDesk$Form;)Z"⟩ prog_7_method_3_code 6 (Option.some .boolean)) ∈ x_Ts := x_in3 (x_r4 177 rfl) rfl
theorem mw_368 : (Cond.methodLink "ProofDesk$Matcher" 28 ⟨"ProofDesk$Matcher", "matchFrom", "(LProofDesk$Form;ILProofDesk$Form;)Z"⟩) ∈ x_Ts := x_in1 894 (by decide +kernel) rfl
theorem mw_369 : (Cond.instanceMethod ⟨"ProofDesk$Matcher", "matchFrom", "(LProofDesk$Form;ILProofDesk$Form;)Z"⟩) ∈ x_Ts := x_in1 896 (by decide +kernel) rfl
theorem mw_370 : (Cond.selects "ProofDesk$Matcher" ⟨"ProofDesk$Matcher", "matchFrom", "(LProofDesk$Form;ILProofDesk$Form;)Z"⟩ ⟨"ProofDesk$Matcher", "matchFrom", "(LProofDesk$Form;ILProofDesk$Form;)Z"⟩) ∈ x_Ts := x_in2 28 (⟨"ProofDesk$Matcher", "matchFrom", "(LProofDesk$Form;ILProofDesk$Form;)Z"⟩, 3) (by decide +kernel) rfl rfl
theorem mw_371 : (Cond.initialized "ProofDesk$Matcher") ∈ x_Ts := x_in1 7 (by decide +kernel) rfl
theorem mw_372 : (Cond.fieldLink "ProofDesk$Matcher" 32 "ProofDesk$Form" "count" "I") ∈ x_Ts := x_in1 91 (by decide +kernel) rfl
theorem mw_373 : (Cond.code ⟨"ProofDesk$Matcher", "matchLiteral", "(LProofDesk$Form;ILProofDesk$Form;I)Z"⟩ prog_7_method_4_code 11 (Option.some .boolean)) ∈ x_Ts := x_in3 (x_r4 181 rfl) rfl
theorem mw_374 : (Cond.methodLink "ProofDesk$Matcher" 37 ⟨"ProofDesk$Matcher", "matchLiteral", "(LProofDesk$Form;ILProofDesk$Form;I)Z"⟩) ∈ x_Ts := x_in1 898 (by decide +kernel) rfl
theorem mw_375 : (Cond.instanceMethod ⟨"ProofDesk$Matcher", "matchLiteral", "(LProofDesk$Form;ILProofDesk$Form;I)Z"⟩) ∈ x_Ts := x_in1 900 (by decide +kernel) rfl
theorem mw_376 : (Cond.selects "ProofDesk$Matcher" ⟨"ProofDesk$Matcher", "matchLiteral", "(LProofDesk$Form;ILProofDesk$Form;I)Z"⟩ ⟨"ProofDesk$Matcher", "matchLiteral", "(LProofDesk$Form;ILProofDesk$Form;I)Z"⟩) ∈ x_Ts := x_in2 29 (⟨"ProofDesk$Matcher", "matchLiteral", "(LProofDesk$Form;ILProofDesk$Form;I)Z"⟩, 3) (by decide +kernel) rfl rfl
theorem mw_377 : (Cond.code ⟨"ProofDesk$Matcher", "release", "(I)V"⟩ prog_7_method_6_code 2 (Option.none : Option Jvm.ClassFile.FieldType)) ∈ x_Ts := x_in3 (x_r4 194 rfl) rfl
theorem mw_378 : (Cond.methodLink "ProofDesk$Matcher" 41 ⟨"ProofDesk$Matcher", "release", "(I)V"⟩) ∈ x_Ts := x_in1 911 (by decide +kernel) rfl
theorem mw_379 : (Cond.instanceMethod ⟨"ProofDesk$Matcher", "release", "(I)V"⟩) ∈ x_Ts := x_in1 913 (by decide +kernel) rfl
theorem mw_380 : (Cond.selects "ProofDesk$Matcher" ⟨"ProofDesk$Matcher", "release", "(I)V"⟩ ⟨"ProofDesk$Matcher", "release", "(I)V"⟩) ∈ x_Ts := x_in2 31 (⟨"ProofDesk$Matcher", "release", "(I)V"⟩, 3) (by decide +kernel) rfl rfl
theorem mw_381 : (Cond.fieldLink "ProofDesk$Matcher" 45 "ProofDesk$Form" "negated" "[Z") ∈ x_Ts := x_in1 87 (by decide +kernel) rfl
theorem mw_382 : (Cond.methodLink "ProofDesk$Matcher" 49 ⟨"ProofDesk$Form", "start", "(I)I"⟩) ∈ x_Ts := x_in1 902 (by decide +kernel) rfl
theorem mw_383 : (Cond.fieldLink "ProofDesk$Matcher" 53 "ProofDesk$Form" "ends" "[I") ∈ x_Ts := x_in1 84 (by decide +kernel) rfl
theorem mw_384 : (Cond.fieldLink "ProofDesk$Matcher" 56 "ProofDesk$Form" "symbols" "[I") ∈ x_Ts := x_in1 79 (by decide +kernel) rfl
theorem mw_385 : (Cond.methodLink "ProofDesk$Matcher" 59 ⟨"ProofDesk$Symbol", "isVariable", "(I)Z"⟩) ∈ x_Ts := x_in1 903 (by decide +kernel) rfl
theorem mw_386 : (Cond.methodLink "ProofDesk$Matcher" 65 ⟨"ProofDesk$Form", "termEnd", "(I)I"⟩) ∈ x_Ts := x_in1 904 (by decide +kernel) rfl
theorem mw_387 : (Cond.methodLink "ProofDesk$Matcher" 68 ⟨"ProofDesk$Symbol", "variable", "(I)I"⟩) ∈ x_Ts := x_in1 905 (by decide +kernel) rfl
theorem mw_388 : (Cond.code ⟨"ProofDesk$Matcher", "bind", "(ILProofDesk$Form;II)Z"⟩ prog_7_method_5_code 5 (Option.some .boolean)) ∈ x_Ts := x_in3 (x_r4 189 rfl) rfl
theorem mw_389 : (Cond.methodLink "ProofDesk$Matcher" 71 ⟨"ProofDesk$Matcher", "bind", "(ILProofDesk$Form;II)Z"⟩) ∈ x_Ts := x_in1 906 (by decide +kernel) rfl
theorem mw_390 : (Cond.instanceMethod ⟨"ProofDesk$Matcher", "bind", "(ILProofDesk$Form;II)Z"⟩) ∈ x_Ts := x_in1 908 (by decide +kernel) rfl
theorem mw_391 : (Cond.selects "ProofDesk$Matcher" ⟨"ProofDesk$Matcher", "bind", "(ILProofDesk$Form;II)Z"⟩ ⟨"ProofDesk$Matcher", "bind", "(ILProofDesk$Form;II)Z"⟩) ∈ x_Ts := x_in2 30 (⟨"ProofDesk$Matcher", "bind", "(ILProofDesk$Form;II)Z"⟩, 3) (by decide +kernel) rfl rfl
theorem mw_392 : (Cond.methodLink "ProofDesk$Matcher" 75 ⟨"ProofDesk$Form", "hasSameSymbols", "(III)Z"⟩) ∈ x_Ts := x_in1 910 (by decide +kernel) rfl
theorem mw_393 : (Cond.methodLink "ProofDesk$Deduction" 3 ⟨"java/lang/Object", "<init>", "()V"⟩) ∈ x_Ts := x_in1 120 (by decide +kernel) rfl
theorem mw_394 : (Cond.classLink "ProofDesk$Deduction" 9 "ProofDesk$Form") ∈ x_Ts := x_in1 121 (by decide +kernel) rfl
theorem mw_395 : (Cond.instantiable "ProofDesk$Form" 6) ∈ x_Ts := x_in1 71 (by decide +kernel) rfl
theorem mw_396 : (Cond.code ⟨"ProofDesk$Form", "<init>", "()V"⟩ prog_5_method_1_code 1 (Option.none : Option Jvm.ClassFile.FieldType)) ∈ x_Ts := x_in3 (x_r1 74 rfl) rfl
theorem mw_397 : (Cond.methodLink "ProofDesk$Deduction" 11 ⟨"ProofDesk$Form", "<init>", "()V"⟩) ∈ x_Ts := x_in1 122 (by decide +kernel) rfl
theorem mw_398 : (Cond.instanceMethod ⟨"ProofDesk$Form", "<init>", "()V"⟩) ∈ x_Ts := x_in1 73 (by decide +kernel) rfl
theorem mw_399 : (Cond.fieldLink "ProofDesk$Deduction" 12 "ProofDesk$Deduction" "result" "LProofDesk$Form;") ∈ x_Ts := x_in1 157 (by decide +kernel) rfl
theorem mw_400 : (Cond.classLink "ProofDesk$Deduction" 18 "ProofDesk$Graph") ∈ x_Ts := x_in1 123 (by decide +kernel) rfl
theorem mw_401 : (Cond.instantiable "ProofDesk$Graph" 9) ∈ x_Ts := x_in1 124 (by decide +kernel) rfl
theorem mw_402 : (Cond.code ⟨"ProofDesk$Graph", "<init>", "()V"⟩ prog_6_method_1_code 1 (Option.none : Option Jvm.ClassFile.FieldType)) ∈ x_Ts := x_in3 (x_r1 127 rfl) rfl
theorem mw_403 : (Cond.methodLink "ProofDesk$Deduction" 20 ⟨"ProofDesk$Graph", "<init>", "()V"⟩) ∈ x_Ts := x_in1 125 (by decide +kernel) rfl
theorem mw_404 : (Cond.instanceMethod ⟨"ProofDesk$Graph", "<init>", "()V"⟩) ∈ x_Ts := x_in1 126 (by decide +kernel) rfl
theorem mw_405 : (Cond.fieldLink "ProofDesk$Deduction" 21 "ProofDesk$Deduction" "graph" "LProofDesk$Graph;") ∈ x_Ts := x_in1 159 (by decide +kernel) rfl
theorem mw_406 : (Cond.code ⟨"ProofDesk", "hasTwoParents", "(I)Z"⟩ prog_1_method_19_code 1 (Option.some .boolean)) ∈ x_Ts := x_in3 (x_r4 50 rfl) rfl
theorem mw_407 : (Cond.static ⟨"ProofDesk", "hasTwoParents", "(I)Z"⟩) ∈ x_Ts := x_in1 769 (by decide +kernel) rfl
theorem mw_408 : (Cond.initialized "ProofDesk") ∈ x_Ts := x_in1 1 (by decide +kernel) rfl
theorem mw_409 : (Cond.code ⟨"ProofDesk$Graph", "load", "(LProofDesk$Form;)V"⟩ prog_6_method_2_code 2 (Option.none : Option Jvm.ClassFile.FieldType)) ∈ x_Ts := x_in3 (x_r4 74 rfl) rfl
theorem mw_410 : (Cond.methodLink "ProofDesk$Deduction" 29 ⟨"ProofDesk$Graph", "load", "(LProofDesk$Form;)V"⟩) ∈ x_Ts := x_in1 791 (by decide +kernel) rfl
theorem mw_411 : (Cond.instanceMethod ⟨"ProofDesk$Graph", "load", "(LProofDesk$Form;)V"⟩) ∈ x_Ts := x_in1 792 (by decide +kernel) rfl
theorem mw_412 : (Cond.selects "ProofDesk$Graph" ⟨"ProofDesk$Graph", "load", "(LProofDesk$Form;)V"⟩ ⟨"ProofDesk$Graph", "load", "(LProofDesk$Form;)V"⟩) ∈ x_Ts := x_in1 793 (by decide +kernel) rfl
theorem mw_413 : (Cond.methodLink "ProofDesk$Deduction" 33 ⟨"ProofDesk$Graph", "append", "(LProofDesk$Form;I)V"⟩) ∈ x_Ts := x_in1 805 (by decide +kernel) rfl
theorem mw_414 : (Cond.code ⟨"ProofDesk$Graph", "findEnds", "()V"⟩ prog_6_method_4_code 5 (Option.none : Option Jvm.ClassFile.FieldType)) ∈ x_Ts := x_in3 (x_r4 89 rfl) rfl
theorem mw_415 : (Cond.methodLink "ProofDesk$Deduction" 37 ⟨"ProofDesk$Graph", "findEnds", "()V"⟩) ∈ x_Ts := x_in1 806 (by decide +kernel) rfl
theorem mw_416 : (Cond.instanceMethod ⟨"ProofDesk$Graph", "findEnds", "()V"⟩) ∈ x_Ts := x_in1 807 (by decide +kernel) rfl
theorem mw_417 : (Cond.selects "ProofDesk$Graph" ⟨"ProofDesk$Graph", "findEnds", "()V"⟩ ⟨"ProofDesk$Graph", "findEnds", "()V"⟩) ∈ x_Ts := x_in1 808 (by decide +kernel) rfl
theorem mw_418 : (Cond.code ⟨"ProofDesk$Deduction", "choose", "(ILProofDesk$Form;ILProofDesk$Form;II)Z"⟩ prog_3_method_3_code 7 (Option.some .boolean)) ∈ x_Ts := x_in3 (x_r4 94 rfl) rfl
theorem mw_419 : (Cond.methodLink "ProofDesk$Deduction" 40 ⟨"ProofDesk$Deduction", "choose", "(ILProofDesk$Form;ILProofDesk$Form;II)Z"⟩) ∈ x_Ts := x_in1 811 (by decide +kernel) rfl
theorem mw_420 : (Cond.instanceMethod ⟨"ProofDesk$Deduction", "choose", "(ILProofDesk$Form;ILProofDesk$Form;II)Z"⟩) ∈ x_Ts := x_in1 813 (by decide +kernel) rfl
theorem mw_421 : (Cond.selects "ProofDesk$Deduction" ⟨"ProofDesk$Deduction", "choose", "(ILProofDesk$Form;ILProofDesk$Form;II)Z"⟩ ⟨"ProofDesk$Deduction", "choose", "(ILProofDesk$Form;ILProofDesk$Form;II)Z"⟩) ∈ x_Ts := x_in2 14 (⟨"ProofDesk$Deduction", "choose", "(ILProofDesk$Form;ILProofDesk$Form;II)Z"⟩, 8) (by decide +kernel) rfl rfl
theorem mw_422 : (Cond.initialized "ProofDesk$Deduction") ∈ x_Ts := x_in1 5 (by decide +kernel) rfl
theorem mw_423 : (Cond.fieldLink "ProofDesk$Deduction" 44 "ProofDesk$Deduction" "one" "I") ∈ x_Ts := x_in1 160 (by decide +kernel) rfl
theorem mw_424 : (Cond.fieldLink "ProofDesk$Deduction" 48 "ProofDesk$Deduction" "other" "I") ∈ x_Ts := x_in1 161 (by decide +kernel) rfl
theorem mw_425 : (Cond.code ⟨"ProofDesk$Graph", "unify", "(II)Z"⟩ prog_6_method_6_code 6 (Option.some .boolean)) ∈ x_Ts := x_in3 (x_r4 121 rfl) rfl
theorem mw_426 : (Cond.methodLink "ProofDesk$Deduction" 51 ⟨"ProofDesk$Graph", "unify", "(II)Z"⟩) ∈ x_Ts := x_in1 838 (by decide +kernel) rfl
theorem mw_427 : (Cond.instanceMethod ⟨"ProofDesk$Graph", "unify", "(II)Z"⟩) ∈ x_Ts := x_in1 839 (by decide +kernel) rfl
theorem mw_428 : (Cond.selects "ProofDesk$Graph" ⟨"ProofDesk$Graph", "unify", "(II)Z"⟩ ⟨"ProofDesk$Graph", "unify", "(II)Z"⟩) ∈ x_Ts := x_in1 840 (by decide +kernel) rfl
theorem mw_429 : (Cond.methodLink "ProofDesk$Deduction" 55 ⟨"ProofDesk$Form", "clear", "()V"⟩) ∈ x_Ts := x_in1 863 (by decide +kernel) rfl
theorem mw_430 : (Cond.code ⟨"ProofDesk$Deduction", "copyLiterals", "(LProofDesk$Form;I)Z"⟩ prog_3_method_8_code 5 (Option.some .boolean)) ∈ x_Ts := x_in3 (x_r4 147 rfl) rfl
theorem mw_431 : (Cond.methodLink "ProofDesk$Deduction" 58 ⟨"ProofDesk$Deduction", "copyLiterals", "(LProofDesk$Form;I)Z"⟩) ∈ x_Ts := x_in1 864 (by decide +kernel) rfl
theorem mw_432 : (Cond.instanceMethod ⟨"ProofDesk$Deduction", "copyLiterals", "(LProofDesk$Form;I)Z"⟩) ∈ x_Ts := x_in1 866 (by decide +kernel) rfl
theorem mw_433 : (Cond.selects "ProofDesk$Deduction" ⟨"ProofDesk$Deduction", "copyLiterals", "(LProofDesk$Form;I)Z"⟩ ⟨"ProofDesk$Deduction", "copyLiterals", "(LProofDesk$Form;I)Z"⟩) ∈ x_Ts := x_in2 24 (⟨"ProofDesk$Deduction", "copyLiterals", "(LProofDesk$Form;I)Z"⟩, 8) (by decide +kernel) rfl rfl
theorem mw_434 : (Cond.fieldLink "ProofDesk$Deduction" 62 "ProofDesk$Form" "length" "I") ∈ x_Ts := x_in1 96 (by decide +kernel) rfl
theorem mw_435 : (Cond.code ⟨"ProofDesk$Form", "nameVariables", "()I"⟩ prog_5_method_14_code 3 (Option.some .int)) ∈ x_Ts := x_in3 (x_r2 202 rfl) rfl
theorem mw_436 : (Cond.methodLink "ProofDesk$Deduction" 65 ⟨"ProofDesk$Form", "nameVariables", "()I"⟩) ∈ x_Ts := x_in1 884 (by decide +kernel) rfl
theorem mw_437 : (Cond.instanceMethod ⟨"ProofDesk$Form", "nameVariables", "()I"⟩) ∈ x_Ts := x_in1 440 (by decide +kernel) rfl
theorem mw_438 : (Cond.selects "ProofDesk$Form" ⟨"ProofDesk$Form", "nameVariables", "()I"⟩ ⟨"ProofDesk$Form", "nameVariables", "()I"⟩) ∈ x_Ts := x_in1 441 (by decide +kernel) rfl
theorem mw_439 : (Cond.methodLink "ProofDesk$Deduction" 69 ⟨"ProofDesk$Form", "start", "(I)I"⟩) ∈ x_Ts := x_in1 815 (by decide +kernel) rfl
theorem mw_440 : (Cond.fieldLink "ProofDesk$Deduction" 73 "ProofDesk$Deduction" "firstLeftOut" "I") ∈ x_Ts := x_in1 162 (by decide +kernel) rfl
theorem mw_441 : (Cond.fieldLink "ProofDesk$Deduction" 76 "ProofDesk$Deduction" "secondLeftOut" "I") ∈ x_Ts := x_in1 163 (by decide +kernel) rfl
theorem mw_442 : (Cond.fieldLink "ProofDesk$Deduction" 79 "ProofDesk$Deduction" "place" "I") ∈ x_Ts := x_in1 164 (by decide +kernel) rfl
theorem mw_443 : (Cond.fieldLink "ProofDesk$Deduction" 82 "ProofDesk$Deduction" "filling" "I") ∈ x_Ts := x_in1 165 (by decide +kernel) rfl
theorem mw_444 : (Cond.code ⟨"ProofDesk$Deduction", "chooseResolution", "(LProofDesk$Form;ILProofDesk$Form;I)Z"⟩ prog_3_method_4_code 5 (Option.some .boolean)) ∈ x_Ts := x_in3 (x_r4 99 rfl) rfl
theorem mw_445 : (Cond.methodLink "ProofDesk$Deduction" 85 ⟨"ProofDesk$Deduction", "chooseResolution", "(LProofDesk$Form;ILProofDesk$Form;I)Z"⟩) ∈ x_Ts := x_in1 816 (by decide +kernel) rfl
theorem mw_446 : (Cond.instanceMethod ⟨"ProofDesk$Deduction", "chooseResolution", "(LProofDesk$Form;ILProofDesk$Form;I)Z"⟩) ∈ x_Ts := x_in1 818 (by decide +kernel) rfl
theorem mw_447 : (Cond.selects "ProofDesk$Deduction" ⟨"ProofDesk$Deduction", "chooseResolution", "(LProofDesk$Form;ILProofDesk$Form;I)Z"⟩ ⟨"ProofDesk$Deduction", "chooseResolution", "(LProofDesk$Form;ILProofDesk$Form;I)Z"⟩) ∈ x_Ts := x_in2 15 (⟨"ProofDesk$Deduction", "chooseResolution", "(LProofDesk$Form;ILProofDesk$Form;I)Z"⟩, 8) (by decide +kernel) rfl rfl
theorem mw_448 : (Cond.code ⟨"ProofDesk$Deduction", "chooseFactoring", "(LProofDesk$Form;II)Z"⟩ prog_3_method_5_code 4 (Option.some .boolean)) ∈ x_Ts := x_in3 (x_r4 103 rfl) rfl
theorem mw_449 : (Cond.methodLink "ProofDesk$Deduction" 89 ⟨"ProofDesk$Deduction", "chooseFactoring", "(LProofDesk$Form;II)Z"⟩) ∈ x_Ts := x_in1 820 (by decide +kernel) rfl
theorem mw_450 : (Cond.instanceMethod ⟨"ProofDesk$Deduction", "chooseFactoring", "(LProofDesk$Form;II)Z"⟩) ∈ x_Ts := x_in1 822 (by decide +kernel) rfl
theorem mw_451 : (Cond.selects "ProofDesk$Deduction" ⟨"ProofDesk$Deduction", "chooseFactoring", "(LProofDesk$Form;II)Z"⟩ ⟨"ProofDesk$Deduction", "chooseFactoring", "(LProofDesk$Form;II)Z"⟩) ∈ x_Ts := x_in2 16 (⟨"ProofDesk$Deduction", "chooseFactoring", "(LProofDesk$Form;II)Z"⟩, 8) (by decide +kernel) rfl rfl
theorem mw_452 : (Cond.code ⟨"ProofDesk$Deduction", "chooseReflection", "(LProofDesk$Form;I)Z"⟩ prog_3_method_6_code 3 (Option.some .boolean)) ∈ x_Ts := x_in3 (x_r4 107 rfl) rfl
theorem mw_453 : (Cond.methodLink "ProofDesk$Deduction" 93 ⟨"ProofDesk$Deduction", "chooseReflection", "(LProofDesk$Form;I)Z"⟩) ∈ x_Ts := x_in1 824 (by decide +kernel) rfl
theorem mw_454 : (Cond.instanceMethod ⟨"ProofDesk$Deduction", "chooseReflection", "(LProofDesk$Form;I)Z"⟩) ∈ x_Ts := x_in1 826 (by decide +kernel) rfl
theorem mw_455 : (Cond.selects "ProofDesk$Deduction" ⟨"ProofDesk$Deduction", "chooseReflection", "(LProofDesk$Form;I)Z"⟩ ⟨"ProofDesk$Deduction", "chooseReflection", "(LProofDesk$Form;I)Z"⟩) ∈ x_Ts := x_in2 17 (⟨"ProofDesk$Deduction", "chooseReflection", "(LProofDesk$Form;I)Z"⟩, 8) (by decide +kernel) rfl rfl
theorem mw_456 : (Cond.code ⟨"ProofDesk$Deduction", "chooseRewriting", "(LProofDesk$Form;ILProofDesk$Form;II)Z"⟩ prog_3_method_7_code 8 (Option.some .boolean)) ∈ x_Ts := x_in3 (x_r4 116 rfl) rfl
theorem mw_457 : (Cond.methodLink "ProofDesk$Deduction" 96 ⟨"ProofDesk$Deduction", "chooseRewriting", "(LProofDesk$Form;ILProofDesk$Form;II)Z"⟩) ∈ x_Ts := x_in1 833 (by decide +kernel) rfl
theorem mw_458 : (Cond.instanceMethod ⟨"ProofDesk$Deduction", "chooseRewriting", "(LProofDesk$Form;ILProofDesk$Form;II)Z"⟩) ∈ x_Ts := x_in1 835 (by decide +kernel) rfl
theorem mw_459 : (Cond.selects "ProofDesk$Deduction" ⟨"ProofDesk$Deduction", "chooseRewriting", "(LProofDesk$Form;ILProofDesk$Form;II)Z"⟩ ⟨"ProofDesk$Deduction", "chooseRewriting", "(LProofDesk$Form;ILProofDesk$Form;II)Z"⟩) ∈ x_Ts := x_in2 18 (⟨"ProofDesk$Deduction", "chooseRewriting", "(LProofDesk$Form;ILProofDesk$Form;II)Z"⟩, 8) (by decide +kernel) rfl rfl
theorem mw_460 : (Cond.fieldLink "ProofDesk$Deduction" 100 "ProofDesk$Form" "negated" "[Z") ∈ x_Ts := x_in1 88 (by decide +kernel) rfl
theorem mw_461 : (Cond.methodLink "ProofDesk$Deduction" 104 ⟨"ProofDesk$Graph", "end", "(I)I"⟩) ∈ x_Ts := x_in1 828 (by decide +kernel) rfl
theorem mw_462 : (Cond.methodLink "ProofDesk$Deduction" 107 ⟨"ProofDesk$Form", "isEquation", "(I)Z"⟩) ∈ x_Ts := x_in1 832 (by decide +kernel) rfl
theorem mw_463 : (Cond.code ⟨"ProofDesk", "placeOf", "(I)I"⟩ prog_1_method_21_code 1 (Option.some .int)) ∈ x_Ts := x_in3 (x_r4 61 rfl) rfl
theorem mw_464 : (Cond.static ⟨"ProofDesk", "placeOf", "(I)I"⟩) ∈ x_Ts := x_in1 780 (by decide +kernel) rfl
theorem mw_465 : (Cond.fieldLink "ProofDesk$Deduction" 113 "ProofDesk$Form" "count" "I") ∈ x_Ts := x_in1 94 (by decide +kernel) rfl
theorem mw_466 : (Cond.methodLink "ProofDesk$Deduction" 116 ⟨"ProofDesk$Form", "open", "(Z)V"⟩) ∈ x_Ts := x_in1 868 (by decide +kernel) rfl
theorem mw_467 : (Cond.fieldLink "ProofDesk$Deduction" 120 "ProofDesk$Form" "ends" "[I") ∈ x_Ts := x_in1 85 (by decide +kernel) rfl
theorem mw_468 : (Cond.code ⟨"ProofDesk$Deduction", "copyAtom", "(II)Z"⟩ prog_3_method_9_code 3 (Option.some .boolean)) ∈ x_Ts := x_in3 (x_r4 152 rfl) rfl
theorem mw_469 : (Cond.methodLink "ProofDesk$Deduction" 124 ⟨"ProofDesk$Deduction", "copyAtom", "(II)Z"⟩) ∈ x_Ts := x_in1 869 (by decide +kernel) rfl
theorem mw_470 : (Cond.instanceMethod ⟨"ProofDesk$Deduction", "copyAtom", "(II)Z"⟩) ∈ x_Ts := x_in1 871 (by decide +kernel) rfl
theorem mw_471 : (Cond.selects "ProofDesk$Deduction" ⟨"ProofDesk$Deduction", "copyAtom", "(II)Z"⟩ ⟨"ProofDesk$Deduction", "copyAtom", "(II)Z"⟩) ∈ x_Ts := x_in2 25 (⟨"ProofDesk$Deduction", "copyAtom", "(II)Z"⟩, 8) (by decide +kernel) rfl rfl
theorem mw_472 : (Cond.methodLink "ProofDesk$Deduction" 127 ⟨"ProofDesk$Form", "close", "()Z"⟩) ∈ x_Ts := x_in1 883 (by decide +kernel) rfl
theorem mw_473 : (Cond.code ⟨"ProofDesk$Graph", "copy", "(IILProofDesk$Form;)Z"⟩ prog_6_method_12_code 6 (Option.some .boolean)) ∈ x_Ts := x_in3 (x_r4 156 rfl) rfl
theorem mw_474 : (Cond.methodLink "ProofDesk$Deduction" 131 ⟨"ProofDesk$Graph", "copy", "(IILProofDesk$Form;)Z"⟩) ∈ x_Ts := x_in1 873 (by decide +kernel) rfl
theorem mw_475 : (Cond.instanceMethod ⟨"ProofDesk$Graph", "copy", "(IILProofDesk$Form;)Z"⟩) ∈ x_Ts := x_in1 874 (by decide +kernel) rfl
theorem mw_476 : (Cond.selects "ProofDesk$Graph" ⟨"ProofDesk$Graph", "copy", "(IILProofDesk$Form;)Z"⟩ ⟨"ProofDesk$Graph", "copy", "(IILProofDesk$Form;)Z"⟩) ∈ x_Ts := x_in1 875 (by decide +kernel) rfl
theorem mw_477 : (Cond.methodLink "ProofDesk" 1 ⟨"java/lang/Object", "<init>", "()V"⟩) ∈ x_Ts := x_in1 33 (by decide +kernel) rfl
theorem mw_478 : (Cond.classLink "ProofDesk" 7 "ProofDesk$Draft") ∈ x_Ts := x_in1 36 (by decide +kernel) rfl
theorem mw_479 : (Cond.instantiable "ProofDesk$Draft" 3) ∈ x_Ts := x_in1 37 (by decide +kernel) rfl
theorem mw_480 : (Cond.code ⟨"ProofDesk$Draft", "<init>", "()V"⟩ prog_4_method_1_code 1 (Option.none : Option Jvm.ClassFile.FieldType)) ∈ x_Ts := x_in3 (x_r1 40 rfl) rfl
theorem mw_481 : (Cond.methodLink "ProofDesk" 9 ⟨"ProofDesk$Draft", "<init>", "()V"⟩) ∈ x_Ts := x_in1 38 (by decide +kernel) rfl
theorem mw_482 : (Cond.instanceMethod ⟨"ProofDesk$Draft", "<init>", "()V"⟩) ∈ x_Ts := x_in1 39 (by decide +kernel) rfl
theorem mw_483 : (Cond.fieldLink "ProofDesk" 10 "ProofDesk" "paper" "LProofDesk$Draft;") ∈ x_Ts := x_in1 199 (by decide +kernel) rfl
theorem mw_484 : (Cond.classLink "ProofDesk" 16 "ProofDesk$Clause") ∈ x_Ts := x_in1 54 (by decide +kernel) rfl
theorem mw_485 : (Cond.fieldLink "ProofDesk" 18 "ProofDesk" "desk" "[LProofDesk$Clause;") ∈ x_Ts := x_in1 200 (by decide +kernel) rfl
theorem mw_486 : (Cond.classLink "ProofDesk" 22 "ProofDesk$Uses") ∈ x_Ts := x_in1 56 (by decide +kernel) rfl
theorem mw_487 : (Cond.instantiable "ProofDesk$Uses" 2) ∈ x_Ts := x_in1 57 (by decide +kernel) rfl
theorem mw_488 : (Cond.code ⟨"ProofDesk$Uses", "<init>", "()V"⟩ prog_9_method_1_code 1 (Option.none : Option Jvm.ClassFile.FieldType)) ∈ x_Ts := x_in3 (x_r1 60 rfl) rfl
theorem mw_489 : (Cond.methodLink "ProofDesk" 24 ⟨"ProofDesk$Uses", "<init>", "()V"⟩) ∈ x_Ts := x_in1 58 (by decide +kernel) rfl
theorem mw_490 : (Cond.instanceMethod ⟨"ProofDesk$Uses", "<init>", "()V"⟩) ∈ x_Ts := x_in1 59 (by decide +kernel) rfl
theorem mw_491 : (Cond.fieldLink "ProofDesk" 25 "ProofDesk" "uses" "LProofDesk$Uses;") ∈ x_Ts := x_in1 202 (by decide +kernel) rfl
theorem mw_492 : (Cond.classLink "ProofDesk" 29 "ProofDesk$Form") ∈ x_Ts := x_in1 70 (by decide +kernel) rfl
theorem mw_493 : (Cond.methodLink "ProofDesk" 31 ⟨"ProofDesk$Form", "<init>", "()V"⟩) ∈ x_Ts := x_in1 72 (by decide +kernel) rfl
theorem mw_494 : (Cond.fieldLink "ProofDesk" 32 "ProofDesk" "claim" "LProofDesk$Form;") ∈ x_Ts := x_in1 203 (by decide +kernel) rfl
theorem mw_495 : (Cond.classLink "ProofDesk" 36 "ProofDesk$Deduction") ∈ x_Ts := x_in1 115 (by decide +kernel) rfl
theorem mw_496 : (Cond.instantiable "ProofDesk$Deduction" 8) ∈ x_Ts := x_in1 116 (by decide +kernel) rfl
theorem mw_497 : (Cond.code ⟨"ProofDesk$Deduction", "<init>", "()V"⟩ prog_3_method_1_code 1 (Option.none : Option Jvm.ClassFile.FieldType)) ∈ x_Ts := x_in3 (x_r1 119 rfl) rfl
theorem mw_498 : (Cond.methodLink "ProofDesk" 38 ⟨"ProofDesk$Deduction", "<init>", "()V"⟩) ∈ x_Ts := x_in1 117 (by decide +kernel) rfl
theorem mw_499 : (Cond.instanceMethod ⟨"ProofDesk$Deduction", "<init>", "()V"⟩) ∈ x_Ts := x_in1 118 (by decide +kernel) rfl
theorem mw_500 : (Cond.fieldLink "ProofDesk" 39 "ProofDesk" "deduction" "LProofDesk$Deduction;") ∈ x_Ts := x_in1 206 (by decide +kernel) rfl
theorem mw_501 : (Cond.classLink "ProofDesk" 43 "ProofDesk$Matcher") ∈ x_Ts := x_in1 183 (by decide +kernel) rfl
theorem mw_502 : (Cond.instantiable "ProofDesk$Matcher" 3) ∈ x_Ts := x_in1 184 (by decide +kernel) rfl
theorem mw_503 : (Cond.code ⟨"ProofDesk$Matcher", "<init>", "()V"⟩ prog_7_method_1_code 1 (Option.none : Option Jvm.ClassFile.FieldType)) ∈ x_Ts := x_in3 (x_r1 187 rfl) rfl
theorem mw_504 : (Cond.methodLink "ProofDesk" 45 ⟨"ProofDesk$Matcher", "<init>", "()V"⟩) ∈ x_Ts := x_in1 185 (by decide +kernel) rfl
theorem mw_505 : (Cond.instanceMethod ⟨"ProofDesk$Matcher", "<init>", "()V"⟩) ∈ x_Ts := x_in1 186 (by decide +kernel) rfl
theorem mw_506 : (Cond.fieldLink "ProofDesk" 46 "ProofDesk" "matcher" "LProofDesk$Matcher;") ∈ x_Ts := x_in1 207 (by decide +kernel) rfl
theorem mw_507 : (Cond.code ⟨"ProofDesk$Draft", "append", "(C)Z"⟩ prog_4_method_2_code 2 (Option.some .boolean)) ∈ x_Ts := x_in3 (x_r1 237 rfl) rfl
theorem mw_508 : (Cond.methodLink "ProofDesk" 50 ⟨"ProofDesk$Draft", "append", "(C)Z"⟩) ∈ x_Ts := x_in1 234 (by decide +kernel) rfl
theorem mw_509 : (Cond.instanceMethod ⟨"ProofDesk$Draft", "append", "(C)Z"⟩) ∈ x_Ts := x_in1 235 (by decide +kernel) rfl
theorem mw_510 : (Cond.selects "ProofDesk$Draft" ⟨"ProofDesk$Draft", "append", "(C)Z"⟩ ⟨"ProofDesk$Draft", "append", "(C)Z"⟩) ∈ x_Ts := x_in1 236 (by decide +kernel) rfl
theorem mw_511 : (Cond.code ⟨"ProofDesk", "takeDraft", "()V"⟩ prog_1_method_16_code 1 (Option.none : Option Jvm.ClassFile.FieldType)) ∈ x_Ts := x_in3 (x_r2 133 rfl) rfl
theorem mw_512 : (Cond.methodLink "ProofDesk" 54 ⟨"ProofDesk", "takeDraft", "()V"⟩) ∈ x_Ts := x_in1 370 (by decide +kernel) rfl
theorem mw_513 : (Cond.instanceMethod ⟨"ProofDesk", "takeDraft", "()V"⟩) ∈ x_Ts := x_in1 372 (by decide +kernel) rfl
theorem mw_514 : (Cond.selects "ProofDesk" ⟨"ProofDesk", "takeDraft", "()V"⟩ ⟨"ProofDesk", "takeDraft", "()V"⟩) ∈ x_Ts := x_in2 2 (⟨"ProofDesk", "takeDraft", "()V"⟩, 10) (by decide +kernel) rfl rfl
theorem mw_515 : (Cond.fieldLink "ProofDesk" 57 "ProofDesk" "claimFault" "I") ∈ x_Ts := x_in1 205 (by decide +kernel) rfl
theorem mw_516 : (Cond.fieldLink "ProofDesk" 61 "ProofDesk" "count" "I") ∈ x_Ts := x_in1 201 (by decide +kernel) rfl
theorem mw_517 : (Cond.fieldLink "ProofDesk" 64 "ProofDesk" "latestFault" "I") ∈ x_Ts := x_in1 208 (by decide +kernel) rfl
theorem mw_518 : (Cond.classLink "ProofDesk" 67 "java/lang/IllegalStateException") ∈ x_Ts := x_in1 451 (by decide +kernel) rfl
theorem mw_519 : (Cond.initialized "java/lang/IllegalStateException") ∈ x_Ts := x_in1 14 (by decide +kernel) rfl
theorem mw_520 : (Cond.classLink "ProofDesk" 74 "java/lang/IllegalArgumentException") ∈ x_Ts := x_in1 520 (by decide +kernel) rfl
theorem mw_521 : (Cond.initialized "java/lang/IllegalArgumentException") ∈ x_Ts := x_in1 15 (by decide +kernel) rfl
theorem mw_522 : (Cond.code ⟨"ProofDesk", "addClause", "(LProofDesk$Form;II)V"⟩ prog_1_method_22_code 4 (Option.none : Option Jvm.ClassFile.FieldType)) ∈ x_Ts := x_in3 (x_r3 59 rfl) rfl
theorem mw_523 : (Cond.methodLink "ProofDesk" 79 ⟨"ProofDesk", "addClause", "(LProofDesk$Form;II)V"⟩) ∈ x_Ts := x_in1 536 (by decide +kernel) rfl
theorem mw_524 : (Cond.instanceMethod ⟨"ProofDesk", "addClause", "(LProofDesk$Form;II)V"⟩) ∈ x_Ts := x_in1 538 (by decide +kernel) rfl
theorem mw_525 : (Cond.selects "ProofDesk" ⟨"ProofDesk", "addClause", "(LProofDesk$Form;II)V"⟩ ⟨"ProofDesk", "addClause", "(LProofDesk$Form;II)V"⟩) ∈ x_Ts := x_in2 11 (⟨"ProofDesk", "addClause", "(LProofDesk$Form;II)V"⟩, 10) (by decide +kernel) rfl rfl
theorem mw_526 : (Cond.code ⟨"ProofDesk", "attempt", "(IIIIII)I"⟩ prog_1_method_17_code 11 (Option.some .int)) ∈ x_Ts := x_in3 (x_r4 47 rfl) rfl
theorem mw_527 : (Cond.methodLink "ProofDesk" 83 ⟨"ProofDesk", "attempt", "(IIIIII)I"⟩) ∈ x_Ts := x_in1 764 (by decide +kernel) rfl
theorem mw_528 : (Cond.instanceMethod ⟨"ProofDesk", "attempt", "(IIIIII)I"⟩) ∈ x_Ts := x_in1 766 (by decide +kernel) rfl
theorem mw_529 : (Cond.selects "ProofDesk" ⟨"ProofDesk", "attempt", "(IIIIII)I"⟩ ⟨"ProofDesk", "attempt", "(IIIIII)I"⟩) ∈ x_Ts := x_in2 12 (⟨"ProofDesk", "attempt", "(IIIIII)I"⟩, 10) (by decide +kernel) rfl rfl
theorem mw_530 : (Cond.classLink "ProofDesk" 87 "java/util/NoSuchElementException") ∈ x_Ts := x_in1 920 (by decide +kernel) rfl
theorem mw_531 : (Cond.initialized "java/util/NoSuchElementException") ∈ x_Ts := x_in1 26 (by decide +kernel) rfl
theorem mw_532 : (Cond.classLink "ProofDesk" 94 "java/lang/UnsupportedOperationException") ∈ x_Ts := x_in1 937 (by decide +kernel) rfl
theorem mw_533 : (Cond.initialized "java/lang/UnsupportedOperationException") ∈ x_Ts := x_in1 27 (by decide +kernel) rfl
theorem mw_534 : (Cond.code ⟨"ProofDesk", "clauseAt", "(I)LProofDesk$Clause;"⟩ prog_1_method_15_code 2 (Option.some (.object "ProofDesk$Clause"))) ∈ x_Ts := x_in3 (x_r2 13 rfl) rfl
theorem mw_535 : (Cond.methodLink "ProofDesk" 99 ⟨"ProofDesk", "clauseAt", "(I)LProofDesk$Clause;"⟩) ∈ x_Ts := x_in1 250 (by decide +kernel) rfl
theorem mw_536 : (Cond.instanceMethod ⟨"ProofDesk", "clauseAt", "(I)LProofDesk$Clause;"⟩) ∈ x_Ts := x_in1 252 (by decide +kernel) rfl
theorem mw_537 : (Cond.selects "ProofDesk" ⟨"ProofDesk", "clauseAt", "(I)LProofDesk$Clause;"⟩ ⟨"ProofDesk", "clauseAt", "(I)LProofDesk$Clause;"⟩) ∈ x_Ts := x_in2 0 (⟨"ProofDesk", "clauseAt", "(I)LProofDesk$Clause;"⟩, 10) (by decide +kernel) rfl rfl
theorem mw_538 : (Cond.fieldLink "ProofDesk" 103 "ProofDesk$Clause" "form" "LProofDesk$Form;") ∈ x_Ts := x_in1 739 (by decide +kernel) rfl
theorem mw_539 : (Cond.fieldLink "ProofDesk" 106 "ProofDesk$Form" "count" "I") ∈ x_Ts := x_in1 93 (by decide +kernel) rfl
theorem mw_540 : (Cond.fieldLink "ProofDesk" 107 "ProofDesk$Form" "length" "I") ∈ x_Ts := x_in1 98 (by decide +kernel) rfl
theorem mw_541 : (Cond.fieldLink "ProofDesk" 110 "ProofDesk$Clause" "text" "Ljava/lang/String;") ∈ x_Ts := x_in1 745 (by decide +kernel) rfl
theorem mw_542 : (Cond.code ⟨"java/lang/String", "length", "()I"⟩ prog_19_method_54_code 1 (Option.some .int)) ∈ x_Ts := x_in3 (x_r2 25 rfl) rfl
theorem mw_543 : (Cond.methodLink "ProofDesk" 114 ⟨"java/lang/String", "length", "()I"⟩) ∈ x_Ts := x_in1 262 (by decide +kernel) rfl
theorem mw_544 : (Cond.instanceMethod ⟨"java/lang/String", "length", "()I"⟩) ∈ x_Ts := x_in1 263 (by decide +kernel) rfl
theorem mw_545 : (Cond.selects "java/lang/String" ⟨"java/lang/String", "length", "()I"⟩ ⟨"java/lang/String", "length", "()I"⟩) ∈ x_Ts := x_in1 264 (by decide +kernel) rfl
theorem mw_546 : (Cond.initialized "java/lang/String") ∈ x_Ts := x_in1 21 (by decide +kernel) rfl
theorem mw_547 : (Cond.code ⟨"java/lang/String", "charAt", "(I)C"⟩ prog_19_method_56_code 2 (Option.some .char)) ∈ x_Ts := x_in3 (x_r2 35 rfl) rfl
theorem mw_548 : (Cond.methodLink "ProofDesk" 119 ⟨"java/lang/String", "charAt", "(I)C"⟩) ∈ x_Ts := x_in1 272 (by decide +kernel) rfl
theorem mw_549 : (Cond.instanceMethod ⟨"java/lang/String", "charAt", "(I)C"⟩) ∈ x_Ts := x_in1 273 (by decide +kernel) rfl
theorem mw_550 : (Cond.selects "java/lang/String" ⟨"java/lang/String", "charAt", "(I)C"⟩ ⟨"java/lang/String", "charAt", "(I)C"⟩) ∈ x_Ts := x_in1 274 (by decide +kernel) rfl
theorem mw_551 : (Cond.fieldLink "ProofDesk" 123 "ProofDesk$Clause" "level" "I") ∈ x_Ts := x_in1 741 (by decide +kernel) rfl
theorem mw_552 : (Cond.fieldLink "ProofDesk" 126 "ProofDesk$Clause" "sources" "I") ∈ x_Ts := x_in1 743 (by decide +kernel) rfl
theorem mw_553 : (Cond.code ⟨"ProofDesk$Form", "isAlwaysTrue", "()Z"⟩ prog_5_method_17_code 3 (Option.some .boolean)) ∈ x_Ts := x_in3 (x_r2 89 rfl) rfl
theorem mw_554 : (Cond.methodLink "ProofDesk" 129 ⟨"ProofDesk$Form", "isAlwaysTrue", "()Z"⟩) ∈ x_Ts := x_in1 326 (by decide +kernel) rfl
theorem mw_555 : (Cond.instanceMethod ⟨"ProofDesk$Form", "isAlwaysTrue", "()Z"⟩) ∈ x_Ts := x_in1 327 (by decide +kernel) rfl
theorem mw_556 : (Cond.selects "ProofDesk$Form" ⟨"ProofDesk$Form", "isAlwaysTrue", "()Z"⟩ ⟨"ProofDesk$Form", "isAlwaysTrue", "()Z"⟩) ∈ x_Ts := x_in1 328 (by decide +kernel) rfl
theorem mw_557 : (Cond.fieldLink "ProofDesk" 133 "ProofDesk$Draft" "length" "I") ∈ x_Ts := x_in1 45 (by decide +kernel) rfl
theorem mw_558 : (Cond.fieldLink "ProofDesk" 134 "ProofDesk" "claimed" "Z") ∈ x_Ts := x_in1 204 (by decide +kernel) rfl
theorem mw_559 : (Cond.code ⟨"ProofDesk$Draft", "read", "(LProofDesk$Form;)Z"⟩ prog_4_method_3_code 2 (Option.some .boolean)) ∈ x_Ts := x_in3 (x_r2 137 rfl) rfl
theorem mw_560 : (Cond.methodLink "ProofDesk" 138 ⟨"ProofDesk$Draft", "read", "(LProofDesk$Form;)Z"⟩) ∈ x_Ts := x_in1 374 (by decide +kernel) rfl
theorem mw_561 : (Cond.instanceMethod ⟨"ProofDesk$Draft", "read", "(LProofDesk$Form;)Z"⟩) ∈ x_Ts := x_in1 375 (by decide +kernel) rfl
theorem mw_562 : (Cond.selects "ProofDesk$Draft" ⟨"ProofDesk$Draft", "read", "(LProofDesk$Form;)Z"⟩ ⟨"ProofDesk$Draft", "read", "(LProofDesk$Form;)Z"⟩) ∈ x_Ts := x_in1 376 (by decide +kernel) rfl
theorem mw_563 : (Cond.code ⟨"ProofDesk$Uses", "allow", "(LProofDesk$Form;)Z"⟩ prog_9_method_2_code 2 (Option.some .boolean)) ∈ x_Ts := x_in3 (x_r2 187 rfl) rfl
theorem mw_564 : (Cond.methodLink "ProofDesk" 142 ⟨"ProofDesk$Uses", "allow", "(LProofDesk$Form;)Z"⟩) ∈ x_Ts := x_in1 424 (by decide +kernel) rfl
theorem mw_565 : (Cond.instanceMethod ⟨"ProofDesk$Uses", "allow", "(LProofDesk$Form;)Z"⟩) ∈ x_Ts := x_in1 425 (by decide +kernel) rfl
theorem mw_566 : (Cond.selects "ProofDesk$Uses" ⟨"ProofDesk$Uses", "allow", "(LProofDesk$Form;)Z"⟩ ⟨"ProofDesk$Uses", "allow", "(LProofDesk$Form;)Z"⟩) ∈ x_Ts := x_in1 426 (by decide +kernel) rfl
theorem mw_567 : (Cond.methodLink "ProofDesk" 145 ⟨"ProofDesk$Form", "nameVariables", "()I"⟩) ∈ x_Ts := x_in1 439 (by decide +kernel) rfl
theorem mw_568 : (Cond.methodLink "ProofDesk" 148 ⟨"ProofDesk", "hasTwoParents", "(I)Z"⟩) ∈ x_Ts := x_in1 768 (by decide +kernel) rfl
theorem mw_569 : (Cond.code ⟨"ProofDesk", "isThere", "(ILProofDesk$Form;ILProofDesk$Form;II)Z"⟩ prog_1_method_20_code 7 (Option.some .boolean)) ∈ x_Ts := x_in3 (x_r4 54 rfl) rfl
theorem mw_570 : (Cond.methodLink "ProofDesk" 152 ⟨"ProofDesk", "isThere", "(ILProofDesk$Form;ILProofDesk$Form;II)Z"⟩) ∈ x_Ts := x_in1 771 (by decide +kernel) rfl
theorem mw_571 : (Cond.instanceMethod ⟨"ProofDesk", "isThere", "(ILProofDesk$Form;ILProofDesk$Form;II)Z"⟩) ∈ x_Ts := x_in1 773 (by decide +kernel) rfl
theorem mw_572 : (Cond.selects "ProofDesk" ⟨"ProofDesk", "isThere", "(ILProofDesk$Form;ILProofDesk$Form;II)Z"⟩ ⟨"ProofDesk", "isThere", "(ILProofDesk$Form;ILProofDesk$Form;II)Z"⟩) ∈ x_Ts := x_in2 13 (⟨"ProofDesk", "isThere", "(ILProofDesk$Form;ILProofDesk$Form;II)Z"⟩, 10) (by decide +kernel) rfl rfl
theorem mw_573 : (Cond.code ⟨"ProofDesk$Deduction", "apply", "(ILProofDesk$Form;ILProofDesk$Form;II)I"⟩ prog_3_method_2_code 9 (Option.some .int)) ∈ x_Ts := x_in3 (x_r4 69 rfl) rfl
theorem mw_574 : (Cond.methodLink "ProofDesk" 156 ⟨"ProofDesk$Deduction", "apply", "(ILProofDesk$Form;ILProofDesk$Form;II)I"⟩) ∈ x_Ts := x_in1 786 (by decide +kernel) rfl
theorem mw_575 : (Cond.instanceMethod ⟨"ProofDesk$Deduction", "apply", "(ILProofDesk$Form;ILProofDesk$Form;II)I"⟩) ∈ x_Ts := x_in1 787 (by decide +kernel) rfl
theorem mw_576 : (Cond.selects "ProofDesk$Deduction" ⟨"ProofDesk$Deduction", "apply", "(ILProofDesk$Form;ILProofDesk$Form;II)I"⟩ ⟨"ProofDesk$Deduction", "apply", "(ILProofDesk$Form;ILProofDesk$Form;II)I"⟩) ∈ x_Ts := x_in1 788 (by decide +kernel) rfl
theorem mw_577 : (Cond.code ⟨"ProofDesk", "isClaimRight", "(ILProofDesk$Form;)Z"⟩ prog_1_method_18_code 3 (Option.some .boolean)) ∈ x_Ts := x_in3 (x_r4 168 rfl) rfl
theorem mw_578 : (Cond.methodLink "ProofDesk" 160 ⟨"ProofDesk", "isClaimRight", "(ILProofDesk$Form;)Z"⟩) ∈ x_Ts := x_in1 885 (by decide +kernel) rfl
theorem mw_579 : (Cond.instanceMethod ⟨"ProofDesk", "isClaimRight", "(ILProofDesk$Form;)Z"⟩) ∈ x_Ts := x_in1 887 (by decide +kernel) rfl
theorem mw_580 : (Cond.selects "ProofDesk" ⟨"ProofDesk", "isClaimRight", "(ILProofDesk$Form;)Z"⟩ ⟨"ProofDesk", "isClaimRight", "(ILProofDesk$Form;)Z"⟩) ∈ x_Ts := x_in2 27 (⟨"ProofDesk", "isClaimRight", "(ILProofDesk$Form;)Z"⟩, 10) (by decide +kernel) rfl rfl
theorem mw_581 : (Cond.fieldLink "ProofDesk" 164 "ProofDesk$Deduction" "result" "LProofDesk$Form;") ∈ x_Ts := x_in1 158 (by decide +kernel) rfl
theorem mw_582 : (Cond.methodLink "ProofDesk" 167 ⟨"java/lang/Math", "max", "(II)I"⟩) ∈ x_Ts := x_in1 919 (by decide +kernel) rfl
theorem mw_583 : (Cond.static ⟨"java/lang/Math", "max", "(II)I"⟩) ∈ x_Ts := x_in1 615 (by decide +kernel) rfl
theorem mw_584 : (Cond.code ⟨"java/lang/Math", "max", "(II)I"⟩ prog_17_method_65_code 2 (Option.some .int)) ∈ x_Ts := x_in3 (x_r3 136 rfl) rfl
theorem mw_585 : (Cond.code ⟨"ProofDesk$Matcher", "canSpecialise", "(LProofDesk$Form;LProofDesk$Form;)Z"⟩ prog_7_method_2_code 3 (Option.some .boolean)) ∈ x_Ts := x_in3 (x_r4 172 rfl) rfl
theorem mw_586 : (Cond.methodLink "ProofDesk" 173 ⟨"ProofDesk$Matcher", "canSpecialise", "(LProofDesk$Form;LProofDesk$Form;)Z"⟩) ∈ x_Ts := x_in1 889 (by decide +kernel) rfl
theorem mw_587 : (Cond.instanceMethod ⟨"ProofDesk$Matcher", "canSpecialise", "(LProofDesk$Form;LProofDesk$Form;)Z"⟩) ∈ x_Ts := x_in1 890 (by decide +kernel) rfl
theorem mw_588 : (Cond.selects "ProofDesk$Matcher" ⟨"ProofDesk$Matcher", "canSpecialise", "(LProofDesk$Form;LProofDesk$Form;)Z"⟩ ⟨"ProofDesk$Matcher", "canSpecialise", "(LProofDesk$Form;LProofDesk$Form;)Z"⟩) ∈ x_Ts := x_in1 891 (by decide +kernel) rfl
theorem mw_589 : (Cond.code ⟨"ProofDesk$Form", "isSame", "(LProofDesk$Form;)Z"⟩ prog_5_method_16_code 3 (Option.some .boolean)) ∈ x_Ts := x_in3 (x_r4 198 rfl) rfl
theorem mw_590 : (Cond.methodLink "ProofDesk" 177 ⟨"ProofDesk$Form", "isSame", "(LProofDesk$Form;)Z"⟩) ∈ x_Ts := x_in1 915 (by decide +kernel) rfl
theorem mw_591 : (Cond.instanceMethod ⟨"ProofDesk$Form", "isSame", "(LProofDesk$Form;)Z"⟩) ∈ x_Ts := x_in1 916 (by decide +kernel) rfl
theorem mw_592 : (Cond.selects "ProofDesk$Form" ⟨"ProofDesk$Form", "isSame", "(LProofDesk$Form;)Z"⟩ ⟨"ProofDesk$Form", "isSame", "(LProofDesk$Form;)Z"⟩) ∈ x_Ts := x_in1 917 (by decide +kernel) rfl
theorem mw_593 : (Cond.code ⟨"ProofDesk$Form", "hasLiteral", "(I)Z"⟩ prog_5_method_5_code 2 (Option.some .boolean)) ∈ x_Ts := x_in3 (x_r4 58 rfl) rfl
theorem mw_594 : (Cond.methodLink "ProofDesk" 180 ⟨"ProofDesk$Form", "hasLiteral", "(I)Z"⟩) ∈ x_Ts := x_in1 775 (by decide +kernel) rfl
theorem mw_595 : (Cond.instanceMethod ⟨"ProofDesk$Form", "hasLiteral", "(I)Z"⟩) ∈ x_Ts := x_in1 776 (by decide +kernel) rfl
theorem mw_596 : (Cond.selects "ProofDesk$Form" ⟨"ProofDesk$Form", "hasLiteral", "(I)Z"⟩ ⟨"ProofDesk$Form", "hasLiteral", "(I)Z"⟩) ∈ x_Ts := x_in1 777 (by decide +kernel) rfl
theorem mw_597 : (Cond.methodLink "ProofDesk" 183 ⟨"ProofDesk", "placeOf", "(I)I"⟩) ∈ x_Ts := x_in1 779 (by decide +kernel) rfl
theorem mw_598 : (Cond.code ⟨"ProofDesk$Form", "hasFunction", "(II)Z"⟩ prog_5_method_7_code 4 (Option.some .boolean)) ∈ x_Ts := x_in3 (x_r4 65 rfl) rfl
theorem mw_599 : (Cond.methodLink "ProofDesk" 187 ⟨"ProofDesk$Form", "hasFunction", "(II)Z"⟩) ∈ x_Ts := x_in1 782 (by decide +kernel) rfl
theorem mw_600 : (Cond.instanceMethod ⟨"ProofDesk$Form", "hasFunction", "(II)Z"⟩) ∈ x_Ts := x_in1 783 (by decide +kernel) rfl
theorem mw_601 : (Cond.selects "ProofDesk$Form" ⟨"ProofDesk$Form", "hasFunction", "(II)Z"⟩ ⟨"ProofDesk$Form", "hasFunction", "(II)Z"⟩) ∈ x_Ts := x_in1 784 (by decide +kernel) rfl
theorem mw_602 : (Cond.code ⟨"ProofDesk$Uses", "keep", "(LProofDesk$Form;)V"⟩ prog_9_method_3_code 2 (Option.none : Option Jvm.ClassFile.FieldType)) ∈ x_Ts := x_in3 (x_r3 63 rfl) rfl
theorem mw_603 : (Cond.methodLink "ProofDesk" 191 ⟨"ProofDesk$Uses", "keep", "(LProofDesk$Form;)V"⟩) ∈ x_Ts := x_in1 540 (by decide +kernel) rfl
theorem mw_604 : (Cond.instanceMethod ⟨"ProofDesk$Uses", "keep", "(LProofDesk$Form;)V"⟩) ∈ x_Ts := x_in1 541 (by decide +kernel) rfl
theorem mw_605 : (Cond.selects "ProofDesk$Uses" ⟨"ProofDesk$Uses", "keep", "(LProofDesk$Form;)V"⟩ ⟨"ProofDesk$Uses", "keep", "(LProofDesk$Form;)V"⟩) ∈ x_Ts := x_in1 542 (by decide +kernel) rfl
theorem mw_606 : (Cond.instantiable "ProofDesk$Clause" 4) ∈ x_Ts := x_in1 544 (by decide +kernel) rfl
theorem mw_607 : (Cond.initialized "ProofDesk$Clause") ∈ x_Ts := x_in1 16 (by decide +kernel) rfl
theorem mw_608 : (Cond.code ⟨"ProofDesk$Form", "<init>", "(LProofDesk$Form;)V"⟩ prog_5_method_2_code 3 (Option.none : Option Jvm.ClassFile.FieldType)) ∈ x_Ts := x_in3 (x_r3 67 rfl) rfl
theorem mw_609 : (Cond.methodLink "ProofDesk" 195 ⟨"ProofDesk$Form", "<init>", "(LProofDesk$Form;)V"⟩) ∈ x_Ts := x_in1 545 (by decide +kernel) rfl
theorem mw_610 : (Cond.instanceMethod ⟨"ProofDesk$Form", "<init>", "(LProofDesk$Form;)V"⟩) ∈ x_Ts := x_in1 546 (by decide +kernel) rfl
theorem mw_611 : (Cond.code ⟨"ProofDesk", "textOf", "(LProofDesk$Form;)Ljava/lang/String;"⟩ prog_1_method_23_code 4 (Option.some (.object "java/lang/String"))) ∈ x_Ts := x_in3 (x_r3 84 rfl) rfl
theorem mw_612 : (Cond.methodLink "ProofDesk" 197 ⟨"ProofDesk", "textOf", "(LProofDesk$Form;)Ljava/lang/String;"⟩) ∈ x_Ts := x_in1 562 (by decide +kernel) rfl
theorem mw_613 : (Cond.static ⟨"ProofDesk", "textOf", "(LProofDesk$Form;)Ljava/lang/String;"⟩) ∈ x_Ts := x_in1 563 (by decide +kernel) rfl
theorem mw_614 : (Cond.code ⟨"ProofDesk$Clause", "<init>", "(LProofDesk$Form;IILjava/lang/String;)V"⟩ prog_2_method_1_code 5 (Option.none : Option Jvm.ClassFile.FieldType)) ∈ x_Ts := x_in3 (x_r4 16 rfl) rfl
theorem mw_615 : (Cond.methodLink "ProofDesk" 201 ⟨"ProofDesk$Clause", "<init>", "(LProofDesk$Form;IILjava/lang/String;)V"⟩) ∈ x_Ts := x_in1 734 (by decide +kernel) rfl
theorem mw_616 : (Cond.instanceMethod ⟨"ProofDesk$Clause", "<init>", "(LProofDesk$Form;IILjava/lang/String;)V"⟩) ∈ x_Ts := x_in1 735 (by decide +kernel) rfl
theorem mw_617 : (Cond.classLink "ProofDesk" 206 "java/lang/StringBuilder") ∈ x_Ts := x_in1 566 (by decide +kernel) rfl
theorem mw_618 : (Cond.instantiable "java/lang/StringBuilder" 4) ∈ x_Ts := x_in1 567 (by decide +kernel) rfl
theorem mw_619 : (Cond.initialized "java/lang/StringBuilder") ∈ x_Ts := x_in1 20 (by decide +kernel) rfl
theorem mw_620 : (Cond.code ⟨"java/lang/StringBuilder", "<init>", "()V"⟩ prog_20_method_1_code 1 (Option.none : Option Jvm.ClassFile.FieldType)) ∈ x_Ts := x_in3 (x_r3 90 rfl) rfl
theorem mw_621 : (Cond.methodLink "ProofDesk" 208 ⟨"java/lang/StringBuilder", "<init>", "()V"⟩) ∈ x_Ts := x_in1 568 (by decide +kernel) rfl
theorem mw_622 : (Cond.instanceMethod ⟨"java/lang/StringBuilder", "<init>", "()V"⟩) ∈ x_Ts := x_in1 569 (by decide +kernel) rfl
theorem mw_623 : (Cond.code ⟨"java/lang/StringBuilder", "append", "(C)Ljava/lang/StringBuilder;"⟩ prog_20_method_14_code 2 (Option.some (.object "java/lang/StringBuilder"))) ∈ x_Ts := x_in3 (x_r3 119 rfl) rfl
theorem mw_624 : (Cond.methodLink "ProofDesk" 209 ⟨"java/lang/StringBuilder", "append", "(C)Ljava/lang/StringBuilder;"⟩) ∈ x_Ts := x_in1 596 (by decide +kernel) rfl
theorem mw_625 : (Cond.instanceMethod ⟨"java/lang/StringBuilder", "append", "(C)Ljava/lang/StringBuilder;"⟩) ∈ x_Ts := x_in1 597 (by decide +kernel) rfl
theorem mw_626 : (Cond.selects "java/lang/StringBuilder" ⟨"java/lang/StringBuilder", "append", "(C)Ljava/lang/StringBuilder;"⟩ ⟨"java/lang/StringBuilder", "append", "(C)Ljava/lang/StringBuilder;"⟩) ∈ x_Ts := x_in1 598 (by decide +kernel) rfl
theorem mw_627 : (Cond.fieldLink "ProofDesk" 212 "ProofDesk$Form" "negated" "[Z") ∈ x_Ts := x_in1 89 (by decide +kernel) rfl
theorem mw_628 : (Cond.methodLink "ProofDesk" 216 ⟨"ProofDesk$Form", "start", "(I)I"⟩) ∈ x_Ts := x_in1 663 (by decide +kernel) rfl
theorem mw_629 : (Cond.methodLink "ProofDesk" 219 ⟨"ProofDesk$Form", "isEquation", "(I)Z"⟩) ∈ x_Ts := x_in1 664 (by decide +kernel) rfl
theorem mw_630 : (Cond.code ⟨"ProofDesk", "appendTerm", "(Ljava/lang/StringBuilder;LProofDesk$Form;II)I"⟩ prog_1_method_24_code 8 (Option.some .int)) ∈ x_Ts := x_in3 (x_r3 187 rfl) rfl
theorem mw_631 : (Cond.methodLink "ProofDesk" 222 ⟨"ProofDesk", "appendTerm", "(Ljava/lang/StringBuilder;LProofDesk$Form;II)I"⟩) ∈ x_Ts := x_in1 665 (by decide +kernel) rfl
theorem mw_632 : (Cond.static ⟨"ProofDesk", "appendTerm", "(Ljava/lang/StringBuilder;LProofDesk$Form;II)I"⟩) ∈ x_Ts := x_in1 666 (by decide +kernel) rfl
theorem mw_633 : (Cond.code ⟨"java/lang/StringBuilder", "toString", "()Ljava/lang/String;"⟩ prog_20_method_42_code 1 (Option.some (.object "java/lang/String"))) ∈ x_Ts := x_in3 (x_r3 200 rfl) rfl
theorem mw_634 : (Cond.methodLink "ProofDesk" 226 ⟨"java/lang/StringBuilder", "toString", "()Ljava/lang/String;"⟩) ∈ x_Ts := x_in1 677 (by decide +kernel) rfl
theorem mw_635 : (Cond.instanceMethod ⟨"java/lang/StringBuilder", "toString", "()Ljava/lang/String;"⟩) ∈ x_Ts := x_in1 678 (by decide +kernel) rfl
theorem mw_636 : (Cond.selects "java/lang/StringBuilder" ⟨"java/lang/StringBuilder", "toString", "()Ljava/lang/String;"⟩ ⟨"java/lang/StringBuilder", "toString", "()Ljava/lang/String;"⟩) ∈ x_Ts := x_in1 679 (by decide +kernel) rfl
theorem mw_637 : (Cond.fieldLink "ProofDesk" 230 "ProofDesk$Form" "symbols" "[I") ∈ x_Ts := x_in1 81 (by decide +kernel) rfl
theorem mw_638 : (Cond.methodLink "ProofDesk" 234 ⟨"ProofDesk$Symbol", "terms", "(I)I"⟩) ∈ x_Ts := x_in1 668 (by decide +kernel) rfl
theorem mw_639 : (Cond.code ⟨"ProofDesk$Symbol", "character", "(I)C"⟩ prog_8_method_8_code 1 (Option.some .char)) ∈ x_Ts := x_in3 (x_r3 191 rfl) rfl
theorem mw_640 : (Cond.methodLink "ProofDesk" 239 ⟨"ProofDesk$Symbol", "character", "(I)C"⟩) ∈ x_Ts := x_in1 669 (by decide +kernel) rfl
theorem mw_641 : (Cond.static ⟨"ProofDesk$Symbol", "character", "(I)C"⟩) ∈ x_Ts := x_in1 670 (by decide +kernel) rfl
theorem mw_642 : (Cond.methodLink "ProofDeskModel" 1 ⟨"java/lang/Object", "<init>", "()V"⟩) ∈ x_Ts := x_in1 958 (by decide +kernel) rfl
theorem mw_643 : (Cond.fieldLink "ProofDeskModel" 7 "ProofDeskModel" "sign" "[I") ∈ x_Ts := x_in1 962 (by decide +kernel) rfl
theorem mw_644 : (Cond.fieldLink "ProofDeskModel" 13 "ProofDeskModel" "begin" "[I") ∈ x_Ts := x_in1 963 (by decide +kernel) rfl
theorem mw_645 : (Cond.fieldLink "ProofDeskModel" 16 "ProofDeskModel" "many" "[I") ∈ x_Ts := x_in1 964 (by decide +kernel) rfl
theorem mw_646 : (Cond.fieldLink "ProofDeskModel" 19 "ProofDeskModel" "depth" "[I") ∈ x_Ts := x_in1 965 (by decide +kernel) rfl
theorem mw_647 : (Cond.fieldLink "ProofDeskModel" 22 "ProofDeskModel" "need" "[I") ∈ x_Ts := x_in1 966 (by decide +kernel) rfl
theorem mw_648 : (Cond.fieldLink "ProofDeskModel" 25 "ProofDeskModel" "negated" "[Z") ∈ x_Ts := x_in1 967 (by decide +kernel) rfl
theorem mw_649 : (Cond.fieldLink "ProofDeskModel" 29 "ProofDeskModel" "isGiven" "[Z") ∈ x_Ts := x_in1 968 (by decide +kernel) rfl
theorem mw_650 : (Cond.fieldLink "ProofDeskModel" 32 "ProofDeskModel" "use" "[I") ∈ x_Ts := x_in1 969 (by decide +kernel) rfl
theorem mw_651 : (Cond.fieldLink "ProofDeskModel" 35 "ProofDeskModel" "used" "[I") ∈ x_Ts := x_in1 970 (by decide +kernel) rfl
theorem mw_652 : (Cond.fieldLink "ProofDeskModel" 38 "ProofDeskModel" "draft" "[C") ∈ x_Ts := x_in1 971 (by decide +kernel) rfl
theorem mw_653 : (Cond.fieldLink "ProofDeskModel" 42 "ProofDeskModel" "row" "[I") ∈ x_Ts := x_in1 976 (by decide +kernel) rfl
theorem mw_654 : (Cond.fieldLink "ProofDeskModel" 45 "ProofDeskModel" "start" "[I") ∈ x_Ts := x_in1 977 (by decide +kernel) rfl
theorem mw_655 : (Cond.fieldLink "ProofDeskModel" 48 "ProofDeskModel" "map" "[I") ∈ x_Ts := x_in1 978 (by decide +kernel) rfl
theorem mw_656 : (Cond.fieldLink "ProofDeskModel" 51 "ProofDeskModel" "minus" "[Z") ∈ x_Ts := x_in1 979 (by decide +kernel) rfl
theorem mw_657 : (Cond.fieldLink "ProofDeskModel" 54 "ProofDeskModel" "claim" "[I") ∈ x_Ts := x_in1 984 (by decide +kernel) rfl
theorem mw_658 : (Cond.fieldLink "ProofDeskModel" 57 "ProofDeskModel" "claimStart" "[I") ∈ x_Ts := x_in1 985 (by decide +kernel) rfl
theorem mw_659 : (Cond.fieldLink "ProofDeskModel" 60 "ProofDeskModel" "claimMinus" "[Z") ∈ x_Ts := x_in1 986 (by decide +kernel) rfl
theorem mw_660 : (Cond.fieldLink "ProofDeskModel" 63 "ProofDeskModel" "place" "[I") ∈ x_Ts := x_in1 988 (by decide +kernel) rfl
theorem mw_661 : (Cond.fieldLink "ProofDeskModel" 66 "ProofDeskModel" "bound" "[I") ∈ x_Ts := x_in1 989 (by decide +kernel) rfl
theorem mw_662 : (Cond.fieldLink "ProofDeskModel" 69 "ProofDeskModel" "left" "[I") ∈ x_Ts := x_in1 990 (by decide +kernel) rfl
theorem mw_663 : (Cond.fieldLink "ProofDeskModel" 72 "ProofDeskModel" "right" "[I") ∈ x_Ts := x_in1 991 (by decide +kernel) rfl
theorem mw_664 : (Cond.fieldLink "ProofDeskModel" 75 "ProofDeskModel" "stack" "[I") ∈ x_Ts := x_in1 992 (by decide +kernel) rfl
theorem mw_665 : (Cond.fieldLink "ProofDeskModel" 78 "ProofDeskModel" "ends" "[I") ∈ x_Ts := x_in1 993 (by decide +kernel) rfl
theorem mw_666 : (Cond.fieldLink "ProofDeskModel" 81 "ProofDeskModel" "chosen" "[I") ∈ x_Ts := x_in1 994 (by decide +kernel) rfl
theorem mw_667 : (Cond.fieldLink "ProofDeskModel" 84 "ProofDeskModel" "fault" "I") ∈ x_Ts := x_in1 959 (by decide +kernel) rfl
theorem mw_668 : (Cond.fieldLink "ProofDeskModel" 88 "ProofDeskModel" "why" "I") ∈ x_Ts := x_in1 960 (by decide +kernel) rfl
theorem mw_669 : (Cond.fieldLink "ProofDeskModel" 91 "ProofDeskModel" "drafted" "I") ∈ x_Ts := x_in1 972 (by decide +kernel) rfl
theorem mw_670 : (Cond.fieldLink "ProofDeskModel" 94 "ProofDeskModel" "at" "I") ∈ x_Ts := x_in1 973 (by decide +kernel) rfl
theorem mw_671 : (Cond.code ⟨"ProofDeskModel", "here", "()C"⟩ prog_11_method_5_code 1 (Option.some .char)) ∈ x_Ts := x_in3 (x_r5 144 rfl) rfl
theorem mw_672 : (Cond.methodLink "ProofDeskModel" 97 ⟨"ProofDeskModel", "here", "()C"⟩) ∈ x_Ts := x_in1 1101 (by decide +kernel) rfl
theorem mw_673 : (Cond.instanceMethod ⟨"ProofDeskModel", "here", "()C"⟩) ∈ x_Ts := x_in1 1103 (by decide +kernel) rfl
theorem mw_674 : (Cond.selects "ProofDeskModel" ⟨"ProofDeskModel", "here", "()C"⟩ ⟨"ProofDeskModel", "here", "()C"⟩) ∈ x_Ts := x_in2 35 (⟨"ProofDeskModel", "here", "()C"⟩, 39) (by decide +kernel) rfl rfl
theorem mw_675 : (Cond.initialized "ProofDeskModel") ∈ x_Ts := x_in1 8 (by decide +kernel) rfl
theorem mw_676 : (Cond.fieldLink "ProofDeskModel" 101 "ProofDeskModel" "rows" "I") ∈ x_Ts := x_in1 980 (by decide +kernel) rfl
theorem mw_677 : (Cond.fieldLink "ProofDeskModel" 104 "ProofDeskModel" "unlike" "Z") ∈ x_Ts := x_in1 975 (by decide +kernel) rfl
theorem mw_678 : (Cond.fieldLink "ProofDeskModel" 108 "ProofDeskModel" "bad" "Z") ∈ x_Ts := x_in1 974 (by decide +kernel) rfl
theorem mw_679 : (Cond.code ⟨"ProofDeskModel", "put", "(I)V"⟩ prog_11_method_8_code 2 (Option.none : Option Jvm.ClassFile.FieldType)) ∈ x_Ts := x_in3 (x_r5 152 rfl) rfl
theorem mw_680 : (Cond.methodLink "ProofDeskModel" 111 ⟨"ProofDeskModel", "put", "(I)V"⟩) ∈ x_Ts := x_in1 1109 (by decide +kernel) rfl
theorem mw_681 : (Cond.instanceMethod ⟨"ProofDeskModel", "put", "(I)V"⟩) ∈ x_Ts := x_in1 1111 (by decide +kernel) rfl
theorem mw_682 : (Cond.selects "ProofDeskModel" ⟨"ProofDeskModel", "put", "(I)V"⟩ ⟨"ProofDeskModel", "put", "(I)V"⟩) ∈ x_Ts := x_in2 37 (⟨"ProofDeskModel", "put", "(I)V"⟩, 39) (by decide +kernel) rfl rfl
theorem mw_683 : (Cond.code ⟨"ProofDeskModel", "isSmall", "(C)Z"⟩ prog_11_method_7_code 1 (Option.some .boolean)) ∈ x_Ts := x_in3 (x_r5 155 rfl) rfl
theorem mw_684 : (Cond.methodLink "ProofDeskModel" 115 ⟨"ProofDeskModel", "isSmall", "(C)Z"⟩) ∈ x_Ts := x_in1 1113 (by decide +kernel) rfl
theorem mw_685 : (Cond.static ⟨"ProofDeskModel", "isSmall", "(C)Z"⟩) ∈ x_Ts := x_in1 1114 (by decide +kernel) rfl
theorem mw_686 : (Cond.code ⟨"ProofDeskModel", "sees", "(C)Z"⟩ prog_11_method_6_code 3 (Option.some .boolean)) ∈ x_Ts := x_in3 (x_r5 140 rfl) rfl
theorem mw_687 : (Cond.methodLink "ProofDeskModel" 119 ⟨"ProofDeskModel", "sees", "(C)Z"⟩) ∈ x_Ts := x_in1 1097 (by decide +kernel) rfl
theorem mw_688 : (Cond.instanceMethod ⟨"ProofDeskModel", "sees", "(C)Z"⟩) ∈ x_Ts := x_in1 1099 (by decide +kernel) rfl
theorem mw_689 : (Cond.selects "ProofDeskModel" ⟨"ProofDeskModel", "sees", "(C)Z"⟩ ⟨"ProofDeskModel", "sees", "(C)Z"⟩) ∈ x_Ts := x_in2 34 (⟨"ProofDeskModel", "sees", "(C)Z"⟩, 39) (by decide +kernel) rfl rfl
theorem mw_690 : (Cond.code ⟨"ProofDeskModel", "terms", "(I)I"⟩ prog_11_method_11_code 1 (Option.some .int)) ∈ x_Ts := x_in3 (x_r5 162 rfl) rfl
theorem mw_691 : (Cond.methodLink "ProofDeskModel" 122 ⟨"ProofDeskModel", "terms", "(I)I"⟩) ∈ x_Ts := x_in1 1120 (by decide +kernel) rfl
theorem mw_692 : (Cond.static ⟨"ProofDeskModel", "terms", "(I)I"⟩) ∈ x_Ts := x_in1 1121 (by decide +kernel) rfl
theorem mw_693 : (Cond.code ⟨"ProofDeskModel", "uses", "(II)V"⟩ prog_11_method_9_code 3 (Option.none : Option Jvm.ClassFile.FieldType)) ∈ x_Ts := x_in3 (x_r5 166 rfl) rfl
theorem mw_694 : (Cond.methodLink "ProofDeskModel" 126 ⟨"ProofDeskModel", "uses", "(II)V"⟩) ∈ x_Ts := x_in1 1123 (by decide +kernel) rfl
theorem mw_695 : (Cond.instanceMethod ⟨"ProofDeskModel", "uses", "(II)V"⟩) ∈ x_Ts := x_in1 1125 (by decide +kernel) rfl
theorem mw_696 : (Cond.selects "ProofDeskModel" ⟨"ProofDeskModel", "uses", "(II)V"⟩ ⟨"ProofDeskModel", "uses", "(II)V"⟩) ∈ x_Ts := x_in2 39 (⟨"ProofDeskModel", "uses", "(II)V"⟩, 39) (by decide +kernel) rfl rfl
theorem mw_697 : (Cond.fieldLink "ProofDeskModel" 130 "ProofDeskModel" "literals" "I") ∈ x_Ts := x_in1 981 (by decide +kernel) rfl
theorem mw_698 : (Cond.code ⟨"ProofDeskModel", "term", "()V"⟩ prog_11_method_10_code 5 (Option.none : Option Jvm.ClassFile.FieldType)) ∈ x_Ts := x_in3 (x_r5 148 rfl) rfl
theorem mw_699 : (Cond.methodLink "ProofDeskModel" 133 ⟨"ProofDeskModel", "term", "()V"⟩) ∈ x_Ts := x_in1 1105 (by decide +kernel) rfl
theorem mw_700 : (Cond.instanceMethod ⟨"ProofDeskModel", "term", "()V"⟩) ∈ x_Ts := x_in1 1107 (by decide +kernel) rfl
theorem mw_701 : (Cond.selects "ProofDeskModel" ⟨"ProofDeskModel", "term", "()V"⟩ ⟨"ProofDeskModel", "term", "()V"⟩) ∈ x_Ts := x_in2 36 (⟨"ProofDeskModel", "term", "()V"⟩, 39) (by decide +kernel) rfl rfl
theorem mw_702 : (Cond.code ⟨"ProofDeskModel", "note", "(IIZ)V"⟩ prog_11_method_12_code 5 (Option.none : Option Jvm.ClassFile.FieldType)) ∈ x_Ts := x_in3 (x_r5 159 rfl) rfl
theorem mw_703 : (Cond.methodLink "ProofDeskModel" 136 ⟨"ProofDeskModel", "note", "(IIZ)V"⟩) ∈ x_Ts := x_in1 1116 (by decide +kernel) rfl
theorem mw_704 : (Cond.instanceMethod ⟨"ProofDeskModel", "note", "(IIZ)V"⟩) ∈ x_Ts := x_in1 1118 (by decide +kernel) rfl
theorem mw_705 : (Cond.selects "ProofDeskModel" ⟨"ProofDeskModel", "note", "(IIZ)V"⟩ ⟨"ProofDeskModel", "note", "(IIZ)V"⟩) ∈ x_Ts := x_in2 38 (⟨"ProofDeskModel", "note", "(IIZ)V"⟩, 39) (by decide +kernel) rfl rfl
theorem mw_706 : (Cond.code ⟨"ProofDeskModel", "isTwice", "(I)Z"⟩ prog_11_method_14_code 6 (Option.some .boolean)) ∈ x_Ts := x_in3 (x_r5 170 rfl) rfl
theorem mw_707 : (Cond.methodLink "ProofDeskModel" 140 ⟨"ProofDeskModel", "isTwice", "(I)Z"⟩) ∈ x_Ts := x_in1 1127 (by decide +kernel) rfl
theorem mw_708 : (Cond.instanceMethod ⟨"ProofDeskModel", "isTwice", "(I)Z"⟩) ∈ x_Ts := x_in1 1129 (by decide +kernel) rfl
theorem mw_709 : (Cond.selects "ProofDeskModel" ⟨"ProofDeskModel", "isTwice", "(I)Z"⟩ ⟨"ProofDeskModel", "isTwice", "(I)Z"⟩) ∈ x_Ts := x_in2 40 (⟨"ProofDeskModel", "isTwice", "(I)Z"⟩, 39) (by decide +kernel) rfl rfl
theorem mw_710 : (Cond.code ⟨"ProofDeskModel", "literal", "()V"⟩ prog_11_method_13_code 4 (Option.none : Option Jvm.ClassFile.FieldType)) ∈ x_Ts := x_in3 (x_r5 136 rfl) rfl
theorem mw_711 : (Cond.methodLink "ProofDeskModel" 144 ⟨"ProofDeskModel", "literal", "()V"⟩) ∈ x_Ts := x_in1 1093 (by decide +kernel) rfl
theorem mw_712 : (Cond.instanceMethod ⟨"ProofDeskModel", "literal", "()V"⟩) ∈ x_Ts := x_in1 1095 (by decide +kernel) rfl
theorem mw_713 : (Cond.selects "ProofDeskModel" ⟨"ProofDeskModel", "literal", "()V"⟩ ⟨"ProofDeskModel", "literal", "()V"⟩) ∈ x_Ts := x_in2 33 (⟨"ProofDeskModel", "literal", "()V"⟩, 39) (by decide +kernel) rfl rfl
theorem mw_714 : (Cond.fieldLink "ProofDeskModel" 147 "ProofDeskModel" "names" "I") ∈ x_Ts := x_in1 982 (by decide +kernel) rfl
theorem mw_715 : (Cond.fieldLink "ProofDeskModel" 150 "ProofDeskModel" "clauses" "I") ∈ x_Ts := x_in1 961 (by decide +kernel) rfl
theorem mw_716 : (Cond.code ⟨"ProofDeskModel", "read", "()I"⟩ prog_11_method_15_code 3 (Option.some .int)) ∈ x_Ts := x_in3 (x_r5 132 rfl) rfl
theorem mw_717 : (Cond.methodLink "ProofDeskModel" 153 ⟨"ProofDeskModel", "read", "()I"⟩) ∈ x_Ts := x_in1 1089 (by decide +kernel) rfl
theorem mw_718 : (Cond.instanceMethod ⟨"ProofDeskModel", "read", "()I"⟩) ∈ x_Ts := x_in1 1091 (by decide +kernel) rfl
theorem mw_719 : (Cond.selects "ProofDeskModel" ⟨"ProofDeskModel", "read", "()I"⟩ ⟨"ProofDeskModel", "read", "()I"⟩) ∈ x_Ts := x_in2 32 (⟨"ProofDeskModel", "read", "()I"⟩, 39) (by decide +kernel) rfl rfl
theorem mw_720 : (Cond.code ⟨"ProofDeskModel", "fails", "(II)I"⟩ prog_11_method_3_code 3 (Option.some .int)) ∈ x_Ts := x_in3 (x_r5 174 rfl) rfl
theorem mw_721 : (Cond.methodLink "ProofDeskModel" 157 ⟨"ProofDeskModel", "fails", "(II)I"⟩) ∈ x_Ts := x_in1 1131 (by decide +kernel) rfl
theorem mw_722 : (Cond.instanceMethod ⟨"ProofDeskModel", "fails", "(II)I"⟩) ∈ x_Ts := x_in1 1133 (by decide +kernel) rfl
theorem mw_723 : (Cond.selects "ProofDeskModel" ⟨"ProofDeskModel", "fails", "(II)I"⟩ ⟨"ProofDeskModel", "fails", "(II)I"⟩) ∈ x_Ts := x_in2 41 (⟨"ProofDeskModel", "fails", "(II)I"⟩, 39) (by decide +kernel) rfl rfl
theorem mw_724 : (Cond.code ⟨"ProofDeskModel", "rename", "()V"⟩ prog_11_method_16_code 3 (Option.none : Option Jvm.ClassFile.FieldType)) ∈ x_Ts := x_in3 (x_r5 178 rfl) rfl
theorem mw_725 : (Cond.methodLink "ProofDeskModel" 161 ⟨"ProofDeskModel", "rename", "()V"⟩) ∈ x_Ts := x_in1 1135 (by decide +kernel) rfl
theorem mw_726 : (Cond.instanceMethod ⟨"ProofDeskModel", "rename", "()V"⟩) ∈ x_Ts := x_in1 1137 (by decide +kernel) rfl
theorem mw_727 : (Cond.selects "ProofDeskModel" ⟨"ProofDeskModel", "rename", "()V"⟩ ⟨"ProofDeskModel", "rename", "()V"⟩) ∈ x_Ts := x_in2 42 (⟨"ProofDeskModel", "rename", "()V"⟩, 39) (by decide +kernel) rfl rfl
theorem mw_728 : (Cond.code ⟨"ProofDeskModel", "add", "(ZII)I"⟩ prog_11_method_17_code 6 (Option.some .int)) ∈ x_Ts := x_in3 (x_r5 182 rfl) rfl
theorem mw_729 : (Cond.methodLink "ProofDeskModel" 164 ⟨"ProofDeskModel", "add", "(ZII)I"⟩) ∈ x_Ts := x_in1 1139 (by decide +kernel) rfl
theorem mw_730 : (Cond.instanceMethod ⟨"ProofDeskModel", "add", "(ZII)I"⟩) ∈ x_Ts := x_in1 1141 (by decide +kernel) rfl
theorem mw_731 : (Cond.selects "ProofDeskModel" ⟨"ProofDeskModel", "add", "(ZII)I"⟩ ⟨"ProofDeskModel", "add", "(ZII)I"⟩) ∈ x_Ts := x_in2 43 (⟨"ProofDeskModel", "add", "(ZII)I"⟩, 39) (by decide +kernel) rfl rfl
theorem mw_732 : (Cond.code ⟨"ProofDeskModel", "behind", "(I)I"⟩ prog_11_method_19_code 4 (Option.some .int)) ∈ x_Ts := x_in3 (x_r5 222 rfl) rfl
theorem mw_733 : (Cond.methodLink "ProofDeskModel" 168 ⟨"ProofDeskModel", "behind", "(I)I"⟩) ∈ x_Ts := x_in1 1179 (by decide +kernel) rfl
theorem mw_734 : (Cond.instanceMethod ⟨"ProofDeskModel", "behind", "(I)I"⟩) ∈ x_Ts := x_in1 1181 (by decide +kernel) rfl
theorem mw_735 : (Cond.selects "ProofDeskModel" ⟨"ProofDeskModel", "behind", "(I)I"⟩ ⟨"ProofDeskModel", "behind", "(I)I"⟩) ∈ x_Ts := x_in2 52 (⟨"ProofDeskModel", "behind", "(I)I"⟩, 39) (by decide +kernel) rfl rfl
theorem mw_736 : (Cond.code ⟨"ProofDeskModel", "led", "(I)I"⟩ prog_11_method_21_code 3 (Option.some .int)) ∈ x_Ts := x_in3 (x_r6 2 rfl) rfl
theorem mw_737 : (Cond.methodLink "ProofDeskModel" 171 ⟨"ProofDeskModel", "led", "(I)I"⟩) ∈ x_Ts := x_in1 1199 (by decide +kernel) rfl
theorem mw_738 : (Cond.instanceMethod ⟨"ProofDeskModel", "led", "(I)I"⟩) ∈ x_Ts := x_in1 1201 (by decide +kernel) rfl
theorem mw_739 : (Cond.selects "ProofDeskModel" ⟨"ProofDeskModel", "led", "(I)I"⟩ ⟨"ProofDeskModel", "led", "(I)I"⟩) ∈ x_Ts := x_in2 57 (⟨"ProofDeskModel", "led", "(I)I"⟩, 39) (by decide +kernel) rfl rfl
theorem mw_740 : (Cond.code ⟨"ProofDeskModel", "occurs", "(II)Z"⟩ prog_11_method_22_code 6 (Option.some .boolean)) ∈ x_Ts := x_in3 (x_r6 6 rfl) rfl
theorem mw_741 : (Cond.methodLink "ProofDeskModel" 174 ⟨"ProofDeskModel", "occurs", "(II)Z"⟩) ∈ x_Ts := x_in1 1203 (by decide +kernel) rfl
theorem mw_742 : (Cond.instanceMethod ⟨"ProofDeskModel", "occurs", "(II)Z"⟩) ∈ x_Ts := x_in1 1205 (by decide +kernel) rfl
theorem mw_743 : (Cond.selects "ProofDeskModel" ⟨"ProofDeskModel", "occurs", "(II)Z"⟩ ⟨"ProofDeskModel", "occurs", "(II)Z"⟩) ∈ x_Ts := x_in2 58 (⟨"ProofDeskModel", "occurs", "(II)Z"⟩, 39) (by decide +kernel) rfl rfl
theorem mw_744 : (Cond.fieldLink "ProofDeskModel" 178 "ProofDeskModel" "great" "Z") ∈ x_Ts := x_in1 983 (by decide +kernel) rfl
theorem mw_745 : (Cond.code ⟨"ProofDeskModel", "beginLiteral", "(Z)V"⟩ prog_11_method_25_code 2 (Option.none : Option Jvm.ClassFile.FieldType)) ∈ x_Ts := x_in3 (x_r6 14 rfl) rfl
theorem mw_746 : (Cond.methodLink "ProofDeskModel" 181 ⟨"ProofDeskModel", "beginLiteral", "(Z)V"⟩) ∈ x_Ts := x_in1 1211 (by decide +kernel) rfl
theorem mw_747 : (Cond.instanceMethod ⟨"ProofDeskModel", "beginLiteral", "(Z)V"⟩) ∈ x_Ts := x_in1 1213 (by decide +kernel) rfl
theorem mw_748 : (Cond.selects "ProofDeskModel" ⟨"ProofDeskModel", "beginLiteral", "(Z)V"⟩ ⟨"ProofDeskModel", "beginLiteral", "(Z)V"⟩) ∈ x_Ts := x_in2 60 (⟨"ProofDeskModel", "beginLiteral", "(Z)V"⟩, 39) (by decide +kernel) rfl rfl
theorem mw_749 : (Cond.code ⟨"ProofDeskModel", "spread", "(II)V"⟩ prog_11_method_24_code 6 (Option.none : Option Jvm.ClassFile.FieldType)) ∈ x_Ts := x_in3 (x_r6 18 rfl) rfl
theorem mw_750 : (Cond.methodLink "ProofDeskModel" 185 ⟨"ProofDeskModel", "spread", "(II)V"⟩) ∈ x_Ts := x_in1 1215 (by decide +kernel) rfl
theorem mw_751 : (Cond.instanceMethod ⟨"ProofDeskModel", "spread", "(II)V"⟩) ∈ x_Ts := x_in1 1217 (by decide +kernel) rfl
theorem mw_752 : (Cond.selects "ProofDeskModel" ⟨"ProofDeskModel", "spread", "(II)V"⟩ ⟨"ProofDeskModel", "spread", "(II)V"⟩) ∈ x_Ts := x_in2 61 (⟨"ProofDeskModel", "spread", "(II)V"⟩, 39) (by decide +kernel) rfl rfl
theorem mw_753 : (Cond.code ⟨"ProofDeskModel", "endLiteral", "()V"⟩ prog_11_method_26_code 1 (Option.none : Option Jvm.ClassFile.FieldType)) ∈ x_Ts := x_in3 (x_r6 22 rfl) rfl
theorem mw_754 : (Cond.methodLink "ProofDeskModel" 188 ⟨"ProofDeskModel", "endLiteral", "()V"⟩) ∈ x_Ts := x_in1 1219 (by decide +kernel) rfl
theorem mw_755 : (Cond.instanceMethod ⟨"ProofDeskModel", "endLiteral", "()V"⟩) ∈ x_Ts := x_in1 1221 (by decide +kernel) rfl
theorem mw_756 : (Cond.selects "ProofDeskModel" ⟨"ProofDeskModel", "endLiteral", "()V"⟩ ⟨"ProofDeskModel", "endLiteral", "()V"⟩) ∈ x_Ts := x_in2 62 (⟨"ProofDeskModel", "endLiteral", "()V"⟩, 39) (by decide +kernel) rfl rfl
theorem mw_757 : (Cond.code ⟨"ProofDeskModel", "isLiteral", "(II)Z"⟩ prog_11_method_29_code 3 (Option.some .boolean)) ∈ x_Ts := x_in3 (x_r5 194 rfl) rfl
theorem mw_758 : (Cond.methodLink "ProofDeskModel" 191 ⟨"ProofDeskModel", "isLiteral", "(II)Z"⟩) ∈ x_Ts := x_in1 1151 (by decide +kernel) rfl
theorem mw_759 : (Cond.instanceMethod ⟨"ProofDeskModel", "isLiteral", "(II)Z"⟩) ∈ x_Ts := x_in1 1153 (by decide +kernel) rfl
theorem mw_760 : (Cond.selects "ProofDeskModel" ⟨"ProofDeskModel", "isLiteral", "(II)Z"⟩ ⟨"ProofDeskModel", "isLiteral", "(II)Z"⟩) ∈ x_Ts := x_in2 45 (⟨"ProofDeskModel", "isLiteral", "(II)Z"⟩, 39) (by decide +kernel) rfl rfl
theorem mw_761 : (Cond.code ⟨"ProofDeskModel", "lay", "(III)V"⟩ prog_11_method_20_code 7 (Option.none : Option Jvm.ClassFile.FieldType)) ∈ x_Ts := x_in3 (x_r5 198 rfl) rfl
theorem mw_762 : (Cond.methodLink "ProofDeskModel" 194 ⟨"ProofDeskModel", "lay", "(III)V"⟩) ∈ x_Ts := x_in1 1155 (by decide +kernel) rfl
theorem mw_763 : (Cond.instanceMethod ⟨"ProofDeskModel", "lay", "(III)V"⟩) ∈ x_Ts := x_in1 1157 (by decide +kernel) rfl
theorem mw_764 : (Cond.selects "ProofDeskModel" ⟨"ProofDeskModel", "lay", "(III)V"⟩ ⟨"ProofDeskModel", "lay", "(III)V"⟩) ∈ x_Ts := x_in2 46 (⟨"ProofDeskModel", "lay", "(III)V"⟩, 39) (by decide +kernel) rfl rfl
theorem mw_765 : (Cond.code ⟨"ProofDeskModel", "termAt", "(III)I"⟩ prog_11_method_28_code 6 (Option.some .int)) ∈ x_Ts := x_in3 (x_r5 202 rfl) rfl
theorem mw_766 : (Cond.methodLink "ProofDeskModel" 198 ⟨"ProofDeskModel", "termAt", "(III)I"⟩) ∈ x_Ts := x_in1 1159 (by decide +kernel) rfl
theorem mw_767 : (Cond.instanceMethod ⟨"ProofDeskModel", "termAt", "(III)I"⟩) ∈ x_Ts := x_in1 1161 (by decide +kernel) rfl
theorem mw_768 : (Cond.selects "ProofDeskModel" ⟨"ProofDeskModel", "termAt", "(III)I"⟩ ⟨"ProofDeskModel", "termAt", "(III)I"⟩) ∈ x_Ts := x_in2 47 (⟨"ProofDeskModel", "termAt", "(III)I"⟩, 39) (by decide +kernel) rfl rfl
theorem mw_769 : (Cond.code ⟨"ProofDeskModel", "isThere", "(IIIIII)Z"⟩ prog_11_method_30_code 7 (Option.some .boolean)) ∈ x_Ts := x_in3 (x_r5 190 rfl) rfl
theorem mw_770 : (Cond.methodLink "ProofDeskModel" 202 ⟨"ProofDeskModel", "isThere", "(IIIIII)Z"⟩) ∈ x_Ts := x_in1 1147 (by decide +kernel) rfl
theorem mw_771 : (Cond.instanceMethod ⟨"ProofDeskModel", "isThere", "(IIIIII)Z"⟩) ∈ x_Ts := x_in1 1149 (by decide +kernel) rfl
theorem mw_772 : (Cond.selects "ProofDeskModel" ⟨"ProofDeskModel", "isThere", "(IIIIII)Z"⟩ ⟨"ProofDeskModel", "isThere", "(IIIIII)Z"⟩) ∈ x_Ts := x_in2 44 (⟨"ProofDeskModel", "isThere", "(IIIIII)Z"⟩, 39) (by decide +kernel) rfl rfl
theorem mw_773 : (Cond.code ⟨"ProofDeskModel", "keepClaim", "()V"⟩ prog_11_method_32_code 2 (Option.none : Option Jvm.ClassFile.FieldType)) ∈ x_Ts := x_in3 (x_r5 206 rfl) rfl
theorem mw_774 : (Cond.methodLink "ProofDeskModel" 206 ⟨"ProofDeskModel", "keepClaim", "()V"⟩) ∈ x_Ts := x_in1 1163 (by decide +kernel) rfl
theorem mw_775 : (Cond.instanceMethod ⟨"ProofDeskModel", "keepClaim", "()V"⟩) ∈ x_Ts := x_in1 1165 (by decide +kernel) rfl
theorem mw_776 : (Cond.selects "ProofDeskModel" ⟨"ProofDeskModel", "keepClaim", "()V"⟩ ⟨"ProofDeskModel", "keepClaim", "()V"⟩) ∈ x_Ts := x_in2 48 (⟨"ProofDeskModel", "keepClaim", "()V"⟩, 39) (by decide +kernel) rfl rfl
theorem mw_777 : (Cond.code ⟨"ProofDeskModel", "special", "(I)Z"⟩ prog_11_method_40_code 6 (Option.some .boolean)) ∈ x_Ts := x_in3 (x_r5 210 rfl) rfl
theorem mw_778 : (Cond.methodLink "ProofDeskModel" 209 ⟨"ProofDeskModel", "special", "(I)Z"⟩) ∈ x_Ts := x_in1 1167 (by decide +kernel) rfl
theorem mw_779 : (Cond.instanceMethod ⟨"ProofDeskModel", "special", "(I)Z"⟩) ∈ x_Ts := x_in1 1169 (by decide +kernel) rfl
theorem mw_780 : (Cond.selects "ProofDeskModel" ⟨"ProofDeskModel", "special", "(I)Z"⟩ ⟨"ProofDeskModel", "special", "(I)Z"⟩) ∈ x_Ts := x_in2 49 (⟨"ProofDeskModel", "special", "(I)Z"⟩, 39) (by decide +kernel) rfl rfl
theorem mw_781 : (Cond.code ⟨"ProofDeskModel", "made", "(IIIIII)I"⟩ prog_11_method_35_code 20 (Option.some .int)) ∈ x_Ts := x_in3 (x_r5 230 rfl) rfl
theorem mw_782 : (Cond.methodLink "ProofDeskModel" 212 ⟨"ProofDeskModel", "made", "(IIIIII)I"⟩) ∈ x_Ts := x_in1 1187 (by decide +kernel) rfl
theorem mw_783 : (Cond.instanceMethod ⟨"ProofDeskModel", "made", "(IIIIII)I"⟩) ∈ x_Ts := x_in1 1189 (by decide +kernel) rfl
theorem mw_784 : (Cond.selects "ProofDeskModel" ⟨"ProofDeskModel", "made", "(IIIIII)I"⟩ ⟨"ProofDeskModel", "made", "(IIIIII)I"⟩) ∈ x_Ts := x_in2 54 (⟨"ProofDeskModel", "made", "(IIIIII)I"⟩, 39) (by decide +kernel) rfl rfl
theorem mw_785 : (Cond.code ⟨"ProofDeskModel", "isClaim", "()Z"⟩ prog_11_method_34_code 3 (Option.some .boolean)) ∈ x_Ts := x_in3 (x_r6 30 rfl) rfl
theorem mw_786 : (Cond.methodLink "ProofDeskModel" 216 ⟨"ProofDeskModel", "isClaim", "()Z"⟩) ∈ x_Ts := x_in1 1227 (by decide +kernel) rfl
theorem mw_787 : (Cond.instanceMethod ⟨"ProofDeskModel", "isClaim", "()Z"⟩) ∈ x_Ts := x_in1 1229 (by decide +kernel) rfl
theorem mw_788 : (Cond.selects "ProofDeskModel" ⟨"ProofDeskModel", "isClaim", "()Z"⟩ ⟨"ProofDeskModel", "isClaim", "()Z"⟩) ∈ x_Ts := x_in2 64 (⟨"ProofDeskModel", "isClaim", "()Z"⟩, 39) (by decide +kernel) rfl rfl
theorem mw_789 : (Cond.code ⟨"ProofDeskModel", "takeClaim", "()V"⟩ prog_11_method_33_code 2 (Option.none : Option Jvm.ClassFile.FieldType)) ∈ x_Ts := x_in3 (x_r6 34 rfl) rfl
theorem mw_790 : (Cond.methodLink "ProofDeskModel" 220 ⟨"ProofDeskModel", "takeClaim", "()V"⟩) ∈ x_Ts := x_in1 1231 (by decide +kernel) rfl
theorem mw_791 : (Cond.instanceMethod ⟨"ProofDeskModel", "takeClaim", "()V"⟩) ∈ x_Ts := x_in1 1233 (by decide +kernel) rfl
theorem mw_792 : (Cond.selects "ProofDeskModel" ⟨"ProofDeskModel", "takeClaim", "()V"⟩ ⟨"ProofDeskModel", "takeClaim", "()V"⟩) ∈ x_Ts := x_in2 65 (⟨"ProofDeskModel", "takeClaim", "()V"⟩, 39) (by decide +kernel) rfl rfl
theorem mw_793 : (Cond.fieldLink "ProofDeskModel" 223 "ProofDeskModel" "claims" "I") ∈ x_Ts := x_in1 987 (by decide +kernel) rfl
theorem mw_794 : (Cond.code ⟨"ProofDeskModel", "length", "(II)I"⟩ prog_11_method_36_code 3 (Option.some .int)) ∈ x_Ts := x_in3 (x_r5 234 rfl) rfl
theorem mw_795 : (Cond.methodLink "ProofDeskModel" 226 ⟨"ProofDeskModel", "length", "(II)I"⟩) ∈ x_Ts := x_in1 1191 (by decide +kernel) rfl
theorem mw_796 : (Cond.instanceMethod ⟨"ProofDeskModel", "length", "(II)I"⟩) ∈ x_Ts := x_in1 1193 (by decide +kernel) rfl
theorem mw_797 : (Cond.selects "ProofDeskModel" ⟨"ProofDeskModel", "length", "(II)I"⟩ ⟨"ProofDeskModel", "length", "(II)I"⟩) ∈ x_Ts := x_in2 55 (⟨"ProofDeskModel", "length", "(II)I"⟩, 39) (by decide +kernel) rfl rfl
theorem mw_798 : (Cond.code ⟨"ProofDeskModel", "unify", "(II)Z"⟩ prog_11_method_23_code 11 (Option.some .boolean)) ∈ x_Ts := x_in3 (x_r5 238 rfl) rfl
theorem mw_799 : (Cond.methodLink "ProofDeskModel" 229 ⟨"ProofDeskModel", "unify", "(II)Z"⟩) ∈ x_Ts := x_in1 1195 (by decide +kernel) rfl
theorem mw_800 : (Cond.instanceMethod ⟨"ProofDeskModel", "unify", "(II)Z"⟩) ∈ x_Ts := x_in1 1197 (by decide +kernel) rfl
theorem mw_801 : (Cond.selects "ProofDeskModel" ⟨"ProofDeskModel", "unify", "(II)Z"⟩ ⟨"ProofDeskModel", "unify", "(II)Z"⟩) ∈ x_Ts := x_in2 56 (⟨"ProofDeskModel", "unify", "(II)Z"⟩, 39) (by decide +kernel) rfl rfl
theorem mw_802 : (Cond.code ⟨"ProofDeskModel", "others", "(III)V"⟩ prog_11_method_27_code 5 (Option.none : Option Jvm.ClassFile.FieldType)) ∈ x_Ts := x_in3 (x_r6 10 rfl) rfl
theorem mw_803 : (Cond.methodLink "ProofDeskModel" 232 ⟨"ProofDeskModel", "others", "(III)V"⟩) ∈ x_Ts := x_in1 1207 (by decide +kernel) rfl
theorem mw_804 : (Cond.instanceMethod ⟨"ProofDeskModel", "others", "(III)V"⟩) ∈ x_Ts := x_in1 1209 (by decide +kernel) rfl
theorem mw_805 : (Cond.selects "ProofDeskModel" ⟨"ProofDeskModel", "others", "(III)V"⟩ ⟨"ProofDeskModel", "others", "(III)V"⟩) ∈ x_Ts := x_in2 59 (⟨"ProofDeskModel", "others", "(III)V"⟩, 39) (by decide +kernel) rfl rfl
theorem mw_806 : (Cond.code ⟨"ProofDeskModel", "rewritten", "(IIII)V"⟩ prog_11_method_37_code 8 (Option.none : Option Jvm.ClassFile.FieldType)) ∈ x_Ts := x_in3 (x_r6 26 rfl) rfl
theorem mw_807 : (Cond.methodLink "ProofDeskModel" 235 ⟨"ProofDeskModel", "rewritten", "(IIII)V"⟩) ∈ x_Ts := x_in1 1223 (by decide +kernel) rfl
theorem mw_808 : (Cond.instanceMethod ⟨"ProofDeskModel", "rewritten", "(IIII)V"⟩) ∈ x_Ts := x_in1 1225 (by decide +kernel) rfl
theorem mw_809 : (Cond.selects "ProofDeskModel" ⟨"ProofDeskModel", "rewritten", "(IIII)V"⟩ ⟨"ProofDeskModel", "rewritten", "(IIII)V"⟩) ∈ x_Ts := x_in2 63 (⟨"ProofDeskModel", "rewritten", "(IIII)V"⟩, 39) (by decide +kernel) rfl rfl
theorem mw_810 : (Cond.code ⟨"ProofDeskModel", "isSame", "(II)Z"⟩ prog_11_method_39_code 6 (Option.some .boolean)) ∈ x_Ts := x_in3 (x_r5 226 rfl) rfl
theorem mw_811 : (Cond.methodLink "ProofDeskModel" 239 ⟨"ProofDeskModel", "isSame", "(II)Z"⟩) ∈ x_Ts := x_in1 1183 (by decide +kernel) rfl
theorem mw_812 : (Cond.instanceMethod ⟨"ProofDeskModel", "isSame", "(II)Z"⟩) ∈ x_Ts := x_in1 1185 (by decide +kernel) rfl
theorem mw_813 : (Cond.selects "ProofDeskModel" ⟨"ProofDeskModel", "isSame", "(II)Z"⟩ ⟨"ProofDeskModel", "isSame", "(II)Z"⟩) ∈ x_Ts := x_in2 53 (⟨"ProofDeskModel", "isSame", "(II)Z"⟩, 39) (by decide +kernel) rfl rfl
theorem mw_814 : (Cond.code ⟨"ProofDeskModel", "fitted", "(II)I"⟩ prog_11_method_41_code 5 (Option.some .int)) ∈ x_Ts := x_in3 (x_r5 214 rfl) rfl
theorem mw_815 : (Cond.methodLink "ProofDeskModel" 242 ⟨"ProofDeskModel", "fitted", "(II)I"⟩) ∈ x_Ts := x_in1 1171 (by decide +kernel) rfl
theorem mw_816 : (Cond.instanceMethod ⟨"ProofDeskModel", "fitted", "(II)I"⟩) ∈ x_Ts := x_in1 1173 (by decide +kernel) rfl
theorem mw_817 : (Cond.selects "ProofDeskModel" ⟨"ProofDeskModel", "fitted", "(II)I"⟩ ⟨"ProofDeskModel", "fitted", "(II)I"⟩) ∈ x_Ts := x_in2 50 (⟨"ProofDeskModel", "fitted", "(II)I"⟩, 39) (by decide +kernel) rfl rfl
theorem mw_818 : (Cond.code ⟨"ProofDeskModel", "matches", "(II)Z"⟩ prog_11_method_38_code 8 (Option.some .boolean)) ∈ x_Ts := x_in3 (x_r5 218 rfl) rfl
theorem mw_819 : (Cond.methodLink "ProofDeskModel" 245 ⟨"ProofDeskModel", "matches", "(II)Z"⟩) ∈ x_Ts := x_in1 1175 (by decide +kernel) rfl
theorem mw_820 : (Cond.instanceMethod ⟨"ProofDeskModel", "matches", "(II)Z"⟩) ∈ x_Ts := x_in1 1177 (by decide +kernel) rfl
theorem mw_821 : (Cond.selects "ProofDeskModel" ⟨"ProofDeskModel", "matches", "(II)Z"⟩ ⟨"ProofDeskModel", "matches", "(II)Z"⟩) ∈ x_Ts := x_in2 51 (⟨"ProofDeskModel", "matches", "(II)Z"⟩, 39) (by decide +kernel) rfl rfl
theorem mw_822 : (Cond.code ⟨"ProofDeskModel", "isClause", "(I)Z"⟩ prog_11_method_44_code 2 (Option.some .boolean)) ∈ x_Ts := x_in3 (x_r6 50 rfl) rfl
theorem mw_823 : (Cond.methodLink "ProofDeskModel" 248 ⟨"ProofDeskModel", "isClause", "(I)Z"⟩) ∈ x_Ts := x_in1 1247 (by decide +kernel) rfl
theorem mw_824 : (Cond.instanceMethod ⟨"ProofDeskModel", "isClause", "(I)Z"⟩) ∈ x_Ts := x_in1 1249 (by decide +kernel) rfl
theorem mw_825 : (Cond.selects "ProofDeskModel" ⟨"ProofDeskModel", "isClause", "(I)Z"⟩ ⟨"ProofDeskModel", "isClause", "(I)Z"⟩) ∈ x_Ts := x_in2 66 (⟨"ProofDeskModel", "isClause", "(I)Z"⟩, 39) (by decide +kernel) rfl rfl
theorem mw_826 : (Cond.fieldLink "ProofDeskModel" 251 "ProofDeskModel" "shown" "I") ∈ x_Ts := x_in1 995 (by decide +kernel) rfl
theorem mw_827 : (Cond.fieldLink "ProofDeskModel" 254 "ProofDeskModel" "wanted" "I") ∈ x_Ts := x_in1 996 (by decide +kernel) rfl
theorem mw_828 : (Cond.fieldLink "ProofDeskModel" 257 "ProofDeskModel" "got" "I") ∈ x_Ts := x_in1 997 (by decide +kernel) rfl
theorem mw_829 : (Cond.code ⟨"ProofDeskModel", "tell", "(I)V"⟩ prog_11_method_47_code 2 (Option.none : Option Jvm.ClassFile.FieldType)) ∈ x_Ts := x_in3 (x_r6 62 rfl) rfl
theorem mw_830 : (Cond.methodLink "ProofDeskModel" 260 ⟨"ProofDeskModel", "tell", "(I)V"⟩) ∈ x_Ts := x_in1 1259 (by decide +kernel) rfl
theorem mw_831 : (Cond.instanceMethod ⟨"ProofDeskModel", "tell", "(I)V"⟩) ∈ x_Ts := x_in1 1261 (by decide +kernel) rfl
theorem mw_832 : (Cond.selects "ProofDeskModel" ⟨"ProofDeskModel", "tell", "(I)V"⟩ ⟨"ProofDeskModel", "tell", "(I)V"⟩) ∈ x_Ts := x_in2 67 (⟨"ProofDeskModel", "tell", "(I)V"⟩, 39) (by decide +kernel) rfl rfl
theorem mw_833 : (Cond.code ⟨"ProofDeskModel", "endOf", "(I)I"⟩ prog_11_method_49_code 4 (Option.some .int)) ∈ x_Ts := x_in3 (x_r6 66 rfl) rfl
theorem mw_834 : (Cond.methodLink "ProofDeskModel" 263 ⟨"ProofDeskModel", "endOf", "(I)I"⟩) ∈ x_Ts := x_in1 1263 (by decide +kernel) rfl
theorem mw_835 : (Cond.instanceMethod ⟨"ProofDeskModel", "endOf", "(I)I"⟩) ∈ x_Ts := x_in1 1265 (by decide +kernel) rfl
theorem mw_836 : (Cond.selects "ProofDeskModel" ⟨"ProofDeskModel", "endOf", "(I)I"⟩ ⟨"ProofDeskModel", "endOf", "(I)I"⟩) ∈ x_Ts := x_in2 68 (⟨"ProofDeskModel", "endOf", "(I)I"⟩, 39) (by decide +kernel) rfl rfl
theorem mw_837 : (Cond.code ⟨"ProofDeskModel", "tellTerm", "(II)V"⟩ prog_11_method_48_code 7 (Option.none : Option Jvm.ClassFile.FieldType)) ∈ x_Ts := x_in3 (x_r6 70 rfl) rfl
theorem mw_838 : (Cond.methodLink "ProofDeskModel" 266 ⟨"ProofDeskModel", "tellTerm", "(II)V"⟩) ∈ x_Ts := x_in1 1267 (by decide +kernel) rfl
theorem mw_839 : (Cond.instanceMethod ⟨"ProofDeskModel", "tellTerm", "(II)V"⟩) ∈ x_Ts := x_in1 1269 (by decide +kernel) rfl
theorem mw_840 : (Cond.selects "ProofDeskModel" ⟨"ProofDeskModel", "tellTerm", "(II)V"⟩ ⟨"ProofDeskModel", "tellTerm", "(II)V"⟩) ∈ x_Ts := x_in2 69 (⟨"ProofDeskModel", "tellTerm", "(II)V"⟩, 39) (by decide +kernel) rfl rfl
theorem mw_841 : (Cond.methodLink "java/util/Arrays" 316 ⟨"[I", "clone", "()Ljava/lang/Object;"⟩) ∈ x_Ts := x_in1 551 (by decide +kernel) rfl
theorem mw_842 : (Cond.sameMethod "[I" "java/lang/Object" "clone" "()Ljava/lang/Object;") ∈ x_Ts := x_in1 552 (by decide +kernel) rfl
theorem mw_843 : (Cond.native ⟨"java/lang/Object", "clone", "()Ljava/lang/Object;"⟩) ∈ x_Ts := x_in1 553 (by decide +kernel) rfl
theorem mw_844 : (Cond.instanceMethod ⟨"java/lang/Object", "clone", "()Ljava/lang/Object;"⟩) ∈ x_Ts := x_in1 554 (by decide +kernel) rfl
theorem mw_845 : (Cond.selects "[I" ⟨"[I", "clone", "()Ljava/lang/Object;"⟩ ⟨"java/lang/Object", "clone", "()Ljava/lang/Object;"⟩) ∈ x_Ts := x_in1 555 (by decide +kernel) rfl
theorem mw_846 : (Cond.classLink "java/util/Arrays" 317 "[I") ∈ x_Ts := x_in1 557 (by decide +kernel) rfl
theorem mw_847 : (Cond.methodLink "java/util/Arrays" 304 ⟨"java/lang/Math", "min", "(II)I"⟩) ∈ x_Ts := x_in1 558 (by decide +kernel) rfl
theorem mw_848 : (Cond.methodLink "java/util/Arrays" 150 ⟨"java/lang/System", "arraycopy", "(Ljava/lang/Object;ILjava/lang/Object;II)V"⟩) ∈ x_Ts := x_in1 561 (by decide +kernel) rfl
theorem mw_849 : (Cond.fieldLink "java/lang/String" 9 "java/lang/String" "value" "[B") ∈ x_Ts := x_in1 723 (by decide +kernel) rfl
theorem mw_850 : (Cond.code ⟨"java/lang/String", "coder", "()B"⟩ prog_19_method_152_code 1 (Option.some .byte)) ∈ x_Ts := x_in3 (x_r2 29 rfl) rfl
theorem mw_851 : (Cond.methodLink "java/lang/String" 335 ⟨"java/lang/String", "coder", "()B"⟩) ∈ x_Ts := x_in1 266 (by decide +kernel) rfl
theorem mw_852 : (Cond.instanceMethod ⟨"java/lang/String", "coder", "()B"⟩) ∈ x_Ts := x_in1 267 (by decide +kernel) rfl
theorem mw_853 : (Cond.selects "java/lang/String" ⟨"java/lang/String", "coder", "()B"⟩ ⟨"java/lang/String", "coder", "()B"⟩) ∈ x_Ts := x_in1 268 (by decide +kernel) rfl
theorem mw_854 : (Cond.fieldLink "java/lang/String" 38 "java/lang/String" "COMPACT_STRINGS" "Z") ∈ x_Ts := x_in1 270 (by decide +kernel) rfl
theorem mw_855 : (Cond.fieldLink "java/lang/String" 15 "java/lang/String" "coder" "B") ∈ x_Ts := x_in1 724 (by decide +kernel) rfl
theorem mw_856 : (Cond.code ⟨"java/lang/String", "isLatin1", "()Z"⟩ prog_19_method_154_code 1 (Option.some .boolean)) ∈ x_Ts := x_in3 (x_r2 39 rfl) rfl
theorem mw_857 : (Cond.methodLink "java/lang/String" 492 ⟨"java/lang/String", "isLatin1", "()Z"⟩) ∈ x_Ts := x_in1 276 (by decide +kernel) rfl
theorem mw_858 : (Cond.instanceMethod ⟨"java/lang/String", "isLatin1", "()Z"⟩) ∈ x_Ts := x_in1 277 (by decide +kernel) rfl
theorem mw_859 : (Cond.selects "java/lang/String" ⟨"java/lang/String", "isLatin1", "()Z"⟩ ⟨"java/lang/String", "isLatin1", "()Z"⟩) ∈ x_Ts := x_in1 278 (by decide +kernel) rfl
theorem mw_860 : (Cond.code ⟨"java/lang/StringLatin1", "charAt", "([BI)C"⟩ prog_21_method_2_code 2 (Option.some .char)) ∈ x_Ts := x_in3 (x_r2 42 rfl) rfl
theorem mw_861 : (Cond.methodLink "java/lang/String" 495 ⟨"java/lang/StringLatin1", "charAt", "([BI)C"⟩) ∈ x_Ts := x_in1 280 (by decide +kernel) rfl
theorem mw_862 : (Cond.static ⟨"java/lang/StringLatin1", "charAt", "([BI)C"⟩) ∈ x_Ts := x_in1 281 (by decide +kernel) rfl
theorem mw_863 : (Cond.initialized "java/lang/StringLatin1") ∈ x_Ts := x_in1 24 (by decide +kernel) rfl
theorem mw_864 : (Cond.code ⟨"java/lang/String", "checkIndex", "(II)V"⟩ prog_19_method_155_code 2 (Option.none : Option Jvm.ClassFile.FieldType)) ∈ x_Ts := x_in3 (x_r2 45 rfl) rfl
theorem mw_865 : (Cond.methodLink "java/lang/StringLatin1" 9 ⟨"java/lang/String", "checkIndex", "(II)V"⟩) ∈ x_Ts := x_in1 283 (by decide +kernel) rfl
theorem mw_866 : (Cond.static ⟨"java/lang/String", "checkIndex", "(II)V"⟩) ∈ x_Ts := x_in1 284 (by decide +kernel) rfl
theorem mw_867 : (Cond.fieldLink "java/lang/String" 1053 "jdk/internal/util/Preconditions" "SIOOBE_FORMATTER" "Ljava/util/function/BiFunction;") ∈ x_Ts := x_in1 286 (by decide +kernel) rfl
theorem mw_868 : (Cond.code ⟨"jdk/internal/util/Preconditions", "checkIndex", "(IILjava/util/function/BiFunction;)I"⟩ prog_29_method_11_code 3 (Option.some .int)) ∈ x_Ts := x_in3 (x_r2 50 rfl) rfl
theorem mw_869 : (Cond.methodLink "java/lang/String" 1059 ⟨"jdk/internal/util/Preconditions", "checkIndex", "(IILjava/util/function/BiFunction;)I"⟩) ∈ x_Ts := x_in1 288 (by decide +kernel) rfl
theorem mw_870 : (Cond.static ⟨"jdk/internal/util/Preconditions", "checkIndex", "(IILjava/util/function/BiFunction;)I"⟩) ∈ x_Ts := x_in1 289 (by decide +kernel) rfl
theorem mw_871 : (Cond.initialized "jdk/internal/util/Preconditions") ∈ x_Ts := x_in1 25 (by decide +kernel) rfl
theorem mw_872 : (Cond.code ⟨"java/lang/AbstractStringBuilder", "<init>", "(I)V"⟩ prog_12_method_2_code 2 (Option.none : Option Jvm.ClassFile.FieldType)) ∈ x_Ts := x_in3 (x_r3 93 rfl) rfl
theorem mw_873 : (Cond.methodLink "java/lang/StringBuilder" 1 ⟨"java/lang/AbstractStringBuilder", "<init>", "(I)V"⟩) ∈ x_Ts := x_in1 571 (by decide +kernel) rfl
theorem mw_874 : (Cond.instanceMethod ⟨"java/lang/AbstractStringBuilder", "<init>", "(I)V"⟩) ∈ x_Ts := x_in1 572 (by decide +kernel) rfl
theorem mw_875 : (Cond.initialized "java/lang/AbstractStringBuilder") ∈ x_Ts := x_in1 19 (by decide +kernel) rfl
theorem mw_876 : (Cond.methodLink "java/lang/AbstractStringBuilder" 3 ⟨"java/lang/Object", "<init>", "()V"⟩) ∈ x_Ts := x_in1 574 (by decide +kernel) rfl
theorem mw_877 : (Cond.fieldLink "java/lang/AbstractStringBuilder" 18 "java/lang/String" "COMPACT_STRINGS" "Z") ∈ x_Ts := x_in1 575 (by decide +kernel) rfl
theorem mw_878 : (Cond.arrayClass .byte) ∈ x_Ts := x_in1 519 (by decide +kernel) rfl
theorem mw_879 : (Cond.fieldLink "java/lang/AbstractStringBuilder" 15 "java/lang/AbstractStringBuilder" "value" "[B") ∈ x_Ts := x_in1 583 (by decide +kernel) rfl
theorem mw_880 : (Cond.fieldLink "java/lang/AbstractStringBuilder" 22 "java/lang/AbstractStringBuilder" "coder" "B") ∈ x_Ts := x_in1 584 (by decide +kernel) rfl
theorem mw_881 : (Cond.code ⟨"java/lang/AbstractStringBuilder", "append", "(C)Ljava/lang/AbstractStringBuilder;"⟩ prog_12_method_31_code 2 (Option.some (.object "java/lang/AbstractStringBuilder"))) ∈ x_Ts := x_in3 (x_r3 122 rfl) rfl
theorem mw_882 : (Cond.methodLink "java/lang/StringBuilder" 50 ⟨"java/lang/AbstractStringBuilder", "append", "(C)Ljava/lang/AbstractStringBuilder;"⟩) ∈ x_Ts := x_in1 600 (by decide +kernel) rfl
theorem mw_883 : (Cond.sameMethod "java/lang/AbstractStringBuilder" "java/lang/AbstractStringBuilder" "append" "(C)Ljava/lang/AbstractStringBuilder;") ∈ x_Ts := x_in1 1293 (by decide +kernel) rfl
theorem mw_884 : (Cond.superclass "java/lang/StringBuilder" "java/lang/AbstractStringBuilder") ∈ x_Ts := x_in1 595 (by decide +kernel) rfl
theorem mw_885 : (Cond.instanceMethod ⟨"java/lang/AbstractStringBuilder", "append", "(C)Ljava/lang/AbstractStringBuilder;"⟩) ∈ x_Ts := x_in1 601 (by decide +kernel) rfl
theorem mw_886 : (Cond.fieldLink "java/lang/AbstractStringBuilder" 79 "java/lang/AbstractStringBuilder" "count" "I") ∈ x_Ts := x_in1 586 (by decide +kernel) rfl
theorem mw_887 : (Cond.code ⟨"java/lang/AbstractStringBuilder", "ensureCapacityInternal", "(I)V"⟩ prog_12_method_9_code 3 (Option.none : Option Jvm.ClassFile.FieldType)) ∈ x_Ts := x_in3 (x_r3 126 rfl) rfl
theorem mw_888 : (Cond.methodLink "java/lang/AbstractStringBuilder" 100 ⟨"java/lang/AbstractStringBuilder", "ensureCapacityInternal", "(I)V"⟩) ∈ x_Ts := x_in1 603 (by decide +kernel) rfl
theorem mw_889 : (Cond.instanceMethod ⟨"java/lang/AbstractStringBuilder", "ensureCapacityInternal", "(I)V"⟩) ∈ x_Ts := x_in1 605 (by decide +kernel) rfl
theorem mw_890 : (Cond.sameMethod "java/lang/AbstractStringBuilder" "java/lang/AbstractStringBuilder" "ensureCapacityInternal" "(I)V") ∈ x_Ts := x_in1 1294 (by decide +kernel) rfl
theorem mw_891 : (Cond.code ⟨"java/lang/AbstractStringBuilder", "isLatin1", "()Z"⟩ prog_12_method_68_code 1 (Option.some .boolean)) ∈ x_Ts := x_in3 (x_r3 154 rfl) rfl
theorem mw_892 : (Cond.methodLink "java/lang/AbstractStringBuilder" 83 ⟨"java/lang/AbstractStringBuilder", "isLatin1", "()Z"⟩) ∈ x_Ts := x_in1 630 (by decide +kernel) rfl
theorem mw_893 : (Cond.sameMethod "java/lang/AbstractStringBuilder" "java/lang/AbstractStringBuilder" "isLatin1" "()Z") ∈ x_Ts := x_in1 632 (by decide +kernel) rfl
theorem mw_894 : (Cond.selects "java/lang/StringBuilder" ⟨"java/lang/AbstractStringBuilder", "isLatin1", "()Z"⟩ ⟨"java/lang/AbstractStringBuilder", "isLatin1", "()Z"⟩) ∈ x_Ts := x_in1 633 (by decide +kernel) rfl
theorem mw_895 : (Cond.instanceMethod ⟨"java/lang/AbstractStringBuilder", "isLatin1", "()Z"⟩) ∈ x_Ts := x_in1 631 (by decide +kernel) rfl
theorem mw_896 : (Cond.code ⟨"java/lang/StringLatin1", "canEncode", "(C)Z"⟩ prog_21_method_3_code 1 (Option.some .boolean)) ∈ x_Ts := x_in3 (x_r3 157 rfl) rfl
theorem mw_897 : (Cond.methodLink "java/lang/AbstractStringBuilder" 191 ⟨"java/lang/StringLatin1", "canEncode", "(C)Z"⟩) ∈ x_Ts := x_in1 635 (by decide +kernel) rfl
theorem mw_898 : (Cond.static ⟨"java/lang/StringLatin1", "canEncode", "(C)Z"⟩) ∈ x_Ts := x_in1 636 (by decide +kernel) rfl
theorem mw_899 : (Cond.code ⟨"java/lang/AbstractStringBuilder", "newCapacity", "(I)I"⟩ prog_12_method_10_code 6 (Option.some .int)) ∈ x_Ts := x_in3 (x_r3 130 rfl) rfl
theorem mw_900 : (Cond.methodLink "java/lang/AbstractStringBuilder" 104 ⟨"java/lang/AbstractStringBuilder", "newCapacity", "(I)I"⟩) ∈ x_Ts := x_in1 607 (by decide +kernel) rfl
theorem mw_901 : (Cond.instanceMethod ⟨"java/lang/AbstractStringBuilder", "newCapacity", "(I)I"⟩) ∈ x_Ts := x_in1 609 (by decide +kernel) rfl
theorem mw_902 : (Cond.sameMethod "java/lang/AbstractStringBuilder" "java/lang/AbstractStringBuilder" "newCapacity" "(I)I") ∈ x_Ts := x_in1 1295 (by decide +kernel) rfl
theorem mw_903 : (Cond.code ⟨"java/util/Arrays", "copyOf", "([BI)[B"⟩ prog_26_method_121_code 3 (Option.some (.array .byte))) ∈ x_Ts := x_in3 (x_r3 144 rfl) rfl
theorem mw_904 : (Cond.methodLink "java/lang/AbstractStringBuilder" 108 ⟨"java/util/Arrays", "copyOf", "([BI)[B"⟩) ∈ x_Ts := x_in1 622 (by decide +kernel) rfl
theorem mw_905 : (Cond.static ⟨"java/util/Arrays", "copyOf", "([BI)[B"⟩) ∈ x_Ts := x_in1 623 (by decide +kernel) rfl
theorem mw_906 : (Cond.code ⟨"jdk/internal/util/ArraysSupport", "newLength", "(III)I"⟩ prog_28_method_27_code 4 (Option.some .int)) ∈ x_Ts := x_in3 (x_r3 133 rfl) rfl
theorem mw_907 : (Cond.methodLink "java/lang/AbstractStringBuilder" 114 ⟨"jdk/internal/util/ArraysSupport", "newLength", "(III)I"⟩) ∈ x_Ts := x_in1 611 (by decide +kernel) rfl
theorem mw_908 : (Cond.static ⟨"jdk/internal/util/ArraysSupport", "newLength", "(III)I"⟩) ∈ x_Ts := x_in1 612 (by decide +kernel) rfl
theorem mw_909 : (Cond.initialized "jdk/internal/util/ArraysSupport") ∈ x_Ts := x_in1 23 (by decide +kernel) rfl
theorem mw_910 : (Cond.constant "java/lang/AbstractStringBuilder" 39 (2147483647)) ∈ x_Ts := x_in1 621 (by decide +kernel) rfl
theorem mw_911 : (Cond.methodLink "jdk/internal/util/ArraysSupport" 194 ⟨"java/lang/Math", "max", "(II)I"⟩) ∈ x_Ts := x_in1 614 (by decide +kernel) rfl
theorem mw_912 : (Cond.constant "jdk/internal/util/ArraysSupport" 200 (2147483639)) ∈ x_Ts := x_in1 617 (by decide +kernel) rfl
theorem mw_913 : (Cond.methodLink "java/util/Arrays" 310 ⟨"[B", "clone", "()Ljava/lang/Object;"⟩) ∈ x_Ts := x_in1 625 (by decide +kernel) rfl
theorem mw_914 : (Cond.sameMethod "[B" "java/lang/Object" "clone" "()Ljava/lang/Object;") ∈ x_Ts := x_in1 626 (by decide +kernel) rfl
theorem mw_915 : (Cond.selects "[B" ⟨"[B", "clone", "()Ljava/lang/Object;"⟩ ⟨"java/lang/Object", "clone", "()Ljava/lang/Object;"⟩) ∈ x_Ts := x_in1 627 (by decide +kernel) rfl
theorem mw_916 : (Cond.classLink "java/util/Arrays" 311 "[B") ∈ x_Ts := x_in1 629 (by decide +kernel) rfl
theorem mw_917 : (Cond.classLink "java/lang/StringBuilder" 18 "java/lang/String") ∈ x_Ts := x_in1 681 (by decide +kernel) rfl
theorem mw_918 : (Cond.instantiable "java/lang/String" 4) ∈ x_Ts := x_in1 682 (by decide +kernel) rfl
theorem mw_919 : (Cond.code ⟨"java/lang/String", "<init>", "(Ljava/lang/StringBuilder;)V"⟩ prog_19_method_53_code 2 (Option.none : Option Jvm.ClassFile.FieldType)) ∈ x_Ts := x_in3 (x_r3 205 rfl) rfl
theorem mw_920 : (Cond.methodLink "java/lang/StringBuilder" 137 ⟨"java/lang/String", "<init>", "(Ljava/lang/StringBuilder;)V"⟩) ∈ x_Ts := x_in1 683 (by decide +kernel) rfl
theorem mw_921 : (Cond.instanceMethod ⟨"java/lang/String", "<init>", "(Ljava/lang/StringBuilder;)V"⟩) ∈ x_Ts := x_in1 684 (by decide +kernel) rfl
theorem mw_922 : (Cond.code ⟨"java/lang/String", "<init>", "(Ljava/lang/AbstractStringBuilder;Ljava/lang/Void;)V"⟩ prog_19_method_150_code 5 (Option.none : Option Jvm.ClassFile.FieldType)) ∈ x_Ts := x_in3 (x_r3 208 rfl) rfl
theorem mw_923 : (Cond.methodLink "java/lang/String" 489 ⟨"java/lang/String", "<init>", "(Ljava/lang/AbstractStringBuilder;Ljava/lang/Void;)V"⟩) ∈ x_Ts := x_in1 686 (by decide +kernel) rfl
theorem mw_924 : (Cond.instanceMethod ⟨"java/lang/String", "<init>", "(Ljava/lang/AbstractStringBuilder;Ljava/lang/Void;)V"⟩) ∈ x_Ts := x_in1 687 (by decide +kernel) rfl
theorem mw_925 : (Cond.methodLink "java/lang/String" 1 ⟨"java/lang/Object", "<init>", "()V"⟩) ∈ x_Ts := x_in1 689 (by decide +kernel) rfl
theorem mw_926 : (Cond.code ⟨"java/lang/AbstractStringBuilder", "getValue", "()[B"⟩ prog_12_method_64_code 1 (Option.some (.array .byte))) ∈ x_Ts := x_in3 (x_r3 214 rfl) rfl
theorem mw_927 : (Cond.methodLink "java/lang/String" 552 ⟨"java/lang/AbstractStringBuilder", "getValue", "()[B"⟩) ∈ x_Ts := x_in1 690 (by decide +kernel) rfl
theorem mw_928 : (Cond.sameMethod "java/lang/AbstractStringBuilder" "java/lang/AbstractStringBuilder" "getValue" "()[B") ∈ x_Ts := x_in1 692 (by decide +kernel) rfl
theorem mw_929 : (Cond.selects "java/lang/StringBuilder" ⟨"java/lang/AbstractStringBuilder", "getValue", "()[B"⟩ ⟨"java/lang/AbstractStringBuilder", "getValue", "()[B"⟩) ∈ x_Ts := x_in1 693 (by decide +kernel) rfl
theorem mw_930 : (Cond.instanceMethod ⟨"java/lang/AbstractStringBuilder", "getValue", "()[B"⟩) ∈ x_Ts := x_in1 691 (by decide +kernel) rfl
theorem mw_931 : (Cond.code ⟨"java/lang/AbstractStringBuilder", "length", "()I"⟩ prog_12_method_6_code 1 (Option.some .int)) ∈ x_Ts := x_in3 (x_r3 222 rfl) rfl
theorem mw_932 : (Cond.code ⟨"java/lang/StringBuilder", "length", "()I"⟩ prog_20_method_93_code 1 (Option.some .int)) ∈ x_Ts := x_in3 (x_r3 220 rfl) rfl
theorem mw_933 : (Cond.methodLink "java/lang/String" 549 ⟨"java/lang/AbstractStringBuilder", "length", "()I"⟩) ∈ x_Ts := x_in1 695 (by decide +kernel) rfl
theorem mw_934 : (Cond.sameMethod "java/lang/AbstractStringBuilder" "java/lang/AbstractStringBuilder" "length" "()I") ∈ x_Ts := x_in1 697 (by decide +kernel) rfl
theorem mw_935 : (Cond.instanceMethod ⟨"java/lang/AbstractStringBuilder", "length", "()I"⟩) ∈ x_Ts := x_in1 696 (by decide +kernel) rfl
theorem mw_936 : (Cond.selects "java/lang/StringBuilder" ⟨"java/lang/AbstractStringBuilder", "length", "()I"⟩ ⟨"java/lang/StringBuilder", "length", "()I"⟩) ∈ x_Ts := x_in1 698 (by decide +kernel) rfl
theorem mw_937 : (Cond.instanceMethod ⟨"java/lang/StringBuilder", "length", "()I"⟩) ∈ x_Ts := x_in1 699 (by decide +kernel) rfl
theorem mw_938 : (Cond.methodLink "java/lang/String" 1047 ⟨"java/lang/AbstractStringBuilder", "isLatin1", "()Z"⟩) ∈ x_Ts := x_in1 703 (by decide +kernel) rfl
theorem mw_939 : (Cond.code ⟨"java/util/Arrays", "copyOfRange", "([BII)[B"⟩ prog_26_method_132_code 3 (Option.some (.array .byte))) ∈ x_Ts := x_in3 (x_r3 226 rfl) rfl
theorem mw_940 : (Cond.methodLink "java/lang/String" 54 ⟨"java/util/Arrays", "copyOfRange", "([BII)[B"⟩) ∈ x_Ts := x_in1 704 (by decide +kernel) rfl
theorem mw_941 : (Cond.static ⟨"java/util/Arrays", "copyOfRange", "([BII)[B"⟩) ∈ x_Ts := x_in1 705 (by decide +kernel) rfl
theorem mw_942 : (Cond.methodLink "java/lang/StringBuilder" 343 ⟨"java/lang/AbstractStringBuilder", "length", "()I"⟩) ∈ x_Ts := x_in1 701 (by decide +kernel) rfl
theorem mw_943 : (Cond.code ⟨"java/util/Arrays", "copyOfRangeByte", "([BII)[B"⟩ prog_26_method_133_code 5 (Option.some (.array .byte))) ∈ x_Ts := x_in3 (x_r3 229 rfl) rfl
theorem mw_944 : (Cond.methodLink "java/util/Arrays" 339 ⟨"java/util/Arrays", "copyOfRangeByte", "([BII)[B"⟩) ∈ x_Ts := x_in1 707 (by decide +kernel) rfl
theorem mw_945 : (Cond.static ⟨"java/util/Arrays", "copyOfRangeByte", "([BII)[B"⟩) ∈ x_Ts := x_in1 708 (by decide +kernel) rfl
theorem mw_946 : (Cond.code ⟨"java/util/Arrays", "checkLength", "(II)V"⟩ prog_26_method_131_code 2 (Option.none : Option Jvm.ClassFile.FieldType)) ∈ x_Ts := x_in3 (x_r3 232 rfl) rfl
theorem mw_947 : (Cond.methodLink "java/util/Arrays" 343 ⟨"java/util/Arrays", "checkLength", "(II)V"⟩) ∈ x_Ts := x_in1 710 (by decide +kernel) rfl
theorem mw_948 : (Cond.static ⟨"java/util/Arrays", "checkLength", "(II)V"⟩) ∈ x_Ts := x_in1 711 (by decide +kernel) rfl
theorem mw_949 : (Cond.classLink "ProofDeskLaw" 13 "java/lang/IllegalArgumentException") ∈ x_Ts := x_in1 364 (by decide +kernel) rfl
theorem mw_950 : (Cond.classLink "ProofDeskLaw" 15 "java/lang/IllegalStateException") ∈ x_Ts := x_in1 365 (by decide +kernel) rfl
theorem mw_951 : (Cond.classLink "ProofDeskLaw" 21 "java/util/NoSuchElementException") ∈ x_Ts := x_in1 758 (by decide +kernel) rfl
theorem mw_952 : (Cond.classLink "ProofDeskLaw" 23 "java/lang/UnsupportedOperationException") ∈ x_Ts := x_in1 759 (by decide +kernel) rfl
theorem mw_953 : (Cond.code ⟨"ProofDesk", "given", "()I"⟩ prog_1_method_3_code 1 (Option.some .int)) ∈ x_Ts := x_in3 (x_r2 129 rfl) rfl
theorem mw_954 : (Cond.methodLink "ProofDeskLaw" 7 ⟨"ProofDesk", "given", "()I"⟩) ∈ x_Ts := x_in1 366 (by decide +kernel) rfl
theorem mw_955 : (Cond.instanceMethod ⟨"ProofDesk", "given", "()I"⟩) ∈ x_Ts := x_in1 367 (by decide +kernel) rfl
theorem mw_956 : (Cond.selects "ProofDesk" ⟨"ProofDesk", "given", "()I"⟩ ⟨"ProofDesk", "given", "()I"⟩) ∈ x_Ts := x_in1 368 (by decide +kernel) rfl
theorem mw_957 : (Cond.code ⟨"ProofDesk", "step", "(IIIIII)I"⟩ prog_1_method_4_code 7 (Option.some .int)) ∈ x_Ts := x_in3 (x_r4 43 rfl) rfl
theorem mw_958 : (Cond.methodLink "ProofDeskLaw" 17 ⟨"ProofDesk", "step", "(IIIIII)I"⟩) ∈ x_Ts := x_in1 760 (by decide +kernel) rfl
theorem mw_959 : (Cond.instanceMethod ⟨"ProofDesk", "step", "(IIIIII)I"⟩) ∈ x_Ts := x_in1 761 (by decide +kernel) rfl
theorem mw_960 : (Cond.selects "ProofDesk" ⟨"ProofDesk", "step", "(IIIIII)I"⟩ ⟨"ProofDesk", "step", "(IIIIII)I"⟩) ∈ x_Ts := x_in1 762 (by decide +kernel) rfl
theorem mw_961 : (Cond.classLink "ProofDeskLaw" 8 "ProofDesk") ∈ x_Ts := x_in1 28 (by decide +kernel) rfl
theorem mw_962 : (Cond.instantiable "ProofDesk" 10) ∈ x_Ts := x_in1 29 (by decide +kernel) rfl
theorem mw_963 : (Cond.code ⟨"ProofDesk", "<init>", "()V"⟩ prog_1_method_1_code 1 (Option.none : Option Jvm.ClassFile.FieldType)) ∈ x_Ts := x_in3 (x_r1 32 rfl) rfl
theorem mw_964 : (Cond.methodLink "ProofDeskLaw" 25 ⟨"ProofDesk", "<init>", "()V"⟩) ∈ x_Ts := x_in1 30 (by decide +kernel) rfl
theorem mw_965 : (Cond.instanceMethod ⟨"ProofDesk", "<init>", "()V"⟩) ∈ x_Ts := x_in1 31 (by decide +kernel) rfl
theorem mw_966 : (Cond.classLink "ProofDeskLaw" 26 "ProofDeskModel") ∈ x_Ts := x_in1 953 (by decide +kernel) rfl
theorem mw_967 : (Cond.instantiable "ProofDeskModel" 39) ∈ x_Ts := x_in1 954 (by decide +kernel) rfl
theorem mw_968 : (Cond.code ⟨"ProofDeskModel", "<init>", "()V"⟩ prog_11_method_1_code 1 (Option.none : Option Jvm.ClassFile.FieldType)) ∈ x_Ts := x_in3 (x_r4 237 rfl) rfl
theorem mw_969 : (Cond.methodLink "ProofDeskLaw" 28 ⟨"ProofDeskModel", "<init>", "()V"⟩) ∈ x_Ts := x_in1 955 (by decide +kernel) rfl
theorem mw_970 : (Cond.instanceMethod ⟨"ProofDeskModel", "<init>", "()V"⟩) ∈ x_Ts := x_in1 956 (by decide +kernel) rfl
theorem mw_971 : (Cond.arrayClass .long) ∈ x_Ts := x_in1 1291 (by decide +kernel) rfl
theorem mw_972 : (Cond.code ⟨"ProofDesk", "write", "(C)Z"⟩ prog_1_method_2_code 2 (Option.some .boolean)) ∈ x_Ts := x_in3 (x_r1 233 rfl) rfl
theorem mw_973 : (Cond.methodLink "ProofDeskLaw" 29 ⟨"ProofDesk", "write", "(C)Z"⟩) ∈ x_Ts := x_in1 230 (by decide +kernel) rfl
theorem mw_974 : (Cond.instanceMethod ⟨"ProofDesk", "write", "(C)Z"⟩) ∈ x_Ts := x_in1 231 (by decide +kernel) rfl
theorem mw_975 : (Cond.selects "ProofDesk" ⟨"ProofDesk", "write", "(C)Z"⟩ ⟨"ProofDesk", "write", "(C)Z"⟩) ∈ x_Ts := x_in1 232 (by decide +kernel) rfl
theorem mw_976 : (Cond.code ⟨"ProofDeskModel", "write", "(C)Z"⟩ prog_11_method_4_code 2 (Option.some .boolean)) ∈ x_Ts := x_in3 (x_r5 124 rfl) rfl
theorem mw_977 : (Cond.methodLink "ProofDeskLaw" 33 ⟨"ProofDeskModel", "write", "(C)Z"⟩) ∈ x_Ts := x_in1 1081 (by decide +kernel) rfl
theorem mw_978 : (Cond.instanceMethod ⟨"ProofDeskModel", "write", "(C)Z"⟩) ∈ x_Ts := x_in1 1082 (by decide +kernel) rfl
theorem mw_979 : (Cond.selects "ProofDeskModel" ⟨"ProofDeskModel", "write", "(C)Z"⟩ ⟨"ProofDeskModel", "write", "(C)Z"⟩) ∈ x_Ts := x_in1 1083 (by decide +kernel) rfl
theorem mw_980 : (Cond.codeWith ⟨"ProofDeskLaw", "given", "(LProofDesk;[J)I"⟩ method_3_code 3 (Option.some .int) [(0, 8, 11, 13), (0, 8, 14, 15)]) ∈ x_Ts := x_in3 (x_r2 123 rfl) rfl
theorem mw_981 : (Cond.methodLink "ProofDeskLaw" 34 ⟨"ProofDeskLaw", "given", "(LProofDesk;[J)I"⟩) ∈ x_Ts := x_in1 361 (by decide +kernel) rfl
theorem mw_982 : (Cond.static ⟨"ProofDeskLaw", "given", "(LProofDesk;[J)I"⟩) ∈ x_Ts := x_in1 362 (by decide +kernel) rfl
theorem mw_983 : (Cond.initialized "ProofDeskLaw") ∈ x_Ts := x_in1 0 (by decide +kernel) rfl
theorem mw_984 : (Cond.code ⟨"ProofDeskModel", "given", "()I"⟩ prog_11_method_18_code 3 (Option.some .int)) ∈ x_Ts := x_in3 (x_r5 128 rfl) rfl
theorem mw_985 : (Cond.methodLink "ProofDeskLaw" 39 ⟨"ProofDeskModel", "given", "()I"⟩) ∈ x_Ts := x_in1 1085 (by decide +kernel) rfl
theorem mw_986 : (Cond.instanceMethod ⟨"ProofDeskModel", "given", "()I"⟩) ∈ x_Ts := x_in1 1086 (by decide +kernel) rfl
theorem mw_987 : (Cond.selects "ProofDeskModel" ⟨"ProofDeskModel", "given", "()I"⟩ ⟨"ProofDeskModel", "given", "()I"⟩) ∈ x_Ts := x_in1 1087 (by decide +kernel) rfl
theorem mw_988 : (Cond.code ⟨"ProofDeskModel", "thrown", "()I"⟩ prog_11_method_2_code 1 (Option.some .int)) ∈ x_Ts := x_in3 (x_r5 120 rfl) rfl
theorem mw_989 : (Cond.methodLink "ProofDeskLaw" 40 ⟨"ProofDeskModel", "thrown", "()I"⟩) ∈ x_Ts := x_in1 1077 (by decide +kernel) rfl
theorem mw_990 : (Cond.instanceMethod ⟨"ProofDeskModel", "thrown", "()I"⟩) ∈ x_Ts := x_in1 1078 (by decide +kernel) rfl
theorem mw_991 : (Cond.selects "ProofDeskModel" ⟨"ProofDeskModel", "thrown", "()I"⟩ ⟨"ProofDeskModel", "thrown", "()I"⟩) ∈ x_Ts := x_in1 1079 (by decide +kernel) rfl
theorem mw_992 : (Cond.codeWith ⟨"ProofDeskLaw", "step", "(LProofDesk;IIIIII[J)I"⟩ method_4_code 9 (Option.some .int) [(0, 18, 21, 15), (0, 18, 25, 21), (0, 18, 29, 13), (0, 18, 33, 23)]) ∈ x_Ts := x_in3 (x_r4 37 rfl) rfl
theorem mw_993 : (Cond.methodLink "ProofDeskLaw" 43 ⟨"ProofDeskLaw", "step", "(LProofDesk;IIIIII[J)I"⟩) ∈ x_Ts := x_in1 755 (by decide +kernel) rfl
theorem mw_994 : (Cond.static ⟨"ProofDeskLaw", "step", "(LProofDesk;IIIIII[J)I"⟩) ∈ x_Ts := x_in1 756 (by decide +kernel) rfl
theorem mw_995 : (Cond.code ⟨"ProofDeskModel", "step", "(IIIIII)I"⟩ prog_11_method_31_code 14 (Option.some .int)) ∈ x_Ts := x_in3 (x_r5 186 rfl) rfl
theorem mw_996 : (Cond.methodLink "ProofDeskLaw" 46 ⟨"ProofDeskModel", "step", "(IIIIII)I"⟩) ∈ x_Ts := x_in1 1143 (by decide +kernel) rfl
theorem mw_997 : (Cond.instanceMethod ⟨"ProofDeskModel", "step", "(IIIIII)I"⟩) ∈ x_Ts := x_in1 1144 (by decide +kernel) rfl
theorem mw_998 : (Cond.selects "ProofDeskModel" ⟨"ProofDeskModel", "step", "(IIIIII)I"⟩ ⟨"ProofDeskModel", "step", "(IIIIII)I"⟩) ∈ x_Ts := x_in1 1145 (by decide +kernel) rfl
theorem mw_999 : (Cond.code ⟨"ProofDesk", "fault", "()I"⟩ prog_1_method_5_code 1 (Option.some .int)) ∈ x_Ts := x_in3 (x_r2 1 rfl) rfl
theorem mw_1000 : (Cond.methodLink "ProofDeskLaw" 47 ⟨"ProofDesk", "fault", "()I"⟩) ∈ x_Ts := x_in1 238 (by decide +kernel) rfl
theorem mw_1001 : (Cond.instanceMethod ⟨"ProofDesk", "fault", "()I"⟩) ∈ x_Ts := x_in1 239 (by decide +kernel) rfl
theorem mw_1002 : (Cond.selects "ProofDesk" ⟨"ProofDesk", "fault", "()I"⟩ ⟨"ProofDesk", "fault", "()I"⟩) ∈ x_Ts := x_in1 240 (by decide +kernel) rfl
theorem mw_1003 : (Cond.code ⟨"ProofDeskModel", "fault", "()I"⟩ prog_11_method_42_code 1 (Option.some .int)) ∈ x_Ts := x_in3 (x_r6 38 rfl) rfl
theorem mw_1004 : (Cond.methodLink "ProofDeskLaw" 50 ⟨"ProofDeskModel", "fault", "()I"⟩) ∈ x_Ts := x_in1 1235 (by decide +kernel) rfl
theorem mw_1005 : (Cond.instanceMethod ⟨"ProofDeskModel", "fault", "()I"⟩) ∈ x_Ts := x_in1 1236 (by decide +kernel) rfl
theorem mw_1006 : (Cond.selects "ProofDeskModel" ⟨"ProofDeskModel", "fault", "()I"⟩ ⟨"ProofDeskModel", "fault", "()I"⟩) ∈ x_Ts := x_in1 1237 (by decide +kernel) rfl
theorem mw_1007 : (Cond.code ⟨"ProofDesk", "clauses", "()I"⟩ prog_1_method_6_code 1 (Option.some .int)) ∈ x_Ts := x_in3 (x_r2 5 rfl) rfl
theorem mw_1008 : (Cond.methodLink "ProofDeskLaw" 51 ⟨"ProofDesk", "clauses", "()I"⟩) ∈ x_Ts := x_in1 242 (by decide +kernel) rfl
theorem mw_1009 : (Cond.instanceMethod ⟨"ProofDesk", "clauses", "()I"⟩) ∈ x_Ts := x_in1 243 (by decide +kernel) rfl
theorem mw_1010 : (Cond.selects "ProofDesk" ⟨"ProofDesk", "clauses", "()I"⟩ ⟨"ProofDesk", "clauses", "()I"⟩) ∈ x_Ts := x_in1 244 (by decide +kernel) rfl
theorem mw_1011 : (Cond.code ⟨"ProofDeskModel", "clauses", "()I"⟩ prog_11_method_43_code 1 (Option.some .int)) ∈ x_Ts := x_in3 (x_r6 42 rfl) rfl
theorem mw_1012 : (Cond.methodLink "ProofDeskLaw" 54 ⟨"ProofDeskModel", "clauses", "()I"⟩) ∈ x_Ts := x_in1 1239 (by decide +kernel) rfl
theorem mw_1013 : (Cond.instanceMethod ⟨"ProofDeskModel", "clauses", "()I"⟩) ∈ x_Ts := x_in1 1240 (by decide +kernel) rfl
theorem mw_1014 : (Cond.selects "ProofDeskModel" ⟨"ProofDeskModel", "clauses", "()I"⟩ ⟨"ProofDeskModel", "clauses", "()I"⟩) ∈ x_Ts := x_in1 1241 (by decide +kernel) rfl
theorem mw_1015 : (Cond.code ⟨"ProofDesk", "literals", "(I)I"⟩ prog_1_method_7_code 3 (Option.some .int)) ∈ x_Ts := x_in3 (x_r2 9 rfl) rfl
theorem mw_1016 : (Cond.methodLink "ProofDeskLaw" 55 ⟨"ProofDesk", "literals", "(I)I"⟩) ∈ x_Ts := x_in1 246 (by decide +kernel) rfl
theorem mw_1017 : (Cond.instanceMethod ⟨"ProofDesk", "literals", "(I)I"⟩) ∈ x_Ts := x_in1 247 (by decide +kernel) rfl
theorem mw_1018 : (Cond.selects "ProofDesk" ⟨"ProofDesk", "literals", "(I)I"⟩ ⟨"ProofDesk", "literals", "(I)I"⟩) ∈ x_Ts := x_in1 248 (by decide +kernel) rfl
theorem mw_1019 : (Cond.code ⟨"ProofDeskModel", "literals", "(I)I"⟩ prog_11_method_45_code 2 (Option.some .int)) ∈ x_Ts := x_in3 (x_r6 46 rfl) rfl
theorem mw_1020 : (Cond.methodLink "ProofDeskLaw" 59 ⟨"ProofDeskModel", "literals", "(I)I"⟩) ∈ x_Ts := x_in1 1243 (by decide +kernel) rfl
theorem mw_1021 : (Cond.instanceMethod ⟨"ProofDeskModel", "literals", "(I)I"⟩) ∈ x_Ts := x_in1 1244 (by decide +kernel) rfl
theorem mw_1022 : (Cond.selects "ProofDeskModel" ⟨"ProofDeskModel", "literals", "(I)I"⟩ ⟨"ProofDeskModel", "literals", "(I)I"⟩) ∈ x_Ts := x_in1 1245 (by decide +kernel) rfl
theorem mw_1023 : (Cond.code ⟨"ProofDesk", "size", "(I)I"⟩ prog_1_method_8_code 3 (Option.some .int)) ∈ x_Ts := x_in3 (x_r2 17 rfl) rfl
theorem mw_1024 : (Cond.methodLink "ProofDeskLaw" 60 ⟨"ProofDesk", "size", "(I)I"⟩) ∈ x_Ts := x_in1 254 (by decide +kernel) rfl
theorem mw_1025 : (Cond.instanceMethod ⟨"ProofDesk", "size", "(I)I"⟩) ∈ x_Ts := x_in1 255 (by decide +kernel) rfl
theorem mw_1026 : (Cond.selects "ProofDesk" ⟨"ProofDesk", "size", "(I)I"⟩ ⟨"ProofDesk", "size", "(I)I"⟩) ∈ x_Ts := x_in1 256 (by decide +kernel) rfl
theorem mw_1027 : (Cond.code ⟨"ProofDeskModel", "size", "(I)I"⟩ prog_11_method_46_code 2 (Option.some .int)) ∈ x_Ts := x_in3 (x_r6 54 rfl) rfl
theorem mw_1028 : (Cond.methodLink "ProofDeskLaw" 63 ⟨"ProofDeskModel", "size", "(I)I"⟩) ∈ x_Ts := x_in1 1251 (by decide +kernel) rfl
theorem mw_1029 : (Cond.instanceMethod ⟨"ProofDeskModel", "size", "(I)I"⟩) ∈ x_Ts := x_in1 1252 (by decide +kernel) rfl
theorem mw_1030 : (Cond.selects "ProofDeskModel" ⟨"ProofDeskModel", "size", "(I)I"⟩ ⟨"ProofDeskModel", "size", "(I)I"⟩) ∈ x_Ts := x_in1 1253 (by decide +kernel) rfl
theorem mw_1031 : (Cond.code ⟨"ProofDesk", "letter", "(II)I"⟩ prog_1_method_9_code 4 (Option.some .int)) ∈ x_Ts := x_in3 (x_r2 21 rfl) rfl
theorem mw_1032 : (Cond.methodLink "ProofDeskLaw" 64 ⟨"ProofDesk", "letter", "(II)I"⟩) ∈ x_Ts := x_in1 258 (by decide +kernel) rfl
theorem mw_1033 : (Cond.instanceMethod ⟨"ProofDesk", "letter", "(II)I"⟩) ∈ x_Ts := x_in1 259 (by decide +kernel) rfl
theorem mw_1034 : (Cond.selects "ProofDesk" ⟨"ProofDesk", "letter", "(II)I"⟩ ⟨"ProofDesk", "letter", "(II)I"⟩) ∈ x_Ts := x_in1 260 (by decide +kernel) rfl
theorem mw_1035 : (Cond.code ⟨"ProofDeskModel", "letter", "(II)I"⟩ prog_11_method_50_code 7 (Option.some .int)) ∈ x_Ts := x_in3 (x_r6 58 rfl) rfl
theorem mw_1036 : (Cond.methodLink "ProofDeskLaw" 68 ⟨"ProofDeskModel", "letter", "(II)I"⟩) ∈ x_Ts := x_in1 1255 (by decide +kernel) rfl
theorem mw_1037 : (Cond.instanceMethod ⟨"ProofDeskModel", "letter", "(II)I"⟩) ∈ x_Ts := x_in1 1256 (by decide +kernel) rfl
theorem mw_1038 : (Cond.selects "ProofDeskModel" ⟨"ProofDeskModel", "letter", "(II)I"⟩ ⟨"ProofDeskModel", "letter", "(II)I"⟩) ∈ x_Ts := x_in1 1257 (by decide +kernel) rfl
theorem mw_1039 : (Cond.code ⟨"ProofDesk", "depth", "(I)I"⟩ prog_1_method_10_code 3 (Option.some .int)) ∈ x_Ts := x_in3 (x_r2 73 rfl) rfl
theorem mw_1040 : (Cond.methodLink "ProofDeskLaw" 69 ⟨"ProofDesk", "depth", "(I)I"⟩) ∈ x_Ts := x_in1 310 (by decide +kernel) rfl
theorem mw_1041 : (Cond.instanceMethod ⟨"ProofDesk", "depth", "(I)I"⟩) ∈ x_Ts := x_in1 311 (by decide +kernel) rfl
theorem mw_1042 : (Cond.selects "ProofDesk" ⟨"ProofDesk", "depth", "(I)I"⟩ ⟨"ProofDesk", "depth", "(I)I"⟩) ∈ x_Ts := x_in1 312 (by decide +kernel) rfl
theorem mw_1043 : (Cond.code ⟨"ProofDeskModel", "depth", "(I)I"⟩ prog_11_method_51_code 2 (Option.some .int)) ∈ x_Ts := x_in3 (x_r6 74 rfl) rfl
theorem mw_1044 : (Cond.methodLink "ProofDeskLaw" 72 ⟨"ProofDeskModel", "depth", "(I)I"⟩) ∈ x_Ts := x_in1 1271 (by decide +kernel) rfl
theorem mw_1045 : (Cond.instanceMethod ⟨"ProofDeskModel", "depth", "(I)I"⟩) ∈ x_Ts := x_in1 1272 (by decide +kernel) rfl
theorem mw_1046 : (Cond.selects "ProofDeskModel" ⟨"ProofDeskModel", "depth", "(I)I"⟩ ⟨"ProofDeskModel", "depth", "(I)I"⟩) ∈ x_Ts := x_in1 1273 (by decide +kernel) rfl
theorem mw_1047 : (Cond.code ⟨"ProofDesk", "needs", "(II)Z"⟩ prog_1_method_11_code 4 (Option.some .boolean)) ∈ x_Ts := x_in3 (x_r2 77 rfl) rfl
theorem mw_1048 : (Cond.methodLink "ProofDeskLaw" 73 ⟨"ProofDesk", "needs", "(II)Z"⟩) ∈ x_Ts := x_in1 314 (by decide +kernel) rfl
theorem mw_1049 : (Cond.instanceMethod ⟨"ProofDesk", "needs", "(II)Z"⟩) ∈ x_Ts := x_in1 315 (by decide +kernel) rfl
theorem mw_1050 : (Cond.selects "ProofDesk" ⟨"ProofDesk", "needs", "(II)Z"⟩ ⟨"ProofDesk", "needs", "(II)Z"⟩) ∈ x_Ts := x_in1 316 (by decide +kernel) rfl
theorem mw_1051 : (Cond.code ⟨"ProofDeskModel", "needs", "(II)Z"⟩ prog_11_method_52_code 3 (Option.some .boolean)) ∈ x_Ts := x_in3 (x_r6 78 rfl) rfl
theorem mw_1052 : (Cond.methodLink "ProofDeskLaw" 77 ⟨"ProofDeskModel", "needs", "(II)Z"⟩) ∈ x_Ts := x_in1 1275 (by decide +kernel) rfl
theorem mw_1053 : (Cond.instanceMethod ⟨"ProofDeskModel", "needs", "(II)Z"⟩) ∈ x_Ts := x_in1 1276 (by decide +kernel) rfl
theorem mw_1054 : (Cond.selects "ProofDeskModel" ⟨"ProofDeskModel", "needs", "(II)Z"⟩ ⟨"ProofDeskModel", "needs", "(II)Z"⟩) ∈ x_Ts := x_in1 1277 (by decide +kernel) rfl
theorem mw_1055 : (Cond.code ⟨"ProofDesk", "refuted", "()I"⟩ prog_1_method_12_code 3 (Option.some .int)) ∈ x_Ts := x_in3 (x_r2 81 rfl) rfl
theorem mw_1056 : (Cond.methodLink "ProofDeskLaw" 78 ⟨"ProofDesk", "refuted", "()I"⟩) ∈ x_Ts := x_in1 318 (by decide +kernel) rfl
theorem mw_1057 : (Cond.instanceMethod ⟨"ProofDesk", "refuted", "()I"⟩) ∈ x_Ts := x_in1 319 (by decide +kernel) rfl
theorem mw_1058 : (Cond.selects "ProofDesk" ⟨"ProofDesk", "refuted", "()I"⟩ ⟨"ProofDesk", "refuted", "()I"⟩) ∈ x_Ts := x_in1 320 (by decide +kernel) rfl
theorem mw_1059 : (Cond.code ⟨"ProofDeskModel", "refuted", "()I"⟩ prog_11_method_53_code 2 (Option.some .int)) ∈ x_Ts := x_in3 (x_r6 82 rfl) rfl
theorem mw_1060 : (Cond.methodLink "ProofDeskLaw" 81 ⟨"ProofDeskModel", "refuted", "()I"⟩) ∈ x_Ts := x_in1 1279 (by decide +kernel) rfl
theorem mw_1061 : (Cond.instanceMethod ⟨"ProofDeskModel", "refuted", "()I"⟩) ∈ x_Ts := x_in1 1280 (by decide +kernel) rfl
theorem mw_1062 : (Cond.selects "ProofDeskModel" ⟨"ProofDeskModel", "refuted", "()I"⟩ ⟨"ProofDeskModel", "refuted", "()I"⟩) ∈ x_Ts := x_in1 1281 (by decide +kernel) rfl
theorem mw_1063 : (Cond.code ⟨"ProofDesk", "trivial", "(I)Z"⟩ prog_1_method_13_code 3 (Option.some .boolean)) ∈ x_Ts := x_in3 (x_r2 85 rfl) rfl
theorem mw_1064 : (Cond.methodLink "ProofDeskLaw" 82 ⟨"ProofDesk", "trivial", "(I)Z"⟩) ∈ x_Ts := x_in1 322 (by decide +kernel) rfl
theorem mw_1065 : (Cond.instanceMethod ⟨"ProofDesk", "trivial", "(I)Z"⟩) ∈ x_Ts := x_in1 323 (by decide +kernel) rfl
theorem mw_1066 : (Cond.selects "ProofDesk" ⟨"ProofDesk", "trivial", "(I)Z"⟩ ⟨"ProofDesk", "trivial", "(I)Z"⟩) ∈ x_Ts := x_in1 324 (by decide +kernel) rfl
theorem mw_1067 : (Cond.code ⟨"ProofDeskModel", "trivial", "(I)Z"⟩ prog_11_method_54_code 7 (Option.some .boolean)) ∈ x_Ts := x_in3 (x_r6 86 rfl) rfl
theorem mw_1068 : (Cond.methodLink "ProofDeskLaw" 86 ⟨"ProofDeskModel", "trivial", "(I)Z"⟩) ∈ x_Ts := x_in1 1283 (by decide +kernel) rfl
theorem mw_1069 : (Cond.instanceMethod ⟨"ProofDeskModel", "trivial", "(I)Z"⟩) ∈ x_Ts := x_in1 1284 (by decide +kernel) rfl
theorem mw_1070 : (Cond.selects "ProofDeskModel" ⟨"ProofDeskModel", "trivial", "(I)Z"⟩ ⟨"ProofDeskModel", "trivial", "(I)Z"⟩) ∈ x_Ts := x_in1 1285 (by decide +kernel) rfl
theorem mw_1071 : (Cond.code ⟨"ProofDesk", "draft", "()I"⟩ prog_1_method_14_code 1 (Option.some .int)) ∈ x_Ts := x_in3 (x_r2 120 rfl) rfl
theorem mw_1072 : (Cond.methodLink "ProofDeskLaw" 87 ⟨"ProofDesk", "draft", "()I"⟩) ∈ x_Ts := x_in1 357 (by decide +kernel) rfl
theorem mw_1073 : (Cond.instanceMethod ⟨"ProofDesk", "draft", "()I"⟩) ∈ x_Ts := x_in1 358 (by decide +kernel) rfl
theorem mw_1074 : (Cond.selects "ProofDesk" ⟨"ProofDesk", "draft", "()I"⟩ ⟨"ProofDesk", "draft", "()I"⟩) ∈ x_Ts := x_in1 359 (by decide +kernel) rfl
theorem mw_1075 : (Cond.code ⟨"ProofDeskModel", "draft", "()I"⟩ prog_11_method_55_code 1 (Option.some .int)) ∈ x_Ts := x_in3 (x_r6 90 rfl) rfl
theorem mw_1076 : (Cond.methodLink "ProofDeskLaw" 90 ⟨"ProofDeskModel", "draft", "()I"⟩) ∈ x_Ts := x_in1 1287 (by decide +kernel) rfl
theorem mw_1077 : (Cond.instanceMethod ⟨"ProofDeskModel", "draft", "()I"⟩) ∈ x_Ts := x_in1 1288 (by decide +kernel) rfl
theorem mw_1078 : (Cond.selects "ProofDeskModel" ⟨"ProofDeskModel", "draft", "()I"⟩ ⟨"ProofDeskModel", "draft", "()I"⟩) ∈ x_Ts := x_in1 1289 (by decide +kernel) rfl
theorem mw_obj : (Cond.code Lib.objectInit ⟨#[0xb1]⟩ 1 none) ∈ x_Ts := x_in1 35 rfl rfl
def q_n0 : String := "ProofDesk"
def q_T0 : u_T := fun k => match k with
  | 0 => ("ProofDesk", "paper", "LProofDesk$Draft;", true)
  | 1 => ("ProofDesk", "desk", "[LProofDesk$Clause;", true)
  | 2 => ("ProofDesk", "count", "I", false)
  | 3 => ("ProofDesk", "uses", "LProofDesk$Uses;", true)
  | 4 => ("ProofDesk", "claim", "LProofDesk$Form;", true)
  | 5 => ("ProofDesk", "claimed", "Z", false)
  | 6 => ("ProofDesk", "claimFault", "I", false)
  | 7 => ("ProofDesk", "deduction", "LProofDesk$Deduction;", true)
  | 8 => ("ProofDesk", "matcher", "LProofDesk$Matcher;", true)
  | _ => ("ProofDesk", "latestFault", "I", false)
def q_t0 : Nat → FieldType := fun k => match k with
  | 0 => .object "ProofDesk$Draft"
  | 1 => .array (.object "ProofDesk$Clause")
  | 2 => .int
  | 3 => .object "ProofDesk$Uses"
  | 4 => .object "ProofDesk$Form"
  | 5 => .boolean
  | 6 => .int
  | 7 => .object "ProofDesk$Deduction"
  | 8 => .object "ProofDesk$Matcher"
  | _ => .int
theorem q_ty0 : ∀ k, k < 10 → parseFieldDescriptor (q_T0 k).2.2.1 = some (q_t0 k) := by decide +kernel
theorem q_nm0 : ∀ a, a < 10 → ∀ b, b < 10 → a ≠ b → (q_T0 a).2.1 ≠ (q_T0 b).2.1 := by decide +kernel
theorem q_in0 {a : Cond} : ∀ w ∈ u_ws q_n0 q_T0 10, w ∈ (a :: x_Ts) := by
  have e : u_ws q_n0 q_T0 10 = [Cond.laysFinal "ProofDesk" "ProofDesk" "paper" "LProofDesk$Draft;", Cond.laysFinal "ProofDesk" "ProofDesk" "desk" "[LProofDesk$Clause;", Cond.lays "ProofDesk" "ProofDesk" "count" "I", Cond.laysFinal "ProofDesk" "ProofDesk" "uses" "LProofDesk$Uses;", Cond.laysFinal "ProofDesk" "ProofDesk" "claim" "LProofDesk$Form;", Cond.lays "ProofDesk" "ProofDesk" "claimed" "Z", Cond.lays "ProofDesk" "ProofDesk" "claimFault" "I", Cond.laysFinal "ProofDesk" "ProofDesk" "deduction" "LProofDesk$Deduction;", Cond.laysFinal "ProofDesk" "ProofDesk" "matcher" "LProofDesk$Matcher;", Cond.lays "ProofDesk" "ProofDesk" "latestFault" "I"] := rfl
  rw [e]
  exact List.forall_mem_cons.2 ⟨x_up mw_0, List.forall_mem_cons.2 ⟨x_up mw_1, List.forall_mem_cons.2 ⟨x_up mw_2, List.forall_mem_cons.2 ⟨x_up mw_3, List.forall_mem_cons.2 ⟨x_up mw_4, List.forall_mem_cons.2 ⟨x_up mw_5, List.forall_mem_cons.2 ⟨x_up mw_6, List.forall_mem_cons.2 ⟨x_up mw_7, List.forall_mem_cons.2 ⟨x_up mw_8, List.forall_mem_cons.2 ⟨x_up mw_9, fun _ h => absurd h List.not_mem_nil⟩⟩⟩⟩⟩⟩⟩⟩⟩⟩
def q_n1 : String := "ProofDesk$Clause"
def q_T1 : u_T := fun k => match k with
  | 0 => ("ProofDesk$Clause", "form", "LProofDesk$Form;", true)
  | 1 => ("ProofDesk$Clause", "level", "I", true)
  | 2 => ("ProofDesk$Clause", "sources", "I", true)
  | _ => ("ProofDesk$Clause", "text", "Ljava/lang/String;", true)
def q_t1 : Nat → FieldType := fun k => match k with
  | 0 => .object "ProofDesk$Form"
  | 1 => .int
  | 2 => .int
  | _ => .object "java/lang/String"
theorem q_ty1 : ∀ k, k < 4 → parseFieldDescriptor (q_T1 k).2.2.1 = some (q_t1 k) := by decide +kernel
theorem q_nm1 : ∀ a, a < 4 → ∀ b, b < 4 → a ≠ b → (q_T1 a).2.1 ≠ (q_T1 b).2.1 := by decide +kernel
theorem q_in1 {a : Cond} : ∀ w ∈ u_ws q_n1 q_T1 4, w ∈ (a :: x_Ts) := by
  have e : u_ws q_n1 q_T1 4 = [Cond.laysFinal "ProofDesk$Clause" "ProofDesk$Clause" "form" "LProofDesk$Form;", Cond.laysFinal "ProofDesk$Clause" "ProofDesk$Clause" "level" "I", Cond.laysFinal "ProofDesk$Clause" "ProofDesk$Clause" "sources" "I", Cond.laysFinal "ProofDesk$Clause" "ProofDesk$Clause" "text" "Ljava/lang/String;"] := rfl
  rw [e]
  exact List.forall_mem_cons.2 ⟨x_up mw_10, List.forall_mem_cons.2 ⟨x_up mw_11, List.forall_mem_cons.2 ⟨x_up mw_12, List.forall_mem_cons.2 ⟨x_up mw_13, fun _ h => absurd h List.not_mem_nil⟩⟩⟩⟩
def q_n2 : String := "ProofDesk$Deduction"
def q_T2 : u_T := fun k => match k with
  | 0 => ("ProofDesk$Deduction", "result", "LProofDesk$Form;", true)
  | 1 => ("ProofDesk$Deduction", "graph", "LProofDesk$Graph;", true)
  | 2 => ("ProofDesk$Deduction", "one", "I", false)
  | 3 => ("ProofDesk$Deduction", "other", "I", false)
  | 4 => ("ProofDesk$Deduction", "firstLeftOut", "I", false)
  | 5 => ("ProofDesk$Deduction", "secondLeftOut", "I", false)
  | 6 => ("ProofDesk$Deduction", "place", "I", false)
  | _ => ("ProofDesk$Deduction", "filling", "I", false)
def q_t2 : Nat → FieldType := fun k => match k with
  | 0 => .object "ProofDesk$Form"
  | 1 => .object "ProofDesk$Graph"
  | 2 => .int
  | 3 => .int
  | 4 => .int
  | 5 => .int
  | 6 => .int
  | _ => .int
theorem q_ty2 : ∀ k, k < 8 → parseFieldDescriptor (q_T2 k).2.2.1 = some (q_t2 k) := by decide +kernel
theorem q_nm2 : ∀ a, a < 8 → ∀ b, b < 8 → a ≠ b → (q_T2 a).2.1 ≠ (q_T2 b).2.1 := by decide +kernel
theorem q_in2 {a : Cond} : ∀ w ∈ u_ws q_n2 q_T2 8, w ∈ (a :: x_Ts) := by
  have e : u_ws q_n2 q_T2 8 = [Cond.laysFinal "ProofDesk$Deduction" "ProofDesk$Deduction" "result" "LProofDesk$Form;", Cond.laysFinal "ProofDesk$Deduction" "ProofDesk$Deduction" "graph" "LProofDesk$Graph;", Cond.lays "ProofDesk$Deduction" "ProofDesk$Deduction" "one" "I", Cond.lays "ProofDesk$Deduction" "ProofDesk$Deduction" "other" "I", Cond.lays "ProofDesk$Deduction" "ProofDesk$Deduction" "firstLeftOut" "I", Cond.lays "ProofDesk$Deduction" "ProofDesk$Deduction" "secondLeftOut" "I", Cond.lays "ProofDesk$Deduction" "ProofDesk$Deduction" "place" "I", Cond.lays "ProofDesk$Deduction" "ProofDesk$Deduction" "filling" "I"] := rfl
  rw [e]
  exact List.forall_mem_cons.2 ⟨x_up mw_14, List.forall_mem_cons.2 ⟨x_up mw_15, List.forall_mem_cons.2 ⟨x_up mw_16, List.forall_mem_cons.2 ⟨x_up mw_17, List.forall_mem_cons.2 ⟨x_up mw_18, List.forall_mem_cons.2 ⟨x_up mw_19, List.forall_mem_cons.2 ⟨x_up mw_20, List.forall_mem_cons.2 ⟨x_up mw_21, fun _ h => absurd h List.not_mem_nil⟩⟩⟩⟩⟩⟩⟩⟩
def q_n3 : String := "ProofDesk$Draft"
def q_T3 : u_T := fun k => match k with
  | 0 => ("ProofDesk$Draft", "text", "[C", true)
  | 1 => ("ProofDesk$Draft", "at", "I", false)
  | _ => ("ProofDesk$Draft", "length", "I", false)
def q_t3 : Nat → FieldType := fun k => match k with
  | 0 => .array .char
  | 1 => .int
  | _ => .int
theorem q_ty3 : ∀ k, k < 3 → parseFieldDescriptor (q_T3 k).2.2.1 = some (q_t3 k) := by decide +kernel
theorem q_nm3 : ∀ a, a < 3 → ∀ b, b < 3 → a ≠ b → (q_T3 a).2.1 ≠ (q_T3 b).2.1 := by decide +kernel
theorem q_in3 {a : Cond} : ∀ w ∈ u_ws q_n3 q_T3 3, w ∈ (a :: x_Ts) := by
  have e : u_ws q_n3 q_T3 3 = [Cond.laysFinal "ProofDesk$Draft" "ProofDesk$Draft" "text" "[C", Cond.lays "ProofDesk$Draft" "ProofDesk$Draft" "at" "I", Cond.lays "ProofDesk$Draft" "ProofDesk$Draft" "length" "I"] := rfl
  rw [e]
  exact List.forall_mem_cons.2 ⟨x_up mw_22, List.forall_mem_cons.2 ⟨x_up mw_23, List.forall_mem_cons.2 ⟨x_up mw_24, fun _ h => absurd h List.not_mem_nil⟩⟩⟩
def q_n4 : String := "ProofDesk$Form"
def q_T4 : u_T := fun k => match k with
  | 0 => ("ProofDesk$Form", "symbols", "[I", true)
  | 1 => ("ProofDesk$Form", "ends", "[I", true)
  | 2 => ("ProofDesk$Form", "negated", "[Z", true)
  | 3 => ("ProofDesk$Form", "count", "I", false)
  | 4 => ("ProofDesk$Form", "length", "I", false)
  | _ => ("ProofDesk$Form", "opened", "I", false)
def q_t4 : Nat → FieldType := fun k => match k with
  | 0 => .array .int
  | 1 => .array .int
  | 2 => .array .boolean
  | 3 => .int
  | 4 => .int
  | _ => .int
theorem q_ty4 : ∀ k, k < 6 → parseFieldDescriptor (q_T4 k).2.2.1 = some (q_t4 k) := by decide +kernel
theorem q_nm4 : ∀ a, a < 6 → ∀ b, b < 6 → a ≠ b → (q_T4 a).2.1 ≠ (q_T4 b).2.1 := by decide +kernel
theorem q_in4 {a : Cond} : ∀ w ∈ u_ws q_n4 q_T4 6, w ∈ (a :: x_Ts) := by
  have e : u_ws q_n4 q_T4 6 = [Cond.laysFinal "ProofDesk$Form" "ProofDesk$Form" "symbols" "[I", Cond.laysFinal "ProofDesk$Form" "ProofDesk$Form" "ends" "[I", Cond.laysFinal "ProofDesk$Form" "ProofDesk$Form" "negated" "[Z", Cond.lays "ProofDesk$Form" "ProofDesk$Form" "count" "I", Cond.lays "ProofDesk$Form" "ProofDesk$Form" "length" "I", Cond.lays "ProofDesk$Form" "ProofDesk$Form" "opened" "I"] := rfl
  rw [e]
  exact List.forall_mem_cons.2 ⟨x_up mw_25, List.forall_mem_cons.2 ⟨x_up mw_26, List.forall_mem_cons.2 ⟨x_up mw_27, List.forall_mem_cons.2 ⟨x_up mw_28, List.forall_mem_cons.2 ⟨x_up mw_29, List.forall_mem_cons.2 ⟨x_up mw_30, fun _ h => absurd h List.not_mem_nil⟩⟩⟩⟩⟩⟩
def q_n5 : String := "ProofDesk$Graph"
def q_T5 : u_T := fun k => match k with
  | 0 => ("ProofDesk$Graph", "symbols", "[I", true)
  | 1 => ("ProofDesk$Graph", "ends", "[I", true)
  | 2 => ("ProofDesk$Graph", "roots", "[I", true)
  | 3 => ("ProofDesk$Graph", "firsts", "[I", true)
  | 4 => ("ProofDesk$Graph", "finite", "[Z", true)
  | 5 => ("ProofDesk$Graph", "ones", "[I", true)
  | 6 => ("ProofDesk$Graph", "others", "[I", true)
  | 7 => ("ProofDesk$Graph", "length", "I", false)
  | _ => ("ProofDesk$Graph", "waiting", "I", false)
def q_t5 : Nat → FieldType := fun k => match k with
  | 0 => .array .int
  | 1 => .array .int
  | 2 => .array .int
  | 3 => .array .int
  | 4 => .array .boolean
  | 5 => .array .int
  | 6 => .array .int
  | 7 => .int
  | _ => .int
theorem q_ty5 : ∀ k, k < 9 → parseFieldDescriptor (q_T5 k).2.2.1 = some (q_t5 k) := by decide +kernel
theorem q_nm5 : ∀ a, a < 9 → ∀ b, b < 9 → a ≠ b → (q_T5 a).2.1 ≠ (q_T5 b).2.1 := by decide +kernel
theorem q_in5 {a : Cond} : ∀ w ∈ u_ws q_n5 q_T5 9, w ∈ (a :: x_Ts) := by
  have e : u_ws q_n5 q_T5 9 = [Cond.laysFinal "ProofDesk$Graph" "ProofDesk$Graph" "symbols" "[I", Cond.laysFinal "ProofDesk$Graph" "ProofDesk$Graph" "ends" "[I", Cond.laysFinal "ProofDesk$Graph" "ProofDesk$Graph" "roots" "[I", Cond.laysFinal "ProofDesk$Graph" "ProofDesk$Graph" "firsts" "[I", Cond.laysFinal "ProofDesk$Graph" "ProofDesk$Graph" "finite" "[Z", Cond.laysFinal "ProofDesk$Graph" "ProofDesk$Graph" "ones" "[I", Cond.laysFinal "ProofDesk$Graph" "ProofDesk$Graph" "others" "[I", Cond.lays "ProofDesk$Graph" "ProofDesk$Graph" "length" "I", Cond.lays "ProofDesk$Graph" "ProofDesk$Graph" "waiting" "I"] := rfl
  rw [e]
  exact List.forall_mem_cons.2 ⟨x_up mw_31, List.forall_mem_cons.2 ⟨x_up mw_32, List.forall_mem_cons.2 ⟨x_up mw_33, List.forall_mem_cons.2 ⟨x_up mw_34, List.forall_mem_cons.2 ⟨x_up mw_35, List.forall_mem_cons.2 ⟨x_up mw_36, List.forall_mem_cons.2 ⟨x_up mw_37, List.forall_mem_cons.2 ⟨x_up mw_38, List.forall_mem_cons.2 ⟨x_up mw_39, fun _ h => absurd h List.not_mem_nil⟩⟩⟩⟩⟩⟩⟩⟩⟩
def q_n6 : String := "ProofDesk$Matcher"
def q_T6 : u_T := fun k => match k with
  | 0 => ("ProofDesk$Matcher", "terms", "[I", true)
  | 1 => ("ProofDesk$Matcher", "bound", "[I", true)
  | _ => ("ProofDesk$Matcher", "many", "I", false)
def q_t6 : Nat → FieldType := fun k => match k with
  | 0 => .array .int
  | 1 => .array .int
  | _ => .int
theorem q_ty6 : ∀ k, k < 3 → parseFieldDescriptor (q_T6 k).2.2.1 = some (q_t6 k) := by decide +kernel
theorem q_nm6 : ∀ a, a < 3 → ∀ b, b < 3 → a ≠ b → (q_T6 a).2.1 ≠ (q_T6 b).2.1 := by decide +kernel
theorem q_in6 {a : Cond} : ∀ w ∈ u_ws q_n6 q_T6 3, w ∈ (a :: x_Ts) := by
  have e : u_ws q_n6 q_T6 3 = [Cond.laysFinal "ProofDesk$Matcher" "ProofDesk$Matcher" "terms" "[I", Cond.laysFinal "ProofDesk$Matcher" "ProofDesk$Matcher" "bound" "[I", Cond.lays "ProofDesk$Matcher" "ProofDesk$Matcher" "many" "I"] := rfl
  rw [e]
  exact List.forall_mem_cons.2 ⟨x_up mw_40, List.forall_mem_cons.2 ⟨x_up mw_41, List.forall_mem_cons.2 ⟨x_up mw_42, fun _ h => absurd h List.not_mem_nil⟩⟩⟩
def q_n7 : String := "ProofDesk$Uses"
def q_T7 : u_T := fun k => match k with
  | 0 => ("ProofDesk$Uses", "known", "[I", true)
  | _ => ("ProofDesk$Uses", "trial", "[I", true)
def q_t7 : Nat → FieldType := fun k => match k with
  | 0 => .array .int
  | _ => .array .int
theorem q_ty7 : ∀ k, k < 2 → parseFieldDescriptor (q_T7 k).2.2.1 = some (q_t7 k) := by decide +kernel
theorem q_nm7 : ∀ a, a < 2 → ∀ b, b < 2 → a ≠ b → (q_T7 a).2.1 ≠ (q_T7 b).2.1 := by decide +kernel
theorem q_in7 {a : Cond} : ∀ w ∈ u_ws q_n7 q_T7 2, w ∈ (a :: x_Ts) := by
  have e : u_ws q_n7 q_T7 2 = [Cond.laysFinal "ProofDesk$Uses" "ProofDesk$Uses" "known" "[I", Cond.laysFinal "ProofDesk$Uses" "ProofDesk$Uses" "trial" "[I"] := rfl
  rw [e]
  exact List.forall_mem_cons.2 ⟨x_up mw_43, List.forall_mem_cons.2 ⟨x_up mw_44, fun _ h => absurd h List.not_mem_nil⟩⟩
def q_n8 : String := "ProofDeskModel"
def q_T8 : u_T := fun k => match k with
  | 0 => ("ProofDeskModel", "fault", "I", false)
  | 1 => ("ProofDeskModel", "why", "I", false)
  | 2 => ("ProofDeskModel", "clauses", "I", false)
  | 3 => ("ProofDeskModel", "sign", "[I", true)
  | 4 => ("ProofDeskModel", "begin", "[I", true)
  | 5 => ("ProofDeskModel", "many", "[I", true)
  | 6 => ("ProofDeskModel", "depth", "[I", true)
  | 7 => ("ProofDeskModel", "need", "[I", true)
  | 8 => ("ProofDeskModel", "negated", "[Z", true)
  | 9 => ("ProofDeskModel", "isGiven", "[Z", true)
  | 10 => ("ProofDeskModel", "use", "[I", true)
  | 11 => ("ProofDeskModel", "used", "[I", true)
  | 12 => ("ProofDeskModel", "draft", "[C", true)
  | 13 => ("ProofDeskModel", "drafted", "I", false)
  | 14 => ("ProofDeskModel", "at", "I", false)
  | 15 => ("ProofDeskModel", "bad", "Z", false)
  | 16 => ("ProofDeskModel", "unlike", "Z", false)
  | 17 => ("ProofDeskModel", "row", "[I", true)
  | 18 => ("ProofDeskModel", "start", "[I", true)
  | 19 => ("ProofDeskModel", "map", "[I", true)
  | 20 => ("ProofDeskModel", "minus", "[Z", true)
  | 21 => ("ProofDeskModel", "rows", "I", false)
  | 22 => ("ProofDeskModel", "literals", "I", false)
  | 23 => ("ProofDeskModel", "names", "I", false)
  | 24 => ("ProofDeskModel", "great", "Z", false)
  | 25 => ("ProofDeskModel", "claim", "[I", true)
  | 26 => ("ProofDeskModel", "claimStart", "[I", true)
  | 27 => ("ProofDeskModel", "claimMinus", "[Z", true)
  | 28 => ("ProofDeskModel", "claims", "I", false)
  | 29 => ("ProofDeskModel", "place", "[I", true)
  | 30 => ("ProofDeskModel", "bound", "[I", true)
  | 31 => ("ProofDeskModel", "left", "[I", true)
  | 32 => ("ProofDeskModel", "right", "[I", true)
  | 33 => ("ProofDeskModel", "stack", "[I", true)
  | 34 => ("ProofDeskModel", "ends", "[I", true)
  | 35 => ("ProofDeskModel", "chosen", "[I", true)
  | 36 => ("ProofDeskModel", "shown", "I", false)
  | 37 => ("ProofDeskModel", "wanted", "I", false)
  | _ => ("ProofDeskModel", "got", "I", false)
def q_t8 : Nat → FieldType := fun k => match k with
  | 0 => .int
  | 1 => .int
  | 2 => .int
  | 3 => .array .int
  | 4 => .array .int
  | 5 => .array .int
  | 6 => .array .int
  | 7 => .array .int
  | 8 => .array .boolean
  | 9 => .array .boolean
  | 10 => .array .int
  | 11 => .array .int
  | 12 => .array .char
  | 13 => .int
  | 14 => .int
  | 15 => .boolean
  | 16 => .boolean
  | 17 => .array .int
  | 18 => .array .int
  | 19 => .array .int
  | 20 => .array .boolean
  | 21 => .int
  | 22 => .int
  | 23 => .int
  | 24 => .boolean
  | 25 => .array .int
  | 26 => .array .int
  | 27 => .array .boolean
  | 28 => .int
  | 29 => .array .int
  | 30 => .array .int
  | 31 => .array .int
  | 32 => .array .int
  | 33 => .array .int
  | 34 => .array .int
  | 35 => .array .int
  | 36 => .int
  | 37 => .int
  | _ => .int
theorem q_ty8 : ∀ k, k < 39 → parseFieldDescriptor (q_T8 k).2.2.1 = some (q_t8 k) := by decide +kernel
theorem q_nm8 : ∀ a, a < 39 → ∀ b, b < 39 → a ≠ b → (q_T8 a).2.1 ≠ (q_T8 b).2.1 := by decide +kernel
theorem q_in8 {a : Cond} : ∀ w ∈ u_ws q_n8 q_T8 39, w ∈ (a :: x_Ts) := by
  have e : u_ws q_n8 q_T8 39 = [Cond.lays "ProofDeskModel" "ProofDeskModel" "fault" "I", Cond.lays "ProofDeskModel" "ProofDeskModel" "why" "I", Cond.lays "ProofDeskModel" "ProofDeskModel" "clauses" "I", Cond.laysFinal "ProofDeskModel" "ProofDeskModel" "sign" "[I", Cond.laysFinal "ProofDeskModel" "ProofDeskModel" "begin" "[I", Cond.laysFinal "ProofDeskModel" "ProofDeskModel" "many" "[I", Cond.laysFinal "ProofDeskModel" "ProofDeskModel" "depth" "[I", Cond.laysFinal "ProofDeskModel" "ProofDeskModel" "need" "[I", Cond.laysFinal "ProofDeskModel" "ProofDeskModel" "negated" "[Z", Cond.laysFinal "ProofDeskModel" "ProofDeskModel" "isGiven" "[Z", Cond.laysFinal "ProofDeskModel" "ProofDeskModel" "use" "[I", Cond.laysFinal "ProofDeskModel" "ProofDeskModel" "used" "[I", Cond.laysFinal "ProofDeskModel" "ProofDeskModel" "draft" "[C", Cond.lays "ProofDeskModel" "ProofDeskModel" "drafted" "I", Cond.lays "ProofDeskModel" "ProofDeskModel" "at" "I", Cond.lays "ProofDeskModel" "ProofDeskModel" "bad" "Z", Cond.lays "ProofDeskModel" "ProofDeskModel" "unlike" "Z", Cond.laysFinal "ProofDeskModel" "ProofDeskModel" "row" "[I", Cond.laysFinal "ProofDeskModel" "ProofDeskModel" "start" "[I", Cond.laysFinal "ProofDeskModel" "ProofDeskModel" "map" "[I", Cond.laysFinal "ProofDeskModel" "ProofDeskModel" "minus" "[Z", Cond.lays "ProofDeskModel" "ProofDeskModel" "rows" "I", Cond.lays "ProofDeskModel" "ProofDeskModel" "literals" "I", Cond.lays "ProofDeskModel" "ProofDeskModel" "names" "I", Cond.lays "ProofDeskModel" "ProofDeskModel" "great" "Z", Cond.laysFinal "ProofDeskModel" "ProofDeskModel" "claim" "[I", Cond.laysFinal "ProofDeskModel" "ProofDeskModel" "claimStart" "[I", Cond.laysFinal "ProofDeskModel" "ProofDeskModel" "claimMinus" "[Z", Cond.lays "ProofDeskModel" "ProofDeskModel" "claims" "I", Cond.laysFinal "ProofDeskModel" "ProofDeskModel" "place" "[I", Cond.laysFinal "ProofDeskModel" "ProofDeskModel" "bound" "[I", Cond.laysFinal "ProofDeskModel" "ProofDeskModel" "left" "[I", Cond.laysFinal "ProofDeskModel" "ProofDeskModel" "right" "[I", Cond.laysFinal "ProofDeskModel" "ProofDeskModel" "stack" "[I", Cond.laysFinal "ProofDeskModel" "ProofDeskModel" "ends" "[I", Cond.laysFinal "ProofDeskModel" "ProofDeskModel" "chosen" "[I", Cond.lays "ProofDeskModel" "ProofDeskModel" "shown" "I", Cond.lays "ProofDeskModel" "ProofDeskModel" "wanted" "I", Cond.lays "ProofDeskModel" "ProofDeskModel" "got" "I"] := rfl
  rw [e]
  exact List.forall_mem_cons.2 ⟨x_up mw_45, List.forall_mem_cons.2 ⟨x_up mw_46, List.forall_mem_cons.2 ⟨x_up mw_47, List.forall_mem_cons.2 ⟨x_up mw_48, List.forall_mem_cons.2 ⟨x_up mw_49, List.forall_mem_cons.2 ⟨x_up mw_50, List.forall_mem_cons.2 ⟨x_up mw_51, List.forall_mem_cons.2 ⟨x_up mw_52, List.forall_mem_cons.2 ⟨x_up mw_53, List.forall_mem_cons.2 ⟨x_up mw_54, List.forall_mem_cons.2 ⟨x_up mw_55, List.forall_mem_cons.2 ⟨x_up mw_56, List.forall_mem_cons.2 ⟨x_up mw_57, List.forall_mem_cons.2 ⟨x_up mw_58, List.forall_mem_cons.2 ⟨x_up mw_59, List.forall_mem_cons.2 ⟨x_up mw_60, List.forall_mem_cons.2 ⟨x_up mw_61, List.forall_mem_cons.2 ⟨x_up mw_62, List.forall_mem_cons.2 ⟨x_up mw_63, List.forall_mem_cons.2 ⟨x_up mw_64, List.forall_mem_cons.2 ⟨x_up mw_65, List.forall_mem_cons.2 ⟨x_up mw_66, List.forall_mem_cons.2 ⟨x_up mw_67, List.forall_mem_cons.2 ⟨x_up mw_68, List.forall_mem_cons.2 ⟨x_up mw_69, List.forall_mem_cons.2 ⟨x_up mw_70, List.forall_mem_cons.2 ⟨x_up mw_71, List.forall_mem_cons.2 ⟨x_up mw_72, List.forall_mem_cons.2 ⟨x_up mw_73, List.forall_mem_cons.2 ⟨x_up mw_74, List.forall_mem_cons.2 ⟨x_up mw_75, List.forall_mem_cons.2 ⟨x_up mw_76, List.forall_mem_cons.2 ⟨x_up mw_77, List.forall_mem_cons.2 ⟨x_up mw_78, List.forall_mem_cons.2 ⟨x_up mw_79, List.forall_mem_cons.2 ⟨x_up mw_80, List.forall_mem_cons.2 ⟨x_up mw_81, List.forall_mem_cons.2 ⟨x_up mw_82, List.forall_mem_cons.2 ⟨x_up mw_83, fun _ h => absurd h List.not_mem_nil⟩⟩⟩⟩⟩⟩⟩⟩⟩⟩⟩⟩⟩⟩⟩⟩⟩⟩⟩⟩⟩⟩⟩⟩⟩⟩⟩⟩⟩⟩⟩⟩⟩⟩⟩⟩⟩⟩⟩
def q_n13 : String := "java/lang/String"
def q_T13 : u_T := fun k => match k with
  | 0 => ("java/lang/String", "value", "[B", true)
  | 1 => ("java/lang/String", "coder", "B", true)
  | 2 => ("java/lang/String", "hash", "I", false)
  | _ => ("java/lang/String", "hashIsZero", "Z", false)
def q_t13 : Nat → FieldType := fun k => match k with
  | 0 => .array .byte
  | 1 => .byte
  | 2 => .int
  | _ => .boolean
theorem q_ty13 : ∀ k, k < 4 → parseFieldDescriptor (q_T13 k).2.2.1 = some (q_t13 k) := by decide +kernel
theorem q_nm13 : ∀ a, a < 4 → ∀ b, b < 4 → a ≠ b → (q_T13 a).2.1 ≠ (q_T13 b).2.1 := by decide +kernel
theorem q_in13 {a : Cond} : ∀ w ∈ u_ws q_n13 q_T13 4, w ∈ (a :: x_Ts) := by
  have e : u_ws q_n13 q_T13 4 = [Cond.laysFinal "java/lang/String" "java/lang/String" "value" "[B", Cond.laysFinal "java/lang/String" "java/lang/String" "coder" "B", Cond.lays "java/lang/String" "java/lang/String" "hash" "I", Cond.lays "java/lang/String" "java/lang/String" "hashIsZero" "Z"] := rfl
  rw [e]
  exact List.forall_mem_cons.2 ⟨x_up mw_84, List.forall_mem_cons.2 ⟨x_up mw_85, List.forall_mem_cons.2 ⟨x_up mw_86, List.forall_mem_cons.2 ⟨x_up mw_87, fun _ h => absurd h List.not_mem_nil⟩⟩⟩⟩
def q_n14 : String := "java/lang/StringBuilder"
def q_T14 : u_T := fun k => match k with
  | 0 => ("java/lang/AbstractStringBuilder", "value", "[B", false)
  | 1 => ("java/lang/AbstractStringBuilder", "coder", "B", false)
  | 2 => ("java/lang/AbstractStringBuilder", "maybeLatin1", "Z", false)
  | _ => ("java/lang/AbstractStringBuilder", "count", "I", false)
def q_t14 : Nat → FieldType := fun k => match k with
  | 0 => .array .byte
  | 1 => .byte
  | 2 => .boolean
  | _ => .int
theorem q_ty14 : ∀ k, k < 4 → parseFieldDescriptor (q_T14 k).2.2.1 = some (q_t14 k) := by decide +kernel
theorem q_nm14 : ∀ a, a < 4 → ∀ b, b < 4 → a ≠ b → (q_T14 a).2.1 ≠ (q_T14 b).2.1 := by decide +kernel
theorem q_in14 {a : Cond} : ∀ w ∈ u_ws q_n14 q_T14 4, w ∈ (a :: x_Ts) := by
  have e : u_ws q_n14 q_T14 4 = [Cond.lays "java/lang/StringBuilder" "java/lang/AbstractStringBuilder" "value" "[B", Cond.lays "java/lang/StringBuilder" "java/lang/AbstractStringBuilder" "coder" "B", Cond.lays "java/lang/StringBuilder" "java/lang/AbstractStringBuilder" "maybeLatin1" "Z", Cond.lays "java/lang/StringBuilder" "java/lang/AbstractStringBuilder" "count" "I"] := rfl
  rw [e]
  exact List.forall_mem_cons.2 ⟨x_up mw_88, List.forall_mem_cons.2 ⟨x_up mw_89, List.forall_mem_cons.2 ⟨x_up mw_90, List.forall_mem_cons.2 ⟨x_up mw_91, fun _ h => absurd h List.not_mem_nil⟩⟩⟩⟩
abbrev x_cl : List vw_C := [(q_n0, q_T0, 10), (q_n1, q_T1, 4), (q_n2, q_T2, 8), (q_n3, q_T3, 3), (q_n4, q_T4, 6), (q_n5, q_T5, 9), (q_n6, q_T6, 3), (q_n7, q_T7, 2), (q_n8, q_T8, 39), ("java/lang/IllegalArgumentException", (fun _ => ("", "", "", false)), 0), ("java/lang/IllegalStateException", (fun _ => ("", "", "", false)), 0), ("java/util/NoSuchElementException", (fun _ => ("", "", "", false)), 0), ("java/lang/UnsupportedOperationException", (fun _ => ("", "", "", false)), 0), (q_n13, q_T13, 4), (q_n14, q_T14, 4)]
abbrev x_tl : List FieldType := [.int, .boolean, .char, .long, .object "ProofDesk$Clause", .byte]
def q_y0 : MethodName := ⟨"ProofDesk$Symbol", "ofLetter", "(CI)I"⟩
abbrev q_c0 : ByteArray := prog_8_method_2_code
abbrev q_w0 : List Cond := Cond.code q_y0 q_c0 2 (some .int) :: x_Ts
def q_y1 : MethodName := ⟨"ProofDesk$Symbol", "ofVariable", "(I)I"⟩
abbrev q_c1 : ByteArray := prog_8_method_3_code
abbrev q_w1 : List Cond := Cond.code q_y1 q_c1 1 (some .int) :: x_Ts
def q_y2 : MethodName := ⟨"ProofDesk$Symbol", "isVariable", "(I)Z"⟩
abbrev q_c2 : ByteArray := prog_8_method_4_code
abbrev q_w2 : List Cond := Cond.code q_y2 q_c2 1 (some .boolean) :: x_Ts
def q_y3 : MethodName := ⟨"ProofDesk$Symbol", "variable", "(I)I"⟩
abbrev q_c3 : ByteArray := prog_8_method_5_code
abbrev q_w3 : List Cond := Cond.code q_y3 q_c3 1 (some .int) :: x_Ts
def q_y4 : MethodName := ⟨"ProofDesk$Symbol", "name", "(I)I"⟩
abbrev q_c4 : ByteArray := prog_8_method_6_code
abbrev q_w4 : List Cond := Cond.code q_y4 q_c4 1 (some .int) :: x_Ts
def q_y5 : MethodName := ⟨"ProofDesk$Symbol", "terms", "(I)I"⟩
abbrev q_c5 : ByteArray := prog_8_method_7_code
abbrev q_w5 : List Cond := Cond.code q_y5 q_c5 1 (some .int) :: x_Ts
def q_y6 : MethodName := ⟨"ProofDesk$Symbol", "character", "(I)C"⟩
abbrev q_c6 : ByteArray := prog_8_method_8_code
abbrev q_w6 : List Cond := Cond.code q_y6 q_c6 1 (some .char) :: x_Ts
def q_y7 : MethodName := ⟨"ProofDesk$Clause", "<init>", "(LProofDesk$Form;IILjava/lang/String;)V"⟩
abbrev q_c7 : ByteArray := prog_2_method_1_code
abbrev q_w7 : List Cond := Cond.code q_y7 q_c7 5 none :: x_Ts
def q_y8 : MethodName := ⟨"ProofDesk$Form", "<init>", "()V"⟩
abbrev q_c8 : ByteArray := prog_5_method_1_code
abbrev q_w8 : List Cond := Cond.code q_y8 q_c8 1 none :: x_Ts
def q_y9 : MethodName := ⟨"ProofDesk$Form", "<init>", "(LProofDesk$Form;)V"⟩
abbrev q_c9 : ByteArray := prog_5_method_2_code
abbrev q_w9 : List Cond := Cond.code q_y9 q_c9 3 none :: x_Ts
def q_y10 : MethodName := ⟨"ProofDesk$Form", "clear", "()V"⟩
abbrev q_c10 : ByteArray := prog_5_method_3_code
abbrev q_w10 : List Cond := Cond.code q_y10 q_c10 1 none :: x_Ts
def q_y11 : MethodName := ⟨"ProofDesk$Form", "start", "(I)I"⟩
abbrev q_c11 : ByteArray := prog_5_method_4_code
abbrev q_w11 : List Cond := Cond.code q_y11 q_c11 2 (some .int) :: x_Ts
def q_y12 : MethodName := ⟨"ProofDesk$Form", "hasLiteral", "(I)Z"⟩
abbrev q_c12 : ByteArray := prog_5_method_5_code
abbrev q_w12 : List Cond := Cond.code q_y12 q_c12 2 (some .boolean) :: x_Ts
def q_y13 : MethodName := ⟨"ProofDesk$Form", "isEquation", "(I)Z"⟩
abbrev q_c13 : ByteArray := prog_5_method_6_code
abbrev q_w13 : List Cond := Cond.code q_y13 q_c13 2 (some .boolean) :: x_Ts
def q_y14 : MethodName := ⟨"ProofDesk$Form", "hasFunction", "(II)Z"⟩
abbrev q_c14 : ByteArray := prog_5_method_7_code
abbrev q_w14 : List Cond := Cond.code q_y14 q_c14 4 (some .boolean) :: x_Ts
def q_y15 : MethodName := ⟨"ProofDesk$Form", "open", "(Z)V"⟩
abbrev q_c15 : ByteArray := prog_5_method_8_code
abbrev q_w15 : List Cond := Cond.code q_y15 q_c15 2 none :: x_Ts
def q_y16 : MethodName := ⟨"ProofDesk$Form", "put", "(I)Z"⟩
abbrev q_c16 : ByteArray := prog_5_method_9_code
abbrev q_w16 : List Cond := Cond.code q_y16 q_c16 2 (some .boolean) :: x_Ts
def q_y17 : MethodName := ⟨"ProofDesk$Form", "close", "()Z"⟩
abbrev q_c17 : ByteArray := prog_5_method_10_code
abbrev q_w17 : List Cond := Cond.code q_y17 q_c17 2 (some .boolean) :: x_Ts
def q_y18 : MethodName := ⟨"ProofDesk$Form", "hasSameAtom", "(II)Z"⟩
abbrev q_c18 : ByteArray := prog_5_method_11_code
abbrev q_w18 : List Cond := Cond.code q_y18 q_c18 5 (some .boolean) :: x_Ts
def q_y19 : MethodName := ⟨"ProofDesk$Form", "hasSameSymbols", "(III)Z"⟩
abbrev q_c19 : ByteArray := prog_5_method_12_code
abbrev q_w19 : List Cond := Cond.code q_y19 q_c19 5 (some .boolean) :: x_Ts
def q_y20 : MethodName := ⟨"ProofDesk$Form", "termEnd", "(I)I"⟩
abbrev q_c20 : ByteArray := prog_5_method_13_code
abbrev q_w20 : List Cond := Cond.code q_y20 q_c20 4 (some .int) :: x_Ts
def q_y21 : MethodName := ⟨"ProofDesk$Form", "nameVariables", "()I"⟩
abbrev q_c21 : ByteArray := prog_5_method_14_code
abbrev q_w21 : List Cond := Cond.code q_y21 q_c21 3 (some .int) :: x_Ts
def q_y22 : MethodName := ⟨"ProofDesk$Form", "replaceFrom", "(III)V"⟩
abbrev q_c22 : ByteArray := prog_5_method_15_code
abbrev q_w22 : List Cond := Cond.code q_y22 q_c22 5 none :: x_Ts
def q_y23 : MethodName := ⟨"ProofDesk$Form", "isSame", "(LProofDesk$Form;)Z"⟩
abbrev q_c23 : ByteArray := prog_5_method_16_code
abbrev q_w23 : List Cond := Cond.code q_y23 q_c23 3 (some .boolean) :: x_Ts
def q_y24 : MethodName := ⟨"ProofDesk$Form", "isAlwaysTrue", "()Z"⟩
abbrev q_c24 : ByteArray := prog_5_method_17_code
abbrev q_w24 : List Cond := Cond.code q_y24 q_c24 3 (some .boolean) :: x_Ts
def q_y25 : MethodName := ⟨"ProofDesk$Form", "hasSameSides", "(I)Z"⟩
abbrev q_c25 : ByteArray := prog_5_method_18_code
abbrev q_w25 : List Cond := Cond.code q_y25 q_c25 4 (some .boolean) :: x_Ts
def q_y26 : MethodName := ⟨"ProofDesk$Draft", "<init>", "()V"⟩
abbrev q_c26 : ByteArray := prog_4_method_1_code
abbrev q_w26 : List Cond := Cond.code q_y26 q_c26 1 none :: x_Ts
def q_y27 : MethodName := ⟨"ProofDesk$Draft", "append", "(C)Z"⟩
abbrev q_c27 : ByteArray := prog_4_method_2_code
abbrev q_w27 : List Cond := Cond.code q_y27 q_c27 2 (some .boolean) :: x_Ts
def q_y28 : MethodName := ⟨"ProofDesk$Draft", "read", "(LProofDesk$Form;)Z"⟩
abbrev q_c28 : ByteArray := prog_4_method_3_code
abbrev q_w28 : List Cond := Cond.code q_y28 q_c28 2 (some .boolean) :: x_Ts
def q_y29 : MethodName := ⟨"ProofDesk$Draft", "readClause", "(LProofDesk$Form;)Z"⟩
abbrev q_c29 : ByteArray := prog_4_method_4_code
abbrev q_w29 : List Cond := Cond.code q_y29 q_c29 3 (some .boolean) :: x_Ts
def q_y30 : MethodName := ⟨"ProofDesk$Draft", "readLiteral", "(LProofDesk$Form;)Z"⟩
abbrev q_c30 : ByteArray := prog_4_method_5_code
abbrev q_w30 : List Cond := Cond.code q_y30 q_c30 2 (some .boolean) :: x_Ts
def q_y31 : MethodName := ⟨"ProofDesk$Draft", "isEquationAhead", "()Z"⟩
abbrev q_c31 : ByteArray := prog_4_method_6_code
abbrev q_w31 : List Cond := Cond.code q_y31 q_c31 2 (some .boolean) :: x_Ts
def q_y32 : MethodName := ⟨"ProofDesk$Draft", "isVariableAhead", "()Z"⟩
abbrev q_c32 : ByteArray := prog_4_method_7_code
abbrev q_w32 : List Cond := Cond.code q_y32 q_c32 1 (some .boolean) :: x_Ts
def q_y33 : MethodName := ⟨"ProofDesk$Draft", "readTerm", "(LProofDesk$Form;I)Z"⟩
abbrev q_c33 : ByteArray := prog_4_method_8_code
abbrev q_w33 : List Cond := Cond.code q_y33 q_c33 6 (some .boolean) :: x_Ts
def q_y34 : MethodName := ⟨"ProofDesk$Draft", "take", "(C)Z"⟩
abbrev q_c34 : ByteArray := prog_4_method_9_code
abbrev q_w34 : List Cond := Cond.code q_y34 q_c34 2 (some .boolean) :: x_Ts
def q_y35 : MethodName := ⟨"ProofDesk$Uses", "<init>", "()V"⟩
abbrev q_c35 : ByteArray := prog_9_method_1_code
abbrev q_w35 : List Cond := Cond.code q_y35 q_c35 1 none :: x_Ts
def q_y36 : MethodName := ⟨"ProofDesk$Uses", "allow", "(LProofDesk$Form;)Z"⟩
abbrev q_c36 : ByteArray := prog_9_method_2_code
abbrev q_w36 : List Cond := Cond.code q_y36 q_c36 2 (some .boolean) :: x_Ts
def q_y37 : MethodName := ⟨"ProofDesk$Uses", "keep", "(LProofDesk$Form;)V"⟩
abbrev q_c37 : ByteArray := prog_9_method_3_code
abbrev q_w37 : List Cond := Cond.code q_y37 q_c37 2 none :: x_Ts
def q_y38 : MethodName := ⟨"ProofDesk$Uses", "enter", "(LProofDesk$Form;[I)Z"⟩
abbrev q_c38 : ByteArray := prog_9_method_4_code
abbrev q_w38 : List Cond := Cond.code q_y38 q_c38 8 (some .boolean) :: x_Ts
def q_y39 : MethodName := ⟨"ProofDesk$Graph", "<init>", "()V"⟩
abbrev q_c39 : ByteArray := prog_6_method_1_code
abbrev q_w39 : List Cond := Cond.code q_y39 q_c39 1 none :: x_Ts
def q_y40 : MethodName := ⟨"ProofDesk$Graph", "load", "(LProofDesk$Form;)V"⟩
abbrev q_c40 : ByteArray := prog_6_method_2_code
abbrev q_w40 : List Cond := Cond.code q_y40 q_c40 2 none :: x_Ts
def q_y41 : MethodName := ⟨"ProofDesk$Graph", "append", "(LProofDesk$Form;I)V"⟩
abbrev q_c41 : ByteArray := prog_6_method_3_code
abbrev q_w41 : List Cond := Cond.code q_y41 q_c41 6 none :: x_Ts
def q_y42 : MethodName := ⟨"ProofDesk$Graph", "findEnds", "()V"⟩
abbrev q_c42 : ByteArray := prog_6_method_4_code
abbrev q_w42 : List Cond := Cond.code q_y42 q_c42 5 none :: x_Ts
def q_y43 : MethodName := ⟨"ProofDesk$Graph", "end", "(I)I"⟩
abbrev q_c43 : ByteArray := prog_6_method_5_code
abbrev q_w43 : List Cond := Cond.code q_y43 q_c43 2 (some .int) :: x_Ts
def q_y44 : MethodName := ⟨"ProofDesk$Graph", "unify", "(II)Z"⟩
abbrev q_c44 : ByteArray := prog_6_method_6_code
abbrev q_w44 : List Cond := Cond.code q_y44 q_c44 6 (some .boolean) :: x_Ts
def q_y45 : MethodName := ⟨"ProofDesk$Graph", "join", "(II)V"⟩
abbrev q_c45 : ByteArray := prog_6_method_7_code
abbrev q_w45 : List Cond := Cond.code q_y45 q_c45 3 none :: x_Ts
def q_y46 : MethodName := ⟨"ProofDesk$Graph", "joinTerms", "(II)V"⟩
abbrev q_c46 : ByteArray := prog_6_method_8_code
abbrev q_w46 : List Cond := Cond.code q_y46 q_c46 7 none :: x_Ts
def q_y47 : MethodName := ⟨"ProofDesk$Graph", "findRoot", "(I)I"⟩
abbrev q_c47 : ByteArray := prog_6_method_9_code
abbrev q_w47 : List Cond := Cond.code q_y47 q_c47 4 (some .int) :: x_Ts
def q_y48 : MethodName := ⟨"ProofDesk$Graph", "areAllFinite", "()Z"⟩
abbrev q_c48 : ByteArray := prog_6_method_10_code
abbrev q_w48 : List Cond := Cond.code q_y48 q_c48 5 (some .boolean) :: x_Ts
def q_y49 : MethodName := ⟨"ProofDesk$Graph", "areTermsFinite", "(I)Z"⟩
abbrev q_c49 : ByteArray := prog_6_method_11_code
abbrev q_w49 : List Cond := Cond.code q_y49 q_c49 5 (some .boolean) :: x_Ts
def q_y50 : MethodName := ⟨"ProofDesk$Graph", "copy", "(IILProofDesk$Form;)Z"⟩
abbrev q_c50 : ByteArray := prog_6_method_12_code
abbrev q_w50 : List Cond := Cond.code q_y50 q_c50 6 (some .boolean) :: x_Ts
def q_y51 : MethodName := ⟨"ProofDesk$Graph", "copyTerm", "(ILProofDesk$Form;)Z"⟩
abbrev q_c51 : ByteArray := prog_6_method_13_code
abbrev q_w51 : List Cond := Cond.code q_y51 q_c51 9 (some .boolean) :: x_Ts
def q_y52 : MethodName := ⟨"ProofDesk$Matcher", "<init>", "()V"⟩
abbrev q_c52 : ByteArray := prog_7_method_1_code
abbrev q_w52 : List Cond := Cond.code q_y52 q_c52 1 none :: x_Ts
def q_y53 : MethodName := ⟨"ProofDesk$Matcher", "canSpecialise", "(LProofDesk$Form;LProofDesk$Form;)Z"⟩
abbrev q_c53 : ByteArray := prog_7_method_2_code
abbrev q_w53 : List Cond := Cond.code q_y53 q_c53 3 (some .boolean) :: x_Ts
def q_y54 : MethodName := ⟨"ProofDesk$Matcher", "matchFrom", "(LProofDesk$Form;ILProofDesk$Form;)Z"⟩
abbrev q_c54 : ByteArray := prog_7_method_3_code
abbrev q_w54 : List Cond := Cond.code q_y54 q_c54 6 (some .boolean) :: x_Ts
def q_y55 : MethodName := ⟨"ProofDesk$Matcher", "matchLiteral", "(LProofDesk$Form;ILProofDesk$Form;I)Z"⟩
abbrev q_c55 : ByteArray := prog_7_method_4_code
abbrev q_w55 : List Cond := Cond.code q_y55 q_c55 11 (some .boolean) :: x_Ts
def q_y56 : MethodName := ⟨"ProofDesk$Matcher", "bind", "(ILProofDesk$Form;II)Z"⟩
abbrev q_c56 : ByteArray := prog_7_method_5_code
abbrev q_w56 : List Cond := Cond.code q_y56 q_c56 5 (some .boolean) :: x_Ts
def q_y57 : MethodName := ⟨"ProofDesk$Matcher", "release", "(I)V"⟩
abbrev q_c57 : ByteArray := prog_7_method_6_code
abbrev q_w57 : List Cond := Cond.code q_y57 q_c57 2 none :: x_Ts
def q_y58 : MethodName := ⟨"ProofDesk$Deduction", "<init>", "()V"⟩
abbrev q_c58 : ByteArray := prog_3_method_1_code
abbrev q_w58 : List Cond := Cond.code q_y58 q_c58 1 none :: x_Ts
def q_y59 : MethodName := ⟨"ProofDesk$Deduction", "apply", "(ILProofDesk$Form;ILProofDesk$Form;II)I"⟩
abbrev q_c59 : ByteArray := prog_3_method_2_code
abbrev q_w59 : List Cond := Cond.code q_y59 q_c59 9 (some .int) :: x_Ts
def q_y60 : MethodName := ⟨"ProofDesk$Deduction", "choose", "(ILProofDesk$Form;ILProofDesk$Form;II)Z"⟩
abbrev q_c60 : ByteArray := prog_3_method_3_code
abbrev q_w60 : List Cond := Cond.code q_y60 q_c60 7 (some .boolean) :: x_Ts
def q_y61 : MethodName := ⟨"ProofDesk$Deduction", "chooseResolution", "(LProofDesk$Form;ILProofDesk$Form;I)Z"⟩
abbrev q_c61 : ByteArray := prog_3_method_4_code
abbrev q_w61 : List Cond := Cond.code q_y61 q_c61 5 (some .boolean) :: x_Ts
def q_y62 : MethodName := ⟨"ProofDesk$Deduction", "chooseFactoring", "(LProofDesk$Form;II)Z"⟩
abbrev q_c62 : ByteArray := prog_3_method_5_code
abbrev q_w62 : List Cond := Cond.code q_y62 q_c62 4 (some .boolean) :: x_Ts
def q_y63 : MethodName := ⟨"ProofDesk$Deduction", "chooseReflection", "(LProofDesk$Form;I)Z"⟩
abbrev q_c63 : ByteArray := prog_3_method_6_code
abbrev q_w63 : List Cond := Cond.code q_y63 q_c63 3 (some .boolean) :: x_Ts
def q_y64 : MethodName := ⟨"ProofDesk$Deduction", "chooseRewriting", "(LProofDesk$Form;ILProofDesk$Form;II)Z"⟩
abbrev q_c64 : ByteArray := prog_3_method_7_code
abbrev q_w64 : List Cond := Cond.code q_y64 q_c64 8 (some .boolean) :: x_Ts
def q_y65 : MethodName := ⟨"ProofDesk$Deduction", "copyLiterals", "(LProofDesk$Form;I)Z"⟩
abbrev q_c65 : ByteArray := prog_3_method_8_code
abbrev q_w65 : List Cond := Cond.code q_y65 q_c65 5 (some .boolean) :: x_Ts
def q_y66 : MethodName := ⟨"ProofDesk$Deduction", "copyAtom", "(II)Z"⟩
abbrev q_c66 : ByteArray := prog_3_method_9_code
abbrev q_w66 : List Cond := Cond.code q_y66 q_c66 3 (some .boolean) :: x_Ts
def q_y67 : MethodName := ⟨"ProofDesk", "<init>", "()V"⟩
abbrev q_c67 : ByteArray := prog_1_method_1_code
abbrev q_w67 : List Cond := Cond.code q_y67 q_c67 1 none :: x_Ts
def q_y68 : MethodName := ⟨"ProofDesk", "write", "(C)Z"⟩
abbrev q_c68 : ByteArray := prog_1_method_2_code
abbrev q_w68 : List Cond := Cond.code q_y68 q_c68 2 (some .boolean) :: x_Ts
def q_y69 : MethodName := ⟨"ProofDesk", "given", "()I"⟩
abbrev q_c69 : ByteArray := prog_1_method_3_code
abbrev q_w69 : List Cond := Cond.code q_y69 q_c69 1 (some .int) :: x_Ts
def q_y70 : MethodName := ⟨"ProofDesk", "step", "(IIIIII)I"⟩
abbrev q_c70 : ByteArray := prog_1_method_4_code
abbrev q_w70 : List Cond := Cond.code q_y70 q_c70 7 (some .int) :: x_Ts
def q_y71 : MethodName := ⟨"ProofDesk", "fault", "()I"⟩
abbrev q_c71 : ByteArray := prog_1_method_5_code
abbrev q_w71 : List Cond := Cond.code q_y71 q_c71 1 (some .int) :: x_Ts
def q_y72 : MethodName := ⟨"ProofDesk", "clauses", "()I"⟩
abbrev q_c72 : ByteArray := prog_1_method_6_code
abbrev q_w72 : List Cond := Cond.code q_y72 q_c72 1 (some .int) :: x_Ts
def q_y73 : MethodName := ⟨"ProofDesk", "literals", "(I)I"⟩
abbrev q_c73 : ByteArray := prog_1_method_7_code
abbrev q_w73 : List Cond := Cond.code q_y73 q_c73 3 (some .int) :: x_Ts
def q_y74 : MethodName := ⟨"ProofDesk", "size", "(I)I"⟩
abbrev q_c74 : ByteArray := prog_1_method_8_code
abbrev q_w74 : List Cond := Cond.code q_y74 q_c74 3 (some .int) :: x_Ts
def q_y75 : MethodName := ⟨"ProofDesk", "letter", "(II)I"⟩
abbrev q_c75 : ByteArray := prog_1_method_9_code
abbrev q_w75 : List Cond := Cond.code q_y75 q_c75 4 (some .int) :: x_Ts
def q_y76 : MethodName := ⟨"ProofDesk", "depth", "(I)I"⟩
abbrev q_c76 : ByteArray := prog_1_method_10_code
abbrev q_w76 : List Cond := Cond.code q_y76 q_c76 3 (some .int) :: x_Ts
def q_y77 : MethodName := ⟨"ProofDesk", "needs", "(II)Z"⟩
abbrev q_c77 : ByteArray := prog_1_method_11_code
abbrev q_w77 : List Cond := Cond.code q_y77 q_c77 4 (some .boolean) :: x_Ts
def q_y78 : MethodName := ⟨"ProofDesk", "refuted", "()I"⟩
abbrev q_c78 : ByteArray := prog_1_method_12_code
abbrev q_w78 : List Cond := Cond.code q_y78 q_c78 3 (some .int) :: x_Ts
def q_y79 : MethodName := ⟨"ProofDesk", "trivial", "(I)Z"⟩
abbrev q_c79 : ByteArray := prog_1_method_13_code
abbrev q_w79 : List Cond := Cond.code q_y79 q_c79 3 (some .boolean) :: x_Ts
def q_y80 : MethodName := ⟨"ProofDesk", "draft", "()I"⟩
abbrev q_c80 : ByteArray := prog_1_method_14_code
abbrev q_w80 : List Cond := Cond.code q_y80 q_c80 1 (some .int) :: x_Ts
def q_y81 : MethodName := ⟨"ProofDesk", "clauseAt", "(I)LProofDesk$Clause;"⟩
abbrev q_c81 : ByteArray := prog_1_method_15_code
abbrev q_w81 : List Cond := Cond.code q_y81 q_c81 2 (some (.object "ProofDesk$Clause")) :: x_Ts
def q_y82 : MethodName := ⟨"ProofDesk", "takeDraft", "()V"⟩
abbrev q_c82 : ByteArray := prog_1_method_16_code
abbrev q_w82 : List Cond := Cond.code q_y82 q_c82 1 none :: x_Ts
def q_y83 : MethodName := ⟨"ProofDesk", "attempt", "(IIIIII)I"⟩
abbrev q_c83 : ByteArray := prog_1_method_17_code
abbrev q_w83 : List Cond := Cond.code q_y83 q_c83 11 (some .int) :: x_Ts
def q_y84 : MethodName := ⟨"ProofDesk", "isClaimRight", "(ILProofDesk$Form;)Z"⟩
abbrev q_c84 : ByteArray := prog_1_method_18_code
abbrev q_w84 : List Cond := Cond.code q_y84 q_c84 3 (some .boolean) :: x_Ts
def q_y85 : MethodName := ⟨"ProofDesk", "hasTwoParents", "(I)Z"⟩
abbrev q_c85 : ByteArray := prog_1_method_19_code
abbrev q_w85 : List Cond := Cond.code q_y85 q_c85 1 (some .boolean) :: x_Ts
def q_y86 : MethodName := ⟨"ProofDesk", "isThere", "(ILProofDesk$Form;ILProofDesk$Form;II)Z"⟩
abbrev q_c86 : ByteArray := prog_1_method_20_code
abbrev q_w86 : List Cond := Cond.code q_y86 q_c86 7 (some .boolean) :: x_Ts
def q_y87 : MethodName := ⟨"ProofDesk", "placeOf", "(I)I"⟩
abbrev q_c87 : ByteArray := prog_1_method_21_code
abbrev q_w87 : List Cond := Cond.code q_y87 q_c87 1 (some .int) :: x_Ts
def q_y88 : MethodName := ⟨"ProofDesk", "addClause", "(LProofDesk$Form;II)V"⟩
abbrev q_c88 : ByteArray := prog_1_method_22_code
abbrev q_w88 : List Cond := Cond.code q_y88 q_c88 4 none :: x_Ts
def q_y89 : MethodName := ⟨"ProofDesk", "textOf", "(LProofDesk$Form;)Ljava/lang/String;"⟩
abbrev q_c89 : ByteArray := prog_1_method_23_code
abbrev q_w89 : List Cond := Cond.code q_y89 q_c89 4 (some (.object "java/lang/String")) :: x_Ts
def q_y90 : MethodName := ⟨"ProofDesk", "appendTerm", "(Ljava/lang/StringBuilder;LProofDesk$Form;II)I"⟩
abbrev q_c90 : ByteArray := prog_1_method_24_code
abbrev q_w90 : List Cond := Cond.code q_y90 q_c90 8 (some .int) :: x_Ts
def q_y91 : MethodName := ⟨"ProofDeskModel", "<init>", "()V"⟩
abbrev q_c91 : ByteArray := prog_11_method_1_code
abbrev q_w91 : List Cond := Cond.code q_y91 q_c91 1 none :: x_Ts
def q_y92 : MethodName := ⟨"ProofDeskModel", "thrown", "()I"⟩
abbrev q_c92 : ByteArray := prog_11_method_2_code
abbrev q_w92 : List Cond := Cond.code q_y92 q_c92 1 (some .int) :: x_Ts
def q_y93 : MethodName := ⟨"ProofDeskModel", "fails", "(II)I"⟩
abbrev q_c93 : ByteArray := prog_11_method_3_code
abbrev q_w93 : List Cond := Cond.code q_y93 q_c93 3 (some .int) :: x_Ts
def q_y94 : MethodName := ⟨"ProofDeskModel", "write", "(C)Z"⟩
abbrev q_c94 : ByteArray := prog_11_method_4_code
abbrev q_w94 : List Cond := Cond.code q_y94 q_c94 2 (some .boolean) :: x_Ts
def q_y95 : MethodName := ⟨"ProofDeskModel", "here", "()C"⟩
abbrev q_c95 : ByteArray := prog_11_method_5_code
abbrev q_w95 : List Cond := Cond.code q_y95 q_c95 1 (some .char) :: x_Ts
def q_y96 : MethodName := ⟨"ProofDeskModel", "sees", "(C)Z"⟩
abbrev q_c96 : ByteArray := prog_11_method_6_code
abbrev q_w96 : List Cond := Cond.code q_y96 q_c96 3 (some .boolean) :: x_Ts
def q_y97 : MethodName := ⟨"ProofDeskModel", "isSmall", "(C)Z"⟩
abbrev q_c97 : ByteArray := prog_11_method_7_code
abbrev q_w97 : List Cond := Cond.code q_y97 q_c97 1 (some .boolean) :: x_Ts
def q_y98 : MethodName := ⟨"ProofDeskModel", "put", "(I)V"⟩
abbrev q_c98 : ByteArray := prog_11_method_8_code
abbrev q_w98 : List Cond := Cond.code q_y98 q_c98 2 none :: x_Ts
def q_y99 : MethodName := ⟨"ProofDeskModel", "uses", "(II)V"⟩
abbrev q_c99 : ByteArray := prog_11_method_9_code
abbrev q_w99 : List Cond := Cond.code q_y99 q_c99 3 none :: x_Ts
def q_y100 : MethodName := ⟨"ProofDeskModel", "term", "()V"⟩
abbrev q_c100 : ByteArray := prog_11_method_10_code
abbrev q_w100 : List Cond := Cond.code q_y100 q_c100 5 none :: x_Ts
def q_y101 : MethodName := ⟨"ProofDeskModel", "terms", "(I)I"⟩
abbrev q_c101 : ByteArray := prog_11_method_11_code
abbrev q_w101 : List Cond := Cond.code q_y101 q_c101 1 (some .int) :: x_Ts
def q_y102 : MethodName := ⟨"ProofDeskModel", "note", "(IIZ)V"⟩
abbrev q_c102 : ByteArray := prog_11_method_12_code
abbrev q_w102 : List Cond := Cond.code q_y102 q_c102 5 none :: x_Ts
def q_y103 : MethodName := ⟨"ProofDeskModel", "literal", "()V"⟩
abbrev q_c103 : ByteArray := prog_11_method_13_code
abbrev q_w103 : List Cond := Cond.code q_y103 q_c103 4 none :: x_Ts
def q_y104 : MethodName := ⟨"ProofDeskModel", "isTwice", "(I)Z"⟩
abbrev q_c104 : ByteArray := prog_11_method_14_code
abbrev q_w104 : List Cond := Cond.code q_y104 q_c104 6 (some .boolean) :: x_Ts
def q_y105 : MethodName := ⟨"ProofDeskModel", "read", "()I"⟩
abbrev q_c105 : ByteArray := prog_11_method_15_code
abbrev q_w105 : List Cond := Cond.code q_y105 q_c105 3 (some .int) :: x_Ts
def q_y106 : MethodName := ⟨"ProofDeskModel", "rename", "()V"⟩
abbrev q_c106 : ByteArray := prog_11_method_16_code
abbrev q_w106 : List Cond := Cond.code q_y106 q_c106 3 none :: x_Ts
def q_y107 : MethodName := ⟨"ProofDeskModel", "add", "(ZII)I"⟩
abbrev q_c107 : ByteArray := prog_11_method_17_code
abbrev q_w107 : List Cond := Cond.code q_y107 q_c107 6 (some .int) :: x_Ts
def q_y108 : MethodName := ⟨"ProofDeskModel", "given", "()I"⟩
abbrev q_c108 : ByteArray := prog_11_method_18_code
abbrev q_w108 : List Cond := Cond.code q_y108 q_c108 3 (some .int) :: x_Ts
def q_y109 : MethodName := ⟨"ProofDeskModel", "behind", "(I)I"⟩
abbrev q_c109 : ByteArray := prog_11_method_19_code
abbrev q_w109 : List Cond := Cond.code q_y109 q_c109 4 (some .int) :: x_Ts
def q_y110 : MethodName := ⟨"ProofDeskModel", "lay", "(III)V"⟩
abbrev q_c110 : ByteArray := prog_11_method_20_code
abbrev q_w110 : List Cond := Cond.code q_y110 q_c110 7 none :: x_Ts
def q_y111 : MethodName := ⟨"ProofDeskModel", "led", "(I)I"⟩
abbrev q_c111 : ByteArray := prog_11_method_21_code
abbrev q_w111 : List Cond := Cond.code q_y111 q_c111 3 (some .int) :: x_Ts
def q_y112 : MethodName := ⟨"ProofDeskModel", "occurs", "(II)Z"⟩
abbrev q_c112 : ByteArray := prog_11_method_22_code
abbrev q_w112 : List Cond := Cond.code q_y112 q_c112 6 (some .boolean) :: x_Ts
def q_y113 : MethodName := ⟨"ProofDeskModel", "unify", "(II)Z"⟩
abbrev q_c113 : ByteArray := prog_11_method_23_code
abbrev q_w113 : List Cond := Cond.code q_y113 q_c113 11 (some .boolean) :: x_Ts
def q_y114 : MethodName := ⟨"ProofDeskModel", "spread", "(II)V"⟩
abbrev q_c114 : ByteArray := prog_11_method_24_code
abbrev q_w114 : List Cond := Cond.code q_y114 q_c114 6 none :: x_Ts
def q_y115 : MethodName := ⟨"ProofDeskModel", "beginLiteral", "(Z)V"⟩
abbrev q_c115 : ByteArray := prog_11_method_25_code
abbrev q_w115 : List Cond := Cond.code q_y115 q_c115 2 none :: x_Ts
def q_y116 : MethodName := ⟨"ProofDeskModel", "endLiteral", "()V"⟩
abbrev q_c116 : ByteArray := prog_11_method_26_code
abbrev q_w116 : List Cond := Cond.code q_y116 q_c116 1 none :: x_Ts
def q_y117 : MethodName := ⟨"ProofDeskModel", "others", "(III)V"⟩
abbrev q_c117 : ByteArray := prog_11_method_27_code
abbrev q_w117 : List Cond := Cond.code q_y117 q_c117 5 none :: x_Ts
def q_y118 : MethodName := ⟨"ProofDeskModel", "termAt", "(III)I"⟩
abbrev q_c118 : ByteArray := prog_11_method_28_code
abbrev q_w118 : List Cond := Cond.code q_y118 q_c118 6 (some .int) :: x_Ts
def q_y119 : MethodName := ⟨"ProofDeskModel", "isLiteral", "(II)Z"⟩
abbrev q_c119 : ByteArray := prog_11_method_29_code
abbrev q_w119 : List Cond := Cond.code q_y119 q_c119 3 (some .boolean) :: x_Ts
def q_y120 : MethodName := ⟨"ProofDeskModel", "isThere", "(IIIIII)Z"⟩
abbrev q_c120 : ByteArray := prog_11_method_30_code
abbrev q_w120 : List Cond := Cond.code q_y120 q_c120 7 (some .boolean) :: x_Ts
def q_y121 : MethodName := ⟨"ProofDeskModel", "step", "(IIIIII)I"⟩
abbrev q_c121 : ByteArray := prog_11_method_31_code
abbrev q_w121 : List Cond := Cond.code q_y121 q_c121 14 (some .int) :: x_Ts
def q_y122 : MethodName := ⟨"ProofDeskModel", "keepClaim", "()V"⟩
abbrev q_c122 : ByteArray := prog_11_method_32_code
abbrev q_w122 : List Cond := Cond.code q_y122 q_c122 2 none :: x_Ts
def q_y123 : MethodName := ⟨"ProofDeskModel", "takeClaim", "()V"⟩
abbrev q_c123 : ByteArray := prog_11_method_33_code
abbrev q_w123 : List Cond := Cond.code q_y123 q_c123 2 none :: x_Ts
def q_y124 : MethodName := ⟨"ProofDeskModel", "isClaim", "()Z"⟩
abbrev q_c124 : ByteArray := prog_11_method_34_code
abbrev q_w124 : List Cond := Cond.code q_y124 q_c124 3 (some .boolean) :: x_Ts
def q_y125 : MethodName := ⟨"ProofDeskModel", "made", "(IIIIII)I"⟩
abbrev q_c125 : ByteArray := prog_11_method_35_code
abbrev q_w125 : List Cond := Cond.code q_y125 q_c125 20 (some .int) :: x_Ts
def q_y126 : MethodName := ⟨"ProofDeskModel", "length", "(II)I"⟩
abbrev q_c126 : ByteArray := prog_11_method_36_code
abbrev q_w126 : List Cond := Cond.code q_y126 q_c126 3 (some .int) :: x_Ts
def q_y127 : MethodName := ⟨"ProofDeskModel", "rewritten", "(IIII)V"⟩
abbrev q_c127 : ByteArray := prog_11_method_37_code
abbrev q_w127 : List Cond := Cond.code q_y127 q_c127 8 none :: x_Ts
def q_y128 : MethodName := ⟨"ProofDeskModel", "matches", "(II)Z"⟩
abbrev q_c128 : ByteArray := prog_11_method_38_code
abbrev q_w128 : List Cond := Cond.code q_y128 q_c128 8 (some .boolean) :: x_Ts
def q_y129 : MethodName := ⟨"ProofDeskModel", "isSame", "(II)Z"⟩
abbrev q_c129 : ByteArray := prog_11_method_39_code
abbrev q_w129 : List Cond := Cond.code q_y129 q_c129 6 (some .boolean) :: x_Ts
def q_y130 : MethodName := ⟨"ProofDeskModel", "special", "(I)Z"⟩
abbrev q_c130 : ByteArray := prog_11_method_40_code
abbrev q_w130 : List Cond := Cond.code q_y130 q_c130 6 (some .boolean) :: x_Ts
def q_y131 : MethodName := ⟨"ProofDeskModel", "fitted", "(II)I"⟩
abbrev q_c131 : ByteArray := prog_11_method_41_code
abbrev q_w131 : List Cond := Cond.code q_y131 q_c131 5 (some .int) :: x_Ts
def q_y132 : MethodName := ⟨"ProofDeskModel", "fault", "()I"⟩
abbrev q_c132 : ByteArray := prog_11_method_42_code
abbrev q_w132 : List Cond := Cond.code q_y132 q_c132 1 (some .int) :: x_Ts
def q_y133 : MethodName := ⟨"ProofDeskModel", "clauses", "()I"⟩
abbrev q_c133 : ByteArray := prog_11_method_43_code
abbrev q_w133 : List Cond := Cond.code q_y133 q_c133 1 (some .int) :: x_Ts
def q_y134 : MethodName := ⟨"ProofDeskModel", "isClause", "(I)Z"⟩
abbrev q_c134 : ByteArray := prog_11_method_44_code
abbrev q_w134 : List Cond := Cond.code q_y134 q_c134 2 (some .boolean) :: x_Ts
def q_y135 : MethodName := ⟨"ProofDeskModel", "literals", "(I)I"⟩
abbrev q_c135 : ByteArray := prog_11_method_45_code
abbrev q_w135 : List Cond := Cond.code q_y135 q_c135 2 (some .int) :: x_Ts
def q_y136 : MethodName := ⟨"ProofDeskModel", "size", "(I)I"⟩
abbrev q_c136 : ByteArray := prog_11_method_46_code
abbrev q_w136 : List Cond := Cond.code q_y136 q_c136 2 (some .int) :: x_Ts
def q_y137 : MethodName := ⟨"ProofDeskModel", "tell", "(I)V"⟩
abbrev q_c137 : ByteArray := prog_11_method_47_code
abbrev q_w137 : List Cond := Cond.code q_y137 q_c137 2 none :: x_Ts
def q_y138 : MethodName := ⟨"ProofDeskModel", "tellTerm", "(II)V"⟩
abbrev q_c138 : ByteArray := prog_11_method_48_code
abbrev q_w138 : List Cond := Cond.code q_y138 q_c138 7 none :: x_Ts
def q_y139 : MethodName := ⟨"ProofDeskModel", "endOf", "(I)I"⟩
abbrev q_c139 : ByteArray := prog_11_method_49_code
abbrev q_w139 : List Cond := Cond.code q_y139 q_c139 4 (some .int) :: x_Ts
def q_y140 : MethodName := ⟨"ProofDeskModel", "letter", "(II)I"⟩
abbrev q_c140 : ByteArray := prog_11_method_50_code
abbrev q_w140 : List Cond := Cond.code q_y140 q_c140 7 (some .int) :: x_Ts
def q_y141 : MethodName := ⟨"ProofDeskModel", "depth", "(I)I"⟩
abbrev q_c141 : ByteArray := prog_11_method_51_code
abbrev q_w141 : List Cond := Cond.code q_y141 q_c141 2 (some .int) :: x_Ts
def q_y142 : MethodName := ⟨"ProofDeskModel", "needs", "(II)Z"⟩
abbrev q_c142 : ByteArray := prog_11_method_52_code
abbrev q_w142 : List Cond := Cond.code q_y142 q_c142 3 (some .boolean) :: x_Ts
def q_y143 : MethodName := ⟨"ProofDeskModel", "refuted", "()I"⟩
abbrev q_c143 : ByteArray := prog_11_method_53_code
abbrev q_w143 : List Cond := Cond.code q_y143 q_c143 2 (some .int) :: x_Ts
def q_y144 : MethodName := ⟨"ProofDeskModel", "trivial", "(I)Z"⟩
abbrev q_c144 : ByteArray := prog_11_method_54_code
abbrev q_w144 : List Cond := Cond.code q_y144 q_c144 7 (some .boolean) :: x_Ts
def q_y145 : MethodName := ⟨"ProofDeskModel", "draft", "()I"⟩
abbrev q_c145 : ByteArray := prog_11_method_55_code
abbrev q_w145 : List Cond := Cond.code q_y145 q_c145 1 (some .int) :: x_Ts
def q_y146 : MethodName := ⟨"ProofDeskLaw", "given", "(LProofDesk;[J)I"⟩
abbrev q_c146 : ByteArray := method_3_code
abbrev q_w146 : List Cond := Cond.codeWith q_y146 q_c146 3 (some .int) [(0, 8, 11, 13), (0, 8, 14, 15)] :: x_Ts
def q_y147 : MethodName := ⟨"ProofDeskLaw", "step", "(LProofDesk;IIIIII[J)I"⟩
abbrev q_c147 : ByteArray := method_4_code
abbrev q_w147 : List Cond := Cond.codeWith q_y147 q_c147 9 (some .int) [(0, 18, 21, 15), (0, 18, 25, 21), (0, 18, 29, 13), (0, 18, 33, 23)] :: x_Ts
def q_y148 : MethodName := ⟨"java/util/Arrays", "fill", "([II)V"⟩
abbrev q_c148 : ByteArray := prog_26_method_103_code
abbrev q_w148 : List Cond := Cond.code q_y148 q_c148 4 none :: x_Ts
def q_y149 : MethodName := ⟨"java/util/Arrays", "copyOf", "([II)[I"⟩
abbrev q_c149 : ByteArray := prog_26_method_123_code
abbrev q_w149 : List Cond := Cond.code q_y149 q_c149 3 (some (.array .int)) :: x_Ts
def q_y150 : MethodName := ⟨"java/lang/String", "length", "()I"⟩
abbrev q_c150 : ByteArray := prog_19_method_54_code
abbrev q_w150 : List Cond := Cond.code q_y150 q_c150 1 (some .int) :: x_Ts
def q_y151 : MethodName := ⟨"java/lang/String", "coder", "()B"⟩
abbrev q_c151 : ByteArray := prog_19_method_152_code
abbrev q_w151 : List Cond := Cond.code q_y151 q_c151 1 (some .byte) :: x_Ts
def q_y152 : MethodName := ⟨"java/lang/String", "charAt", "(I)C"⟩
abbrev q_c152 : ByteArray := prog_19_method_56_code
abbrev q_w152 : List Cond := Cond.code q_y152 q_c152 2 (some .char) :: x_Ts
def q_y153 : MethodName := ⟨"java/lang/String", "isLatin1", "()Z"⟩
abbrev q_c153 : ByteArray := prog_19_method_154_code
abbrev q_w153 : List Cond := Cond.code q_y153 q_c153 1 (some .boolean) :: x_Ts
def q_y154 : MethodName := ⟨"java/lang/StringLatin1", "charAt", "([BI)C"⟩
abbrev q_c154 : ByteArray := prog_21_method_2_code
abbrev q_w154 : List Cond := Cond.code q_y154 q_c154 2 (some .char) :: x_Ts
def q_y155 : MethodName := ⟨"java/lang/String", "checkIndex", "(II)V"⟩
abbrev q_c155 : ByteArray := prog_19_method_155_code
abbrev q_w155 : List Cond := Cond.code q_y155 q_c155 2 none :: x_Ts
def q_y156 : MethodName := ⟨"jdk/internal/util/Preconditions", "checkIndex", "(IILjava/util/function/BiFunction;)I"⟩
abbrev q_c156 : ByteArray := prog_29_method_11_code
abbrev q_w156 : List Cond := Cond.code q_y156 q_c156 3 (some .int) :: x_Ts
def q_y157 : MethodName := ⟨"java/lang/StringBuilder", "<init>", "()V"⟩
abbrev q_c157 : ByteArray := prog_20_method_1_code
abbrev q_w157 : List Cond := Cond.code q_y157 q_c157 1 none :: x_Ts
def q_y158 : MethodName := ⟨"java/lang/AbstractStringBuilder", "<init>", "(I)V"⟩
abbrev q_c158 : ByteArray := prog_12_method_2_code
abbrev q_w158 : List Cond := Cond.code q_y158 q_c158 2 none :: x_Ts
def q_y159 : MethodName := ⟨"java/lang/StringBuilder", "append", "(C)Ljava/lang/StringBuilder;"⟩
abbrev q_c159 : ByteArray := prog_20_method_14_code
abbrev q_w159 : List Cond := Cond.code q_y159 q_c159 2 (some (.object "java/lang/StringBuilder")) :: x_Ts
def q_y160 : MethodName := ⟨"java/lang/AbstractStringBuilder", "append", "(C)Ljava/lang/AbstractStringBuilder;"⟩
abbrev q_c160 : ByteArray := prog_12_method_31_code
abbrev q_w160 : List Cond := Cond.code q_y160 q_c160 2 (some (.object "java/lang/AbstractStringBuilder")) :: x_Ts
def q_y161 : MethodName := ⟨"java/lang/AbstractStringBuilder", "ensureCapacityInternal", "(I)V"⟩
abbrev q_c161 : ByteArray := prog_12_method_9_code
abbrev q_w161 : List Cond := Cond.code q_y161 q_c161 3 none :: x_Ts
def q_y162 : MethodName := ⟨"java/lang/AbstractStringBuilder", "newCapacity", "(I)I"⟩
abbrev q_c162 : ByteArray := prog_12_method_10_code
abbrev q_w162 : List Cond := Cond.code q_y162 q_c162 6 (some .int) :: x_Ts
def q_y163 : MethodName := ⟨"jdk/internal/util/ArraysSupport", "newLength", "(III)I"⟩
abbrev q_c163 : ByteArray := prog_28_method_27_code
abbrev q_w163 : List Cond := Cond.code q_y163 q_c163 4 (some .int) :: x_Ts
def q_y164 : MethodName := ⟨"java/util/Arrays", "copyOf", "([BI)[B"⟩
abbrev q_c164 : ByteArray := prog_26_method_121_code
abbrev q_w164 : List Cond := Cond.code q_y164 q_c164 3 (some (.array .byte)) :: x_Ts
def q_y165 : MethodName := ⟨"java/lang/AbstractStringBuilder", "isLatin1", "()Z"⟩
abbrev q_c165 : ByteArray := prog_12_method_68_code
abbrev q_w165 : List Cond := Cond.code q_y165 q_c165 1 (some .boolean) :: x_Ts
def q_y166 : MethodName := ⟨"java/lang/StringLatin1", "canEncode", "(C)Z"⟩
abbrev q_c166 : ByteArray := prog_21_method_3_code
abbrev q_w166 : List Cond := Cond.code q_y166 q_c166 1 (some .boolean) :: x_Ts
def q_y167 : MethodName := ⟨"java/lang/StringBuilder", "toString", "()Ljava/lang/String;"⟩
abbrev q_c167 : ByteArray := prog_20_method_42_code
abbrev q_w167 : List Cond := Cond.code q_y167 q_c167 1 (some (.object "java/lang/String")) :: x_Ts
def q_y168 : MethodName := ⟨"java/lang/String", "<init>", "(Ljava/lang/StringBuilder;)V"⟩
abbrev q_c168 : ByteArray := prog_19_method_53_code
abbrev q_w168 : List Cond := Cond.code q_y168 q_c168 2 none :: x_Ts
def q_y169 : MethodName := ⟨"java/lang/String", "<init>", "(Ljava/lang/AbstractStringBuilder;Ljava/lang/Void;)V"⟩
abbrev q_c169 : ByteArray := prog_19_method_150_code
abbrev q_w169 : List Cond := Cond.code q_y169 q_c169 5 none :: x_Ts
def q_y170 : MethodName := ⟨"java/lang/AbstractStringBuilder", "getValue", "()[B"⟩
abbrev q_c170 : ByteArray := prog_12_method_64_code
abbrev q_w170 : List Cond := Cond.code q_y170 q_c170 1 (some (.array .byte)) :: x_Ts
def q_y171 : MethodName := ⟨"java/lang/StringBuilder", "length", "()I"⟩
abbrev q_c171 : ByteArray := prog_20_method_93_code
abbrev q_w171 : List Cond := Cond.code q_y171 q_c171 1 (some .int) :: x_Ts
def q_y172 : MethodName := ⟨"java/lang/AbstractStringBuilder", "length", "()I"⟩
abbrev q_c172 : ByteArray := prog_12_method_6_code
abbrev q_w172 : List Cond := Cond.code q_y172 q_c172 1 (some .int) :: x_Ts
def q_y173 : MethodName := ⟨"java/util/Arrays", "copyOfRange", "([BII)[B"⟩
abbrev q_c173 : ByteArray := prog_26_method_132_code
abbrev q_w173 : List Cond := Cond.code q_y173 q_c173 3 (some (.array .byte)) :: x_Ts
def q_y174 : MethodName := ⟨"java/util/Arrays", "copyOfRangeByte", "([BII)[B"⟩
abbrev q_c174 : ByteArray := prog_26_method_133_code
abbrev q_w174 : List Cond := Cond.code q_y174 q_c174 5 (some (.array .byte)) :: x_Ts
def q_y175 : MethodName := ⟨"java/util/Arrays", "checkLength", "(II)V"⟩
abbrev q_c175 : ByteArray := prog_26_method_131_code
abbrev q_w175 : List Cond := Cond.code q_y175 q_c175 2 none :: x_Ts
def x_nm (M : Nat) : MethodName := match M with
  | 0 => q_y0
  | 1 => q_y1
  | 2 => q_y2
  | 3 => q_y3
  | 4 => q_y4
  | 5 => q_y5
  | 6 => q_y6
  | 7 => q_y7
  | 8 => q_y8
  | 9 => q_y9
  | 10 => q_y10
  | 11 => q_y11
  | 12 => q_y12
  | 13 => q_y13
  | 14 => q_y14
  | 15 => q_y15
  | 16 => q_y16
  | 17 => q_y17
  | 18 => q_y18
  | 19 => q_y19
  | 20 => q_y20
  | 21 => q_y21
  | 22 => q_y22
  | 23 => q_y23
  | 24 => q_y24
  | 25 => q_y25
  | 26 => q_y26
  | 27 => q_y27
  | 28 => q_y28
  | 29 => q_y29
  | 30 => q_y30
  | 31 => q_y31
  | 32 => q_y32
  | 33 => q_y33
  | 34 => q_y34
  | 35 => q_y35
  | 36 => q_y36
  | 37 => q_y37
  | 38 => q_y38
  | 39 => q_y39
  | 40 => q_y40
  | 41 => q_y41
  | 42 => q_y42
  | 43 => q_y43
  | 44 => q_y44
  | 45 => q_y45
  | 46 => q_y46
  | 47 => q_y47
  | 48 => q_y48
  | 49 => q_y49
  | 50 => q_y50
  | 51 => q_y51
  | 52 => q_y52
  | 53 => q_y53
  | 54 => q_y54
  | 55 => q_y55
  | 56 => q_y56
  | 57 => q_y57
  | 58 => q_y58
  | 59 => q_y59
  | 60 => q_y60
  | 61 => q_y61
  | 62 => q_y62
  | 63 => q_y63
  | 64 => q_y64
  | 65 => q_y65
  | 66 => q_y66
  | 67 => q_y67
  | 68 => q_y68
  | 69 => q_y69
  | 70 => q_y70
  | 71 => q_y71
  | 72 => q_y72
  | 73 => q_y73
  | 74 => q_y74
  | 75 => q_y75
  | 76 => q_y76
  | 77 => q_y77
  | 78 => q_y78
  | 79 => q_y79
  | 80 => q_y80
  | 81 => q_y81
  | 82 => q_y82
  | 83 => q_y83
  | 84 => q_y84
  | 85 => q_y85
  | 86 => q_y86
  | 87 => q_y87
  | 88 => q_y88
  | 89 => q_y89
  | 90 => q_y90
  | 91 => q_y91
  | 92 => q_y92
  | 93 => q_y93
  | 94 => q_y94
  | 95 => q_y95
  | 96 => q_y96
  | 97 => q_y97
  | 98 => q_y98
  | 99 => q_y99
  | 100 => q_y100
  | 101 => q_y101
  | 102 => q_y102
  | 103 => q_y103
  | 104 => q_y104
  | 105 => q_y105
  | 106 => q_y106
  | 107 => q_y107
  | 108 => q_y108
  | 109 => q_y109
  | 110 => q_y110
  | 111 => q_y111
  | 112 => q_y112
  | 113 => q_y113
  | 114 => q_y114
  | 115 => q_y115
  | 116 => q_y116
  | 117 => q_y117
  | 118 => q_y118
  | 119 => q_y119
  | 120 => q_y120
  | 121 => q_y121
  | 122 => q_y122
  | 123 => q_y123
  | 124 => q_y124
  | 125 => q_y125
  | 126 => q_y126
  | 127 => q_y127
  | 128 => q_y128
  | 129 => q_y129
  | 130 => q_y130
  | 131 => q_y131
  | 132 => q_y132
  | 133 => q_y133
  | 134 => q_y134
  | 135 => q_y135
  | 136 => q_y136
  | 137 => q_y137
  | 138 => q_y138
  | 139 => q_y139
  | 140 => q_y140
  | 141 => q_y141
  | 142 => q_y142
  | 143 => q_y143
  | 144 => q_y144
  | 145 => q_y145
  | 146 => q_y146
  | 147 => q_y147
  | 148 => q_y148
  | 149 => q_y149
  | 150 => q_y150
  | 151 => q_y151
  | 152 => q_y152
  | 153 => q_y153
  | 154 => q_y154
  | 155 => q_y155
  | 156 => q_y156
  | 157 => q_y157
  | 158 => q_y158
  | 159 => q_y159
  | 160 => q_y160
  | 161 => q_y161
  | 162 => q_y162
  | 163 => q_y163
  | 164 => q_y164
  | 165 => q_y165
  | 166 => q_y166
  | 167 => q_y167
  | 168 => q_y168
  | 169 => q_y169
  | 170 => q_y170
  | 171 => q_y171
  | 172 => q_y172
  | 173 => q_y173
  | 174 => q_y174
  | 175 => q_y175
  | _ => q_y0
def x_ws (M : Nat) : List Cond := match M with
  | 0 => q_w0
  | 1 => q_w1
  | 2 => q_w2
  | 3 => q_w3
  | 4 => q_w4
  | 5 => q_w5
  | 6 => q_w6
  | 7 => q_w7
  | 8 => q_w8
  | 9 => q_w9
  | 10 => q_w10
  | 11 => q_w11
  | 12 => q_w12
  | 13 => q_w13
  | 14 => q_w14
  | 15 => q_w15
  | 16 => q_w16
  | 17 => q_w17
  | 18 => q_w18
  | 19 => q_w19
  | 20 => q_w20
  | 21 => q_w21
  | 22 => q_w22
  | 23 => q_w23
  | 24 => q_w24
  | 25 => q_w25
  | 26 => q_w26
  | 27 => q_w27
  | 28 => q_w28
  | 29 => q_w29
  | 30 => q_w30
  | 31 => q_w31
  | 32 => q_w32
  | 33 => q_w33
  | 34 => q_w34
  | 35 => q_w35
  | 36 => q_w36
  | 37 => q_w37
  | 38 => q_w38
  | 39 => q_w39
  | 40 => q_w40
  | 41 => q_w41
  | 42 => q_w42
  | 43 => q_w43
  | 44 => q_w44
  | 45 => q_w45
  | 46 => q_w46
  | 47 => q_w47
  | 48 => q_w48
  | 49 => q_w49
  | 50 => q_w50
  | 51 => q_w51
  | 52 => q_w52
  | 53 => q_w53
  | 54 => q_w54
  | 55 => q_w55
  | 56 => q_w56
  | 57 => q_w57
  | 58 => q_w58
  | 59 => q_w59
  | 60 => q_w60
  | 61 => q_w61
  | 62 => q_w62
  | 63 => q_w63
  | 64 => q_w64
  | 65 => q_w65
  | 66 => q_w66
  | 67 => q_w67
  | 68 => q_w68
  | 69 => q_w69
  | 70 => q_w70
  | 71 => q_w71
  | 72 => q_w72
  | 73 => q_w73
  | 74 => q_w74
  | 75 => q_w75
  | 76 => q_w76
  | 77 => q_w77
  | 78 => q_w78
  | 79 => q_w79
  | 80 => q_w80
  | 81 => q_w81
  | 82 => q_w82
  | 83 => q_w83
  | 84 => q_w84
  | 85 => q_w85
  | 86 => q_w86
  | 87 => q_w87
  | 88 => q_w88
  | 89 => q_w89
  | 90 => q_w90
  | 91 => q_w91
  | 92 => q_w92
  | 93 => q_w93
  | 94 => q_w94
  | 95 => q_w95
  | 96 => q_w96
  | 97 => q_w97
  | 98 => q_w98
  | 99 => q_w99
  | 100 => q_w100
  | 101 => q_w101
  | 102 => q_w102
  | 103 => q_w103
  | 104 => q_w104
  | 105 => q_w105
  | 106 => q_w106
  | 107 => q_w107
  | 108 => q_w108
  | 109 => q_w109
  | 110 => q_w110
  | 111 => q_w111
  | 112 => q_w112
  | 113 => q_w113
  | 114 => q_w114
  | 115 => q_w115
  | 116 => q_w116
  | 117 => q_w117
  | 118 => q_w118
  | 119 => q_w119
  | 120 => q_w120
  | 121 => q_w121
  | 122 => q_w122
  | 123 => q_w123
  | 124 => q_w124
  | 125 => q_w125
  | 126 => q_w126
  | 127 => q_w127
  | 128 => q_w128
  | 129 => q_w129
  | 130 => q_w130
  | 131 => q_w131
  | 132 => q_w132
  | 133 => q_w133
  | 134 => q_w134
  | 135 => q_w135
  | 136 => q_w136
  | 137 => q_w137
  | 138 => q_w138
  | 139 => q_w139
  | 140 => q_w140
  | 141 => q_w141
  | 142 => q_w142
  | 143 => q_w143
  | 144 => q_w144
  | 145 => q_w145
  | 146 => q_w146
  | 147 => q_w147
  | 148 => q_w148
  | 149 => q_w149
  | 150 => q_w150
  | 151 => q_w151
  | 152 => q_w152
  | 153 => q_w153
  | 154 => q_w154
  | 155 => q_w155
  | 156 => q_w156
  | 157 => q_w157
  | 158 => q_w158
  | 159 => q_w159
  | 160 => q_w160
  | 161 => q_w161
  | 162 => q_w162
  | 163 => q_w163
  | 164 => q_w164
  | 165 => q_w165
  | 166 => q_w166
  | 167 => q_w167
  | 168 => q_w168
  | 169 => q_w169
  | 170 => q_w170
  | 171 => q_w171
  | 172 => q_w172
  | 173 => q_w173
  | 174 => q_w174
  | 175 => q_w175
  | _ => q_w0
def x_nw : List Cond := [Cond.arrayOver (.object "ProofDesk$Clause"), Cond.castable "[I" "java/lang/Cloneable", Cond.castable "[B" "java/lang/Cloneable", Cond.methodLinkNest "ProofDesk$Deduction" 25 ⟨"ProofDesk", "hasTwoParents", "(I)Z"⟩ "ProofDesk", Cond.methodLinkNest "ProofDesk$Deduction" 110 ⟨"ProofDesk", "placeOf", "(I)I"⟩ "ProofDesk"]
theorem x_nw0 : (Cond.arrayOver (.object "ProofDesk$Clause")) ∈ x_nw := List.mem_of_getElem? (i := 0) rfl
theorem x_nw1 : (Cond.castable "[I" "java/lang/Cloneable") ∈ x_nw := List.mem_of_getElem? (i := 1) rfl
theorem x_nw2 : (Cond.castable "[B" "java/lang/Cloneable") ∈ x_nw := List.mem_of_getElem? (i := 2) rfl
theorem x_nw3 : (Cond.methodLinkNest "ProofDesk$Deduction" 25 ⟨"ProofDesk", "hasTwoParents", "(I)Z"⟩ "ProofDesk") ∈ x_nw := List.mem_of_getElem? (i := 3) rfl
theorem x_nw4 : (Cond.methodLinkNest "ProofDesk$Deduction" 110 ⟨"ProofDesk", "placeOf", "(I)I"⟩ "ProofDesk") ∈ x_nw := List.mem_of_getElem? (i := 4) rfl
def x_K (s0 : State) : xK := (x_cl, x_tl, x_nm, x_ws, x_nw, s0)
def x_pm : List Cond := [Cond.privateMethod ⟨"java/lang/AbstractStringBuilder", "ensureCapacityInternal", "(I)V"⟩, Cond.privateMethod ⟨"java/lang/AbstractStringBuilder", "newCapacity", "(I)I"⟩, Cond.privateMethod ⟨"java/lang/AbstractStringBuilder", "inflate", "()V"⟩]
theorem x_pm0 : (Cond.privateMethod ⟨"java/lang/AbstractStringBuilder", "ensureCapacityInternal", "(I)V"⟩) ∈ x_pm := List.mem_of_getElem? (i := 0) rfl
theorem x_pm1 : (Cond.privateMethod ⟨"java/lang/AbstractStringBuilder", "newCapacity", "(I)I"⟩) ∈ x_pm := List.mem_of_getElem? (i := 1) rfl
theorem x_pm2 : (Cond.privateMethod ⟨"java/lang/AbstractStringBuilder", "inflate", "()V"⟩) ∈ x_pm := List.mem_of_getElem? (i := 2) rfl
def x_ss : List Cond := [Cond.stringRef "ProofDesk" 69 "there are 30 clauses", Cond.stringRef "ProofDesk" 76 "the draft can't be read as a clause", Cond.stringRef "ProofDesk" 204 "#", Cond.stringRef "ProofDesk" 89 "a clause, literal, rule, place or claim is not there", Cond.stringRef "ProofDesk" 92 "the claim can't be read as a clause", Cond.stringRef "ProofDesk" 96 "the step is not right"]
theorem x_ss0 : (Cond.stringRef "ProofDesk" 69 "there are 30 clauses") ∈ x_ss := List.mem_of_getElem? (i := 0) rfl
theorem x_ss1 : (Cond.stringRef "ProofDesk" 76 "the draft can't be read as a clause") ∈ x_ss := List.mem_of_getElem? (i := 1) rfl
theorem x_ss2 : (Cond.stringRef "ProofDesk" 204 "#") ∈ x_ss := List.mem_of_getElem? (i := 2) rfl
theorem x_ss3 : (Cond.stringRef "ProofDesk" 89 "a clause, literal, rule, place or claim is not there") ∈ x_ss := List.mem_of_getElem? (i := 3) rfl
theorem x_ss4 : (Cond.stringRef "ProofDesk" 92 "the claim can't be read as a clause") ∈ x_ss := List.mem_of_getElem? (i := 4) rfl
theorem x_ss5 : (Cond.stringRef "ProofDesk" 96 "the step is not right") ∈ x_ss := List.mem_of_getElem? (i := 5) rfl
set_option maxRecDepth 10000 in
theorem x_at0 {a : Cond} : ∀ w ∈ x_xa "ProofDesk" 78 "java/lang/IllegalArgumentException" 7 prog_15_method_2_code, w ∈ (a :: x_Ts) ∨ w ∈ x_ew := by
  refine List.forall_mem_cons.2 ⟨Or.inl (x_up mw_92), ?_⟩
  refine List.forall_mem_cons.2 ⟨Or.inl (x_up mw_93), ?_⟩
  refine List.forall_mem_cons.2 ⟨Or.inl (x_up mw_94), ?_⟩
  refine List.forall_mem_cons.2 ⟨Or.inl (x_up mw_95), ?_⟩
  refine List.forall_mem_cons.2 ⟨Or.inl (x_up mw_96), ?_⟩
  refine List.forall_mem_cons.2 ⟨Or.inl (x_up mw_97), ?_⟩
  refine List.forall_mem_cons.2 ⟨Or.inl (x_up mw_98), ?_⟩
  refine List.forall_mem_cons.2 ⟨Or.inl (x_up mw_99), ?_⟩
  refine List.forall_mem_cons.2 ⟨Or.inl (x_up mw_100), ?_⟩
  refine List.forall_mem_cons.2 ⟨Or.inl (x_up mw_obj), ?_⟩
  refine List.forall_mem_cons.2 ⟨Or.inl (x_up mw_101), ?_⟩
  refine List.forall_mem_cons.2 ⟨Or.inl (x_up mw_102), ?_⟩
  refine List.forall_mem_cons.2 ⟨Or.inl (x_up mw_103), ?_⟩
  refine List.forall_mem_cons.2 ⟨Or.inl (x_up mw_104), ?_⟩
  refine List.forall_mem_cons.2 ⟨Or.inl (x_up mw_105), ?_⟩
  refine List.forall_mem_cons.2 ⟨Or.inl (x_up mw_106), ?_⟩
  refine List.forall_mem_cons.2 ⟨Or.inl (x_up mw_107), ?_⟩
  refine List.forall_mem_cons.2 ⟨Or.inl (x_up mw_108), ?_⟩
  refine List.forall_mem_cons.2 ⟨Or.inl (x_up mw_109), ?_⟩
  refine List.forall_mem_cons.2 ⟨Or.inl (x_up mw_110), ?_⟩
  refine List.forall_mem_cons.2 ⟨Or.inr (List.mem_of_getElem? (i := 3) rfl), ?_⟩
  refine List.forall_mem_cons.2 ⟨Or.inl (x_up mw_111), ?_⟩
  refine List.forall_mem_cons.2 ⟨Or.inr (List.mem_of_getElem? (i := 4) rfl), ?_⟩
  refine List.forall_mem_cons.2 ⟨Or.inl (x_up mw_112), ?_⟩
  refine List.forall_mem_cons.2 ⟨Or.inl (x_up mw_113), ?_⟩
  refine List.forall_mem_cons.2 ⟨Or.inl (x_up mw_114), ?_⟩
  refine List.forall_mem_cons.2 ⟨Or.inl (x_up mw_115), ?_⟩
  refine List.forall_mem_cons.2 ⟨Or.inl (x_up mw_112), ?_⟩
  refine List.forall_mem_cons.2 ⟨Or.inl (x_up mw_116), ?_⟩
  refine List.forall_mem_cons.2 ⟨Or.inl (x_up mw_117), ?_⟩
  refine List.forall_mem_cons.2 ⟨Or.inl (x_up mw_118), ?_⟩
  refine List.forall_mem_cons.2 ⟨Or.inl (x_up mw_119), ?_⟩
  refine List.forall_mem_cons.2 ⟨Or.inr (List.mem_of_getElem? (i := 0) rfl), ?_⟩
  refine List.forall_mem_cons.2 ⟨Or.inl (x_up mw_119), ?_⟩
  refine List.forall_mem_cons.2 ⟨Or.inl (x_up mw_120), ?_⟩
  refine List.forall_mem_cons.2 ⟨Or.inl (x_up mw_121), ?_⟩
  refine List.forall_mem_cons.2 ⟨Or.inl (x_up mw_122), ?_⟩
  refine List.forall_mem_cons.2 ⟨Or.inr (List.mem_of_getElem? (i := 1) rfl), ?_⟩
  refine List.forall_mem_cons.2 ⟨Or.inl (x_up mw_122), ?_⟩
  refine List.forall_mem_cons.2 ⟨Or.inl (x_up mw_123), ?_⟩
  refine List.forall_mem_cons.2 ⟨Or.inl (x_up mw_124), ?_⟩
  refine List.forall_mem_cons.2 ⟨Or.inl (x_up mw_113), ?_⟩
  refine List.forall_mem_cons.2 ⟨Or.inr (List.mem_of_getElem? (i := 2) rfl), ?_⟩
  refine List.forall_mem_cons.2 ⟨Or.inl (x_up mw_125), ?_⟩
  refine List.forall_mem_cons.2 ⟨Or.inl (x_up mw_126), ?_⟩
  refine List.forall_mem_cons.2 ⟨Or.inl (x_up mw_127), ?_⟩
  refine List.forall_mem_cons.2 ⟨Or.inl (x_up mw_128), ?_⟩
  refine List.forall_mem_cons.2 ⟨Or.inl (x_up mw_129), ?_⟩
  refine List.forall_mem_cons.2 ⟨Or.inl (x_up mw_130), ?_⟩
  refine List.forall_mem_cons.2 ⟨Or.inl (x_up mw_131), ?_⟩
  refine List.forall_mem_cons.2 ⟨Or.inl (x_up mw_132), ?_⟩
  refine List.forall_mem_cons.2 ⟨Or.inl (x_up mw_133), ?_⟩
  refine List.forall_mem_cons.2 ⟨Or.inl (x_up mw_134), ?_⟩
  refine List.forall_mem_cons.2 ⟨Or.inl (x_up mw_135), ?_⟩
  refine List.forall_mem_cons.2 ⟨Or.inr (List.mem_of_getElem? (i := 5) rfl), ?_⟩
  refine List.forall_mem_cons.2 ⟨Or.inr (List.mem_of_getElem? (i := 6) rfl), ?_⟩
  exact fun _ h => absurd h List.not_mem_nil
set_option maxRecDepth 10000 in
theorem x_at1 {a : Cond} : ∀ w ∈ x_xa "ProofDesk" 71 "java/lang/IllegalStateException" 7 prog_16_method_2_code, w ∈ (a :: x_Ts) ∨ w ∈ x_ew := by
  refine List.forall_mem_cons.2 ⟨Or.inl (x_up mw_92), ?_⟩
  refine List.forall_mem_cons.2 ⟨Or.inl (x_up mw_93), ?_⟩
  refine List.forall_mem_cons.2 ⟨Or.inl (x_up mw_94), ?_⟩
  refine List.forall_mem_cons.2 ⟨Or.inl (x_up mw_95), ?_⟩
  refine List.forall_mem_cons.2 ⟨Or.inl (x_up mw_96), ?_⟩
  refine List.forall_mem_cons.2 ⟨Or.inl (x_up mw_97), ?_⟩
  refine List.forall_mem_cons.2 ⟨Or.inl (x_up mw_98), ?_⟩
  refine List.forall_mem_cons.2 ⟨Or.inl (x_up mw_99), ?_⟩
  refine List.forall_mem_cons.2 ⟨Or.inl (x_up mw_100), ?_⟩
  refine List.forall_mem_cons.2 ⟨Or.inl (x_up mw_obj), ?_⟩
  refine List.forall_mem_cons.2 ⟨Or.inl (x_up mw_101), ?_⟩
  refine List.forall_mem_cons.2 ⟨Or.inl (x_up mw_102), ?_⟩
  refine List.forall_mem_cons.2 ⟨Or.inl (x_up mw_103), ?_⟩
  refine List.forall_mem_cons.2 ⟨Or.inl (x_up mw_104), ?_⟩
  refine List.forall_mem_cons.2 ⟨Or.inl (x_up mw_105), ?_⟩
  refine List.forall_mem_cons.2 ⟨Or.inl (x_up mw_106), ?_⟩
  refine List.forall_mem_cons.2 ⟨Or.inl (x_up mw_107), ?_⟩
  refine List.forall_mem_cons.2 ⟨Or.inl (x_up mw_108), ?_⟩
  refine List.forall_mem_cons.2 ⟨Or.inl (x_up mw_109), ?_⟩
  refine List.forall_mem_cons.2 ⟨Or.inl (x_up mw_110), ?_⟩
  refine List.forall_mem_cons.2 ⟨Or.inr (List.mem_of_getElem? (i := 3) rfl), ?_⟩
  refine List.forall_mem_cons.2 ⟨Or.inl (x_up mw_111), ?_⟩
  refine List.forall_mem_cons.2 ⟨Or.inr (List.mem_of_getElem? (i := 4) rfl), ?_⟩
  refine List.forall_mem_cons.2 ⟨Or.inl (x_up mw_112), ?_⟩
  refine List.forall_mem_cons.2 ⟨Or.inl (x_up mw_113), ?_⟩
  refine List.forall_mem_cons.2 ⟨Or.inl (x_up mw_114), ?_⟩
  refine List.forall_mem_cons.2 ⟨Or.inl (x_up mw_115), ?_⟩
  refine List.forall_mem_cons.2 ⟨Or.inl (x_up mw_112), ?_⟩
  refine List.forall_mem_cons.2 ⟨Or.inl (x_up mw_136), ?_⟩
  refine List.forall_mem_cons.2 ⟨Or.inl (x_up mw_137), ?_⟩
  refine List.forall_mem_cons.2 ⟨Or.inl (x_up mw_138), ?_⟩
  refine List.forall_mem_cons.2 ⟨Or.inl (x_up mw_119), ?_⟩
  refine List.forall_mem_cons.2 ⟨Or.inr (List.mem_of_getElem? (i := 0) rfl), ?_⟩
  refine List.forall_mem_cons.2 ⟨Or.inl (x_up mw_119), ?_⟩
  refine List.forall_mem_cons.2 ⟨Or.inl (x_up mw_120), ?_⟩
  refine List.forall_mem_cons.2 ⟨Or.inl (x_up mw_121), ?_⟩
  refine List.forall_mem_cons.2 ⟨Or.inl (x_up mw_122), ?_⟩
  refine List.forall_mem_cons.2 ⟨Or.inr (List.mem_of_getElem? (i := 1) rfl), ?_⟩
  refine List.forall_mem_cons.2 ⟨Or.inl (x_up mw_122), ?_⟩
  refine List.forall_mem_cons.2 ⟨Or.inl (x_up mw_123), ?_⟩
  refine List.forall_mem_cons.2 ⟨Or.inl (x_up mw_124), ?_⟩
  refine List.forall_mem_cons.2 ⟨Or.inl (x_up mw_113), ?_⟩
  refine List.forall_mem_cons.2 ⟨Or.inr (List.mem_of_getElem? (i := 2) rfl), ?_⟩
  refine List.forall_mem_cons.2 ⟨Or.inl (x_up mw_139), ?_⟩
  refine List.forall_mem_cons.2 ⟨Or.inl (x_up mw_140), ?_⟩
  refine List.forall_mem_cons.2 ⟨Or.inl (x_up mw_141), ?_⟩
  refine List.forall_mem_cons.2 ⟨Or.inl (x_up mw_142), ?_⟩
  refine List.forall_mem_cons.2 ⟨Or.inl (x_up mw_143), ?_⟩
  refine List.forall_mem_cons.2 ⟨Or.inl (x_up mw_144), ?_⟩
  refine List.forall_mem_cons.2 ⟨Or.inl (x_up mw_145), ?_⟩
  refine List.forall_mem_cons.2 ⟨Or.inl (x_up mw_146), ?_⟩
  refine List.forall_mem_cons.2 ⟨Or.inl (x_up mw_133), ?_⟩
  refine List.forall_mem_cons.2 ⟨Or.inl (x_up mw_134), ?_⟩
  refine List.forall_mem_cons.2 ⟨Or.inl (x_up mw_147), ?_⟩
  refine List.forall_mem_cons.2 ⟨Or.inr (List.mem_of_getElem? (i := 5) rfl), ?_⟩
  refine List.forall_mem_cons.2 ⟨Or.inr (List.mem_of_getElem? (i := 6) rfl), ?_⟩
  exact fun _ h => absurd h List.not_mem_nil
set_option maxRecDepth 10000 in
theorem x_at2 {a : Cond} : ∀ w ∈ x_xa "ProofDesk" 91 "java/util/NoSuchElementException" 13 prog_27_method_4_code, w ∈ (a :: x_Ts) ∨ w ∈ x_ew := by
  refine List.forall_mem_cons.2 ⟨Or.inl (x_up mw_92), ?_⟩
  refine List.forall_mem_cons.2 ⟨Or.inl (x_up mw_93), ?_⟩
  refine List.forall_mem_cons.2 ⟨Or.inl (x_up mw_94), ?_⟩
  refine List.forall_mem_cons.2 ⟨Or.inl (x_up mw_95), ?_⟩
  refine List.forall_mem_cons.2 ⟨Or.inl (x_up mw_96), ?_⟩
  refine List.forall_mem_cons.2 ⟨Or.inl (x_up mw_97), ?_⟩
  refine List.forall_mem_cons.2 ⟨Or.inl (x_up mw_98), ?_⟩
  refine List.forall_mem_cons.2 ⟨Or.inl (x_up mw_99), ?_⟩
  refine List.forall_mem_cons.2 ⟨Or.inl (x_up mw_100), ?_⟩
  refine List.forall_mem_cons.2 ⟨Or.inl (x_up mw_obj), ?_⟩
  refine List.forall_mem_cons.2 ⟨Or.inl (x_up mw_101), ?_⟩
  refine List.forall_mem_cons.2 ⟨Or.inl (x_up mw_102), ?_⟩
  refine List.forall_mem_cons.2 ⟨Or.inl (x_up mw_103), ?_⟩
  refine List.forall_mem_cons.2 ⟨Or.inl (x_up mw_104), ?_⟩
  refine List.forall_mem_cons.2 ⟨Or.inl (x_up mw_105), ?_⟩
  refine List.forall_mem_cons.2 ⟨Or.inl (x_up mw_106), ?_⟩
  refine List.forall_mem_cons.2 ⟨Or.inl (x_up mw_107), ?_⟩
  refine List.forall_mem_cons.2 ⟨Or.inl (x_up mw_108), ?_⟩
  refine List.forall_mem_cons.2 ⟨Or.inl (x_up mw_109), ?_⟩
  refine List.forall_mem_cons.2 ⟨Or.inl (x_up mw_110), ?_⟩
  refine List.forall_mem_cons.2 ⟨Or.inr (List.mem_of_getElem? (i := 3) rfl), ?_⟩
  refine List.forall_mem_cons.2 ⟨Or.inl (x_up mw_111), ?_⟩
  refine List.forall_mem_cons.2 ⟨Or.inr (List.mem_of_getElem? (i := 4) rfl), ?_⟩
  refine List.forall_mem_cons.2 ⟨Or.inl (x_up mw_112), ?_⟩
  refine List.forall_mem_cons.2 ⟨Or.inl (x_up mw_113), ?_⟩
  refine List.forall_mem_cons.2 ⟨Or.inl (x_up mw_114), ?_⟩
  refine List.forall_mem_cons.2 ⟨Or.inl (x_up mw_115), ?_⟩
  refine List.forall_mem_cons.2 ⟨Or.inl (x_up mw_112), ?_⟩
  refine List.forall_mem_cons.2 ⟨Or.inl (x_up mw_148), ?_⟩
  refine List.forall_mem_cons.2 ⟨Or.inl (x_up mw_149), ?_⟩
  refine List.forall_mem_cons.2 ⟨Or.inl (x_up mw_150), ?_⟩
  refine List.forall_mem_cons.2 ⟨Or.inl (x_up mw_119), ?_⟩
  refine List.forall_mem_cons.2 ⟨Or.inr (List.mem_of_getElem? (i := 0) rfl), ?_⟩
  refine List.forall_mem_cons.2 ⟨Or.inl (x_up mw_119), ?_⟩
  refine List.forall_mem_cons.2 ⟨Or.inl (x_up mw_120), ?_⟩
  refine List.forall_mem_cons.2 ⟨Or.inl (x_up mw_121), ?_⟩
  refine List.forall_mem_cons.2 ⟨Or.inl (x_up mw_122), ?_⟩
  refine List.forall_mem_cons.2 ⟨Or.inr (List.mem_of_getElem? (i := 1) rfl), ?_⟩
  refine List.forall_mem_cons.2 ⟨Or.inl (x_up mw_122), ?_⟩
  refine List.forall_mem_cons.2 ⟨Or.inl (x_up mw_123), ?_⟩
  refine List.forall_mem_cons.2 ⟨Or.inl (x_up mw_124), ?_⟩
  refine List.forall_mem_cons.2 ⟨Or.inl (x_up mw_113), ?_⟩
  refine List.forall_mem_cons.2 ⟨Or.inr (List.mem_of_getElem? (i := 2) rfl), ?_⟩
  refine List.forall_mem_cons.2 ⟨Or.inl (x_up mw_151), ?_⟩
  refine List.forall_mem_cons.2 ⟨Or.inl (x_up mw_152), ?_⟩
  refine List.forall_mem_cons.2 ⟨Or.inl (x_up mw_153), ?_⟩
  refine List.forall_mem_cons.2 ⟨Or.inl (x_up mw_154), ?_⟩
  refine List.forall_mem_cons.2 ⟨Or.inl (x_up mw_155), ?_⟩
  refine List.forall_mem_cons.2 ⟨Or.inl (x_up mw_156), ?_⟩
  refine List.forall_mem_cons.2 ⟨Or.inl (x_up mw_157), ?_⟩
  refine List.forall_mem_cons.2 ⟨Or.inl (x_up mw_158), ?_⟩
  refine List.forall_mem_cons.2 ⟨Or.inl (x_up mw_133), ?_⟩
  refine List.forall_mem_cons.2 ⟨Or.inl (x_up mw_134), ?_⟩
  refine List.forall_mem_cons.2 ⟨Or.inl (x_up mw_159), ?_⟩
  refine List.forall_mem_cons.2 ⟨Or.inr (List.mem_of_getElem? (i := 5) rfl), ?_⟩
  refine List.forall_mem_cons.2 ⟨Or.inr (List.mem_of_getElem? (i := 6) rfl), ?_⟩
  exact fun _ h => absurd h List.not_mem_nil
set_option maxRecDepth 10000 in
theorem x_at3 {a : Cond} : ∀ w ∈ x_xa "ProofDesk" 98 "java/lang/UnsupportedOperationException" 7 prog_25_method_2_code, w ∈ (a :: x_Ts) ∨ w ∈ x_ew := by
  refine List.forall_mem_cons.2 ⟨Or.inl (x_up mw_92), ?_⟩
  refine List.forall_mem_cons.2 ⟨Or.inl (x_up mw_93), ?_⟩
  refine List.forall_mem_cons.2 ⟨Or.inl (x_up mw_94), ?_⟩
  refine List.forall_mem_cons.2 ⟨Or.inl (x_up mw_95), ?_⟩
  refine List.forall_mem_cons.2 ⟨Or.inl (x_up mw_96), ?_⟩
  refine List.forall_mem_cons.2 ⟨Or.inl (x_up mw_97), ?_⟩
  refine List.forall_mem_cons.2 ⟨Or.inl (x_up mw_98), ?_⟩
  refine List.forall_mem_cons.2 ⟨Or.inl (x_up mw_99), ?_⟩
  refine List.forall_mem_cons.2 ⟨Or.inl (x_up mw_100), ?_⟩
  refine List.forall_mem_cons.2 ⟨Or.inl (x_up mw_obj), ?_⟩
  refine List.forall_mem_cons.2 ⟨Or.inl (x_up mw_101), ?_⟩
  refine List.forall_mem_cons.2 ⟨Or.inl (x_up mw_102), ?_⟩
  refine List.forall_mem_cons.2 ⟨Or.inl (x_up mw_103), ?_⟩
  refine List.forall_mem_cons.2 ⟨Or.inl (x_up mw_104), ?_⟩
  refine List.forall_mem_cons.2 ⟨Or.inl (x_up mw_105), ?_⟩
  refine List.forall_mem_cons.2 ⟨Or.inl (x_up mw_106), ?_⟩
  refine List.forall_mem_cons.2 ⟨Or.inl (x_up mw_107), ?_⟩
  refine List.forall_mem_cons.2 ⟨Or.inl (x_up mw_108), ?_⟩
  refine List.forall_mem_cons.2 ⟨Or.inl (x_up mw_109), ?_⟩
  refine List.forall_mem_cons.2 ⟨Or.inl (x_up mw_110), ?_⟩
  refine List.forall_mem_cons.2 ⟨Or.inr (List.mem_of_getElem? (i := 3) rfl), ?_⟩
  refine List.forall_mem_cons.2 ⟨Or.inl (x_up mw_111), ?_⟩
  refine List.forall_mem_cons.2 ⟨Or.inr (List.mem_of_getElem? (i := 4) rfl), ?_⟩
  refine List.forall_mem_cons.2 ⟨Or.inl (x_up mw_112), ?_⟩
  refine List.forall_mem_cons.2 ⟨Or.inl (x_up mw_113), ?_⟩
  refine List.forall_mem_cons.2 ⟨Or.inl (x_up mw_114), ?_⟩
  refine List.forall_mem_cons.2 ⟨Or.inl (x_up mw_115), ?_⟩
  refine List.forall_mem_cons.2 ⟨Or.inl (x_up mw_112), ?_⟩
  refine List.forall_mem_cons.2 ⟨Or.inl (x_up mw_160), ?_⟩
  refine List.forall_mem_cons.2 ⟨Or.inl (x_up mw_161), ?_⟩
  refine List.forall_mem_cons.2 ⟨Or.inl (x_up mw_162), ?_⟩
  refine List.forall_mem_cons.2 ⟨Or.inl (x_up mw_119), ?_⟩
  refine List.forall_mem_cons.2 ⟨Or.inr (List.mem_of_getElem? (i := 0) rfl), ?_⟩
  refine List.forall_mem_cons.2 ⟨Or.inl (x_up mw_119), ?_⟩
  refine List.forall_mem_cons.2 ⟨Or.inl (x_up mw_120), ?_⟩
  refine List.forall_mem_cons.2 ⟨Or.inl (x_up mw_121), ?_⟩
  refine List.forall_mem_cons.2 ⟨Or.inl (x_up mw_122), ?_⟩
  refine List.forall_mem_cons.2 ⟨Or.inr (List.mem_of_getElem? (i := 1) rfl), ?_⟩
  refine List.forall_mem_cons.2 ⟨Or.inl (x_up mw_122), ?_⟩
  refine List.forall_mem_cons.2 ⟨Or.inl (x_up mw_123), ?_⟩
  refine List.forall_mem_cons.2 ⟨Or.inl (x_up mw_124), ?_⟩
  refine List.forall_mem_cons.2 ⟨Or.inl (x_up mw_113), ?_⟩
  refine List.forall_mem_cons.2 ⟨Or.inr (List.mem_of_getElem? (i := 2) rfl), ?_⟩
  refine List.forall_mem_cons.2 ⟨Or.inl (x_up mw_163), ?_⟩
  refine List.forall_mem_cons.2 ⟨Or.inl (x_up mw_164), ?_⟩
  refine List.forall_mem_cons.2 ⟨Or.inl (x_up mw_165), ?_⟩
  refine List.forall_mem_cons.2 ⟨Or.inl (x_up mw_166), ?_⟩
  refine List.forall_mem_cons.2 ⟨Or.inl (x_up mw_167), ?_⟩
  refine List.forall_mem_cons.2 ⟨Or.inl (x_up mw_168), ?_⟩
  refine List.forall_mem_cons.2 ⟨Or.inl (x_up mw_169), ?_⟩
  refine List.forall_mem_cons.2 ⟨Or.inl (x_up mw_170), ?_⟩
  refine List.forall_mem_cons.2 ⟨Or.inl (x_up mw_133), ?_⟩
  refine List.forall_mem_cons.2 ⟨Or.inl (x_up mw_134), ?_⟩
  refine List.forall_mem_cons.2 ⟨Or.inl (x_up mw_171), ?_⟩
  refine List.forall_mem_cons.2 ⟨Or.inr (List.mem_of_getElem? (i := 5) rfl), ?_⟩
  refine List.forall_mem_cons.2 ⟨Or.inr (List.mem_of_getElem? (i := 6) rfl), ?_⟩
  exact fun _ h => absurd h List.not_mem_nil
