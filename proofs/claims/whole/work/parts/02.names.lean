-- ===== PART A: goes FIRST, ahead of the names: the tables' words, and 'selects' of the private methods out of them =====
/-- a private method of a class that the tables say can be made, by its rows of tables_1 -/
def lw_okq (q : MethodName × Nat) : Prop := (q.1.cls ≠ "java/lang/invoke/MethodHandle" ∧ q.1.cls ≠ "java/lang/invoke/VarHandle") ∧ Cond.instantiable q.1.cls q.2 ∈ tables_1 ∧ Cond.privateMethod q.1 ∈ tables_1 ∧ Cond.instanceMethod q.1 ∈ tables_1
theorem lw_p0 : lw_okq (⟨"MashEnzymes$Rows", "reckonValues", "()V"⟩, 2) := ⟨⟨by decide +kernel, by decide +kernel⟩, List.mem_of_getElem? (i := 38) (by decide +kernel), List.mem_of_getElem? (i := 44) (by decide +kernel), List.mem_of_getElem? (i := 45) (by decide +kernel)⟩
theorem lw_p1 : lw_okq (⟨"MashEnzymes$Rows", "markNotAbove", "()I"⟩, 2) := ⟨⟨by decide +kernel, by decide +kernel⟩, List.mem_of_getElem? (i := 38) (by decide +kernel), List.mem_of_getElem? (i := 48) (by decide +kernel), List.mem_of_getElem? (i := 49) (by decide +kernel)⟩
theorem lw_p2 : lw_okq (⟨"MashEnzymes$Rows", "valueFrom", "(II)D"⟩, 2) := ⟨⟨by decide +kernel, by decide +kernel⟩, List.mem_of_getElem? (i := 38) (by decide +kernel), List.mem_of_getElem? (i := 54) (by decide +kernel), List.mem_of_getElem? (i := 55) (by decide +kernel)⟩
theorem lw_p3 : lw_okq (⟨"MashEnzymes$Rows", "between", "(II)D"⟩, 2) := ⟨⟨by decide +kernel, by decide +kernel⟩, List.mem_of_getElem? (i := 38) (by decide +kernel), List.mem_of_getElem? (i := 65) (by decide +kernel), List.mem_of_getElem? (i := 66) (by decide +kernel)⟩
theorem lw_p4 : lw_okq (⟨"MashEnzymes", "isEmpty", "()Z"⟩, 13) := ⟨⟨by decide +kernel, by decide +kernel⟩, List.mem_of_getElem? (i := 6) (by decide +kernel), List.mem_of_getElem? (i := 157) (by decide +kernel), List.mem_of_getElem? (i := 158) (by decide +kernel)⟩
theorem lw_p5 : lw_okq (⟨"MashEnzymes", "passSecond", "()V"⟩, 13) := ⟨⟨by decide +kernel, by decide +kernel⟩, List.mem_of_getElem? (i := 6) (by decide +kernel), List.mem_of_getElem? (i := 162) (by decide +kernel), List.mem_of_getElem? (i := 163) (by decide +kernel)⟩
theorem lw_p6 : lw_okq (⟨"MashEnzymes", "reckonActions", "()V"⟩, 13) := ⟨⟨by decide +kernel, by decide +kernel⟩, List.mem_of_getElem? (i := 6) (by decide +kernel), List.mem_of_getElem? (i := 174) (by decide +kernel), List.mem_of_getElem? (i := 175) (by decide +kernel)⟩
theorem lw_p7 : lw_okq (⟨"MashEnzymes", "acidityFitness", "()D"⟩, 13) := ⟨⟨by decide +kernel, by decide +kernel⟩, List.mem_of_getElem? (i := 6) (by decide +kernel), List.mem_of_getElem? (i := 178) (by decide +kernel), List.mem_of_getElem? (i := 179) (by decide +kernel)⟩
theorem lw_p8 : lw_okq (⟨"MashEnzymes", "gelStarch", "()V"⟩, 13) := ⟨⟨by decide +kernel, by decide +kernel⟩, List.mem_of_getElem? (i := 6) (by decide +kernel), List.mem_of_getElem? (i := 189) (by decide +kernel), List.mem_of_getElem? (i := 190) (by decide +kernel)⟩
theorem lw_p9 : lw_okq (⟨"MashEnzymes", "splitGelledStarch", "()V"⟩, 13) := ⟨⟨by decide +kernel, by decide +kernel⟩, List.mem_of_getElem? (i := 6) (by decide +kernel), List.mem_of_getElem? (i := 197) (by decide +kernel), List.mem_of_getElem? (i := 198) (by decide +kernel)⟩
theorem lw_p10 : lw_okq (⟨"MashEnzymes", "splitDextrinsToMaltose", "()V"⟩, 13) := ⟨⟨by decide +kernel, by decide +kernel⟩, List.mem_of_getElem? (i := 6) (by decide +kernel), List.mem_of_getElem? (i := 202) (by decide +kernel), List.mem_of_getElem? (i := 203) (by decide +kernel)⟩
theorem lw_p11 : lw_okq (⟨"MashEnzymes", "splitDextrinsToGlucose", "()V"⟩, 13) := ⟨⟨by decide +kernel, by decide +kernel⟩, List.mem_of_getElem? (i := 6) (by decide +kernel), List.mem_of_getElem? (i := 210) (by decide +kernel), List.mem_of_getElem? (i := 211) (by decide +kernel)⟩
theorem lw_p12 : lw_okq (⟨"MashEnzymes", "splitProtein", "()V"⟩, 13) := ⟨⟨by decide +kernel, by decide +kernel⟩, List.mem_of_getElem? (i := 6) (by decide +kernel), List.mem_of_getElem? (i := 217) (by decide +kernel), List.mem_of_getElem? (i := 218) (by decide +kernel)⟩
theorem lw_p13 : lw_okq (⟨"MashEnzymes", "decayEnzymes", "()V"⟩, 13) := ⟨⟨by decide +kernel, by decide +kernel⟩, List.mem_of_getElem? (i := 6) (by decide +kernel), List.mem_of_getElem? (i := 221) (by decide +kernel), List.mem_of_getElem? (i := 222) (by decide +kernel)⟩
theorem lw_p14 : lw_okq (⟨"MashEnzymesModel", "isEmpty", "()Z"⟩, 14) := ⟨⟨by decide +kernel, by decide +kernel⟩, List.mem_of_getElem? (i := 264) (by decide +kernel), List.mem_of_getElem? (i := 346) (by decide +kernel), List.mem_of_getElem? (i := 347) (by decide +kernel)⟩
theorem lw_p15 : lw_okq (⟨"MashEnzymesModel", "second", "()V"⟩, 14) := ⟨⟨by decide +kernel, by decide +kernel⟩, List.mem_of_getElem? (i := 264) (by decide +kernel), List.mem_of_getElem? (i := 351) (by decide +kernel), List.mem_of_getElem? (i := 352) (by decide +kernel)⟩
def lw_privs_1 : List (MethodName × Nat) := [(⟨"MashEnzymes$Rows", "reckonValues", "()V"⟩, 2), (⟨"MashEnzymes$Rows", "markNotAbove", "()I"⟩, 2), (⟨"MashEnzymes$Rows", "valueFrom", "(II)D"⟩, 2), (⟨"MashEnzymes$Rows", "between", "(II)D"⟩, 2), (⟨"MashEnzymes", "isEmpty", "()Z"⟩, 13), (⟨"MashEnzymes", "passSecond", "()V"⟩, 13), (⟨"MashEnzymes", "reckonActions", "()V"⟩, 13), (⟨"MashEnzymes", "acidityFitness", "()D"⟩, 13), (⟨"MashEnzymes", "gelStarch", "()V"⟩, 13), (⟨"MashEnzymes", "splitGelledStarch", "()V"⟩, 13), (⟨"MashEnzymes", "splitDextrinsToMaltose", "()V"⟩, 13), (⟨"MashEnzymes", "splitDextrinsToGlucose", "()V"⟩, 13), (⟨"MashEnzymes", "splitProtein", "()V"⟩, 13), (⟨"MashEnzymes", "decayEnzymes", "()V"⟩, 13), (⟨"MashEnzymesModel", "isEmpty", "()Z"⟩, 14), (⟨"MashEnzymesModel", "second", "()V"⟩, 14)]
theorem lw_r1 : ∀ q ∈ lw_privs_1, lw_okq q := List.forall_mem_cons.mpr ⟨lw_p0, List.forall_mem_cons.mpr ⟨lw_p1, List.forall_mem_cons.mpr ⟨lw_p2, List.forall_mem_cons.mpr ⟨lw_p3, List.forall_mem_cons.mpr ⟨lw_p4, List.forall_mem_cons.mpr ⟨lw_p5, List.forall_mem_cons.mpr ⟨lw_p6, List.forall_mem_cons.mpr ⟨lw_p7, List.forall_mem_cons.mpr ⟨lw_p8, List.forall_mem_cons.mpr ⟨lw_p9, List.forall_mem_cons.mpr ⟨lw_p10, List.forall_mem_cons.mpr ⟨lw_p11, List.forall_mem_cons.mpr ⟨lw_p12, List.forall_mem_cons.mpr ⟨lw_p13, List.forall_mem_cons.mpr ⟨lw_p14, List.forall_mem_cons.mpr ⟨lw_p15, fun _ h => absurd h List.not_mem_nil⟩⟩⟩⟩⟩⟩⟩⟩⟩⟩⟩⟩⟩⟩⟩⟩
theorem lw_p16 : lw_okq (⟨"MashEnzymesModel", "row", "(I)D"⟩, 14) := ⟨⟨by decide +kernel, by decide +kernel⟩, List.mem_of_getElem? (i := 264) (by decide +kernel), List.mem_of_getElem? (i := 356) (by decide +kernel), List.mem_of_getElem? (i := 357) (by decide +kernel)⟩
def lw_privs_2 : List (MethodName × Nat) := [(⟨"MashEnzymesModel", "row", "(I)D"⟩, 14)]
theorem lw_r2 : ∀ q ∈ lw_privs_2, lw_okq q := List.forall_mem_cons.mpr ⟨lw_p16, fun _ h => absurd h List.not_mem_nil⟩
def lw_privs : List (MethodName × Nat) := lw_privs_1 ++ (lw_privs_2)
def lw_tbl : List Cond := k2_sels lw_privs ++ tables_1
theorem lw_privs_ok : ∀ q ∈ lw_privs, lw_okq q := by
  show ∀ q ∈ lw_privs_1 ++ (lw_privs_2), lw_okq q
  exact List.forall_mem_append.mpr ⟨lw_r1, lw_r2⟩
/-- the words that every method takes -/
def wT : List Cond := lw_tbl.filter goodWord
theorem wT_mem {w : Cond} (h : w ∈ lw_tbl) (g : goodWord w = true) : w ∈ wT := List.mem_filter.mpr ⟨h, g⟩
theorem wT_in : GoodIn wT wT := fun w h => ⟨h, good_of_word (List.mem_filter.mp h).2⟩
theorem wT_tbl : ∀ w ∈ wT, w ∈ lw_tbl := fun w h => (List.mem_filter.mp h).1
theorem gT_c {ws : List Cond} {c : Cond} (h : GoodIn wT ws) (hc : c ∈ wT) : GoodIn wT (c :: ws) := fun w hw => (List.mem_cons.mp hw).elim (fun e => e ▸ wT_in c hc) (h w)
theorem gT_V {own C : String} {idx n : Nat} {y : MethodName} {b : ByteArray} {r : Option FieldType} (h1 : Cond.methodLink own idx y ∈ wT) (h2 : Cond.instanceMethod y ∈ wT) (h3 : Cond.selects C y y ∈ wT) (h4 : Cond.initialized C ∈ wT) (h5 : Cond.code y b n r ∈ wT) : GoodIn wT (wsV own idx C y (.code y b n r :: wT)) := gT_c (gT_c (gT_c (gT_c (gT_c wT_in h5) h4) h3) h2) h1
theorem gT_S {own : String} {idx n : Nat} {y : MethodName} {b : ByteArray} {r : Option FieldType} (h1 : Cond.methodLink own idx y ∈ wT) (h2 : Cond.static y ∈ wT) (h4 : Cond.initialized y.cls ∈ wT) (h5 : Cond.code y b n r ∈ wT) : GoodIn wT (va_wsS own idx y (.code y b n r :: wT)) := gT_c (gT_c (gT_c (gT_c wT_in h5) h4) h2) h1
theorem gT_I {n : Nat} {y : MethodName} {b : ByteArray} {r : Option FieldType} (h5 : Cond.code y b n r ∈ wT) : GoodIn wT (.code y b n r :: wT) := gT_c wT_in h5
abbrev bM_init : ByteArray := prog_1_method_1_code
abbrev yM_init : MethodName := { cls := "MashEnzymes", name := "<init>", desc := "()V" }
abbrev bM_grain : ByteArray := prog_1_method_2_code
abbrev yM_grain : MethodName := { cls := "MashEnzymes", name := "grain", desc := "(DDI)Z" }
abbrev bM_liquor : ByteArray := prog_1_method_3_code
abbrev yM_liquor : MethodName := { cls := "MashEnzymes", name := "liquor", desc := "(DDD)Z" }
abbrev bM_enzyme : ByteArray := prog_1_method_4_code
abbrev yM_enzyme : MethodName := { cls := "MashEnzymes", name := "enzyme", desc := "(ID)Z" }
abbrev bM_step : ByteArray := prog_1_method_5_code
abbrev yM_step : MethodName := { cls := "MashEnzymes", name := "step", desc := "(ID)Z" }
abbrev bM_run : ByteArray := prog_1_method_6_code
abbrev yM_run : MethodName := { cls := "MashEnzymes", name := "run", desc := "(I)I" }
abbrev bM_sugar : ByteArray := prog_1_method_7_code
abbrev yM_sugar : MethodName := { cls := "MashEnzymes", name := "sugar", desc := "(I)D" }
abbrev bM_starch : ByteArray := prog_1_method_8_code
abbrev yM_starch : MethodName := { cls := "MashEnzymes", name := "starch", desc := "()D" }
abbrev bM_enzymeLeft : ByteArray := prog_1_method_9_code
abbrev yM_enzymeLeft : MethodName := { cls := "MashEnzymes", name := "enzymeLeft", desc := "(I)D" }
abbrev bM_degrees : ByteArray := prog_1_method_10_code
abbrev yM_degrees : MethodName := { cls := "MashEnzymes", name := "degrees", desc := "()D" }
abbrev bM_take : ByteArray := prog_1_method_11_code
abbrev yM_take : MethodName := { cls := "MashEnzymes", name := "take", desc := "(D)I" }
abbrev bM_back : ByteArray := prog_1_method_12_code
abbrev yM_back : MethodName := { cls := "MashEnzymes", name := "back", desc := "(ID)Z" }
abbrev bM_water : ByteArray := prog_1_method_13_code
abbrev yM_water : MethodName := { cls := "MashEnzymes", name := "water", desc := "()D" }
abbrev bM_converted : ByteArray := prog_1_method_14_code
abbrev yM_converted : MethodName := { cls := "MashEnzymes", name := "converted", desc := "()Z" }
abbrev bM_isEmpty : ByteArray := prog_1_method_15_code
abbrev yM_isEmpty : MethodName := { cls := "MashEnzymes", name := "isEmpty", desc := "()Z" }
abbrev bM_isTemperature : ByteArray := prog_1_method_16_code
abbrev yM_isTemperature : MethodName := { cls := "MashEnzymes", name := "isTemperature", desc := "(D)Z" }
abbrev bM_mixed : ByteArray := prog_1_method_17_code
abbrev yM_mixed : MethodName := { cls := "MashEnzymes", name := "mixed", desc := "(DDDD)D" }
abbrev bM_passSecond : ByteArray := prog_1_method_18_code
abbrev yM_passSecond : MethodName := { cls := "MashEnzymes", name := "passSecond", desc := "()V" }
abbrev bM_reckonActions : ByteArray := prog_1_method_19_code
abbrev yM_reckonActions : MethodName := { cls := "MashEnzymes", name := "reckonActions", desc := "()V" }
abbrev bM_acidityFitness : ByteArray := prog_1_method_20_code
abbrev yM_acidityFitness : MethodName := { cls := "MashEnzymes", name := "acidityFitness", desc := "()D" }
abbrev bM_gelStarch : ByteArray := prog_1_method_21_code
abbrev yM_gelStarch : MethodName := { cls := "MashEnzymes", name := "gelStarch", desc := "()V" }
abbrev bM_splitGelledStarch : ByteArray := prog_1_method_22_code
abbrev yM_splitGelledStarch : MethodName := { cls := "MashEnzymes", name := "splitGelledStarch", desc := "()V" }
abbrev bM_splitDextrinsToMaltose : ByteArray := prog_1_method_23_code
abbrev yM_splitDextrinsToMaltose : MethodName := { cls := "MashEnzymes", name := "splitDextrinsToMaltose", desc := "()V" }
abbrev bM_splitDextrinsToGlucose : ByteArray := prog_1_method_24_code
abbrev yM_splitDextrinsToGlucose : MethodName := { cls := "MashEnzymes", name := "splitDextrinsToGlucose", desc := "()V" }
abbrev bM_splitProtein : ByteArray := prog_1_method_25_code
abbrev yM_splitProtein : MethodName := { cls := "MashEnzymes", name := "splitProtein", desc := "()V" }
abbrev bM_decayEnzymes : ByteArray := prog_1_method_26_code
abbrev yM_decayEnzymes : MethodName := { cls := "MashEnzymes", name := "decayEnzymes", desc := "()V" }
abbrev bM_lesser : ByteArray := prog_1_method_27_code
abbrev yM_lesser : MethodName := { cls := "MashEnzymes", name := "lesser", desc := "(DD)D" }
abbrev bN_init : ByteArray := prog_5_method_1_code
abbrev yN_init : MethodName := { cls := "MashEnzymesModel", name := "<init>", desc := "()V" }
abbrev bN_grain : ByteArray := prog_5_method_2_code
abbrev yN_grain : MethodName := { cls := "MashEnzymesModel", name := "grain", desc := "(DDI)Z" }
abbrev bN_liquor : ByteArray := prog_5_method_3_code
abbrev yN_liquor : MethodName := { cls := "MashEnzymesModel", name := "liquor", desc := "(DDD)Z" }
abbrev bN_enzyme : ByteArray := prog_5_method_4_code
abbrev yN_enzyme : MethodName := { cls := "MashEnzymesModel", name := "enzyme", desc := "(ID)Z" }
abbrev bN_step : ByteArray := prog_5_method_5_code
abbrev yN_step : MethodName := { cls := "MashEnzymesModel", name := "step", desc := "(ID)Z" }
abbrev bN_row : ByteArray := prog_5_method_6_code
abbrev yN_row : MethodName := { cls := "MashEnzymesModel", name := "row", desc := "(I)D" }
abbrev bN_second : ByteArray := prog_5_method_7_code
abbrev yN_second : MethodName := { cls := "MashEnzymesModel", name := "second", desc := "()V" }
abbrev bN_isEmpty : ByteArray := prog_5_method_8_code
abbrev yN_isEmpty : MethodName := { cls := "MashEnzymesModel", name := "isEmpty", desc := "()Z" }
abbrev bN_run : ByteArray := prog_5_method_9_code
abbrev yN_run : MethodName := { cls := "MashEnzymesModel", name := "run", desc := "(I)I" }
abbrev bN_sugar : ByteArray := prog_5_method_10_code
abbrev yN_sugar : MethodName := { cls := "MashEnzymesModel", name := "sugar", desc := "(I)D" }
abbrev bN_starch : ByteArray := prog_5_method_11_code
abbrev yN_starch : MethodName := { cls := "MashEnzymesModel", name := "starch", desc := "()D" }
abbrev bN_enzymeLeft : ByteArray := prog_5_method_12_code
abbrev yN_enzymeLeft : MethodName := { cls := "MashEnzymesModel", name := "enzymeLeft", desc := "(I)D" }
abbrev bN_degrees : ByteArray := prog_5_method_13_code
abbrev yN_degrees : MethodName := { cls := "MashEnzymesModel", name := "degrees", desc := "()D" }
abbrev bN_take : ByteArray := prog_5_method_14_code
abbrev yN_take : MethodName := { cls := "MashEnzymesModel", name := "take", desc := "(D)I" }
abbrev bN_back : ByteArray := prog_5_method_15_code
abbrev yN_back : MethodName := { cls := "MashEnzymesModel", name := "back", desc := "(ID)Z" }
abbrev bN_water : ByteArray := prog_5_method_16_code
abbrev yN_water : MethodName := { cls := "MashEnzymesModel", name := "water", desc := "()D" }
abbrev bN_converted : ByteArray := prog_5_method_17_code
abbrev yN_converted : MethodName := { cls := "MashEnzymesModel", name := "converted", desc := "()Z" }
abbrev bH_init : ByteArray := prog_2_method_1_code
abbrev yH_init : MethodName := { cls := "MashEnzymes$Heating", name := "<init>", desc := "()V" }
abbrev bH_append : ByteArray := prog_2_method_2_code
abbrev yH_append : MethodName := { cls := "MashEnzymes$Heating", name := "append", desc := "(ID)Z" }
abbrev bH_heated : ByteArray := prog_2_method_3_code
abbrev yH_heated : MethodName := { cls := "MashEnzymes$Heating", name := "heated", desc := "(DI)D" }
abbrev bQ_init : ByteArray := prog_3_method_1_code
abbrev yQ_init : MethodName := { cls := "MashEnzymes$Rows", name := "<init>", desc := "()V" }
abbrev bQ_rate : ByteArray := prog_3_method_2_code
abbrev yQ_rate : MethodName := { cls := "MashEnzymes$Rows", name := "rate", desc := "(I)D" }
abbrev bQ_decay : ByteArray := prog_3_method_3_code
abbrev yQ_decay : MethodName := { cls := "MashEnzymes$Rows", name := "decay", desc := "(I)D" }
abbrev bQ_gelling : ByteArray := prog_3_method_4_code
abbrev yQ_gelling : MethodName := { cls := "MashEnzymes$Rows", name := "gelling", desc := "()D" }
abbrev bQ_moveTo : ByteArray := prog_3_method_5_code
abbrev yQ_moveTo : MethodName := { cls := "MashEnzymes$Rows", name := "moveTo", desc := "(D)V" }
abbrev bQ_reckonValues : ByteArray := prog_3_method_6_code
abbrev yQ_reckonValues : MethodName := { cls := "MashEnzymes$Rows", name := "reckonValues", desc := "()V" }
abbrev bQ_valueFrom : ByteArray := prog_3_method_7_code
abbrev yQ_valueFrom : MethodName := { cls := "MashEnzymes$Rows", name := "valueFrom", desc := "(II)D" }
abbrev bQ_markNotAbove : ByteArray := prog_3_method_8_code
abbrev yQ_markNotAbove : MethodName := { cls := "MashEnzymes$Rows", name := "markNotAbove", desc := "()I" }
abbrev bQ_between : ByteArray := prog_3_method_9_code
abbrev yQ_between : MethodName := { cls := "MashEnzymes$Rows", name := "between", desc := "(II)D" }
abbrev bQ_atMark : ByteArray := prog_3_method_10_code
abbrev yQ_atMark : MethodName := { cls := "MashEnzymes$Rows", name := "atMark", desc := "(II)D" }
def F_M : u_T := fun k => match k with
  | 0 => ("MashEnzymes", "amounts", "[D", true)
  | 1 => ("MashEnzymes", "decoctions", "[[D", true)
  | 2 => ("MashEnzymes", "isBack", "[Z", true)
  | 3 => ("MashEnzymes", "actions", "[D", true)
  | 4 => ("MashEnzymes", "heating", "LMashEnzymes$Heating;", true)
  | 5 => ("MashEnzymes", "rows", "LMashEnzymes$Rows;", true)
  | 6 => ("MashEnzymes", "decoctionCount", "I", false)
  | 7 => ("MashEnzymes", "now", "I", false)
  | 8 => ("MashEnzymes", "temperature", "D", false)
  | 9 => ("MashEnzymes", "sourness", "D", false)
  | 10 => ("MashEnzymes", "toldStarch", "D", false)
  | 11 => ("MashEnzymes", "grainTold", "Z", false)
  | _ => ("MashEnzymes", "liquorTold", "Z", false)
def t_M : Nat → FieldType := fun k => match k with
  | 0 => .array .double
  | 1 => .array (.array .double)
  | 2 => .array .boolean
  | 3 => .array .double
  | 4 => .object "MashEnzymes$Heating"
  | 5 => .object "MashEnzymes$Rows"
  | 6 => .int
  | 7 => .int
  | 8 => .double
  | 9 => .double
  | 10 => .double
  | 11 => .boolean
  | _ => .boolean
theorem n_M : ∀ a, a < 13 → ∀ b, b < 13 → a ≠ b → (F_M a).2.1 ≠ (F_M b).2.1 := by decide +kernel
theorem t_M_ok : ∀ k, k < 13 → parseFieldDescriptor (F_M k).2.2.1 = some (t_M k) := by decide +kernel
theorem in0_M : ∀ w ∈ u_ws "MashEnzymes" F_M 13, w ∈ tables_1 := by decide +kernel
theorem in1_M : ∀ w ∈ u_ws "MashEnzymes" F_M 13, goodWord w = true := by decide +kernel
theorem in_M : ∀ w ∈ u_ws "MashEnzymes" F_M 13, w ∈ wT := fun w h => wT_mem (List.mem_append_right _ (in0_M w h)) (in1_M w h)
def F_H : u_T := fun k => match k with
  | 0 => ("MashEnzymes$Heating", "seconds", "[I", true)
  | 1 => ("MashEnzymes$Heating", "targets", "[D", true)
  | 2 => ("MashEnzymes$Heating", "count", "I", false)
  | _ => ("MashEnzymes$Heating", "next", "I", false)
def t_H : Nat → FieldType := fun k => match k with
  | 0 => .array .int
  | 1 => .array .double
  | 2 => .int
  | _ => .int
theorem n_H : ∀ a, a < 4 → ∀ b, b < 4 → a ≠ b → (F_H a).2.1 ≠ (F_H b).2.1 := by decide +kernel
theorem t_H_ok : ∀ k, k < 4 → parseFieldDescriptor (F_H k).2.2.1 = some (t_H k) := by decide +kernel
theorem in0_H : ∀ w ∈ u_ws "MashEnzymes$Heating" F_H 4, w ∈ tables_1 := by decide +kernel
theorem in1_H : ∀ w ∈ u_ws "MashEnzymes$Heating" F_H 4, goodWord w = true := by decide +kernel
theorem in_H : ∀ w ∈ u_ws "MashEnzymes$Heating" F_H 4, w ∈ wT := fun w h => wT_mem (List.mem_append_right _ (in0_H w h)) (in1_H w h)
def F_Q : u_T := fun k => match k with
  | 0 => ("MashEnzymes$Rows", "values", "[D", true)
  | _ => ("MashEnzymes$Rows", "at", "D", false)
def t_Q : Nat → FieldType := fun k => match k with
  | 0 => .array .double
  | _ => .double
theorem n_Q : ∀ a, a < 2 → ∀ b, b < 2 → a ≠ b → (F_Q a).2.1 ≠ (F_Q b).2.1 := by decide +kernel
theorem t_Q_ok : ∀ k, k < 2 → parseFieldDescriptor (F_Q k).2.2.1 = some (t_Q k) := by decide +kernel
theorem in0_Q : ∀ w ∈ u_ws "MashEnzymes$Rows" F_Q 2, w ∈ tables_1 := by decide +kernel
theorem in1_Q : ∀ w ∈ u_ws "MashEnzymes$Rows" F_Q 2, goodWord w = true := by decide +kernel
theorem in_Q : ∀ w ∈ u_ws "MashEnzymes$Rows" F_Q 2, w ∈ wT := fun w h => wT_mem (List.mem_append_right _ (in0_Q w h)) (in1_Q w h)
def F_N : u_T := fun k => match k with
  | 0 => ("MashEnzymesModel", "has", "[D", true)
  | 1 => ("MashEnzymesModel", "degrees", "D", false)
  | 2 => ("MashEnzymesModel", "acidity", "D", false)
  | 3 => ("MashEnzymesModel", "grainTold", "Z", false)
  | 4 => ("MashEnzymesModel", "liquorTold", "Z", false)
  | 5 => ("MashEnzymesModel", "starchTold", "D", false)
  | 6 => ("MashEnzymesModel", "now", "I", false)
  | 7 => ("MashEnzymesModel", "steps", "I", false)
  | 8 => ("MashEnzymesModel", "seconds", "[I", true)
  | 9 => ("MashEnzymesModel", "goals", "[D", true)
  | 10 => ("MashEnzymesModel", "taken", "I", false)
  | 11 => ("MashEnzymesModel", "parts", "[D", true)
  | 12 => ("MashEnzymesModel", "returned", "[Z", true)
  | _ => ("MashEnzymesModel", "f", "[D", true)
def t_N : Nat → FieldType := fun k => match k with
  | 0 => .array .double
  | 1 => .double
  | 2 => .double
  | 3 => .boolean
  | 4 => .boolean
  | 5 => .double
  | 6 => .int
  | 7 => .int
  | 8 => .array .int
  | 9 => .array .double
  | 10 => .int
  | 11 => .array .double
  | 12 => .array .boolean
  | _ => .array .double
theorem n_N : ∀ a, a < 14 → ∀ b, b < 14 → a ≠ b → (F_N a).2.1 ≠ (F_N b).2.1 := by decide +kernel
theorem t_N_ok : ∀ k, k < 14 → parseFieldDescriptor (F_N k).2.2.1 = some (t_N k) := by decide +kernel
theorem in0_N : ∀ w ∈ u_ws "MashEnzymesModel" F_N 14, w ∈ tables_1 := by decide +kernel
theorem in1_N : ∀ w ∈ u_ws "MashEnzymesModel" F_N 14, goodWord w = true := by decide +kernel
theorem in_N : ∀ w ∈ u_ws "MashEnzymesModel" F_N 14, w ∈ wT := fun w h => wT_mem (List.mem_append_right _ (in0_N w h)) (in1_N w h)
abbrev cls : List vw_C := [("MashEnzymes", F_M, 13), ("MashEnzymes$Heating", F_H, 4), ("MashEnzymes$Rows", F_Q, 2), ("MashEnzymesModel", F_N, 14)]
