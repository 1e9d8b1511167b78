/-! The words that the contracts use, in one list. -/
def GA0 : List Cond := [.code yX8_isWithin cX8_isWithin 3 (some .boolean), .methodLink RX8 101 yX8_isWithin, .static yX8_isWithin, .initialized yX8_isWithin.cls, .constant RJ6 265 (1431655765), .constant RJ6 266 (858993459), .constant RJ6 267 (252645135), .methodLink RX0 3 objectInit, .instanceMethod objectInit, .code objectInit ⟨#[0xb1]⟩ 1 none, .arrayClass .int, .fieldLink RX0 9 "OddShoes$Maker" "shoes" "[I", .methodLink RX2 3 objectInit, .fieldLink RX2 11 "OddShoes$Offers" "prices" "[I", .fieldLink RX2 15 "OddShoes$Offers" "byRank" "[I", .fieldLink RX2 18 "OddShoes$Offers" "rankOf" "[I", .methodLink RX3 3 objectInit, .fieldLink RX3 9 "OddShoes$Person" "bars" "I", .fieldLink RX3 15 "OddShoes$Person" "shod" "I", .fieldLink RX3 18 "OddShoes$Person" "wait" "I", .fieldLink RX3 21 "OddShoes$Person" "timesShod" "I", .fieldLink RX3 24 "OddShoes$Person" "gone" "Z", .fieldLink RX3 28 "OddShoes$Person" "keptShod" "I", .fieldLink RX3 31 "OddShoes$Person" "keptWait" "I", .fieldLink RX3 34 "OddShoes$Person" "keptTimes" "I"]
def GA1 : List Cond := [.fieldLink RX3 37 "OddShoes$Person" "feet" "I", .fieldLink RX3 40 "OddShoes$Person" "likes" "I", .fieldLink RX3 43 "OddShoes$Person" "grows" "I", .fieldLink RX3 46 "OddShoes$Person" "lasts" "I", .fieldLink RX3 49 "OddShoes$Person" "came" "I", .methodLink RX4 3 objectInit, .fieldLink RX4 9 "OddShoes$Plan" "sets" "[I", .fieldLink RX4 15 "OddShoes$Plan" "offered" "[I", .fieldLink RX4 18 "OddShoes$Plan" "costs" "[I", .fieldLink RX4 21 "OddShoes$Plan" "rows" "[I", .fieldLink RX4 24 "OddShoes$Plan" "leftSizes" "[I", .fieldLink RX4 27 "OddShoes$Plan" "ringCount" "I", .fieldLink RX4 31 "OddShoes$Plan" "all" "I", .fieldLink RX4 34 "OddShoes$Plan" "pairs" "I", .fieldLink RX4 37 "OddShoes$Plan" "cost" "I", .fieldLink RX4 40 "OddShoes$Plan" "worth" "I", .methodLink RX6 3 objectInit, .fieldLink RX6 9 "OddShoes$Rings" "before" "[I", .fieldLink RX6 15 "OddShoes$Rings" "ranks" "[I", .fieldLink RX6 18 "OddShoes$Rings" "bars" "[I", .fieldLink RX6 21 "OddShoes$Rings" "worths" "[I", .fieldLink RX6 24 "OddShoes$Rings" "leftMarks" "[I", .fieldLink RX6 27 "OddShoes$Rings" "rightMarks" "[I", .fieldLink RX6 30 "OddShoes$Rings" "able" "I", .fieldLink RX6 34 "OddShoes$Rings" "leftFooted" "I"]
def GA2 : List Cond := [.methodLink RX5 3 objectInit, .fieldLink RX5 9 "OddShoes$Planner" "chosen" "[I", .fieldLink RX5 15 "OddShoes$Planner" "chosenCount" "I", .fieldLink RX5 19 "OddShoes$Planner" "all" "I", .fieldLink RX5 22 "OddShoes$Planner" "loops" "[I", .fieldLink RX5 25 "OddShoes$Planner" "firstLoop" "[I", .fieldLink RX5 28 "OddShoes$Planner" "loopCount" "I", .arrayClass .long, .fieldLink RX5 31 "OddShoes$Planner" "gains" "[J", .fieldLink RX5 35 "OddShoes$Planner" "best" "[J", .fieldLink RX5 38 "OddShoes$Planner" "roundOf" "[I", .fieldLink RX5 41 "OddShoes$Planner" "round" "I", .fieldLink RX5 44 "OddShoes$Planner" "rings" "LOddShoes$Rings;", .fieldLink RX5 48 "OddShoes$Planner" "offers" "LOddShoes$Offers;"]
def G0 : List Cond := GA0 ++ (GA1 ++ (GA2))
def G : List Cond := G0 ++ (wsX00 ++ (wsX10 ++ (wsX20 ++ (wsX30 ++ (wsX40 ++ (wsX50 ++ (wsX60 ++ (wsX70 ++ (wsX80 ++ (wsX90 ++ (GT)))))))))))
theorem gw_0 : (.code yX8_isWithin cX8_isWithin 3 (some .boolean) : Cond) ∈ G := List.mem_append_left _ (List.mem_append_left _ (List.mem_of_getElem? (i := 0) rfl))
theorem gw_1 : (.methodLink RX8 101 yX8_isWithin : Cond) ∈ G := List.mem_append_left _ (List.mem_append_left _ (List.mem_of_getElem? (i := 1) rfl))
theorem gw_2 : (.static yX8_isWithin : Cond) ∈ G := List.mem_append_left _ (List.mem_append_left _ (List.mem_of_getElem? (i := 2) rfl))
theorem gw_3 : (.initialized yX8_isWithin.cls : Cond) ∈ G := List.mem_append_left _ (List.mem_append_left _ (List.mem_of_getElem? (i := 3) rfl))
theorem gw_4 : (.constant RJ6 265 (1431655765) : Cond) ∈ G := List.mem_append_left _ (List.mem_append_left _ (List.mem_of_getElem? (i := 4) rfl))
theorem gw_5 : (.constant RJ6 266 (858993459) : Cond) ∈ G := List.mem_append_left _ (List.mem_append_left _ (List.mem_of_getElem? (i := 5) rfl))
theorem gw_6 : (.constant RJ6 267 (252645135) : Cond) ∈ G := List.mem_append_left _ (List.mem_append_left _ (List.mem_of_getElem? (i := 6) rfl))
theorem gw_7 : (.methodLink RX0 3 objectInit : Cond) ∈ G := List.mem_append_left _ (List.mem_append_left _ (List.mem_of_getElem? (i := 7) rfl))
theorem gw_8 : (.instanceMethod objectInit : Cond) ∈ G := List.mem_append_left _ (List.mem_append_left _ (List.mem_of_getElem? (i := 8) rfl))
theorem gw_9 : (.code objectInit ⟨#[0xb1]⟩ 1 none : Cond) ∈ G := List.mem_append_left _ (List.mem_append_left _ (List.mem_of_getElem? (i := 9) rfl))
theorem gw_10 : (.arrayClass .int : Cond) ∈ G := List.mem_append_left _ (List.mem_append_left _ (List.mem_of_getElem? (i := 10) rfl))
theorem gw_11 : (.fieldLink RX0 9 "OddShoes$Maker" "shoes" "[I" : Cond) ∈ G := List.mem_append_left _ (List.mem_append_left _ (List.mem_of_getElem? (i := 11) rfl))
theorem gw_12 : (.methodLink RX2 3 objectInit : Cond) ∈ G := List.mem_append_left _ (List.mem_append_left _ (List.mem_of_getElem? (i := 12) rfl))
theorem gw_13 : (.fieldLink RX2 11 "OddShoes$Offers" "prices" "[I" : Cond) ∈ G := List.mem_append_left _ (List.mem_append_left _ (List.mem_of_getElem? (i := 13) rfl))
theorem gw_14 : (.fieldLink RX2 15 "OddShoes$Offers" "byRank" "[I" : Cond) ∈ G := List.mem_append_left _ (List.mem_append_left _ (List.mem_of_getElem? (i := 14) rfl))
theorem gw_15 : (.fieldLink RX2 18 "OddShoes$Offers" "rankOf" "[I" : Cond) ∈ G := List.mem_append_left _ (List.mem_append_left _ (List.mem_of_getElem? (i := 15) rfl))
theorem gw_16 : (.methodLink RX3 3 objectInit : Cond) ∈ G := List.mem_append_left _ (List.mem_append_left _ (List.mem_of_getElem? (i := 16) rfl))
theorem gw_17 : (.fieldLink RX3 9 "OddShoes$Person" "bars" "I" : Cond) ∈ G := List.mem_append_left _ (List.mem_append_left _ (List.mem_of_getElem? (i := 17) rfl))
theorem gw_18 : (.fieldLink RX3 15 "OddShoes$Person" "shod" "I" : Cond) ∈ G := List.mem_append_left _ (List.mem_append_left _ (List.mem_of_getElem? (i := 18) rfl))
theorem gw_19 : (.fieldLink RX3 18 "OddShoes$Person" "wait" "I" : Cond) ∈ G := List.mem_append_left _ (List.mem_append_left _ (List.mem_of_getElem? (i := 19) rfl))
theorem gw_20 : (.fieldLink RX3 21 "OddShoes$Person" "timesShod" "I" : Cond) ∈ G := List.mem_append_left _ (List.mem_append_left _ (List.mem_of_getElem? (i := 20) rfl))
theorem gw_21 : (.fieldLink RX3 24 "OddShoes$Person" "gone" "Z" : Cond) ∈ G := List.mem_append_left _ (List.mem_append_left _ (List.mem_of_getElem? (i := 21) rfl))
theorem gw_22 : (.fieldLink RX3 28 "OddShoes$Person" "keptShod" "I" : Cond) ∈ G := List.mem_append_left _ (List.mem_append_left _ (List.mem_of_getElem? (i := 22) rfl))
theorem gw_23 : (.fieldLink RX3 31 "OddShoes$Person" "keptWait" "I" : Cond) ∈ G := List.mem_append_left _ (List.mem_append_left _ (List.mem_of_getElem? (i := 23) rfl))
theorem gw_24 : (.fieldLink RX3 34 "OddShoes$Person" "keptTimes" "I" : Cond) ∈ G := List.mem_append_left _ (List.mem_append_left _ (List.mem_of_getElem? (i := 24) rfl))
theorem gw_25 : (.fieldLink RX3 37 "OddShoes$Person" "feet" "I" : Cond) ∈ G := List.mem_append_left _ (List.mem_append_right _ (List.mem_append_left _ (List.mem_of_getElem? (i := 0) rfl)))
theorem gw_26 : (.fieldLink RX3 40 "OddShoes$Person" "likes" "I" : Cond) ∈ G := List.mem_append_left _ (List.mem_append_right _ (List.mem_append_left _ (List.mem_of_getElem? (i := 1) rfl)))
theorem gw_27 : (.fieldLink RX3 43 "OddShoes$Person" "grows" "I" : Cond) ∈ G := List.mem_append_left _ (List.mem_append_right _ (List.mem_append_left _ (List.mem_of_getElem? (i := 2) rfl)))
theorem gw_28 : (.fieldLink RX3 46 "OddShoes$Person" "lasts" "I" : Cond) ∈ G := List.mem_append_left _ (List.mem_append_right _ (List.mem_append_left _ (List.mem_of_getElem? (i := 3) rfl)))
theorem gw_29 : (.fieldLink RX3 49 "OddShoes$Person" "came" "I" : Cond) ∈ G := List.mem_append_left _ (List.mem_append_right _ (List.mem_append_left _ (List.mem_of_getElem? (i := 4) rfl)))
theorem gw_30 : (.methodLink RX4 3 objectInit : Cond) ∈ G := List.mem_append_left _ (List.mem_append_right _ (List.mem_append_left _ (List.mem_of_getElem? (i := 5) rfl)))
theorem gw_31 : (.fieldLink RX4 9 "OddShoes$Plan" "sets" "[I" : Cond) ∈ G := List.mem_append_left _ (List.mem_append_right _ (List.mem_append_left _ (List.mem_of_getElem? (i := 6) rfl)))
theorem gw_32 : (.fieldLink RX4 15 "OddShoes$Plan" "offered" "[I" : Cond) ∈ G := List.mem_append_left _ (List.mem_append_right _ (List.mem_append_left _ (List.mem_of_getElem? (i := 7) rfl)))
theorem gw_33 : (.fieldLink RX4 18 "OddShoes$Plan" "costs" "[I" : Cond) ∈ G := List.mem_append_left _ (List.mem_append_right _ (List.mem_append_left _ (List.mem_of_getElem? (i := 8) rfl)))
theorem gw_34 : (.fieldLink RX4 21 "OddShoes$Plan" "rows" "[I" : Cond) ∈ G := List.mem_append_left _ (List.mem_append_right _ (List.mem_append_left _ (List.mem_of_getElem? (i := 9) rfl)))
theorem gw_35 : (.fieldLink RX4 24 "OddShoes$Plan" "leftSizes" "[I" : Cond) ∈ G := List.mem_append_left _ (List.mem_append_right _ (List.mem_append_left _ (List.mem_of_getElem? (i := 10) rfl)))
theorem gw_36 : (.fieldLink RX4 27 "OddShoes$Plan" "ringCount" "I" : Cond) ∈ G := List.mem_append_left _ (List.mem_append_right _ (List.mem_append_left _ (List.mem_of_getElem? (i := 11) rfl)))
theorem gw_37 : (.fieldLink RX4 31 "OddShoes$Plan" "all" "I" : Cond) ∈ G := List.mem_append_left _ (List.mem_append_right _ (List.mem_append_left _ (List.mem_of_getElem? (i := 12) rfl)))
theorem gw_38 : (.fieldLink RX4 34 "OddShoes$Plan" "pairs" "I" : Cond) ∈ G := List.mem_append_left _ (List.mem_append_right _ (List.mem_append_left _ (List.mem_of_getElem? (i := 13) rfl)))
theorem gw_39 : (.fieldLink RX4 37 "OddShoes$Plan" "cost" "I" : Cond) ∈ G := List.mem_append_left _ (List.mem_append_right _ (List.mem_append_left _ (List.mem_of_getElem? (i := 14) rfl)))
theorem gw_40 : (.fieldLink RX4 40 "OddShoes$Plan" "worth" "I" : Cond) ∈ G := List.mem_append_left _ (List.mem_append_right _ (List.mem_append_left _ (List.mem_of_getElem? (i := 15) rfl)))
theorem gw_41 : (.methodLink RX6 3 objectInit : Cond) ∈ G := List.mem_append_left _ (List.mem_append_right _ (List.mem_append_left _ (List.mem_of_getElem? (i := 16) rfl)))
theorem gw_42 : (.fieldLink RX6 9 "OddShoes$Rings" "before" "[I" : Cond) ∈ G := List.mem_append_left _ (List.mem_append_right _ (List.mem_append_left _ (List.mem_of_getElem? (i := 17) rfl)))
theorem gw_43 : (.fieldLink RX6 15 "OddShoes$Rings" "ranks" "[I" : Cond) ∈ G := List.mem_append_left _ (List.mem_append_right _ (List.mem_append_left _ (List.mem_of_getElem? (i := 18) rfl)))
theorem gw_44 : (.fieldLink RX6 18 "OddShoes$Rings" "bars" "[I" : Cond) ∈ G := List.mem_append_left _ (List.mem_append_right _ (List.mem_append_left _ (List.mem_of_getElem? (i := 19) rfl)))
theorem gw_45 : (.fieldLink RX6 21 "OddShoes$Rings" "worths" "[I" : Cond) ∈ G := List.mem_append_left _ (List.mem_append_right _ (List.mem_append_left _ (List.mem_of_getElem? (i := 20) rfl)))
theorem gw_46 : (.fieldLink RX6 24 "OddShoes$Rings" "leftMarks" "[I" : Cond) ∈ G := List.mem_append_left _ (List.mem_append_right _ (List.mem_append_left _ (List.mem_of_getElem? (i := 21) rfl)))
theorem gw_47 : (.fieldLink RX6 27 "OddShoes$Rings" "rightMarks" "[I" : Cond) ∈ G := List.mem_append_left _ (List.mem_append_right _ (List.mem_append_left _ (List.mem_of_getElem? (i := 22) rfl)))
theorem gw_48 : (.fieldLink RX6 30 "OddShoes$Rings" "able" "I" : Cond) ∈ G := List.mem_append_left _ (List.mem_append_right _ (List.mem_append_left _ (List.mem_of_getElem? (i := 23) rfl)))
theorem gw_49 : (.fieldLink RX6 34 "OddShoes$Rings" "leftFooted" "I" : Cond) ∈ G := List.mem_append_left _ (List.mem_append_right _ (List.mem_append_left _ (List.mem_of_getElem? (i := 24) rfl)))
theorem gw_50 : (.methodLink RX5 3 objectInit : Cond) ∈ G := List.mem_append_left _ (List.mem_append_right _ (List.mem_append_right _ (List.mem_of_getElem? (i := 0) rfl)))
theorem gw_51 : (.fieldLink RX5 9 "OddShoes$Planner" "chosen" "[I" : Cond) ∈ G := List.mem_append_left _ (List.mem_append_right _ (List.mem_append_right _ (List.mem_of_getElem? (i := 1) rfl)))
theorem gw_52 : (.fieldLink RX5 15 "OddShoes$Planner" "chosenCount" "I" : Cond) ∈ G := List.mem_append_left _ (List.mem_append_right _ (List.mem_append_right _ (List.mem_of_getElem? (i := 2) rfl)))
theorem gw_53 : (.fieldLink RX5 19 "OddShoes$Planner" "all" "I" : Cond) ∈ G := List.mem_append_left _ (List.mem_append_right _ (List.mem_append_right _ (List.mem_of_getElem? (i := 3) rfl)))
theorem gw_54 : (.fieldLink RX5 22 "OddShoes$Planner" "loops" "[I" : Cond) ∈ G := List.mem_append_left _ (List.mem_append_right _ (List.mem_append_right _ (List.mem_of_getElem? (i := 4) rfl)))
theorem gw_55 : (.fieldLink RX5 25 "OddShoes$Planner" "firstLoop" "[I" : Cond) ∈ G := List.mem_append_left _ (List.mem_append_right _ (List.mem_append_right _ (List.mem_of_getElem? (i := 5) rfl)))
theorem gw_56 : (.fieldLink RX5 28 "OddShoes$Planner" "loopCount" "I" : Cond) ∈ G := List.mem_append_left _ (List.mem_append_right _ (List.mem_append_right _ (List.mem_of_getElem? (i := 6) rfl)))
theorem gw_57 : (.arrayClass .long : Cond) ∈ G := List.mem_append_left _ (List.mem_append_right _ (List.mem_append_right _ (List.mem_of_getElem? (i := 7) rfl)))
theorem gw_58 : (.fieldLink RX5 31 "OddShoes$Planner" "gains" "[J" : Cond) ∈ G := List.mem_append_left _ (List.mem_append_right _ (List.mem_append_right _ (List.mem_of_getElem? (i := 8) rfl)))
theorem gw_59 : (.fieldLink RX5 35 "OddShoes$Planner" "best" "[J" : Cond) ∈ G := List.mem_append_left _ (List.mem_append_right _ (List.mem_append_right _ (List.mem_of_getElem? (i := 9) rfl)))
theorem gw_60 : (.fieldLink RX5 38 "OddShoes$Planner" "roundOf" "[I" : Cond) ∈ G := List.mem_append_left _ (List.mem_append_right _ (List.mem_append_right _ (List.mem_of_getElem? (i := 10) rfl)))
theorem gw_61 : (.fieldLink RX5 41 "OddShoes$Planner" "round" "I" : Cond) ∈ G := List.mem_append_left _ (List.mem_append_right _ (List.mem_append_right _ (List.mem_of_getElem? (i := 11) rfl)))
theorem gw_62 : (.fieldLink RX5 44 "OddShoes$Planner" "rings" "LOddShoes$Rings;" : Cond) ∈ G := List.mem_append_left _ (List.mem_append_right _ (List.mem_append_right _ (List.mem_of_getElem? (i := 12) rfl)))
theorem gw_63 : (.fieldLink RX5 48 "OddShoes$Planner" "offers" "LOddShoes$Offers;" : Cond) ∈ G := List.mem_append_left _ (List.mem_append_right _ (List.mem_append_right _ (List.mem_of_getElem? (i := 13) rfl)))
theorem inG0 : ∀ w ∈ wsX00, w ∈ G := fun _ h => List.mem_append_right _ (List.mem_append_left _ h)
theorem inG1 : ∀ w ∈ wsX10, w ∈ G := fun _ h => List.mem_append_right _ (List.mem_append_right _ (List.mem_append_left _ h))
theorem inG2 : ∀ w ∈ wsX20, w ∈ G := fun _ h => List.mem_append_right _ (List.mem_append_right _ (List.mem_append_right _ (List.mem_append_left _ h)))
theorem inG3 : ∀ w ∈ wsX30, w ∈ G := fun _ h => List.mem_append_right _ (List.mem_append_right _ (List.mem_append_right _ (List.mem_append_right _ (List.mem_append_left _ h))))
theorem inG4 : ∀ w ∈ wsX40, w ∈ G := fun _ h => List.mem_append_right _ (List.mem_append_right _ (List.mem_append_right _ (List.mem_append_right _ (List.mem_append_right _ (List.mem_append_left _ h)))))
theorem inG5 : ∀ w ∈ wsX50, w ∈ G := fun _ h => List.mem_append_right _ (List.mem_append_right _ (List.mem_append_right _ (List.mem_append_right _ (List.mem_append_right _ (List.mem_append_right _ (List.mem_append_left _ h))))))
theorem inG6 : ∀ w ∈ wsX60, w ∈ G := fun _ h => List.mem_append_right _ (List.mem_append_right _ (List.mem_append_right _ (List.mem_append_right _ (List.mem_append_right _ (List.mem_append_right _ (List.mem_append_right _ (List.mem_append_left _ h)))))))
theorem inG7 : ∀ w ∈ wsX70, w ∈ G := fun _ h => List.mem_append_right _ (List.mem_append_right _ (List.mem_append_right _ (List.mem_append_right _ (List.mem_append_right _ (List.mem_append_right _ (List.mem_append_right _ (List.mem_append_right _ (List.mem_append_left _ h))))))))
theorem inG8 : ∀ w ∈ wsX80, w ∈ G := fun _ h => List.mem_append_right _ (List.mem_append_right _ (List.mem_append_right _ (List.mem_append_right _ (List.mem_append_right _ (List.mem_append_right _ (List.mem_append_right _ (List.mem_append_right _ (List.mem_append_right _ (List.mem_append_left _ h)))))))))
theorem inG9 : ∀ w ∈ wsX90, w ∈ G := fun _ h => List.mem_append_right _ (List.mem_append_right _ (List.mem_append_right _ (List.mem_append_right _ (List.mem_append_right _ (List.mem_append_right _ (List.mem_append_right _ (List.mem_append_right _ (List.mem_append_right _ (List.mem_append_right _ (List.mem_append_left _ h))))))))))
theorem inGT : ∀ w ∈ GT, w ∈ G := fun _ h => List.mem_append_right _ (List.mem_append_right _ (List.mem_append_right _ (List.mem_append_right _ (List.mem_append_right _ (List.mem_append_right _ (List.mem_append_right _ (List.mem_append_right _ (List.mem_append_right _ (List.mem_append_right _ (List.mem_append_right _ (h)))))))))))
set_option maxRecDepth 20000 in
theorem G_all : G.all goodWord = true := by decide +kernel
theorem G_good : ∀ w ∈ G, (w.onTables && w.keeps) = true ∨ ∃ ty, w = .arrayClass ty := fun w h => good_of_word (List.all_eq_true.mp G_all w h)
theorem gI {Ts : List Cond} {y : MethodName} {b : ByteArray} {n : Nat} {r : Option FieldType} (h : ∀ w ∈ G, w ∈ Ts) (h5 : Cond.code y b n r ∈ G) : GoodIn Ts (.code y b n r :: G) := fun w hw => by
  rcases List.mem_cons.mp hw with e | e
  · rw [e]; exact ⟨h _ h5, G_good _ h5⟩
  · exact ⟨h _ e, G_good _ e⟩
theorem gV {Ts : List Cond} {own C : String} {idx : Nat} {y : MethodName} {b : ByteArray} {n : Nat} {r : Option FieldType} (h : ∀ w ∈ G, w ∈ Ts) (h1 : Cond.methodLink own idx y ∈ G) (h2 : Cond.instanceMethod y ∈ G) (h3 : Cond.selects C y y ∈ G) (h4 : Cond.initialized C ∈ G) (h5 : Cond.code y b n r ∈ G) : GoodIn Ts (wsV own idx C y (.code y b n r :: G)) := fun w hw => by
  rcases List.mem_append.mp hw with e | e
  · have : w ∈ G := by
      rcases List.mem_cons.mp e with rfl | e
      · exact h1
      rcases List.mem_cons.mp e with rfl | e
      · exact h2
      rcases List.mem_cons.mp e with rfl | e
      · exact h3
      rcases List.mem_cons.mp e with rfl | e
      · exact h4
      exact absurd e List.not_mem_nil
    exact ⟨h _ this, G_good _ this⟩
  · exact gI h h5 w e
theorem gS {Ts : List Cond} {own : String} {idx : Nat} {y : MethodName} {b : ByteArray} {n : Nat} {r : Option FieldType} (h : ∀ w ∈ G, w ∈ Ts) (h1 : Cond.methodLink own idx y ∈ G) (h2 : Cond.static y ∈ G) (h4 : Cond.initialized y.cls ∈ G) (h5 : Cond.code y b n r ∈ G) : GoodIn Ts (va_wsS own idx y (.code y b n r :: G)) := fun w hw => by
  rcases List.mem_append.mp hw with e | e
  · have : w ∈ G := by
      rcases List.mem_cons.mp e with rfl | e
      · exact h1
      rcases List.mem_cons.mp e with rfl | e
      · exact h2
      rcases List.mem_cons.mp e with rfl | e
      · exact h4
      exact absurd e List.not_mem_nil
    exact ⟨h _ this, G_good _ this⟩
  · exact gI h h5 w e
theorem gSW {Ts : List Cond} {own : String} {idx : Nat} {y : MethodName} {b : ByteArray} {n : Nat} {r : Option FieldType} {hh : List (Nat × Nat × Nat × Nat)} (h : ∀ w ∈ G, w ∈ Ts) (h1 : Cond.methodLink own idx y ∈ G) (h2 : Cond.static y ∈ G) (h4 : Cond.initialized y.cls ∈ G) (h5 : Cond.codeWith y b n r hh ∈ G) : GoodIn Ts (va_wsS own idx y (.codeWith y b n r hh :: G)) := fun w hw => by
  rcases List.mem_append.mp hw with e | e
  · have : w ∈ G := by
      rcases List.mem_cons.mp e with rfl | e
      · exact h1
      rcases List.mem_cons.mp e with rfl | e
      · exact h2
      rcases List.mem_cons.mp e with rfl | e
      · exact h4
      exact absurd e List.not_mem_nil
    exact ⟨h _ this, G_good _ this⟩
  · rcases List.mem_cons.mp e with e | e
    · rw [e]; exact ⟨h _ h5, G_good _ h5⟩
    · exact ⟨h _ e, G_good _ e⟩
theorem dvX0 : ∀ j, j < 1 → defaultValue (tyX0 j) = vp_V [.null] j := by decide +kernel
theorem dvX1 : ∀ j, j < 7 → defaultValue (tyX1 j) = vp_V [.int 0, .null, .null, .null, .null, .null, .null] j := by decide +kernel
theorem dvX2 : ∀ j, j < 3 → defaultValue (tyX2 j) = vp_V [.null, .null, .null] j := by decide +kernel
theorem dvX3 : ∀ j, j < 13 → defaultValue (tyX3 j) = vp_V [.int 0, .int 0, .int 0, .int 0, .int 0, .int 0, .int 0, .int 0, .int 0, .int 0, .int 0, .int 0, .int 0] j := by decide +kernel
theorem dvX4 : ∀ j, j < 10 → defaultValue (tyX4 j) = vp_V [.null, .null, .null, .null, .null, .int 0, .int 0, .int 0, .int 0, .int 0] j := by decide +kernel
theorem dvX5 : ∀ j, j < 12 → defaultValue (tyX5 j) = vp_V [.null, .int 0, .int 0, .null, .null, .null, .null, .int 0, .null, .null, .null, .int 0] j := by decide +kernel
theorem dvX6 : ∀ j, j < 8 → defaultValue (tyX6 j) = vp_V [.null, .null, .null, .null, .null, .null, .int 0, .int 0] j := by decide +kernel
theorem dvX7 : ∀ j, j < 8 → defaultValue (tyX7 j) = vp_V [.int 0, .int 0, .int 0, .int 0, .int 0, .int 0, .int 0, .int 0] j := by decide +kernel
theorem dvX8 : ∀ j, j < 19 → defaultValue (tyX8 j) = vp_V [.null, .null, .null, .null, .null, .null, .null, .null, .int 0, .int 0, .int 0, .int 0, .int 0, .int 0, .int 0, .int 0, .int 0, .int 0, .int 0] j := by decide +kernel
theorem dvX9 : ∀ j, j < 53 → defaultValue (tyX9 j) = vp_V [.int 0, .int 0, .int 0, .int 0, .int 0, .int 0, .int 0, .null, .null, .null, .null, .null, .null, .null, .null, .null, .null, .null, .null, .null, .null, .null, .null, .null, .null, .int 0, .int 0, .int 0, .null, .int 0, .null, .null, .null, .null, .int 0, .null, .int 0, .null, .null, .null, .null, .int 0, .int 0, .int 0, .int 0, .null, .null, .null, .null, .null, .null, .null, .null] j := by decide +kernel
