/-! the layer of this claim: the words, the facts that every method is given, one shape of contract, calls, ends -/
def gW : List Cond := lw_tbl.filter goodWord
theorem gW_mem {w : Cond} (h : w ∈ lw_tbl) (g : goodWord w = true) : w ∈ gW := List.mem_filter.mpr ⟨h, g⟩
theorem gW_good {w : Cond} (h : w ∈ gW) : (w.onTables && w.keeps) = true ∨ ∃ ty, w = .arrayClass ty := good_of_word (List.mem_filter.mp h).2
theorem gW_in {L : List Cond} (h : ∀ w ∈ L, w ∈ gW) : GoodIn gW L := fun w hw => ⟨h w hw, gW_good (h w hw)⟩
theorem gt_1 {w : Cond} (i : Nat) (h : tables_1_1[i]? = some w) (g : goodWord w = true) : w ∈ gW := gW_mem (List.mem_append_right _ (List.mem_append_left _ (List.mem_of_getElem? h))) g
theorem tt_1 {w : Cond} (i : Nat) (h : tables_1_1[i]? = some w) : w ∈ lw_tbl := List.mem_append_right _ (List.mem_append_left _ (List.mem_of_getElem? h))
theorem gt_2 {w : Cond} (i : Nat) (h : tables_1_2[i]? = some w) (g : goodWord w = true) : w ∈ gW := gW_mem (List.mem_append_right _ (List.mem_append_right _ (List.mem_append_left _ (List.mem_of_getElem? h)))) g
theorem tt_2 {w : Cond} (i : Nat) (h : tables_1_2[i]? = some w) : w ∈ lw_tbl := List.mem_append_right _ (List.mem_append_right _ (List.mem_append_left _ (List.mem_of_getElem? h)))
theorem gt_3 {w : Cond} (i : Nat) (h : tables_1_3[i]? = some w) (g : goodWord w = true) : w ∈ gW := gW_mem (List.mem_append_right _ (List.mem_append_right _ (List.mem_append_right _ (List.mem_append_left _ (List.mem_of_getElem? h))))) g
theorem tt_3 {w : Cond} (i : Nat) (h : tables_1_3[i]? = some w) : w ∈ lw_tbl := List.mem_append_right _ (List.mem_append_right _ (List.mem_append_right _ (List.mem_append_left _ (List.mem_of_getElem? h))))
theorem gt_4 {w : Cond} (i : Nat) (h : tables_1_4[i]? = some w) (g : goodWord w = true) : w ∈ gW := gW_mem (List.mem_append_right _ (List.mem_append_right _ (List.mem_append_right _ (List.mem_append_right _ (List.mem_append_left _ (List.mem_of_getElem? h)))))) g
theorem tt_4 {w : Cond} (i : Nat) (h : tables_1_4[i]? = some w) : w ∈ lw_tbl := List.mem_append_right _ (List.mem_append_right _ (List.mem_append_right _ (List.mem_append_right _ (List.mem_append_left _ (List.mem_of_getElem? h)))))
theorem gt_5 {w : Cond} (i : Nat) (h : tables_1_5[i]? = some w) (g : goodWord w = true) : w ∈ gW := gW_mem (List.mem_append_right _ (List.mem_append_right _ (List.mem_append_right _ (List.mem_append_right _ (List.mem_append_right _ (List.mem_append_left _ (List.mem_of_getElem? h))))))) g
theorem tt_5 {w : Cond} (i : Nat) (h : tables_1_5[i]? = some w) : w ∈ lw_tbl := List.mem_append_right _ (List.mem_append_right _ (List.mem_append_right _ (List.mem_append_right _ (List.mem_append_right _ (List.mem_append_left _ (List.mem_of_getElem? h))))))
theorem gt_6 {w : Cond} (i : Nat) (h : tables_1_6[i]? = some w) (g : goodWord w = true) : w ∈ gW := gW_mem (List.mem_append_right _ (List.mem_append_right _ (List.mem_append_right _ (List.mem_append_right _ (List.mem_append_right _ (List.mem_append_right _ (List.mem_append_left _ (List.mem_of_getElem? h)))))))) g
theorem tt_6 {w : Cond} (i : Nat) (h : tables_1_6[i]? = some w) : w ∈ lw_tbl := List.mem_append_right _ (List.mem_append_right _ (List.mem_append_right _ (List.mem_append_right _ (List.mem_append_right _ (List.mem_append_right _ (List.mem_append_left _ (List.mem_of_getElem? h)))))))
theorem gt_7 {w : Cond} (i : Nat) (h : tables_1_7[i]? = some w) (g : goodWord w = true) : w ∈ gW := gW_mem (List.mem_append_right _ (List.mem_append_right _ (List.mem_append_right _ (List.mem_append_right _ (List.mem_append_right _ (List.mem_append_right _ (List.mem_append_right _ (List.mem_append_left _ (List.mem_of_getElem? h))))))))) g
theorem tt_7 {w : Cond} (i : Nat) (h : tables_1_7[i]? = some w) : w ∈ lw_tbl := List.mem_append_right _ (List.mem_append_right _ (List.mem_append_right _ (List.mem_append_right _ (List.mem_append_right _ (List.mem_append_right _ (List.mem_append_right _ (List.mem_append_left _ (List.mem_of_getElem? h))))))))
theorem gt_8 {w : Cond} (i : Nat) (h : tables_1_8[i]? = some w) (g : goodWord w = true) : w ∈ gW := gW_mem (List.mem_append_right _ (List.mem_append_right _ (List.mem_append_right _ (List.mem_append_right _ (List.mem_append_right _ (List.mem_append_right _ (List.mem_append_right _ (List.mem_append_right _ (List.mem_append_left _ (List.mem_of_getElem? h)))))))))) g
theorem tt_8 {w : Cond} (i : Nat) (h : tables_1_8[i]? = some w) : w ∈ lw_tbl := List.mem_append_right _ (List.mem_append_right _ (List.mem_append_right _ (List.mem_append_right _ (List.mem_append_right _ (List.mem_append_right _ (List.mem_append_right _ (List.mem_append_right _ (List.mem_append_left _ (List.mem_of_getElem? h)))))))))
theorem gt_9 {w : Cond} (i : Nat) (h : tables_1_9[i]? = some w) (g : goodWord w = true) : w ∈ gW := gW_mem (List.mem_append_right _ (List.mem_append_right _ (List.mem_append_right _ (List.mem_append_right _ (List.mem_append_right _ (List.mem_append_right _ (List.mem_append_right _ (List.mem_append_right _ (List.mem_append_right _ (List.mem_append_left _ (List.mem_of_getElem? h))))))))))) g
theorem tt_9 {w : Cond} (i : Nat) (h : tables_1_9[i]? = some w) : w ∈ lw_tbl := List.mem_append_right _ (List.mem_append_right _ (List.mem_append_right _ (List.mem_append_right _ (List.mem_append_right _ (List.mem_append_right _ (List.mem_append_right _ (List.mem_append_right _ (List.mem_append_right _ (List.mem_append_left _ (List.mem_of_getElem? h))))))))))
theorem gt_10 {w : Cond} (i : Nat) (h : tables_1_10[i]? = some w) (g : goodWord w = true) : w ∈ gW := gW_mem (List.mem_append_right _ (List.mem_append_right _ (List.mem_append_right _ (List.mem_append_right _ (List.mem_append_right _ (List.mem_append_right _ (List.mem_append_right _ (List.mem_append_right _ (List.mem_append_right _ (List.mem_append_right _ (List.mem_append_left _ (List.mem_of_getElem? h)))))))))))) g
theorem tt_10 {w : Cond} (i : Nat) (h : tables_1_10[i]? = some w) : w ∈ lw_tbl := List.mem_append_right _ (List.mem_append_right _ (List.mem_append_right _ (List.mem_append_right _ (List.mem_append_right _ (List.mem_append_right _ (List.mem_append_right _ (List.mem_append_right _ (List.mem_append_right _ (List.mem_append_right _ (List.mem_append_left _ (List.mem_of_getElem? h)))))))))))
theorem gt_11 {w : Cond} (i : Nat) (h : tables_1_11[i]? = some w) (g : goodWord w = true) : w ∈ gW := gW_mem (List.mem_append_right _ (List.mem_append_right _ (List.mem_append_right _ (List.mem_append_right _ (List.mem_append_right _ (List.mem_append_right _ (List.mem_append_right _ (List.mem_append_right _ (List.mem_append_right _ (List.mem_append_right _ (List.mem_append_right _ (List.mem_append_left _ (List.mem_of_getElem? h))))))))))))) g
theorem tt_11 {w : Cond} (i : Nat) (h : tables_1_11[i]? = some w) : w ∈ lw_tbl := List.mem_append_right _ (List.mem_append_right _ (List.mem_append_right _ (List.mem_append_right _ (List.mem_append_right _ (List.mem_append_right _ (List.mem_append_right _ (List.mem_append_right _ (List.mem_append_right _ (List.mem_append_right _ (List.mem_append_right _ (List.mem_append_left _ (List.mem_of_getElem? h))))))))))))
theorem gt_12 {w : Cond} (i : Nat) (h : tables_1_12[i]? = some w) (g : goodWord w = true) : w ∈ gW := gW_mem (List.mem_append_right _ (List.mem_append_right _ (List.mem_append_right _ (List.mem_append_right _ (List.mem_append_right _ (List.mem_append_right _ (List.mem_append_right _ (List.mem_append_right _ (List.mem_append_right _ (List.mem_append_right _ (List.mem_append_right _ (List.mem_append_right _ (List.mem_append_left _ (List.mem_of_getElem? h)))))))))))))) g
theorem tt_12 {w : Cond} (i : Nat) (h : tables_1_12[i]? = some w) : w ∈ lw_tbl := List.mem_append_right _ (List.mem_append_right _ (List.mem_append_right _ (List.mem_append_right _ (List.mem_append_right _ (List.mem_append_right _ (List.mem_append_right _ (List.mem_append_right _ (List.mem_append_right _ (List.mem_append_right _ (List.mem_append_right _ (List.mem_append_right _ (List.mem_append_left _ (List.mem_of_getElem? h)))))))))))))
theorem gt_13 {w : Cond} (i : Nat) (h : tables_1_13[i]? = some w) (g : goodWord w = true) : w ∈ gW := gW_mem (List.mem_append_right _ (List.mem_append_right _ (List.mem_append_right _ (List.mem_append_right _ (List.mem_append_right _ (List.mem_append_right _ (List.mem_append_right _ (List.mem_append_right _ (List.mem_append_right _ (List.mem_append_right _ (List.mem_append_right _ (List.mem_append_right _ (List.mem_append_right _ (List.mem_append_left _ (List.mem_of_getElem? h))))))))))))))) g
theorem tt_13 {w : Cond} (i : Nat) (h : tables_1_13[i]? = some w) : w ∈ lw_tbl := List.mem_append_right _ (List.mem_append_right _ (List.mem_append_right _ (List.mem_append_right _ (List.mem_append_right _ (List.mem_append_right _ (List.mem_append_right _ (List.mem_append_right _ (List.mem_append_right _ (List.mem_append_right _ (List.mem_append_right _ (List.mem_append_right _ (List.mem_append_right _ (List.mem_append_left _ (List.mem_of_getElem? h))))))))))))))
theorem gt_14 {w : Cond} (i : Nat) (h : tables_1_14[i]? = some w) (g : goodWord w = true) : w ∈ gW := gW_mem (List.mem_append_right _ (List.mem_append_right _ (List.mem_append_right _ (List.mem_append_right _ (List.mem_append_right _ (List.mem_append_right _ (List.mem_append_right _ (List.mem_append_right _ (List.mem_append_right _ (List.mem_append_right _ (List.mem_append_right _ (List.mem_append_right _ (List.mem_append_right _ (List.mem_append_right _ (List.mem_of_getElem? h))))))))))))))) g
theorem tt_14 {w : Cond} (i : Nat) (h : tables_1_14[i]? = some w) : w ∈ lw_tbl := List.mem_append_right _ (List.mem_append_right _ (List.mem_append_right _ (List.mem_append_right _ (List.mem_append_right _ (List.mem_append_right _ (List.mem_append_right _ (List.mem_append_right _ (List.mem_append_right _ (List.mem_append_right _ (List.mem_append_right _ (List.mem_append_right _ (List.mem_append_right _ (List.mem_append_right _ (List.mem_of_getElem? h))))))))))))))
theorem gt_s {q : MethodName × Nat} (i : Nat) (h : lw_privs[i]? = some q) : Cond.selects q.1.cls q.1 q.1 ∈ gW := gW_mem (List.mem_append_left _ (List.mem_map.mpr ⟨q, List.mem_of_getElem? h, rfl⟩)) rfl
def gStr : List (String × Nat × String) := [("Blazonry", 97, "no such word"), ("Blazonry", 108, "the row is full"), ("Blazonry", 526, "no such point"), ("Blazonry", 546, "the row of words is wrong"), ("Blazonry", 540, "no such shape"), ("Blazonry", 542, "no such tincture"), ("Blazonry", 158, "no such group"), ("Blazonry", 173, "no such charges"), ("Blazonry", 185, "no word for a tincture"), ("Blazonry", 538, "no such tradition"), ("Blazonry", 205, "no such number of years"), ("Blazonry", 210, "the years are at their end"), ("Blazonry", 529, "no such person"), ("Blazonry", 221, "no father, or no mother"), ("Blazonry", 225, "there are too many persons"), ("Blazonry", 548, "this one is dead"), ("Blazonry", 245, "no man and woman"), ("Blazonry", 250, "married"), ("Blazonry", 261, "not married"), ("Blazonry", 536, "no such land"), ("Blazonry", 273, "too near to arms of this land"), ("Blazonry", 552, "there are too many arms"), ("Blazonry", 288, "bears arms of this land"), ("Blazonry", 531, "no such arms"), ("Blazonry", 355, "there are no arms"), ("Blazonry", 306, "no such difference"), ("Blazonry", 318, "nothing to be called to"), ("Blazonry", 550, "no such quarter"), ("Blazonry", 369, "nothing to sue for"), ("Blazonry", 554, "there are too many judgments"), ("Blazonry", 534, "no such judgment"), ("Blazonry", 384, "no such class"), ("Blazonry", 389, "no precedent"), ("Blazonry", 394, "no appeal from it"), ("Blazonry", 399, "no such rank"), ("Blazonry", 544, "no such charge"), ("Blazonry", 413, "no crest is shown"), ("Blazonry", 423, "no supporter is shown"), ("Blazonry", 431, "the arms are void"), ("Blazonry", 451, "nobody lives")]
def gNM : List (String × Nat × MethodName × String) := [("Blazonry$Painter", 46, ⟨"Blazonry$Group", "<init>", "()V"⟩, "Blazonry"), ("Blazonry$Painter", 53, ⟨"Blazonry$Picture", "<init>", "()V"⟩, "Blazonry"), ("Blazonry$Blazon", 24, ⟨"Blazonry$Group", "<init>", "()V"⟩, "Blazonry"), ("Blazonry", 25, ⟨"Blazonry$Picture", "<init>", "()V"⟩, "Blazonry"), ("Blazonry$Teller", 32, ⟨"Blazonry$Group", "<init>", "()V"⟩, "Blazonry"), ("Blazonry$Teller", 37, ⟨"Blazonry$Picture", "<init>", "()V"⟩, "Blazonry"), ("Blazonry", 44, ⟨"Blazonry$Kin", "<init>", "()V"⟩, "Blazonry"), ("Blazonry$Roll", 48, ⟨"Blazonry$Picture", "<init>", "()V"⟩, "Blazonry"), ("Blazonry$Marshal", 25, ⟨"Blazonry$Picture", "<init>", "()V"⟩, "Blazonry"), ("Blazonry$Teller", 87, ⟨"Blazonry$Group", "put", "([III)I"⟩, "Blazonry"), ("BlazonryModel", 28, ⟨"BlazonryModel$Blazon", "<init>", "()V"⟩, "BlazonryModel"), ("BlazonryModel$Blazon", 19, ⟨"BlazonryModel$Group", "<init>", "()V"⟩, "BlazonryModel")]
def gNF : List (String × Nat × String × String × String × String) := [("Blazonry$Painter", 62, "Blazonry", "CHARGE_BITS", "[I", "Blazonry"), ("Blazonry$Roll", 62, "Blazonry$Blazon", "words", "[I", "Blazonry"), ("java/util/ArrayList$Itr", 28, "java/util/ArrayList", "size", "I", "java/util/ArrayList"), ("BlazonryModel", 102, "BlazonryModel$Blazon", "parting", "I", "BlazonryModel"), ("BlazonryModel", 171, "BlazonryModel$Blazon", "line", "I", "BlazonryModel"), ("BlazonryModel", 108, "BlazonryModel$Blazon", "first", "I", "BlazonryModel"), ("BlazonryModel", 111, "BlazonryModel$Blazon", "second", "I", "BlazonryModel"), ("BlazonryModel", 172, "BlazonryModel$Blazon", "many", "I", "BlazonryModel"), ("BlazonryModel", 218, "BlazonryModel$Blazon", "groups", "[LBlazonryModel$Group;", "BlazonryModel"), ("BlazonryModel", 142, "BlazonryModel$Group", "form", "C", "BlazonryModel"), ("BlazonryModel", 146, "BlazonryModel$Group", "ordinary", "I", "BlazonryModel"), ("BlazonryModel", 132, "BlazonryModel$Group", "line", "I", "BlazonryModel"), ("BlazonryModel", 153, "BlazonryModel$Group", "tincture", "I", "BlazonryModel"), ("BlazonryModel", 135, "BlazonryModel$Group", "hasOn", "Z", "BlazonryModel"), ("BlazonryModel", 155, "BlazonryModel$Group", "onNumber", "I", "BlazonryModel"), ("BlazonryModel", 158, "BlazonryModel$Group", "onCharge", "I", "BlazonryModel"), ("BlazonryModel", 161, "BlazonryModel$Group", "onAttitude", "I", "BlazonryModel"), ("BlazonryModel", 164, "BlazonryModel$Group", "onTincture", "I", "BlazonryModel"), ("BlazonryModel", 114, "BlazonryModel$Group", "number", "I", "BlazonryModel"), ("BlazonryModel", 119, "BlazonryModel$Group", "charge", "I", "BlazonryModel"), ("BlazonryModel", 125, "BlazonryModel$Group", "attitude", "I", "BlazonryModel"), ("BlazonryModel", 139, "BlazonryModel$Group", "place", "I", "BlazonryModel"), ("BlazonryModel", 211, "BlazonryModel$Group", "drawn", "I", "BlazonryModel"), ("BlazonryModel", 202, "BlazonryModel$Group", "onDrawn", "I", "BlazonryModel"), ("BlazonryModel", 333, "BlazonryModel$Person", "number", "I", "BlazonryModel"), ("BlazonryModel", 310, "BlazonryModel$Person", "father", "I", "BlazonryModel"), ("BlazonryModel", 482, "BlazonryModel$Person", "mother", "I", "BlazonryModel"), ("BlazonryModel", 300, "BlazonryModel$Person", "isMan", "Z", "BlazonryModel"), ("BlazonryModel", 330, "BlazonryModel$Person", "lives", "Z", "BlazonryModel"), ("BlazonryModel", 367, "BlazonryModel$Person", "died", "I", "BlazonryModel"), ("BlazonryModel", 355, "BlazonryModel$Person", "wasHeiress", "Z", "BlazonryModel"), ("BlazonryModel", 361, "BlazonryModel$Person", "wasHeir", "Z", "BlazonryModel"), ("BlazonryModel", 351, "BlazonryModel$Person", "bore", "LBlazonryModel$Bearing;", "BlazonryModel"), ("BlazonryModel", 344, "BlazonryModel$Person", "spouse", "I", "BlazonryModel"), ("BlazonryModel", 546, "BlazonryModel$Person", "rank", "I", "BlazonryModel"), ("BlazonryModel", 549, "BlazonryModel$Person", "crest", "I", "BlazonryModel"), ("BlazonryModel", 556, "BlazonryModel$Person", "right", "I", "BlazonryModel"), ("BlazonryModel", 559, "BlazonryModel$Person", "left", "I", "BlazonryModel"), ("BlazonryModel", 495, "BlazonryModel$Person", "isAbated", "Z", "BlazonryModel"), ("BlazonryModel", 378, "BlazonryModel$Bearing", "arms", "I", "BlazonryModel"), ("BlazonryModel", 395, "BlazonryModel$Bearing", "differences", "[I", "BlazonryModel"), ("BlazonryModel", 498, "BlazonryModel$Arms", "words", "[I", "BlazonryModel"), ("BlazonryModel", 455, "BlazonryModel$Arms", "blazon", "LBlazonryModel$Blazon;", "BlazonryModel"), ("BlazonryModel", 419, "BlazonryModel$Arms", "land", "I", "BlazonryModel"), ("BlazonryModel", 386, "BlazonryModel$Arms", "bearer", "I", "BlazonryModel"), ("BlazonryModel", 449, "BlazonryModel$Arms", "year", "I", "BlazonryModel"), ("BlazonryModel", 375, "BlazonryModel$Arms", "by", "C", "BlazonryModel"), ("BlazonryModel", 464, "BlazonryModel$Arms", "square", "I", "BlazonryModel"), ("BlazonryModel", 467, "BlazonryModel$Arms", "charge", "I", "BlazonryModel"), ("BlazonryModel", 468, "BlazonryModel$Arms", "charged", "I", "BlazonryModel"), ("BlazonryModel", 413, "BlazonryModel$Arms", "called", "I", "BlazonryModel"), ("BlazonryModel", 543, "BlazonryModel$Judgment", "winner", "I", "BlazonryModel"), ("BlazonryModel", 517, "BlazonryModel$Judgment", "loser", "I", "BlazonryModel"), ("BlazonryModel", 513, "BlazonryModel$Judgment", "land", "I", "BlazonryModel"), ("BlazonryModel", 514, "BlazonryModel$Judgment", "distance", "I", "BlazonryModel"), ("BlazonryModel", 539, "BlazonryModel$Judgment", "year", "I", "BlazonryModel"), ("BlazonryModel", 526, "BlazonryModel$Judgment", "letter", "C", "BlazonryModel"), ("BlazonryModel", 540, "BlazonryModel$Judgment", "isAppeal", "Z", "BlazonryModel"), ("BlazonryModel", 520, "BlazonryModel$Judgment", "loserBy", "C", "BlazonryModel"), ("BlazonryModel", 510, "BlazonryModel$Judgment", "stands", "Z", "BlazonryModel")]
def gCa : List (String × String) := [("java/lang/IllegalArgumentException", "java/lang/IllegalArgumentException"), ("java/lang/IllegalStateException", "java/lang/IllegalStateException"), ("java/lang/ArrayIndexOutOfBoundsException", "java/lang/ArrayIndexOutOfBoundsException"), ("java/lang/IndexOutOfBoundsException", "java/lang/IndexOutOfBoundsException"), ("java/lang/UnsupportedOperationException", "java/lang/UnsupportedOperationException"), ("java/util/NoSuchElementException", "java/util/NoSuchElementException"), ("java/lang/ArithmeticException", "java/lang/ArithmeticException"), ("java/util/ArrayList$Itr", "java/util/Iterator"), ("java/lang/ArrayIndexOutOfBoundsException", "java/lang/IndexOutOfBoundsException"), ("Blazonry$Group", "java/lang/Object"), ("Blazonry$Picture", "java/lang/Object"), ("Blazonry$Blazon", "java/lang/Object"), ("BlazonryModel$Group", "java/lang/Object"), ("Blazonry", "java/lang/Object"), ("Blazonry$Painter", "java/lang/Object"), ("Blazonry$Teller", "java/lang/Object"), ("Blazonry$Kin", "java/lang/Object"), ("Blazonry$Roll", "java/lang/Object"), ("Blazonry$Bearing", "java/lang/Object"), ("Blazonry$Honours", "java/lang/Object"), ("Blazonry$Marshal", "java/lang/Object"), ("Blazonry$Court", "java/lang/Object"), ("BlazonryModel", "java/lang/Object"), ("java/util/ArrayList", "java/lang/Object"), ("BlazonryModel$Blazon", "java/lang/Object"), ("java/lang/IllegalArgumentException", "java/lang/Object"), ("java/lang/IllegalStateException", "java/lang/Object"), ("java/lang/ArrayIndexOutOfBoundsException", "java/lang/Object"), ("java/lang/IndexOutOfBoundsException", "java/lang/Object"), ("java/lang/UnsupportedOperationException", "java/lang/Object"), ("java/util/NoSuchElementException", "java/lang/Object"), ("BlazonryModel$Person", "java/lang/Object"), ("BlazonryModel$Bearing", "java/lang/Object"), ("java/util/ArrayList$Itr", "java/lang/Object"), ("BlazonryModel$Arms", "java/lang/Object"), ("BlazonryModel$Judgment", "java/lang/Object"), ("java/lang/ArithmeticException", "java/lang/Object"), ("java/lang/Throwable", "java/lang/Object"), ("java/lang/String", "java/lang/Object"), ("[[I", "java/lang/Object"), ("[I", "java/lang/Object"), ("[J", "java/lang/Object"), ("[LBlazonry$Group;", "java/lang/Object"), ("[LBlazonry$Picture;", "java/lang/Object"), ("[Z", "java/lang/Object"), ("[LBlazonry$Blazon;", "java/lang/Object"), ("[[J", "java/lang/Object"), ("[C", "java/lang/Object"), ("[B", "java/lang/Object"), ("[LBlazonryModel$Group;", "java/lang/Object"), ("[Ljava/lang/Object;", "java/lang/Object"), ("[D", "java/lang/Object")]
def gDe : List MethodName := [⟨"java/lang/RuntimeException", "<init>", "()V"⟩, ⟨"java/lang/RuntimeException", "<init>", "(Ljava/lang/String;)V"⟩, ⟨"java/lang/Exception", "<init>", "()V"⟩, ⟨"java/lang/Exception", "<init>", "(Ljava/lang/String;)V"⟩, ⟨"java/lang/Throwable", "<init>", "()V"⟩, ⟨"java/lang/Throwable", "<init>", "(Ljava/lang/String;)V"⟩, ⟨"java/lang/IndexOutOfBoundsException", "<init>", "()V"⟩, ⟨"java/lang/IndexOutOfBoundsException", "<init>", "(Ljava/lang/String;)V"⟩, ⟨"java/util/Iterator", "hasNext", "()Z"⟩, ⟨"java/util/Iterator", "next", "()Ljava/lang/Object;"⟩, ⟨"java/lang/Object", "getClass", "()Ljava/lang/Class;"⟩]
def gNo : List (String × String) := [("java/lang/ArithmeticException", "java/lang/IllegalArgumentException"), ("java/lang/ArithmeticException", "java/lang/IllegalStateException"), ("java/lang/ArithmeticException", "java/lang/IndexOutOfBoundsException"), ("java/lang/ArithmeticException", "java/lang/UnsupportedOperationException"), ("java/lang/ArithmeticException", "java/util/NoSuchElementException"), ("java/lang/ArrayIndexOutOfBoundsException", "java/lang/ArithmeticException"), ("java/lang/ArrayIndexOutOfBoundsException", "java/lang/IllegalArgumentException"), ("java/lang/ArrayIndexOutOfBoundsException", "java/lang/IllegalStateException"), ("java/lang/ArrayIndexOutOfBoundsException", "java/lang/UnsupportedOperationException"), ("java/lang/ArrayIndexOutOfBoundsException", "java/util/NoSuchElementException"), ("java/lang/IllegalArgumentException", "java/lang/ArithmeticException"), ("java/lang/IllegalArgumentException", "java/lang/IllegalStateException"), ("java/lang/IllegalArgumentException", "java/lang/IndexOutOfBoundsException"), ("java/lang/IllegalArgumentException", "java/lang/UnsupportedOperationException"), ("java/lang/IllegalArgumentException", "java/util/NoSuchElementException"), ("java/lang/IllegalStateException", "java/lang/ArithmeticException"), ("java/lang/IllegalStateException", "java/lang/IllegalArgumentException"), ("java/lang/IllegalStateException", "java/lang/IndexOutOfBoundsException"), ("java/lang/IllegalStateException", "java/lang/UnsupportedOperationException"), ("java/lang/IllegalStateException", "java/util/NoSuchElementException"), ("java/lang/IndexOutOfBoundsException", "java/lang/ArithmeticException"), ("java/lang/IndexOutOfBoundsException", "java/lang/IllegalArgumentException"), ("java/lang/IndexOutOfBoundsException", "java/lang/IllegalStateException"), ("java/lang/IndexOutOfBoundsException", "java/lang/UnsupportedOperationException"), ("java/lang/IndexOutOfBoundsException", "java/util/NoSuchElementException"), ("java/lang/UnsupportedOperationException", "java/lang/ArithmeticException"), ("java/lang/UnsupportedOperationException", "java/lang/IllegalArgumentException"), ("java/lang/UnsupportedOperationException", "java/lang/IllegalStateException"), ("java/lang/UnsupportedOperationException", "java/lang/IndexOutOfBoundsException"), ("java/lang/UnsupportedOperationException", "java/util/NoSuchElementException"), ("java/util/NoSuchElementException", "java/lang/ArithmeticException"), ("java/util/NoSuchElementException", "java/lang/IllegalArgumentException"), ("java/util/NoSuchElementException", "java/lang/IllegalStateException"), ("java/util/NoSuchElementException", "java/lang/IndexOutOfBoundsException"), ("java/util/NoSuchElementException", "java/lang/UnsupportedOperationException")]
def gAO : List String := ["Blazonry$Group", "Blazonry$Picture", "Blazonry$Blazon", "BlazonryModel$Group", "java/lang/Object"]
def cBits : Nat → Int32 := fun k => [186, 341, 146, 56, 495, 511, 434, 244].getD k 0
def tyl (dA : Nat → ClassId) : List (ClassId × FieldType) := [(dA 0, .int), (dA 1, .boolean), (dA 2, .char), (dA 3, .long), (dA 4, .double), (dA 5, .array .int), (dA 6, .array .long), (dA 7, .object "Blazonry$Group"), (dA 8, .object "Blazonry$Picture"), (dA 9, .object "Blazonry$Blazon"), (dA 10, .object "BlazonryModel$Group"), (dA 11, .object "java/lang/Object")]
def kq_hn : MethodName := ⟨"java/util/Iterator", "hasNext", "()Z"⟩
/-- what the start gives and nobody changes: strings, links of nest mates, casts, statics -/
def gs (tE tC : Nat) (A : Nat → Prop) (U : State) : Prop :=
  (∀ q ∈ gStr, ∃ a, vk_R q.1 q.2.1 q.2.2 a U) ∧ (∀ q ∈ gNM, va_Nw (.methodLinkNest q.1 q.2.1 q.2.2.1 q.2.2.2) U) ∧ (∀ q ∈ gNF, va_Nw (.fieldLinkNest q.1 q.2.1 q.2.2.1 q.2.2.2.1 q.2.2.2.2.1 q.2.2.2.2.2) U) ∧
  (∀ q ∈ gCa, va_Nw (.castable q.1 q.2) U) ∧ (∀ q ∈ gNo, va_Nc q.1 q.2 U) ∧ (∀ C ∈ gAO, va_AO C U) ∧ va_AOA .int U ∧ va_AOA .long U ∧
  va_Fw "java/util/ArrayList$Itr" kq_hn ⟨"java/util/ArrayList$Itr", "hasNext", "()Z"⟩ U ∧
  vx_Zq Bundle.tN "UNASSIGNED_STACK" Bundle.steD A U U.heap ∧ vx_Zq Bundle.tN "SUPPRESSED_SENTINEL" Bundle.listD A U U.heap ∧
  va_Z "java/util/ArrayList" "DEFAULTCAPACITY_EMPTY_ELEMENTDATA" "[Ljava/lang/Object;" (.ref tE) A U U.heap ∧ va_T (.object "java/lang/Object") tE 0 (fun _ => .null) A U U.heap ∧
  va_Z "Blazonry" "CHARGE_BITS" "[I" (.ref tC) A U U.heap ∧ va_T .int tC 8 (fun k => .int (cBits k)) A U U.heap ∧ (∀ y ∈ gDe, va_Nw (.declares y) U)
theorem kq_De_moved {y : MethodName} {u U : State} (hvm : u.vm.Alike U.vm) (h : va_Nw (.declares y) u) : va_Nw (.declares y) U := by
  have e := Cond.onTables_vm (A := #[]) (A' := #[]) (U := u) (U' := U) U.vm (.declares y) rfl
  have hU : U.setVm U.vm = U := rfl
  rw [hU] at e
  show (Cond.declares y).before #[] U = true
  rw [← e, Cond.declares_setVm hvm]
  exact h
theorem kq_AOA_moved {ty : FieldType} {u U : State} (hvm : u.vm.Alike U.vm) (h : va_AOA ty u) : va_AOA ty U := by
  have h1 : (Cond.arrayOver (.array ty)).before #[] (u.setVm U.vm) = true := by rw [Cond.arrayOver_setVmC hvm]; exact h
  have e : (Cond.arrayOver (.array ty)).before #[] (u.setVm U.vm) = (Cond.arrayOver (.array ty)).before #[] U := by
    first | rfl | (simp only [Cond.before, Cond.holds, Cond.value]; rfl)
  show (Cond.arrayOver (.array ty)).before #[] U = true
  rw [← e]
  exact h1
theorem gs.to {tE tC : Nat} {A B : Nat → Prop} {s U : State} {H : Heap} {locs : List Loc} (h : gs tE tC A s) (hW : s.WarmedH U.vm) (hU : U.heap = H) (hS : va_S A s.heap H locs) (hAB : ∀ q, B q → A q) : gs tE tC B U := by
  subst hU
  obtain ⟨h1, h2, h3, h4, h5, h6, h7, h8, h9, h10, h11, h12, h13, h14, h15, h16⟩ := h
  refine ⟨fun q hq => ?_, fun q hq => va_Nw.warmM hW (h2 q hq), fun q hq => va_Nw.warmF hW (h3 q hq), fun q hq => va_Nw.warmC hW (h4 q hq), fun q hq => (h5 q hq).moved hW.alike, fun q hq => va_AO.moved hW.alike (h6 q hq), kq_AOA_moved hW.alike h7, kq_AOA_moved hW.alike h8, va_Fw.moved ⟨by decide, by decide⟩ hW.alike h9, ?_, ?_, ?_, ?_, ?_, ?_, fun y hy => kq_De_moved hW.alike (h16 y hy)⟩
  · obtain ⟨a, ha⟩ := h1 q hq
    exact ⟨a, vk_R.warm hW ha⟩
  · exact ((h10.kept hS.2.1).moved hW.alike).narrow hAB
  · exact ((h11.kept hS.2.1).moved hW.alike).narrow hAB
  · exact ((h12.kept hS.2.1).moved hW.alike).narrow hAB
  · exact ((h13.kept hS.2.1).moved hW.alike).narrow hAB
  · exact ((h14.kept hS.2.1).moved hW.alike).narrow hAB
  · exact ((h15.kept hS.2.1).moved hW.alike).narrow hAB
/-- a method's start -/
def Pq (D : va_G) (dA : Nat → ClassId) (tE tC : Nat) (av : List Value) (w0 : va_W) (sz : Nat) : Array Value → State → Prop := va_Pc av (fun U => U.heap.size = sz ∧ va_P D vwCl w0 U.heap ∧ va_K D vwCl (tyl dA) U ∧ gs tE tC (va_A w0 sz) U ∧ va_D (fun _ => True) w0)
/-- its end: Q says what it answers, together with the cells behind it -/
def Qq (D : va_G) (Q : Option Value → va_W → Prop) (A : Nat → Prop) : Array Value → State → Outcome → State → Prop := fun _ st oc t => (∃ (v : Option Value) (w1 : va_W), oc = .returned v ∧ Q v w1 ∧ va_P D vwCl w1 t.heap ∧ va_D A w1) ∧ va_F A st t
def Xq (XR : String → Prop) (A : Nat → Prop) : String → State → State → Prop := fun E st t => XR E ∧ va_F A st t
def Ct (l : Launch) (D : va_G) (dA : Nat → ClassId) (tE tC : Nat) (y : MethodName) (ws : List Cond) (rm : Room) (av : List Value) (w0 : va_W) (Q : Option Value → va_W → Prop) (mc ms : Nat) : Prop :=
  ∀ sz, Met l y ws rm (Pq D dA tE tC av w0 sz) (Qq D Q (va_A w0 sz)) mc ms (va_A w0 sz)
def Cx (l : Launch) (D : va_G) (dA : Nat → ClassId) (tE tC : Nat) (y : MethodName) (ws : List Cond) (rm : Room) (av : List Value) (w0 : va_W) (Q : Option Value → va_W → Prop) (XR : String → Prop) (mc ms : Nat) : Prop :=
  ∀ sz, vx_Met l y ws rm (Pq D dA tE tC av w0 sz) (Qq D Q (va_A w0 sz)) (Xq XR (va_A w0 sz)) mc ms (va_A w0 sz)
theorem Pq_blind {D : va_G} {dA : Nat → ClassId} {tE tC : Nat} {av : List Value} {w0 : va_W} {sz : Nat} : FrameBlind (Pq D dA tE tC av w0 sz) := by
  intro a U g mk h
  obtain ⟨h0, h1, h2, h3, h4, h5⟩ := h
  exact ⟨h0, h1, h2, va_K.moved (u := U) (U := U.calling g mk a) (Vm.Alike.refl U.vm) h3, gs.to (s := U) (U := U.calling g mk a) (H := U.heap) (locs := []) h4 (State.WarmedH.refl U) rfl va_S.rf (fun _ h => h), h5⟩
theorem Ct_of {l : Launch} {D : va_G} {dA : Nat → ClassId} {tE tC : Nat} {y : MethodName} {cc : ByteArray} {maxL : Nat} {ret : Option FieldType} {rm : Room} {av : List Value} {w0 : va_W} {Q : Option Value → va_W → Prop} {mc ms : Nat}
    (hy : plainName y.cls = true) (hn : (lg_sl av).length ≤ maxL)
    (body : ∀ (p : Program) (e : Env) (s : State) (m : MethodId) (below : List Frame) (meth : Method) (c : Code), p.tables.exec = Jvm.exec → c.code = cc → meth.sig.returnType = ret → c.maxLocals = maxL → s.vm.findClass y.cls = some m.cls → meth.name = y.name → meth.locks = false →
      (∀ w ∈ gW, w.before av.toArray s = true) → va_K D vwCl (tyl dA) s → ∀ A : Nat → Prop, gs tE tC A s → (∀ q, s.heap.size ≤ q → A q) → va_P D vwCl w0 s.heap → va_D A w0 → ∀ ls : Array Slot, lv_has ls maxL (lv_args 0 av) →
      W p l e rm s m av.toArray below meth c s.heap [] 0 0 (MQ below (Qq D Q A) av.toArray s mc ms A) (F0 m 0 ls [])) : Ct l D dA tE tC y (Cond.code y cc maxL ret :: gW) rm av w0 Q mc ms := by
  intro sz
  refine Met.ofW (cc := cc) (maxL := maxL) (ret := ret) hy rfl ?_
  intro p e s m args below meth c s₁ B hml hv
  obtain ⟨rfl, hsz, hP, hK, hG, hD0⟩ := hv
  subst hsz
  have hts := atoms_spec (ws := Cond.code y cc maxL ret :: gW) B.pre
  have hl := lv_entry av (n := maxL) hn
  have hD := hD0.self (sz := s.heap.size)
  rw [lg_entry_eq]
  exact body p e s m below meth c B.exec B.bytes B.returns hml (findClass_of_methodNamed B.named) (name_of_methodNamed B.named B.method).1 B.notSynchronized (fun w h => hts w (List.mem_cons_of_mem _ h)) hK _ hG (fun q h => Or.inr h) hP hD _ hl
theorem Cx_of {l : Launch} {D : va_G} {dA : Nat → ClassId} {tE tC : Nat} {y : MethodName} {cc : ByteArray} {maxL : Nat} {ret : Option FieldType} {rm : Room} {av : List Value} {w0 : va_W} {Q : Option Value → va_W → Prop} {XR : String → Prop} {mc ms : Nat}
    (hy : plainName y.cls = true) (hn : (lg_sl av).length ≤ maxL)
    (body : ∀ (p : Program) (e : Env) (s : State) (m : MethodId) (below : List Frame) (meth : Method) (c : Code), p.tables.exec = Jvm.exec → c.code = cc → meth.sig.returnType = ret → c.maxLocals = maxL → s.vm.findClass y.cls = some m.cls → meth.name = y.name → meth.locks = false →
      (∀ w ∈ gW, w.before av.toArray s = true) → va_K D vwCl (tyl dA) s → ∀ A : Nat → Prop, gs tE tC A s → (∀ q, s.heap.size ≤ q → A q) → va_P D vwCl w0 s.heap → va_D A w0 → ∀ ls : Array Slot, lv_has ls maxL (lv_args 0 av) → (∀ x ∈ c.exceptionTable.toList, False) →
      W p l e rm s m av.toArray below meth c s.heap [] 0 0 (vx_MQ below (Qq D Q A) (Xq XR A) av.toArray s mc ms A) (F0 m 0 ls [])) : Cx l D dA tE tC y (Cond.code y cc maxL ret :: gW) rm av w0 Q XR mc ms := by
  intro sz
  refine vx_ofW (cc := cc) (maxL := maxL) (ret := ret) hy rfl ?_
  intro p e s m args below meth c s₁ B hml hxt hv
  obtain ⟨rfl, hsz, hP, hK, hG, hD0⟩ := hv
  subst hsz
  have hts := atoms_spec (ws := Cond.code y cc maxL ret :: gW) B.pre
  have hl := lv_entry av (n := maxL) hn
  have hD := hD0.self (sz := s.heap.size)
  rw [lg_entry_eq]
  exact body p e s m below meth c B.exec B.bytes B.returns hml (findClass_of_methodNamed B.named) (name_of_methodNamed B.named B.method).1 B.notSynchronized (fun w h => hts w (List.mem_cons_of_mem _ h)) hK _ hG (fun q h => Or.inr h) hP hD _ hl hxt
/-- a method with a table of its own that throws nothing on -/
theorem Ch_of {l : Launch} {D : va_G} {dA : Nat → ClassId} {tE tC : Nat} {y : MethodName} {cc : ByteArray} {maxL : Nat} {ret : Option FieldType} {hh : List (Nat × Nat × Nat × Nat)} {rm : Room} {av : List Value} {w0 : va_W} {Q : Option Value → va_W → Prop} {XR : String → Prop} {mc ms : Nat}
    (hy : plainName y.cls = true) (hn : (lg_sl av).length ≤ maxL)
    (body : ∀ (p : Program) (e : Env) (s : State) (m : MethodId) (below : List Frame) (meth : Method) (c : Code), p.tables.exec = Jvm.exec → c.code = cc → meth.sig.returnType = ret → c.maxLocals = maxL → s.vm.findClass y.cls = some m.cls → meth.name = y.name → meth.locks = false →
      (∀ w ∈ gW, w.before av.toArray s = true) → va_K D vwCl (tyl dA) s → ∀ A : Nat → Prop, gs tE tC A s → (∀ q, s.heap.size ≤ q → A q) → va_P D vwCl w0 s.heap → va_D A w0 → ∀ ls : Array Slot, lv_has ls maxL (lv_args 0 av) → c.exceptionTable.toList = tableOf hh →
      W p l e rm s m av.toArray below meth c s.heap [] 0 0 (vx_MQ below (Qq D Q A) (Xq XR A) av.toArray s mc ms A) (F0 m 0 ls [])) : Cx l D dA tE tC y (Cond.codeWith y cc maxL ret hh :: gW) rm av w0 Q XR mc ms := by
  intro sz
  refine vx_ofWH (cc := cc) (maxL := maxL) (ret := ret) (hh := hh) hy rfl ?_
  intro p e s m args below meth c s₁ B hml hv
  obtain ⟨rfl, hsz, hP, hK, hG, hD0⟩ := hv
  subst hsz
  have hts := atoms_spec (ws := Cond.codeWith y cc maxL ret hh :: gW) B.pre
  have hl := lv_entry av (n := maxL) hn
  have hD := hD0.self (sz := s.heap.size)
  have hxt := vx_table (x := y) B (hts _ List.mem_cons_self)
  rw [lg_entry_eq]
  exact body p e s m below meth c B.exec B.bytes B.returns hml (findClass_of_methodNamed B.named) (name_of_methodNamed B.named B.method).1 B.notSynchronized (fun w h => hts w (List.mem_cons_of_mem _ h)) hK _ hG (fun q h => Or.inr h) hP hD _ hl hxt
theorem kq_pick {D : va_G} {ws wc : va_W} {H : Heap} (hP : va_P D vwCl ws H) {isC : List Nat} (hC : isC.map (fun i => ws[i]?) = wc.map some) : va_P D vwCl wc H := by
  intro k q hk
  have h1 : (isC.map (fun i => ws[i]?))[k]? = some (some q) := by rw [hC, List.getElem?_map, hk]; rfl
  rw [List.getElem?_map] at h1
  cases hi : isC[k]? with
  | none => rw [hi] at h1; cases h1
  | some i => rw [hi] at h1; exact hP i q (Option.some.inj h1)
theorem kq_left {D : va_G} {a b : va_W} {H : Heap} (h : va_P D vwCl (a ++ b) H) : va_P D vwCl a H := fun k q hk => h k q (by rw [List.getElem?_append_left (List.getElem?_eq_some_iff.mp hk).1]; exact hk)
theorem kq_leftD {A : Nat → Prop} {a b : va_W} (h : va_D A (a ++ b)) : va_D A a := by
  have key : ∀ (k : Nat) (q : Nat × va_E), a[k]? = some q → (a ++ b)[k]? = some q := fun k q hk => by rw [List.getElem?_append_left (List.getElem?_eq_some_iff.mp hk).1]; exact hk
  exact ⟨fun i j p q hi hj e => h.1 i j p q (key i p hi) (key j q hj) e, fun k q hk => h.2 k q (key k q hk)⟩
theorem kq_RA {U : State} {c1 c2 : ClassId} {ty : FieldType} (h1 : va_RA U c1 ty) (h2 : va_RA U c2 ty) : c1 = c2 := by
  cases ty with
  | object C =>
    obtain ⟨-, -, -, -, -, e1⟩ := h1
    obtain ⟨-, -, -, -, -, e2⟩ := h2
    exact Option.some.inj (e1.symm.trans e2)
  | _ => exact Option.some.inj ((show U.vm.findClass _ = some c1 from h1).symm.trans (show U.vm.findClass _ = some c2 from h2))
theorem kq_uniq {D : va_G} {tys : List (ClassId × FieldType)} {U : State} {cA c2 : ClassId} {ty : FieldType} {k : Nat} (h : va_K D vwCl (tys ++ [(cA, ty)]) U) (hk : tys[k]? = some (c2, ty)) : cA = c2 := by
  have h1 := (h.2 tys.length (cA, ty) (by simp)).2
  have h2 := (h.2 k (c2, ty) (by rw [List.getElem?_append_left (List.getElem?_eq_some_iff.mp hk).1]; exact hk)).2
  exact kq_RA h1 h2
theorem kq_in {i : Int32} {n : Nat} (h : decide (¬ (i < 0 ∨ n ≤ i.toNatClampNeg)) = true) : vp_in i n := by unfold vp_in; exact of_decide_eq_true h
theorem kq_eq {x y : Int32} {a b : Int} (ha : x.toInt = a) (hb : y.toInt = b) : x = y ↔ a = b := by subst ha; subst hb; exact Int32.toInt_inj.symm
theorem kq_lt {x y : Int32} {a b : Int} (ha : x.toInt = a) (hb : y.toInt = b) : x < y ↔ a < b := by subst ha; subst hb; exact Int32.lt_iff_toInt_lt
theorem kq_le {x y : Int32} {a b : Int} (ha : x.toInt = a) (hb : y.toInt = b) : x ≤ y ↔ a ≤ b := by subst ha; subst hb; exact Int32.le_iff_toInt_le
theorem kq_sing {x y : Int32} {z : Int} (hx : x.toInt = z) (hy : y.toInt = z) : x = y := Int32.toInt_inj.mp (hx.trans hy.symm)
theorem kq_cmp0 (x : Int64) : lg_cmp x x = 0 := by
  unfold lg_cmp
  rw [if_neg (by rw [gt_iff_lt, Int64.lt_iff_toInt_lt]; omega), if_pos rfl]
theorem kq_rd {α : Type} {f : Nat → α} {i : Int32} {k : Nat} {v : α} (hk : i.toNatClampNeg = k) (h : f k = v) : f i.toNatClampNeg = v := by subst hk; exact h
theorem kx_p0 {P : ExceptionTableEntry → Prop} : ∀ z ∈ ([] : List ExceptionTableEntry), P z := fun _ h => nomatch h
theorem kx_p1 {s : State} {args : Array Value} {own E nm : String} {pc a b h t : Nat} {l : List (Nat × Nat × Nat × Nat)} (ht : t ≠ 0) (h1 : (Cond.classLink own t nm).before args s = true) (h2 : va_Nc E nm s) (hl : ∀ z ∈ tableOf l, covers z pc = false ∨ (z.catchType ≠ 0 ∧ ∃ nm : String, (Cond.classLink own z.catchType nm).before args s = true ∧ va_Nc E nm s)) :
    ∀ z ∈ tableOf ((a, b, h, t) :: l), covers z pc = false ∨ (z.catchType ≠ 0 ∧ ∃ nm : String, (Cond.classLink own z.catchType nm).before args s = true ∧ va_Nc E nm s) := List.forall_mem_cons.mpr ⟨Or.inr ⟨ht, nm, h1, h2⟩, hl⟩
section KQR
variable {p : Program} {l : Launch} {e : Env} {R : Room} {s : State} {m : MethodId} {args : Array Value} {below : List Frame} {meth : Method} {c : Code} {H : Heap} {locs : List Loc} {cells slots : Nat} {Qw : State → Prop}
variable {cc : ByteArray} {pc : Nat} {ls : Array Slot} {rest st0 : List Value} {D : va_G} {dA : Nat → ClassId} {tE tC : Nat} {A : Nat → Prop} {ws wc wr : va_W} {mc ms : Nat}
theorem kq_topi {x y : Int32} (h : x = y) (k : W p l e R s m args below meth c H locs cells slots Qw (F0 m pc ls (.int y :: rest))) : W p l e R s m args below meth c H locs cells slots Qw (F0 m pc ls (.int x :: rest)) := by subst h; exact k
theorem kq_topl {x y : Int64} (h : x = y) (k : W p l e R s m args below meth c H locs cells slots Qw (F0 m pc ls (.long y :: rest))) : W p l e R s m args below meth c H locs cells slots Qw (F0 m pc ls (.long x :: rest)) := by subst h; exact k
/-- behind a call that returns: the rest of the cells, and what came back -/
theorem kq_go {Q : Option Value → va_W → Prop} {a : Array Value} (hr : va_Run p l e R s m args below meth c H locs cells slots mc ms (F0 m pc ls st0) rest (Qq D Q (va_A wc H.size) a) (va_A wc H.size))
    (hP : va_P D vwCl ws H) (hD : va_D A ws) (hS : va_S A s.heap H locs) (hA : ∀ q, s.heap.size ≤ q → A q) (isC isR : List Nat) (hC : isC.map (fun i => ws[i]?) = wc.map some) (hR : isR.map (fun i => ws[i]?) = wr.map some) (hn : va_nd isR = true) (hdis : ∀ i ∈ isR, i ∉ isC)
    (kk : ∀ (v : Option Value) (w1 : va_W) (H1 : Heap) (locs1 : List Loc), Q v w1 → va_P D vwCl (wr ++ w1) H1 → va_D A (wr ++ w1) → va_S A s.heap H1 locs1 → W p l e R s m args below meth c H1 locs1 (cells + mc) (slots + ms) Qw (F0 m (pc + 3) ls (v.toList ++ rest))) :
    W p l e R s m args below meth c H locs cells slots Qw (F0 m pc ls st0) := by
  have hF := va_free (wc := wc) hD hS hA isC hC
  intro T hT X
  obtain ⟨v, st₀, t, T', L, h0, X', hL, e1, e2, ⟨⟨v', w1, hv, hQ, hP1, hD1⟩, hz, hk⟩, st⟩ := hr T hT X
  cases hv
  rw [h0] at hz hk
  rw [← e1] at hP1 hz hk
  obtain ⟨j1, j2⟩ := va_join (wr := wr) (w1 := w1) hP hD isC isR hC hR hn hdis hk hF hP1 hD1
  obtain ⟨t2, a1, b1⟩ := kk v w1 T'.heap (locs ++ L) hQ j1 j2 ⟨Nat.le_trans hS.1 hz, fun q h1 h2 => by rw [hk q (Nat.lt_of_lt_of_le h1 hS.1) (fun z => h2 (hF q z))]; exact hS.2.1 q h1 h2, fun q hq => by
      rcases List.mem_append.mp hq with h | h
      · exact hS.2.2 q h
      · exact hF _ (hL q h)⟩ T' rfl X'
  exact ⟨t2, st t2 a1, b1⟩
/-- behind a call that returns or throws -/
theorem kx_go {Q : Option Value → va_W → Prop} {XR : String → Prop} {a : Array Value} (hr : vx_Run p l e R s m args below meth c H locs cells slots mc ms (F0 m pc ls st0) rest (Qq D Q (va_A wc H.size) a) (Xq XR (va_A wc H.size)) (va_A wc H.size))
    (hP : va_P D vwCl ws H) (hD : va_D A ws) (hS : va_S A s.heap H locs) (hA : ∀ q, s.heap.size ≤ q → A q) (isC isR : List Nat) (hC : isC.map (fun i => ws[i]?) = wc.map some) (hR : isR.map (fun i => ws[i]?) = wr.map some) (hn : va_nd isR = true) (hdis : ∀ i ∈ isR, i ∉ isC)
    (kk : ∀ (v : Option Value) (w1 : va_W) (H1 : Heap) (locs1 : List Loc), Q v w1 → va_P D vwCl (wr ++ w1) H1 → va_D A (wr ++ w1) → va_S A s.heap H1 locs1 → W p l e R s m args below meth c H1 locs1 (cells + mc) (slots + ms) Qw (F0 m (pc + 3) ls (v.toList ++ rest)))
    (kx : ∀ (E : String) (ce : Cell) (q9 : Addr) (H1 : Heap) (locs1 : List Loc), XR E → va_P D vwCl wr H1 → va_D A wr → va_S A s.heap H1 locs1 → H1[q9]? = some ce → ce.vm = .none → s.vm.findClass E = some ce.cls → vx_W p l e R s m args below meth c H1 locs1 (cells + mc) (slots + ms) Qw (F0 m pc ls rest) q9) :
    W p l e R s m args below meth c H locs cells slots Qw (F0 m pc ls st0) := by
  have hF := va_free (wc := wc) hD hS hA isC hC
  intro T hT X
  rcases hr T hT X with ⟨v, st₀, t, T', L, h0, X', hL, e1, e2, ⟨⟨v', w1, hv, hQ, hP1, hD1⟩, hz, hk⟩, st⟩ | ⟨q, st₀, t, T', L, E, ce, h0, X', hL, e1, e2, ⟨hX, hz, hk⟩, hce, hcv, hcl, st⟩
  · cases hv
    rw [h0] at hz hk
    rw [← e1] at hP1 hz hk
    obtain ⟨j1, j2⟩ := va_join (wr := wr) (w1 := w1) hP hD isC isR hC hR hn hdis hk hF hP1 hD1
    obtain ⟨t2, a1, b1⟩ := kk v w1 T'.heap (locs ++ L) hQ j1 j2 ⟨Nat.le_trans hS.1 hz, fun q h1 h2 => by rw [hk q (Nat.lt_of_lt_of_le h1 hS.1) (fun z => h2 (hF q z))]; exact hS.2.1 q h1 h2, fun q hq => by
        rcases List.mem_append.mp hq with h | h
        · exact hS.2.2 q h
        · exact hF _ (hL q h)⟩ T' rfl X'
    exact ⟨t2, st t2 a1, b1⟩
  · rw [h0] at hz hk
    rw [← e1] at hz hk hce
    obtain ⟨j1, j2⟩ := va_join (wr := wr) (w1 := []) hP hD isC isR hC hR hn hdis hk hF (fun k q h => by simp at h) ⟨fun i j p q h => by simp at h, fun k q h => by simp at h⟩
    rw [List.append_nil] at j1 j2
    obtain ⟨t2, a1, b1⟩ := kx E ce q T'.heap (locs ++ L) hX j1 j2 ⟨Nat.le_trans hS.1 hz, fun q h1 h2 => by rw [hk q (Nat.lt_of_lt_of_le h1 hS.1) (fun z => h2 (hF q z))]; exact hS.2.1 q h1 h2, fun q hq => by
        rcases List.mem_append.mp hq with h | h
        · exact hS.2.2 q h
        · exact hF _ (hL q h)⟩ hce hcv hcl T' rfl X'
    exact ⟨t2, st.trans a1, b1⟩
theorem kq_okV {own : String} {index : Nat} {y : MethodName} {bytes : ByteArray} {maxL : Nat} {ret : Option FieldType} (w1 : Cond.methodLink own index y ∈ gW) (w2 : Cond.instanceMethod y ∈ gW) (w3 : Cond.selects y.cls y y ∈ gW) (w4 : Cond.initialized y.cls ∈ gW) (w5 : Cond.code y bytes maxL ret ∈ gW) : GoodIn gW (wsV own index y.cls y (Cond.code y bytes maxL ret :: gW)) :=
  gW_in (fun w h => by
    simp only [wsV, List.cons_append, List.nil_append, List.mem_cons] at h
    rcases h with rfl | rfl | rfl | rfl | rfl | h
    · exact w1
    · exact w2
    · exact w3
    · exact w4
    · exact w5
    · exact h)
theorem kq_okS {own : String} {index : Nat} {y : MethodName} {cw : Cond} (w1 : Cond.methodLink own index y ∈ gW) (w2 : Cond.static y ∈ gW) (w4 : Cond.initialized y.cls ∈ gW) (w5 : cw ∈ gW) : GoodIn gW (va_wsS own index y (cw :: gW)) :=
  gW_in (fun w h => by
    simp only [va_wsS, List.cons_append, List.nil_append, List.mem_cons] at h
    rcases h with rfl | rfl | rfl | rfl | h
    · exact w1
    · exact w2
    · exact w4
    · exact w5
    · exact h)
theorem kq_okI {cw : Cond} (w5 : cw ∈ gW) : GoodIn gW (cw :: gW) := gW_in (fun w h => by
    rcases List.mem_cons.mp h with rfl | h
    · exact w5
    · exact h)
variable {y : MethodName} {bytes : ByteArray} {maxL nL : Nat} {ret : Option FieldType} {rm : Room} {As : List Value} {own : String} {index : Nat} {Q : Option Value → va_W → Prop} {XR : String → Prop}
theorem kq_V {b : Nat} {q0 ci : Nat} {rc : vw_C} {fs : List Value} (hx : p.tables.exec = Jvm.exec) (hb : c.code = cc) (hml : c.maxLocals = nL) (hown : s.vm.findClass own = some m.cls) (hgw : ∀ w ∈ gW, w.before args s = true) (hK : va_K D vwCl (tyl dA) s) (hG : gs tE tC A s) (hA : ∀ q, s.heap.size ≤ q → A q) (hP : va_P D vwCl ws H) (hD : va_D A ws) (hS : va_S A s.heap H locs)
    (ct : Ct l D dA tE tC y (Cond.code y bytes maxL ret :: gW) rm (.ref b :: As) wc Q mc ms) (w1 : Cond.methodLink own index y ∈ gW) (w2 : Cond.instanceMethod y ∈ gW) (w3 : Cond.selects y.cls y y ∈ gW) (w4 : Cond.initialized y.cls ∈ gW) (w5 : Cond.code y bytes maxL ret ∈ gW)
    (hd : y.cls ≠ "java/lang/invoke/MethodHandle" ∧ y.cls ≠ "java/lang/invoke/VarHandle" ∧ (parseMethodDescriptor y.desc).map (fun d => d.parameters.length) = some As.length) (hrc : rm.cells = mc) (hrs : rm.slots = ms) (hR : rm.frames + 1 ≤ R.frames ∧ 8 + (maxL + 11) + rm.locals ≤ R.locals)
    (isC isR : List Nat) (hC : isC.map (fun i => ws[i]?) = wc.map some) (hRr : isR.map (fun i => ws[i]?) = wr.map some) (hnC : va_nd isC = true) (hn : va_nd isR = true) (hdis : ∀ i ∈ isR, i ∉ isC) (hrecv : wc[q0]? = some (b, .inr (ci, fs))) (hci : vwCl[ci]? = some rc) (hrcn : rc.1 = y.cls)
    (hsz : ls.size = nL) (hst : st0 = As.reverse ++ .ref b :: rest) (hW : (rest.map fun v => v.category).sum ≤ 8) (hdg : decode cc pc = .ok (.invokevirtual index, 3)) (hf : cells + mc ≤ R.cells ∧ slots + ms ≤ R.slots)
    (kk : ∀ (v : Option Value) (w1 : va_W) (H1 : Heap) (locs1 : List Loc), Q v w1 → va_P D vwCl (wr ++ w1) H1 → va_D A (wr ++ w1) → va_S A s.heap H1 locs1 → W p l e R s m args below meth c H1 locs1 (cells + mc) (slots + ms) Qw (F0 m (pc + 3) ls (v.toList ++ rest))) :
    W p l e R s m args below meth c H locs cells slots Qw (F0 m pc ls st0) := by
  have hF := va_free (wc := wc) hD hS hA isC hC
  have hPc := kq_pick hP hC
  have hDc : va_D (fun _ => True) wc := (hD.sub isC hnC hC).weaken (fun _ _ _ _ => trivial)
  refine kq_go (va_runV (As := As) (rest := rest) (C := y.cls) ⟨hx, hb, hml, hown, hgw⟩ (ct H.size) (cwV As.length hgw (kq_okV w1 w2 w3 w4 w5) rfl hrc hrs ⟨rfl, hd⟩ hR) ⟨Pq_blind, ?_, fun U hU hW9 => ⟨rfl, by rw [hU], by rw [hU]; exact hPc, va_K.moved hW9.alike hK, hG.to hW9 hU hS hF, hDc⟩⟩ rfl rfl hsz hst (lv_room hW) hdg hf) hP hD hS hA isC isR hC hRr hn hdis kk
  obtain ⟨cell, e1, e2, e3⟩ := va_recv hK hPc hci hrecv
  rw [hrcn] at e3
  exact ⟨cell, e1, e2, e3⟩
theorem kx_V {b : Nat} {q0 ci : Nat} {rc : vw_C} {fs : List Value} (hx : p.tables.exec = Jvm.exec) (hb : c.code = cc) (hml : c.maxLocals = nL) (hown : s.vm.findClass own = some m.cls) (hgw : ∀ w ∈ gW, w.before args s = true) (hK : va_K D vwCl (tyl dA) s) (hG : gs tE tC A s) (hA : ∀ q, s.heap.size ≤ q → A q) (hP : va_P D vwCl ws H) (hD : va_D A ws) (hS : va_S A s.heap H locs)
    (ct : Cx l D dA tE tC y (Cond.code y bytes maxL ret :: gW) rm (.ref b :: As) wc Q XR mc ms) (w1 : Cond.methodLink own index y ∈ gW) (w2 : Cond.instanceMethod y ∈ gW) (w3 : Cond.selects y.cls y y ∈ gW) (w4 : Cond.initialized y.cls ∈ gW) (w5 : Cond.code y bytes maxL ret ∈ gW)
    (hd : y.cls ≠ "java/lang/invoke/MethodHandle" ∧ y.cls ≠ "java/lang/invoke/VarHandle" ∧ (parseMethodDescriptor y.desc).map (fun d => d.parameters.length) = some As.length) (hrc : rm.cells = mc) (hrs : rm.slots = ms) (hR : rm.frames + 1 ≤ R.frames ∧ 8 + (maxL + 11) + rm.locals ≤ R.locals)
    (isC isR : List Nat) (hC : isC.map (fun i => ws[i]?) = wc.map some) (hRr : isR.map (fun i => ws[i]?) = wr.map some) (hnC : va_nd isC = true) (hn : va_nd isR = true) (hdis : ∀ i ∈ isR, i ∉ isC) (hrecv : wc[q0]? = some (b, .inr (ci, fs))) (hci : vwCl[ci]? = some rc) (hrcn : rc.1 = y.cls)
    (hsz : ls.size = nL) (hst : st0 = As.reverse ++ .ref b :: rest) (hW : (rest.map fun v => v.category).sum ≤ 8) (hdg : decode cc pc = .ok (.invokevirtual index, 3)) (hf : cells + mc ≤ R.cells ∧ slots + ms ≤ R.slots)
    (kk : ∀ (v : Option Value) (w1 : va_W) (H1 : Heap) (locs1 : List Loc), Q v w1 → va_P D vwCl (wr ++ w1) H1 → va_D A (wr ++ w1) → va_S A s.heap H1 locs1 → W p l e R s m args below meth c H1 locs1 (cells + mc) (slots + ms) Qw (F0 m (pc + 3) ls (v.toList ++ rest)))
    (kx : ∀ (E : String) (ce : Cell) (q9 : Addr) (H1 : Heap) (locs1 : List Loc), XR E → va_P D vwCl wr H1 → va_D A wr → va_S A s.heap H1 locs1 → H1[q9]? = some ce → ce.vm = .none → s.vm.findClass E = some ce.cls → vx_W p l e R s m args below meth c H1 locs1 (cells + mc) (slots + ms) Qw (F0 m pc ls rest) q9) :
    W p l e R s m args below meth c H locs cells slots Qw (F0 m pc ls st0) := by
  have hF := va_free (wc := wc) hD hS hA isC hC
  have hPc := kq_pick hP hC
  have hDc : va_D (fun _ => True) wc := (hD.sub isC hnC hC).weaken (fun _ _ _ _ => trivial)
  refine kx_go (vx_runV (As := As) (rest := rest) (C := y.cls) ⟨hx, hb, hml, hown, hgw⟩ (ct H.size) (cwV As.length hgw (kq_okV w1 w2 w3 w4 w5) rfl hrc hrs ⟨rfl, hd⟩ hR) ⟨Pq_blind, ?_, fun U hU hW9 => ⟨rfl, by rw [hU], by rw [hU]; exact hPc, va_K.moved hW9.alike hK, hG.to hW9 hU hS hF, hDc⟩⟩ rfl rfl hsz hst (lv_room hW) hdg hf) hP hD hS hA isC isR hC hRr hn hdis kk kx
  obtain ⟨cell, e1, e2, e3⟩ := va_recv hK hPc hci hrecv
  rw [hrcn] at e3
  exact ⟨cell, e1, e2, e3⟩
theorem kq_S (hx : p.tables.exec = Jvm.exec) (hb : c.code = cc) (hml : c.maxLocals = nL) (hown : s.vm.findClass own = some m.cls) (hgw : ∀ w ∈ gW, w.before args s = true) (hK : va_K D vwCl (tyl dA) s) (hG : gs tE tC A s) (hA : ∀ q, s.heap.size ≤ q → A q) (hP : va_P D vwCl ws H) (hD : va_D A ws) (hS : va_S A s.heap H locs)
    (ct : Ct l D dA tE tC y (Cond.code y bytes maxL ret :: gW) rm As wc Q mc ms) (w1 : Cond.methodLink own index y ∈ gW) (w2 : Cond.static y ∈ gW) (w4 : Cond.initialized y.cls ∈ gW) (w5 : Cond.code y bytes maxL ret ∈ gW)
    (hd : y.cls ≠ "java/lang/invoke/MethodHandle" ∧ y.cls ≠ "java/lang/invoke/VarHandle" ∧ (parseMethodDescriptor y.desc).map (fun d => d.parameters.length) = some As.length) (hrc : rm.cells = mc) (hrs : rm.slots = ms) (hR : rm.frames + 1 ≤ R.frames ∧ 8 + (maxL + 11) + rm.locals ≤ R.locals)
    (isC isR : List Nat) (hC : isC.map (fun i => ws[i]?) = wc.map some) (hRr : isR.map (fun i => ws[i]?) = wr.map some) (hnC : va_nd isC = true) (hn : va_nd isR = true) (hdis : ∀ i ∈ isR, i ∉ isC)
    (hsz : ls.size = nL) (hst : st0 = As.reverse ++ rest) (hW : (rest.map fun v => v.category).sum ≤ 8) (hdg : decode cc pc = .ok (.invokestatic index, 3)) (hf : cells + mc ≤ R.cells ∧ slots + ms ≤ R.slots)
    (kk : ∀ (v : Option Value) (w1 : va_W) (H1 : Heap) (locs1 : List Loc), Q v w1 → va_P D vwCl (wr ++ w1) H1 → va_D A (wr ++ w1) → va_S A s.heap H1 locs1 → W p l e R s m args below meth c H1 locs1 (cells + mc) (slots + ms) Qw (F0 m (pc + 3) ls (v.toList ++ rest))) :
    W p l e R s m args below meth c H locs cells slots Qw (F0 m pc ls st0) := by
  have hF := va_free (wc := wc) hD hS hA isC hC
  have hPc := kq_pick hP hC
  have hDc : va_D (fun _ => True) wc := (hD.sub isC hnC hC).weaken (fun _ _ _ _ => trivial)
  exact kq_go (va_runS (As := As) (rest := rest) ⟨hx, hb, hml, hown, hgw⟩ (ct H.size) (va_cwS As.length hgw (kq_okS w1 w2 w4 w5) rfl hrc hrs hd hR) ⟨Pq_blind, fun U hU hW9 => ⟨rfl, by rw [hU], by rw [hU]; exact hPc, va_K.moved hW9.alike hK, hG.to hW9 hU hS hF, hDc⟩⟩ rfl rfl hsz hst (lv_room hW) hdg hf) hP hD hS hA isC isR hC hRr hn hdis kk
/-- a static method with a table of its own -/
theorem kx_SX {hh : List (Nat × Nat × Nat × Nat)} (hx : p.tables.exec = Jvm.exec) (hb : c.code = cc) (hml : c.maxLocals = nL) (hown : s.vm.findClass own = some m.cls) (hgw : ∀ w ∈ gW, w.before args s = true) (hK : va_K D vwCl (tyl dA) s) (hG : gs tE tC A s) (hA : ∀ q, s.heap.size ≤ q → A q) (hP : va_P D vwCl ws H) (hD : va_D A ws) (hS : va_S A s.heap H locs)
    (ct : Cx l D dA tE tC y (Cond.codeWith y bytes maxL ret hh :: gW) rm As wc Q XR mc ms) (w1 : Cond.methodLink own index y ∈ gW) (w2 : Cond.static y ∈ gW) (w4 : Cond.initialized y.cls ∈ gW) (w5 : Cond.codeWith y bytes maxL ret hh ∈ gW)
    (hd : y.cls ≠ "java/lang/invoke/MethodHandle" ∧ y.cls ≠ "java/lang/invoke/VarHandle" ∧ (parseMethodDescriptor y.desc).map (fun d => d.parameters.length) = some As.length) (hrc : rm.cells = mc) (hrs : rm.slots = ms) (hR : rm.frames + 1 ≤ R.frames ∧ 8 + (maxL + 11) + rm.locals ≤ R.locals)
    (isC isR : List Nat) (hC : isC.map (fun i => ws[i]?) = wc.map some) (hRr : isR.map (fun i => ws[i]?) = wr.map some) (hnC : va_nd isC = true) (hn : va_nd isR = true) (hdis : ∀ i ∈ isR, i ∉ isC)
    (hsz : ls.size = nL) (hst : st0 = As.reverse ++ rest) (hW : (rest.map fun v => v.category).sum ≤ 8) (hdg : decode cc pc = .ok (.invokestatic index, 3)) (hf : cells + mc ≤ R.cells ∧ slots + ms ≤ R.slots)
    (kk : ∀ (v : Option Value) (w1 : va_W) (H1 : Heap) (locs1 : List Loc), Q v w1 → va_P D vwCl (wr ++ w1) H1 → va_D A (wr ++ w1) → va_S A s.heap H1 locs1 → W p l e R s m args below meth c H1 locs1 (cells + mc) (slots + ms) Qw (F0 m (pc + 3) ls (v.toList ++ rest)))
    (kx : ∀ (E : String) (ce : Cell) (q9 : Addr) (H1 : Heap) (locs1 : List Loc), XR E → va_P D vwCl wr H1 → va_D A wr → va_S A s.heap H1 locs1 → H1[q9]? = some ce → ce.vm = .none → s.vm.findClass E = some ce.cls → vx_W p l e R s m args below meth c H1 locs1 (cells + mc) (slots + ms) Qw (F0 m pc ls rest) q9) :
    W p l e R s m args below meth c H locs cells slots Qw (F0 m pc ls st0) := by
  have hF := va_free (wc := wc) hD hS hA isC hC
  have hPc := kq_pick hP hC
  have hDc : va_D (fun _ => True) wc := (hD.sub isC hnC hC).weaken (fun _ _ _ _ => trivial)
  exact kx_go (vx_runSX (As := As) (rest := rest) ⟨hx, hb, hml, hown, hgw⟩ (ct H.size) (vx_cwSW As.length hgw (kq_okS w1 w2 w4 w5) rfl hrc hrs hd hR) ⟨Pq_blind, fun U hU hW9 => ⟨rfl, by rw [hU], by rw [hU]; exact hPc, va_K.moved hW9.alike hK, hG.to hW9 hU hS hF, hDc⟩⟩ rfl rfl hsz hst (lv_room hW) hdg hf) hP hD hS hA isC isR hC hRr hn hdis kk kx
theorem kq_I {b : Nat} (hx : p.tables.exec = Jvm.exec) (hb : c.code = cc) (hml : c.maxLocals = nL) (hown : s.vm.findClass own = some m.cls) (hgw : ∀ w ∈ gW, w.before args s = true) (hK : va_K D vwCl (tyl dA) s) (hG : gs tE tC A s) (hA : ∀ q, s.heap.size ≤ q → A q) (hP : va_P D vwCl ws H) (hD : va_D A ws) (hS : va_S A s.heap H locs)
    (ct : Ct l D dA tE tC y (Cond.code y bytes maxL none :: gW) rm (.ref b :: As) wc Q mc ms) (w1 : Cond.methodLink own index y ∈ gW) (w2 : Cond.instanceMethod y ∈ gW) (w4 : Cond.initialized y.cls ∈ gW) (w5 : Cond.code y bytes maxL none ∈ gW) (hy : y.name = "<init>")
    (hd : y.cls ≠ "java/lang/invoke/MethodHandle" ∧ y.cls ≠ "java/lang/invoke/VarHandle" ∧ (parseMethodDescriptor y.desc).map (fun d => d.parameters.length) = some As.length) (hrc : rm.cells = mc) (hrs : rm.slots = ms) (hR : rm.frames + 1 ≤ R.frames ∧ 8 + (maxL + 11) + rm.locals ≤ R.locals)
    (isC isR : List Nat) (hC : isC.map (fun i => ws[i]?) = wc.map some) (hRr : isR.map (fun i => ws[i]?) = wr.map some) (hnC : va_nd isC = true) (hn : va_nd isR = true) (hdis : ∀ i ∈ isR, i ∉ isC)
    (hsz : ls.size = nL) (hst : st0 = As.reverse ++ .ref b :: rest) (hW : (rest.map fun v => v.category).sum ≤ 8) (hdg : decode cc pc = .ok (.invokespecial index, 3)) (hf : cells + mc ≤ R.cells ∧ slots + ms ≤ R.slots)
    (kk : ∀ (v : Option Value) (w1 : va_W) (H1 : Heap) (locs1 : List Loc), Q v w1 → va_P D vwCl (wr ++ w1) H1 → va_D A (wr ++ w1) → va_S A s.heap H1 locs1 → W p l e R s m args below meth c H1 locs1 (cells + mc) (slots + ms) Qw (F0 m (pc + 3) ls (v.toList ++ rest))) :
    W p l e R s m args below meth c H locs cells slots Qw (F0 m pc ls st0) := by
  have hF := va_free (wc := wc) hD hS hA isC hC
  have hPc := kq_pick hP hC
  have hDc : va_D (fun _ => True) wc := (hD.sub isC hnC hC).weaken (fun _ _ _ _ => trivial)
  exact kq_go (va_runI (As := As) (rest := rest) ⟨hx, hb, hml, hown, hgw⟩ (ct H.size) (cwI As.length hgw (kq_okI w5) rfl hrc hrs (hgw _ w4) (hgw _ w1) (hgw _ w2) hy hd hR) ⟨Pq_blind, fun U hU hW9 => ⟨rfl, by rw [hU], by rw [hU]; exact hPc, va_K.moved hW9.alike hK, hG.to hW9 hU hS hF, hDc⟩⟩ rfl rfl hsz hst (lv_room hW) hdg hf) hP hD hS hA isC isR hC hRr hn hdis kk
/-- a nest mate's private constructor -/
theorem kq_IN {b : Nat} {host : String} (hx : p.tables.exec = Jvm.exec) (hb : c.code = cc) (hml : c.maxLocals = nL) (hown : s.vm.findClass own = some m.cls) (hgw : ∀ w ∈ gW, w.before args s = true) (hK : va_K D vwCl (tyl dA) s) (hG : gs tE tC A s) (hA : ∀ q, s.heap.size ≤ q → A q) (hP : va_P D vwCl ws H) (hD : va_D A ws) (hS : va_S A s.heap H locs)
    (ct : Ct l D dA tE tC y (Cond.code y bytes maxL none :: gW) rm (.ref b :: As) wc Q mc ms) (w1 : (own, index, y, host) ∈ gNM) (w2 : Cond.instanceMethod y ∈ gW) (w4 : Cond.initialized y.cls ∈ gW) (w5 : Cond.code y bytes maxL none ∈ gW) (hy : y.name = "<init>")
    (hd : y.cls ≠ "java/lang/invoke/MethodHandle" ∧ y.cls ≠ "java/lang/invoke/VarHandle" ∧ (parseMethodDescriptor y.desc).map (fun d => d.parameters.length) = some As.length) (hrc : rm.cells = mc) (hrs : rm.slots = ms) (hR : rm.frames + 1 ≤ R.frames ∧ 8 + (maxL + 11) + rm.locals ≤ R.locals)
    (isC isR : List Nat) (hC : isC.map (fun i => ws[i]?) = wc.map some) (hRr : isR.map (fun i => ws[i]?) = wr.map some) (hnC : va_nd isC = true) (hn : va_nd isR = true) (hdis : ∀ i ∈ isR, i ∉ isC)
    (hsz : ls.size = nL) (hst : st0 = As.reverse ++ .ref b :: rest) (hW : (rest.map fun v => v.category).sum ≤ 8) (hdg : decode cc pc = .ok (.invokespecial index, 3)) (hf : cells + mc ≤ R.cells ∧ slots + ms ≤ R.slots)
    (kk : ∀ (v : Option Value) (w1 : va_W) (H1 : Heap) (locs1 : List Loc), Q v w1 → va_P D vwCl (wr ++ w1) H1 → va_D A (wr ++ w1) → va_S A s.heap H1 locs1 → W p l e R s m args below meth c H1 locs1 (cells + mc) (slots + ms) Qw (F0 m (pc + 3) ls (v.toList ++ rest))) :
    W p l e R s m args below meth c H locs cells slots Qw (F0 m pc ls st0) := by
  have hF := va_free (wc := wc) hD hS hA isC hC
  have hPc := kq_pick hP hC
  have hDc : va_D (fun _ => True) wc := (hD.sub isC hnC hC).weaken (fun _ _ _ _ => trivial)
  exact kq_go (va_runIN (As := As) (rest := rest) (host := host) ⟨hx, hb, hml, hown, hgw⟩ (ct H.size) ⟨va_cnB As.length hgw (kq_okI w5) rfl hrc hrs (hG.2.1 _ w1) (hgw _ w4) hd hR, hy, hgw _ w2⟩ ⟨Pq_blind, fun U hU hW9 => ⟨rfl, by rw [hU], by rw [hU]; exact hPc, va_K.moved hW9.alike hK, hG.to hW9 hU hS hF, hDc⟩⟩ rfl rfl hsz hst (lv_room hW) hdg hf) hP hD hS hA isC isR hC hRr hn hdis kk
/-! ends -/
variable {w1 : va_W} {rty : FieldType}
theorem kq_iret {v : Int32} (hx : p.tables.exec = Jvm.exec) (hb : c.code = cc) (hr : meth.sig.returnType = some rty) (hlocks : meth.locks = false) (hS : va_S A s.heap H locs) (hn : narrow rty (.int v) = .int v) (hQ : Q (some (.int v)) w1) (hP : va_P D vwCl w1 H) (hD : va_D A w1) (h1 : cells ≤ mc) (h2 : slots ≤ ms) (d : decode cc pc = .ok (.ireturn, 1)) :
    W p l e R s m args below meth c H locs cells slots (MQ below (Qq D Q A) args s mc ms A) (F0 m pc ls [.int v]) :=
  W.widen h1 h2 (W.zret hx hb hr hn (fun t ht hW => ⟨⟨_, w1, rfl, hQ, by rw [ht]; exact hP, hD⟩, hS.F ht⟩) hS.2.2 d hlocks)
theorem kq_lret {v : Int64} (hx : p.tables.exec = Jvm.exec) (hb : c.code = cc) (hr : meth.sig.returnType = some .long) (hlocks : meth.locks = false) (hS : va_S A s.heap H locs) (hQ : Q (some (.long v)) w1) (hP : va_P D vwCl w1 H) (hD : va_D A w1) (h1 : cells ≤ mc) (h2 : slots ≤ ms) (d : decode cc pc = .ok (.lreturn, 1)) :
    W p l e R s m args below meth c H locs cells slots (MQ below (Qq D Q A) args s mc ms A) (F0 m pc ls [.long v]) :=
  W.widen h1 h2 (W.lret hx hb hr (fun t ht hW => ⟨⟨_, w1, rfl, hQ, by rw [ht]; exact hP, hD⟩, hS.F ht⟩) hS.2.2 d hlocks)
theorem kq_vret (hx : p.tables.exec = Jvm.exec) (hb : c.code = cc) (hr : meth.sig.returnType = none) (hlocks : meth.locks = false) (hS : va_S A s.heap H locs) (hQ : Q none w1) (hP : va_P D vwCl w1 H) (hD : va_D A w1) (h1 : cells ≤ mc) (h2 : slots ≤ ms) (d : decode cc pc = .ok (.return_, 1)) :
    W p l e R s m args below meth c H locs cells slots (MQ below (Qq D Q A) args s mc ms A) (F0 m pc ls []) :=
  W.widen h1 h2 (W.vret hx hb hr (fun t ht hW => ⟨⟨_, w1, rfl, hQ, by rw [ht]; exact hP, hD⟩, hS.F ht⟩) hS.2.2 d hlocks)
theorem kq_aret {v : Value} (hx : p.tables.exec = Jvm.exec) (hb : c.code = cc) (hr : meth.sig.returnType = some rty) (hlocks : meth.locks = false) (hS : va_S A s.heap H locs) (hrt : (∃ n, rty = .object n) ∨ ∃ t, rty = .array t) (hv : v = .null ∨ ∃ a, v = .ref a) (hQ : Q (some v) w1) (hP : va_P D vwCl w1 H) (hD : va_D A w1) (h1 : cells ≤ mc) (h2 : slots ≤ ms) (d : decode cc pc = .ok (.areturn, 1)) :
    W p l e R s m args below meth c H locs cells slots (MQ below (Qq D Q A) args s mc ms A) (F0 m pc ls [v]) :=
  W.widen h1 h2 (W.aret hx hb hr hrt hv (fun t ht hW => ⟨⟨_, w1, rfl, hQ, by rw [ht]; exact hP, hD⟩, hS.F ht⟩) hS.2.2 d hlocks)
/-- not caught here -/
theorem kx_out {E : String} {ce : Cell} {q9 : Addr} (hxt : ∀ x ∈ c.exceptionTable.toList, False) (hlocks : meth.locks = false) (hS : va_S A s.heap H locs) (hce : H[q9]? = some ce) (hv : ce.vm = .none) (hcl : s.vm.findClass E = some ce.cls) (hX : XR E) (h1 : cells ≤ mc) (h2 : slots ≤ ms) :
    vx_W p l e R s m args below meth c H locs cells slots (vx_MQ below (Qq D Q A) (Xq XR A) args s mc ms A) (F0 m pc ls rest) q9 :=
  vx_out (fun x h => (hxt x h).elim) hlocks hce hv hcl (fun t ht _ => ⟨hX, hS.F ht⟩) hS.2.2 h1 h2
/-! arrays -/
theorem kq_newa (hx : p.tables.exec = Jvm.exec) (hb : c.code = cc) {atype : ArrayType} {ty : FieldType} (k : Nat) (hk : (tyl dA)[k]? = some (dA k, ty)) (hty : newarray.typeOf atype = ty) (hgw : ∀ w ∈ gW, w.before args s = true) (w1 : Cond.arrayClass ty ∈ gW) (hK : va_K D vwCl (tyl dA) s) (hP : va_P D vwCl ws H) (hD : va_D A ws) (hS : va_S A s.heap H locs) (hA : ∀ q, s.heap.size ≤ q → A q)
    {n : Int32} {N' : Nat} {a0 : vp_A} (ha : ∀ cA : ClassId, vp_cell cA a0 = arrV cA N' (fun _ => defaultValue ty)) (hn : ¬ n < 0) (hN : n.toNatClampNeg = N') (hbytes : N' * componentBytes ty ≤ 536870912) (hcells : cells + 1 ≤ R.cells) (hslots : slots + N' ≤ R.slots) (hdg : decode cc pc = .ok (.newarray atype, 2))
    (kk : ∀ (q : Nat) (H1 : Heap), va_P D vwCl (ws ++ [(q, .inl (dA k, a0))]) H1 → va_D A (ws ++ [(q, .inl (dA k, a0))]) → va_S A s.heap H1 locs → W p l e R s m args below meth c H1 locs (cells + 1) (slots + N') Qw (F0 m (pc + 2) ls (.ref q :: rest))) : W p l e R s m args below meth c H locs cells slots Qw (F0 m pc ls (.int n :: rest)) := by
  refine va_newa hx hb (by rw [hty]; exact hgw _ w1) hty hK hP hD hS hA ha hn hN hbytes hcells hslots hdg (fun q cA H1 hK1 hP1 hD1 hS1 => ?_)
  cases kq_uniq hK1 hk
  exact kk q H1 hP1 hD1 hS1
theorem kq_newq (hx : p.tables.exec = Jvm.exec) (hb : c.code = cc) {C : String} (hown : s.vm.findClass own = some m.cls) (k : Nat) (hk : (tyl dA)[k]? = some (dA k, .object C)) (hgw : ∀ w ∈ gW, w.before args s = true) (w1 : Cond.classLink own index C ∈ gW) (hG : gs tE tC A s) (w2 : C ∈ gAO) (hK : va_K D vwCl (tyl dA) s) (hP : va_P D vwCl ws H) (hD : va_D A ws) (hS : va_S A s.heap H locs) (hA : ∀ q, s.heap.size ≤ q → A q)
    {n : Int32} {N' : Nat} (hn : ¬ n < 0) (hN : n.toNatClampNeg = N') (hbytes : N' * 4 ≤ 536870912) (hcells : cells + 1 ≤ R.cells) (hslots : slots + N' ≤ R.slots) (hdg : decode cc pc = .ok (.anewarray index, 3))
    (kk : ∀ (q : Nat) (H1 : Heap), va_P D vwCl (ws ++ [(q, .inl (dA k, N', .inr (.inr (.inr (.inr (fun _ => none))))))]) H1 → va_D A (ws ++ [(q, .inl (dA k, N', .inr (.inr (.inr (.inr (fun _ => none))))))]) → va_S A s.heap H1 locs → W p l e R s m args below meth c H1 locs (cells + 1) (slots + N') Qw (F0 m (pc + 3) ls (.ref q :: rest))) : W p l e R s m args below meth c H locs cells slots Qw (F0 m pc ls (.int n :: rest)) := by
  refine va_newq hx hb hown (hgw _ w1) (hG.2.2.2.2.2.1 _ w2) hK hP hD hS hA hn hN hbytes hcells hslots hdg (fun q cA H1 hK1 hP1 hD1 hS1 => ?_)
  cases kq_uniq hK1 hk
  exact kk q H1 hP1 hD1 hS1
/-- new T[n][m] of ints: the inner arrays forgotten -/
theorem kq_mnaI (hx : p.tables.exec = Jvm.exec) (hb : c.code = cc) (hown : s.vm.findClass own = some m.cls) (hgw : ∀ w ∈ gW, w.before args s = true) (wk : Cond.classLink own index "[[I" ∈ gW) (wa : Cond.arrayClass .int ∈ gW) (hG : gs tE tC A s) (hK : va_K D vwCl (tyl dA) s) (hP : va_P D vwCl ws H) (hD : va_D A ws) (hS : va_S A s.heap H locs) (hA : ∀ q, s.heap.size ≤ q → A q)
    {n k : Int32} {N' K' : Nat} (hn : ¬ n < 0) (hk : ¬ k < 0) (hN : n.toNatClampNeg = N') (hM : k.toNatClampNeg = K') (hb1 : N' * 4 ≤ 536870912) (hb2 : K' * componentBytes .int ≤ 536870912) (hb3 : K' ≤ 536870912) (hcells : cells + (1 + N') ≤ R.cells) (hslots : slots + (N' + N' * K') ≤ R.slots) (hdg : decode cc pc = .ok (.multianewarray index 2, 4))
    (kk : ∀ (q : Nat) (g : Nat → Option Nat) (H1 : Heap), va_P D vwCl (ws ++ [(q, .inl (dA 5, N', .inr (.inr (.inr (.inr g)))))]) H1 → va_D A (ws ++ [(q, .inl (dA 5, N', .inr (.inr (.inr (.inr g)))))]) → va_S A s.heap H1 locs → W p l e R s m args below meth c H1 locs (cells + (1 + N')) (slots + (N' + N' * K')) Qw (F0 m (pc + 4) ls (.ref q :: rest))) : W p l e R s m args below meth c H locs cells slots Qw (F0 m pc ls (.int k :: .int n :: rest)) := by
  refine va_mna (X := ws) (L := []) (f := fun _ => .inr (0, [])) (ty := .int) (cy := dA 0) (z := (K', .inl (fun _ => 0))) hx hb hown (hgw _ wk) hG.2.2.2.2.2.2.1 (hgw _ wa) (hK.2 0 _ rfl).2 hK (by rw [show va_pl [] (fun _ => (.inr (0, []) : va_E)) = [] from rfl, List.append_nil]; exact hP) (by rw [show va_pl [] (fun _ => (.inr (0, []) : va_E)) = [] from rfl, List.append_nil]; exact hD) hS hA hn hk hN hM hb1 hb2 hb3 rfl rfl hcells hslots (fun c => arrV_new c K' (.int 0)) hdg (fun q r cA H1 _ _ hK1 hP1 hD1 hS1 => ?_)
  cases kq_uniq (k := 5) hK1 rfl
  refine W.cs (Nat.add_assoc _ _ _) (Nat.add_assoc _ _ _) ?_
  exact kk q _ H1 (kq_left hP1) (kq_leftD hD1) hS1
theorem kq_mnaJ (hx : p.tables.exec = Jvm.exec) (hb : c.code = cc) (hown : s.vm.findClass own = some m.cls) (hgw : ∀ w ∈ gW, w.before args s = true) (wk : Cond.classLink own index "[[J" ∈ gW) (wa : Cond.arrayClass .long ∈ gW) (hG : gs tE tC A s) (hK : va_K D vwCl (tyl dA) s) (hP : va_P D vwCl ws H) (hD : va_D A ws) (hS : va_S A s.heap H locs) (hA : ∀ q, s.heap.size ≤ q → A q)
    {n k : Int32} {N' K' : Nat} (hn : ¬ n < 0) (hk : ¬ k < 0) (hN : n.toNatClampNeg = N') (hM : k.toNatClampNeg = K') (hb1 : N' * 4 ≤ 536870912) (hb2 : K' * componentBytes .long ≤ 536870912) (hb3 : K' ≤ 536870912) (hcells : cells + (1 + N') ≤ R.cells) (hslots : slots + (N' + N' * K') ≤ R.slots) (hdg : decode cc pc = .ok (.multianewarray index 2, 4))
    (kk : ∀ (q : Nat) (g : Nat → Option Nat) (H1 : Heap), va_P D vwCl (ws ++ [(q, .inl (dA 6, N', .inr (.inr (.inr (.inr g)))))]) H1 → va_D A (ws ++ [(q, .inl (dA 6, N', .inr (.inr (.inr (.inr g)))))]) → va_S A s.heap H1 locs → W p l e R s m args below meth c H1 locs (cells + (1 + N')) (slots + (N' + N' * K')) Qw (F0 m (pc + 4) ls (.ref q :: rest))) : W p l e R s m args below meth c H locs cells slots Qw (F0 m pc ls (.int k :: .int n :: rest)) := by
  refine va_mna (X := ws) (L := []) (f := fun _ => .inr (0, [])) (ty := .long) (cy := dA 3) (z := (K', .inr (.inl (fun _ => 0)))) hx hb hown (hgw _ wk) hG.2.2.2.2.2.2.2.1 (hgw _ wa) (hK.2 3 _ rfl).2 hK (by rw [show va_pl [] (fun _ => (.inr (0, []) : va_E)) = [] from rfl, List.append_nil]; exact hP) (by rw [show va_pl [] (fun _ => (.inr (0, []) : va_E)) = [] from rfl, List.append_nil]; exact hD) hS hA hn hk hN hM hb1 hb2 hb3 rfl rfl hcells hslots (fun c => arrV_new c K' (.long 0)) hdg (fun q r cA H1 _ _ hK1 hP1 hD1 hS1 => ?_)
  cases kq_uniq (k := 6) hK1 rfl
  refine W.cs (Nat.add_assoc _ _ _) (Nat.add_assoc _ _ _) ?_
  exact kk q _ H1 (kq_left hP1) (kq_leftD hD1) hS1
section KQW
variable {tys : List (ClassId × FieldType)} {H0 : Heap} {a : Nat}
theorem kq_iast {k : Nat} (hexec : p.tables.exec = Jvm.exec) (hb : c.code = cc) (hK : va_K D vwCl tys s) (hP : va_P D vwCl ws H) (hD : va_D A ws) (hS : va_S A H0 H locs) (q0 t0 : Nat) {cA : ClassId} {n : Nat} {f : Nat → Int32} (ha : ws[q0]? = some (a, .inl (cA, n, .inl f))) (ht : tys[t0]? = some (cA, .int)) {i : Int32} {x : Int32} (hin : vp_in i n) (hk : i.toNatClampNeg = k) (hdg : decode cc pc = .ok (.iastore, 1))
    (kk : ∀ (H1 : Heap) (locs1 : List Loc), va_P D vwCl (ws.set q0 (a, .inl (cA, n, .inl (upd f k x)))) H1 → va_D A (ws.set q0 (a, .inl (cA, n, .inl (upd f k x)))) → va_S A H0 H1 locs1 → W p l e R s m args below meth c H1 locs1 cells slots Qw (F0 m (pc + 1) ls rest)) : W p l e R s m args below meth c H locs cells slots Qw (F0 m pc ls (.int x :: .int i :: .ref a :: rest)) := by
  subst hk; exact va_iast hexec hb hK hP hD hS q0 t0 ha ht hin hdg kk
theorem kq_zast {k : Nat} (hexec : p.tables.exec = Jvm.exec) (hb : c.code = cc) (hK : va_K D vwCl tys s) (hP : va_P D vwCl ws H) (hD : va_D A ws) (hS : va_S A H0 H locs) (q0 t0 : Nat) {cA : ClassId} {n : Nat} {f : Nat → Int32} (ha : ws[q0]? = some (a, .inl (cA, n, .inl f))) (ht : tys[t0]? = some (cA, .boolean)) {i : Int32} {x : Int32} (hin : vp_in i n) (hk : i.toNatClampNeg = k) (hv : vp_nar .boolean x = x) (hdg : decode cc pc = .ok (.bastore, 1))
    (kk : ∀ (H1 : Heap) (locs1 : List Loc), va_P D vwCl (ws.set q0 (a, .inl (cA, n, .inl (upd f k x)))) H1 → va_D A (ws.set q0 (a, .inl (cA, n, .inl (upd f k x)))) → va_S A H0 H1 locs1 → W p l e R s m args below meth c H1 locs1 cells slots Qw (F0 m (pc + 1) ls rest)) : W p l e R s m args below meth c H locs cells slots Qw (F0 m pc ls (.int x :: .int i :: .ref a :: rest)) := by
  subst hk; exact va_zast hexec hb hK hP hD hS q0 t0 ha ht hin hdg (fun H1 l1 h1 h2 h3 => kk H1 l1 (by rw [hv] at h1; exact h1) (by rw [hv] at h2; exact h2) h3)
theorem kq_last {k : Nat} (hexec : p.tables.exec = Jvm.exec) (hb : c.code = cc) (hK : va_K D vwCl tys s) (hP : va_P D vwCl ws H) (hD : va_D A ws) (hS : va_S A H0 H locs) (q0 t0 : Nat) {cA : ClassId} {n : Nat} {f : Nat → Int64} (ha : ws[q0]? = some (a, .inl (cA, n, .inr (.inl f)))) (ht : tys[t0]? = some (cA, .long)) {i : Int32} {x : Int64} (hin : vp_in i n) (hk : i.toNatClampNeg = k) (hdg : decode cc pc = .ok (.lastore, 1))
    (kk : ∀ (H1 : Heap) (locs1 : List Loc), va_P D vwCl (ws.set q0 (a, .inl (cA, n, .inr (.inl (vp_updL f k x))))) H1 → va_D A (ws.set q0 (a, .inl (cA, n, .inr (.inl (vp_updL f k x))))) → va_S A H0 H1 locs1 → W p l e R s m args below meth c H1 locs1 cells slots Qw (F0 m (pc + 1) ls rest)) : W p l e R s m args below meth c H locs cells slots Qw (F0 m pc ls (.long x :: .int i :: .ref a :: rest)) := by
  subst hk; exact va_last hexec hb hK hP hD hS q0 t0 ha ht hin hdg kk
end KQW
theorem kq_fret {v : UInt32} (hx : p.tables.exec = Jvm.exec) (hb : c.code = cc) (hr : meth.sig.returnType = some .float) (hlocks : meth.locks = false) (hS : va_S A s.heap H locs) (hQ : Q (some (.float v)) w1) (hP : va_P D vwCl w1 H) (hD : va_D A w1) (h1 : cells ≤ mc) (h2 : slots ≤ ms) (d : decode cc pc = .ok (.freturn, 1)) :
    W p l e R s m args below meth c H locs cells slots (MQ below (Qq D Q A) args s mc ms A) (F0 m pc ls [.float v]) :=
  W.widen h1 h2 (W.fret hx hb hr (fun t ht hW => ⟨⟨_, w1, rfl, hQ, by rw [ht]; exact hP, hD⟩, hS.F ht⟩) hS.2.2 d hlocks)
theorem kq_dret {v : UInt64} (hx : p.tables.exec = Jvm.exec) (hb : c.code = cc) (hr : meth.sig.returnType = some .double) (hlocks : meth.locks = false) (hS : va_S A s.heap H locs) (hQ : Q (some (.double v)) w1) (hP : va_P D vwCl w1 H) (hD : va_D A w1) (h1 : cells ≤ mc) (h2 : slots ≤ ms) (d : decode cc pc = .ok (.dreturn, 1)) :
    W p l e R s m args below meth c H locs cells slots (MQ below (Qq D Q A) args s mc ms A) (F0 m pc ls [.double v]) :=
  W.widen h1 h2 (W.dret hx hb hr (fun t ht hW => ⟨⟨_, w1, rfl, hQ, by rw [ht]; exact hP, hD⟩, hS.F ht⟩) hS.2.2 d hlocks)
/-- 'throw new E("text")', not caught here -/
theorem kx_throw {cls text : String} {names : List String} {ik is ic : Nat} (hx : p.tables.exec = Jvm.exec) (hb : c.code = cc) (hfl : l.stackTraces = false) (hown : s.vm.findClass own = some m.cls) (hgw : ∀ w ∈ gW, w.before args s = true) (hG : gs tE tC A s) (hS : va_S A s.heap H locs) (hsz : ls.size = c.maxLocals) (hxt : ∀ x ∈ c.exceptionTable.toList, False) (hlocks : meth.locks = false)
    (wk : Cond.classLink own ik cls ∈ gW) (wi : Cond.initialized cls ∈ gW) (wst : (own, is, text) ∈ gStr) (hat : (∀ w ∈ vx_atS own ic cls names, w ∈ gW ∨ (∃ q ∈ gCa, w = Cond.castable q.1 q.2) ∨ ∃ y ∈ gDe, w = Cond.declares y) ∧ ∀ w ∈ vx_atS own ic cls names, vx_ot w = true) (hf1 : Bundle.fit cls = true) (hf2 : ∀ n ∈ names, Bundle.fit n = true)
    (d0 : decode cc pc = .ok (.new ik, 3)) (d3 : decode cc (pc + 3) = .ok (.dup, 1)) (d4 : decode cc (pc + 4) = .ok (.ldc is, 2)) (d6 : decode cc (pc + 6) = .ok (.invokespecial ic, 3)) (d9 : decode cc (pc + 9) = .ok (.athrow, 1))
    (hRf : names.length + 3 < R.frames) (hRl : (rest.map fun v => v.category).sum + (13 * (names.length + 1) + 43) ≤ R.locals) (hRc : cells + 1 ≤ R.cells) (hRs : slots + 6 ≤ R.slots) (hX : XR cls) (h1 : cells + 1 ≤ mc) (h2 : slots + 6 ≤ ms) :
    W p l e R s m args below meth c H locs cells slots (vx_MQ below (Qq D Q A) (Xq XR A) args s mc ms A) (F0 m pc ls rest) := by
  obtain ⟨sa, hsa⟩ := hG.1 _ wst
  refine vx_throwS hx hb hfl (sa := sa) hown hf1 hf2 (hgw _ wk) (hgw _ wi) hsa (fun w hw => ?_) (fun w hw => ?_) hG.2.2.2.2.2.2.2.2.2.1 hG.2.2.2.2.2.2.2.2.2.2.1 hS hsz d0 d3 d4 d6 d9 (fun x h => (hxt x h).elim) hRf hRl hRc hRs hlocks (fun t _ g1 g2 => ⟨hX, Nat.le_trans hS.1 g1, fun q k1 k2 => (g2 q (Nat.lt_of_lt_of_le k1 hS.1)).trans (hS.2.1 q k1 k2)⟩) hS.2.2 h1 h2
  · rcases hat.1 w hw with h | ⟨q, hq, rfl⟩ | ⟨y9, hq, rfl⟩
    · exact hgw _ h
    · exact va_Nw.use rfl (hG.2.2.2.1 _ hq)
    · exact va_Nw.use rfl (hG.2.2.2.2.2.2.2.2.2.2.2.2.2.2.2 _ hq)
  · rcases List.mem_cons.mp hw with rfl | hw
    · rfl
    · rcases List.mem_cons.mp hw with rfl | hw
      · rfl
      · exact hat.2 w hw
theorem kx_throwW {cls text : String} {names : List String} {ik is ic : Nat} (hx : p.tables.exec = Jvm.exec) (hb : c.code = cc) (hfl : l.stackTraces = false) (hown : s.vm.findClass own = some m.cls) (hgw : ∀ w ∈ gW, w.before args s = true) (hG : gs tE tC A s) (hS : va_S A s.heap H locs) (hsz : ls.size = c.maxLocals) (hxt : ∀ x ∈ c.exceptionTable.toList, False) (hlocks : meth.locks = false)
    (wk : Cond.classLink own ik cls ∈ gW) (wi : Cond.initialized cls ∈ gW) (wst : (own, is, text) ∈ gStr) (hat : (∀ w ∈ vx_atS own ic cls names, w ∈ gW ∨ (∃ q ∈ gCa, w = Cond.castable q.1 q.2) ∨ ∃ y ∈ gDe, w = Cond.declares y) ∧ ∀ w ∈ vx_atS own ic cls names, vx_ot w = true) (hf1 : Bundle.fit cls = true) (hf2 : ∀ n ∈ names, Bundle.fit n = true)
    (d0 : decode cc pc = .ok (.new ik, 3)) (d3 : decode cc (pc + 3) = .ok (.dup, 1)) (d4 : decode cc (pc + 4) = .ok (.ldc_w is, 3)) (d7 : decode cc (pc + 7) = .ok (.invokespecial ic, 3)) (d10 : decode cc (pc + 10) = .ok (.athrow, 1))
    (hRf : names.length + 3 < R.frames) (hRl : (rest.map fun v => v.category).sum + (13 * (names.length + 1) + 43) ≤ R.locals) (hRc : cells + 1 ≤ R.cells) (hRs : slots + 6 ≤ R.slots) (hX : XR cls) (h1 : cells + 1 ≤ mc) (h2 : slots + 6 ≤ ms) :
    W p l e R s m args below meth c H locs cells slots (vx_MQ below (Qq D Q A) (Xq XR A) args s mc ms A) (F0 m pc ls rest) := by
  obtain ⟨sa, hsa⟩ := hG.1 _ wst
  refine vx_throwSW hx hb hfl (sa := sa) hown hf1 hf2 (hgw _ wk) (hgw _ wi) hsa (fun w hw => ?_) (fun w hw => ?_) hG.2.2.2.2.2.2.2.2.2.1 hG.2.2.2.2.2.2.2.2.2.2.1 hS hsz d0 d3 d4 d7 d10 (fun x h => (hxt x h).elim) hRf hRl hRc hRs hlocks (fun t _ g1 g2 => ⟨hX, Nat.le_trans hS.1 g1, fun q k1 k2 => (g2 q (Nat.lt_of_lt_of_le k1 hS.1)).trans (hS.2.1 q k1 k2)⟩) hS.2.2 h1 h2
  · rcases hat.1 w hw with h | ⟨q, hq, rfl⟩ | ⟨y9, hq, rfl⟩
    · exact hgw _ h
    · exact va_Nw.use rfl (hG.2.2.2.1 _ hq)
    · exact va_Nw.use rfl (hG.2.2.2.2.2.2.2.2.2.2.2.2.2.2.2 _ hq)
  · rcases List.mem_cons.mp hw with rfl | hw
    · rfl
    · rcases List.mem_cons.mp hw with rfl | hw
      · rfl
      · exact hat.2 w hw
/-- Iterator.hasNext() of an ArrayList's iterator -/
theorem kq_go5 {a : Array Value} (hr : va_Run5 p l e R s m args below meth c H locs cells slots mc ms (F0 m pc ls st0) rest (Qq D Q (va_A wc H.size) a) (va_A wc H.size))
    (hP : va_P D vwCl ws H) (hD : va_D A ws) (hS : va_S A s.heap H locs) (hA : ∀ q, s.heap.size ≤ q → A q) (isC isR : List Nat) (hC : isC.map (fun i => ws[i]?) = wc.map some) (hR : isR.map (fun i => ws[i]?) = wr.map some) (hn : va_nd isR = true) (hdis : ∀ i ∈ isR, i ∉ isC)
    (kk : ∀ (v : Option Value) (w1 : va_W) (H1 : Heap) (locs1 : List Loc), Q v w1 → va_P D vwCl (wr ++ w1) H1 → va_D A (wr ++ w1) → va_S A s.heap H1 locs1 → W p l e R s m args below meth c H1 locs1 (cells + mc) (slots + ms) Qw (F0 m (pc + 5) ls (v.toList ++ rest))) :
    W p l e R s m args below meth c H locs cells slots Qw (F0 m pc ls st0) := by
  have hF := va_free (wc := wc) hD hS hA isC hC
  intro T hT X
  obtain ⟨v, st₀, t, T', L, h0, X', hL, e1, e2, ⟨⟨v', w1, hv, hQ, hP1, hD1⟩, hz, hk⟩, st⟩ := hr T hT X
  cases hv
  rw [h0] at hz hk
  rw [← e1] at hP1 hz hk
  obtain ⟨j1, j2⟩ := va_join (wr := wr) (w1 := w1) hP hD isC isR hC hR hn hdis hk hF hP1 hD1
  obtain ⟨t2, a1, b1⟩ := kk v w1 T'.heap (locs ++ L) hQ j1 j2 ⟨Nat.le_trans hS.1 hz, fun q h1 h2 => by rw [hk q (Nat.lt_of_lt_of_le h1 hS.1) (fun z => h2 (hF q z))]; exact hS.2.1 q h1 h2, fun q hq => by
      rcases List.mem_append.mp hq with h | h
      · exact hS.2.2 q h
      · exact hF _ (hL q h)⟩ T' rfl X'
  exact ⟨t2, st t2 a1, b1⟩
theorem kq_F {b : Nat} {q0 ci count : Nat} {rc : vw_C} {fs : List Value} (hx : p.tables.exec = Jvm.exec) (hb : c.code = cc) (hml : c.maxLocals = nL) (hown : s.vm.findClass own = some m.cls) (hgw : ∀ w ∈ gW, w.before args s = true) (hK : va_K D vwCl (tyl dA) s) (hG : gs tE tC A s) (hA : ∀ q, s.heap.size ≤ q → A q) (hP : va_P D vwCl ws H) (hD : va_D A ws) (hS : va_S A s.heap H locs)
    (ct : Ct l D dA tE tC ⟨"java/util/ArrayList$Itr", "hasNext", "()Z"⟩ (Cond.code ⟨"java/util/ArrayList$Itr", "hasNext", "()Z"⟩ bytes maxL ret :: gW) rm (.ref b :: As) wc Q mc ms) (w1 : Cond.methodLink own index kq_hn ∈ gW) (w3 : Cond.selects "java/util/ArrayList$Itr" kq_hn ⟨"java/util/ArrayList$Itr", "hasNext", "()Z"⟩ ∈ gW) (w2 : Cond.instanceMethod ⟨"java/util/ArrayList$Itr", "hasNext", "()Z"⟩ ∈ gW) (w4 : Cond.initialized "java/util/ArrayList$Itr" ∈ gW) (w5 : Cond.code ⟨"java/util/ArrayList$Itr", "hasNext", "()Z"⟩ bytes maxL ret ∈ gW)
    (hd : ("java/util/ArrayList$Itr" : String) ≠ "java/lang/invoke/MethodHandle" ∧ ("java/util/ArrayList$Itr" : String) ≠ "java/lang/invoke/VarHandle" ∧ (parseMethodDescriptor "()Z").map (fun d => d.parameters.length) = some As.length) (hrc : rm.cells = mc) (hrs : rm.slots = ms) (hR : rm.frames + 1 ≤ R.frames ∧ 8 + (maxL + 11) + rm.locals ≤ R.locals)
    (isC isR : List Nat) (hC : isC.map (fun i => ws[i]?) = wc.map some) (hRr : isR.map (fun i => ws[i]?) = wr.map some) (hnC : va_nd isC = true) (hn : va_nd isR = true) (hdis : ∀ i ∈ isR, i ∉ isC) (hrecv : wc[q0]? = some (b, .inr (ci, fs))) (hci : vwCl[ci]? = some rc) (hrcn : rc.1 = "java/util/ArrayList$Itr")
    (hsz : ls.size = nL) (hst : st0 = As.reverse ++ .ref b :: rest) (hW : (rest.map fun v => v.category).sum ≤ 8) (hdg : decode cc pc = .ok (.invokeinterface index count, 5)) (hf : cells + mc ≤ R.cells ∧ slots + ms ≤ R.slots)
    (kk : ∀ (v : Option Value) (w1 : va_W) (H1 : Heap) (locs1 : List Loc), Q v w1 → va_P D vwCl (wr ++ w1) H1 → va_D A (wr ++ w1) → va_S A s.heap H1 locs1 → W p l e R s m args below meth c H1 locs1 (cells + mc) (slots + ms) Qw (F0 m (pc + 5) ls (v.toList ++ rest))) :
    W p l e R s m args below meth c H locs cells slots Qw (F0 m pc ls st0) := by
  have hF := va_free (wc := wc) hD hS hA isC hC
  have hPc := kq_pick hP hC
  have hDc : va_D (fun _ => True) wc := (hD.sub isC hnC hC).weaken (fun _ _ _ _ => trivial)
  have hat := (hK.1 ci rc hci).2
  rw [hrcn] at hat
  have hok : GoodIn gW (va_wsF own index "java/util/ArrayList$Itr" kq_hn ⟨"java/util/ArrayList$Itr", "hasNext", "()Z"⟩ (Cond.code ⟨"java/util/ArrayList$Itr", "hasNext", "()Z"⟩ bytes maxL ret :: gW)) := gW_in (fun w h => by
    simp only [va_wsF, List.cons_append, List.nil_append, List.mem_cons] at h
    rcases h with rfl | rfl | rfl | rfl | rfl | h
    · exact w1
    · exact w3
    · exact w2
    · exact w4
    · exact w5
    · exact h)
  refine kq_go5 (va_runF (As := As) (rest := rest) (C := "java/util/ArrayList$Itr") hat ⟨hx, hb, hml, hown, hgw⟩ (ct H.size) (va_cwF As.length hgw hok rfl hrc hrs hG.2.2.2.2.2.2.2.2.1 ⟨by decide, by decide, hd.2.2⟩ hR) ⟨Pq_blind, ?_, fun U hU hW9 => ⟨rfl, by rw [hU], by rw [hU]; exact hPc, va_K.moved hW9.alike hK, hG.to hW9 hU hS hF, hDc⟩⟩ rfl rfl hsz hst (lv_room hW) hdg hf) hP hD hS hA isC isR hC hRr hn hdis kk
  obtain ⟨cell, e1, e2, e3⟩ := va_recv hK hPc hci hrecv
  rw [hrcn] at e3
  exact ⟨cell, e1, e2, e3⟩
end KQR
