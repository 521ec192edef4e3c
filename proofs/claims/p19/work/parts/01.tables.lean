-- ===== PART A: goes FIRST, ahead of the names: the tables' words, and 'selects' of the private methods out of them =====
/-- a private method of a class that the tables say can be made, by its rows of tables_1 -/
def lw_okq (q : MethodName × Nat) : Prop := (q.1.cls ≠ "java/lang/invoke/MethodHandle" ∧ q.1.cls ≠ "java/lang/invoke/VarHandle") ∧ Cond.instantiable q.1.cls q.2 ∈ tables_1 ∧ Cond.privateMethod q.1 ∈ tables_1 ∧ Cond.instanceMethod q.1 ∈ tables_1
theorem tbM1 {w : Cond} (i : Nat) (h : tables_1_1[i]? = some w) : w ∈ tables_1 := List.mem_append_left _ (List.mem_of_getElem? h)
theorem tbM2 {w : Cond} (i : Nat) (h : tables_1_2[i]? = some w) : w ∈ tables_1 := List.mem_append_right _ (List.mem_append_left _ (List.mem_of_getElem? h))
theorem tbM3 {w : Cond} (i : Nat) (h : tables_1_3[i]? = some w) : w ∈ tables_1 := List.mem_append_right _ (List.mem_append_right _ (List.mem_append_left _ (List.mem_of_getElem? h)))
theorem tbM4 {w : Cond} (i : Nat) (h : tables_1_4[i]? = some w) : w ∈ tables_1 := List.mem_append_right _ (List.mem_append_right _ (List.mem_append_right _ (List.mem_append_left _ (List.mem_of_getElem? h))))
theorem tbM5 {w : Cond} (i : Nat) (h : tables_1_5[i]? = some w) : w ∈ tables_1 := List.mem_append_right _ (List.mem_append_right _ (List.mem_append_right _ (List.mem_append_right _ (List.mem_append_left _ (List.mem_of_getElem? h)))))
theorem tbM6 {w : Cond} (i : Nat) (h : tables_1_6[i]? = some w) : w ∈ tables_1 := List.mem_append_right _ (List.mem_append_right _ (List.mem_append_right _ (List.mem_append_right _ (List.mem_append_right _ (List.mem_append_left _ (List.mem_of_getElem? h))))))
theorem tbM7 {w : Cond} (i : Nat) (h : tables_1_7[i]? = some w) : w ∈ tables_1 := List.mem_append_right _ (List.mem_append_right _ (List.mem_append_right _ (List.mem_append_right _ (List.mem_append_right _ (List.mem_append_right _ (List.mem_append_left _ (List.mem_of_getElem? h)))))))
theorem tbM8 {w : Cond} (i : Nat) (h : tables_1_8[i]? = some w) : w ∈ tables_1 := List.mem_append_right _ (List.mem_append_right _ (List.mem_append_right _ (List.mem_append_right _ (List.mem_append_right _ (List.mem_append_right _ (List.mem_append_right _ (List.mem_of_getElem? h)))))))
theorem nhS0 : "ClickStreet" ≠ "java/lang/invoke/MethodHandle" ∧ "ClickStreet" ≠ "java/lang/invoke/VarHandle" := ⟨by decide +kernel, by decide +kernel⟩
theorem nhS1 : "ClickStreet$Finder" ≠ "java/lang/invoke/MethodHandle" ∧ "ClickStreet$Finder" ≠ "java/lang/invoke/VarHandle" := ⟨by decide +kernel, by decide +kernel⟩
theorem nhS2 : "ClickStreet$Lessons" ≠ "java/lang/invoke/MethodHandle" ∧ "ClickStreet$Lessons" ≠ "java/lang/invoke/VarHandle" := ⟨by decide +kernel, by decide +kernel⟩
theorem nhS3 : "ClickStreet$Reader" ≠ "java/lang/invoke/MethodHandle" ∧ "ClickStreet$Reader" ≠ "java/lang/invoke/VarHandle" := ⟨by decide +kernel, by decide +kernel⟩
theorem nhS4 : "ClickStreet$Street" ≠ "java/lang/invoke/MethodHandle" ∧ "ClickStreet$Street" ≠ "java/lang/invoke/VarHandle" := ⟨by decide +kernel, by decide +kernel⟩
theorem nhS5 : "ClickStreet$Voices" ≠ "java/lang/invoke/MethodHandle" ∧ "ClickStreet$Voices" ≠ "java/lang/invoke/VarHandle" := ⟨by decide +kernel, by decide +kernel⟩
theorem nhS6 : "ClickStreet$World" ≠ "java/lang/invoke/MethodHandle" ∧ "ClickStreet$World" ≠ "java/lang/invoke/VarHandle" := ⟨by decide +kernel, by decide +kernel⟩
theorem nhS7 : "ClickStreetModel" ≠ "java/lang/invoke/MethodHandle" ∧ "ClickStreetModel" ≠ "java/lang/invoke/VarHandle" := ⟨by decide +kernel, by decide +kernel⟩
set_option maxRecDepth 20000 in
theorem lw_p0 : lw_okq (⟨"ClickStreet", "error", "(I)I"⟩, 9) := ⟨nhS0, tbM1 24 rfl, tbM2 183 rfl, tbM2 184 rfl⟩
set_option maxRecDepth 20000 in
theorem lw_p1 : lw_okq (⟨"ClickStreet$Reader", "readComparisons", "()V"⟩, 7) := ⟨nhS3, tbM2 30 rfl, tbM3 135 rfl, tbM3 136 rfl⟩
set_option maxRecDepth 20000 in
theorem lw_p2 : lw_okq (⟨"ClickStreet$Reader", "readSum", "()V"⟩, 7) := ⟨nhS3, tbM2 30 rfl, tbM3 139 rfl, tbM3 140 rfl⟩
set_option maxRecDepth 20000 in
theorem lw_p3 : lw_okq (⟨"ClickStreet$Reader", "readTerm", "()V"⟩, 7) := ⟨nhS3, tbM2 30 rfl, tbM3 143 rfl, tbM3 144 rfl⟩
set_option maxRecDepth 20000 in
theorem lw_p4 : lw_okq (⟨"ClickStreet$Reader", "readOne", "()V"⟩, 7) := ⟨nhS3, tbM2 30 rfl, tbM3 147 rfl, tbM3 148 rfl⟩
set_option maxRecDepth 20000 in
theorem lw_p5 : lw_okq (⟨"ClickStreet$Reader", "next", "()I"⟩, 7) := ⟨nhS3, tbM2 30 rfl, tbM3 151 rfl, tbM3 152 rfl⟩
set_option maxRecDepth 20000 in
theorem lw_p6 : lw_okq (⟨"ClickStreet$Reader", "readNumber", "()V"⟩, 7) := ⟨nhS3, tbM2 30 rfl, tbM3 159 rfl, tbM3 160 rfl⟩
set_option maxRecDepth 20000 in
theorem lw_p7 : lw_okq (⟨"ClickStreet$Reader", "readOpened", "(I)V"⟩, 7) := ⟨nhS3, tbM2 30 rfl, tbM3 167 rfl, tbM3 168 rfl⟩
set_option maxRecDepth 20000 in
theorem lw_p8 : lw_okq (⟨"ClickStreet$Reader", "fail", "()V"⟩, 7) := ⟨nhS3, tbM2 30 rfl, tbM3 171 rfl, tbM3 172 rfl⟩
set_option maxRecDepth 20000 in
theorem lw_p9 : lw_okq (⟨"ClickStreet$Reader", "expect", "(I)V"⟩, 7) := ⟨nhS3, tbM2 30 rfl, tbM3 175 rfl, tbM3 176 rfl⟩
set_option maxRecDepth 20000 in
theorem lw_p10 : lw_okq (⟨"ClickStreet$Reader", "readName", "(I)V"⟩, 7) := ⟨nhS3, tbM2 30 rfl, tbM3 179 rfl, tbM3 180 rfl⟩
set_option maxRecDepth 20000 in
theorem lw_p11 : lw_okq (⟨"ClickStreet$Finder", "noteLearned", "(LClickStreet$World;III)V"⟩, 6) := ⟨nhS1, tbM2 65 rfl, tbM4 197 rfl, tbM4 198 rfl⟩
set_option maxRecDepth 20000 in
theorem lw_p12 : lw_okq (⟨"ClickStreet$Finder", "countLearned", "(I)I"⟩, 6) := ⟨nhS1, tbM2 65 rfl, tbM4 214 rfl, tbM4 215 rfl⟩
set_option maxRecDepth 20000 in
theorem lw_p13 : lw_okq (⟨"ClickStreet$Street", "letThingGo", "(I)V"⟩, 6) := ⟨nhS4, tbM1 38 rfl, tbM4 236 rfl, tbM4 237 rfl⟩
set_option maxRecDepth 20000 in
theorem lw_p14 : lw_okq (⟨"ClickStreet$World", "letWalkerGo", "(I)V"⟩, 8) := ⟨nhS6, tbM1 32 rfl, tbM5 2 rfl, tbM5 3 rfl⟩
set_option maxRecDepth 20000 in
theorem lw_p15 : lw_okq (⟨"ClickStreet$World", "goOn", "(I)V"⟩, 8) := ⟨nhS6, tbM1 32 rfl, tbM5 20 rfl, tbM5 21 rfl⟩
def lw_privs_1 : List (MethodName × Nat) := [(⟨"ClickStreet", "error", "(I)I"⟩, 9), (⟨"ClickStreet$Reader", "readComparisons", "()V"⟩, 7), (⟨"ClickStreet$Reader", "readSum", "()V"⟩, 7), (⟨"ClickStreet$Reader", "readTerm", "()V"⟩, 7), (⟨"ClickStreet$Reader", "readOne", "()V"⟩, 7), (⟨"ClickStreet$Reader", "next", "()I"⟩, 7), (⟨"ClickStreet$Reader", "readNumber", "()V"⟩, 7), (⟨"ClickStreet$Reader", "readOpened", "(I)V"⟩, 7), (⟨"ClickStreet$Reader", "fail", "()V"⟩, 7), (⟨"ClickStreet$Reader", "expect", "(I)V"⟩, 7), (⟨"ClickStreet$Reader", "readName", "(I)V"⟩, 7), (⟨"ClickStreet$Finder", "noteLearned", "(LClickStreet$World;III)V"⟩, 6), (⟨"ClickStreet$Finder", "countLearned", "(I)I"⟩, 6), (⟨"ClickStreet$Street", "letThingGo", "(I)V"⟩, 6), (⟨"ClickStreet$World", "letWalkerGo", "(I)V"⟩, 8), (⟨"ClickStreet$World", "goOn", "(I)V"⟩, 8)]
theorem lw_r1 : ∀ q ∈ lw_privs_1, lw_okq q := List.forall_mem_cons.mpr ⟨lw_p0, List.forall_mem_cons.mpr ⟨lw_p1, List.forall_mem_cons.mpr ⟨lw_p2, List.forall_mem_cons.mpr ⟨lw_p3, List.forall_mem_cons.mpr ⟨lw_p4, List.forall_mem_cons.mpr ⟨lw_p5, List.forall_mem_cons.mpr ⟨lw_p6, List.forall_mem_cons.mpr ⟨lw_p7, List.forall_mem_cons.mpr ⟨lw_p8, List.forall_mem_cons.mpr ⟨lw_p9, List.forall_mem_cons.mpr ⟨lw_p10, List.forall_mem_cons.mpr ⟨lw_p11, List.forall_mem_cons.mpr ⟨lw_p12, List.forall_mem_cons.mpr ⟨lw_p13, List.forall_mem_cons.mpr ⟨lw_p14, List.forall_mem_cons.mpr ⟨lw_p15, fun _ h => absurd h List.not_mem_nil⟩⟩⟩⟩⟩⟩⟩⟩⟩⟩⟩⟩⟩⟩⟩⟩
set_option maxRecDepth 20000 in
theorem lw_p16 : lw_okq (⟨"ClickStreet$Finder", "nearestOpen", "()I"⟩, 6) := ⟨nhS1, tbM2 65 rfl, tbM5 40 rfl, tbM5 41 rfl⟩
set_option maxRecDepth 20000 in
theorem lw_p17 : lw_okq (⟨"ClickStreet$Finder", "firstStep", "(LClickStreet$Walker;I)I"⟩, 6) := ⟨nhS1, tbM2 65 rfl, tbM5 56 rfl, tbM5 57 rfl⟩
set_option maxRecDepth 20000 in
theorem lw_p18 : lw_okq (⟨"ClickStreet$Lessons", "tryRows", "(III)V"⟩, 9) := ⟨nhS2, tbM1 116 rfl, tbM5 97 rfl, tbM5 98 rfl⟩
set_option maxRecDepth 20000 in
theorem lw_p19 : lw_okq (⟨"ClickStreet$Lessons", "isBetter", "(I)Z"⟩, 9) := ⟨nhS2, tbM1 116 rfl, tbM5 101 rfl, tbM5 102 rfl⟩
set_option maxRecDepth 20000 in
theorem lw_p20 : lw_okq (⟨"ClickStreet$Finder", "servesAll", "(II)Z"⟩, 6) := ⟨nhS1, tbM2 65 rfl, tbM5 134 rfl, tbM5 135 rfl⟩
set_option maxRecDepth 20000 in
theorem lw_p21 : lw_okq (⟨"ClickStreet$Voices", "say", "(IIII)I"⟩, 6) := ⟨nhS5, tbM2 94 rfl, tbM5 148 rfl, tbM5 149 rfl⟩
set_option maxRecDepth 20000 in
theorem lw_p22 : lw_okq (⟨"ClickStreet$Voices", "run", "(III)I"⟩, 6) := ⟨nhS5, tbM2 94 rfl, tbM5 154 rfl, tbM5 155 rfl⟩
set_option maxRecDepth 20000 in
theorem lw_p23 : lw_okq (⟨"ClickStreet$Voices", "own", "(III)I"⟩, 6) := ⟨nhS5, tbM2 94 rfl, tbM5 160 rfl, tbM5 161 rfl⟩
set_option maxRecDepth 20000 in
theorem lw_p24 : lw_okq (⟨"ClickStreet$Voices", "parted", "(I)I"⟩, 6) := ⟨nhS5, tbM2 94 rfl, tbM5 164 rfl, tbM5 165 rfl⟩
set_option maxRecDepth 20000 in
theorem lw_p25 : lw_okq (⟨"ClickStreetModel", "finding", "(I)I"⟩, 33) := ⟨nhS7, tbM6 35 rfl, tbM6 157 rfl, tbM6 158 rfl⟩
set_option maxRecDepth 20000 in
theorem lw_p26 : lw_okq (⟨"ClickStreetModel", "isFree", "(I)Z"⟩, 33) := ⟨nhS7, tbM6 35 rfl, tbM6 162 rfl, tbM6 163 rfl⟩
set_option maxRecDepth 20000 in
theorem lw_p27 : lw_okq (⟨"ClickStreetModel", "in", "(I)I"⟩, 33) := ⟨nhS7, tbM6 35 rfl, tbM6 166 rfl, tbM6 167 rfl⟩
set_option maxRecDepth 20000 in
theorem lw_p28 : lw_okq (⟨"ClickStreetModel", "thing", "(I)I"⟩, 33) := ⟨nhS7, tbM6 35 rfl, tbM6 170 rfl, tbM6 171 rfl⟩
set_option maxRecDepth 20000 in
theorem lw_p29 : lw_okq (⟨"ClickStreetModel", "goer", "(I)I"⟩, 33) := ⟨nhS7, tbM6 35 rfl, tbM6 174 rfl, tbM6 175 rfl⟩
set_option maxRecDepth 20000 in
theorem lw_p30 : lw_okq (⟨"ClickStreetModel", "comes", "(II)I"⟩, 33) := ⟨nhS7, tbM6 35 rfl, tbM6 180 rfl, tbM6 181 rfl⟩
set_option maxRecDepth 20000 in
theorem lw_p31 : lw_okq (⟨"ClickStreetModel", "is", "(II)Z"⟩, 33) := ⟨nhS7, tbM6 35 rfl, tbM6 188 rfl, tbM6 189 rfl⟩
def lw_privs_2 : List (MethodName × Nat) := [(⟨"ClickStreet$Finder", "nearestOpen", "()I"⟩, 6), (⟨"ClickStreet$Finder", "firstStep", "(LClickStreet$Walker;I)I"⟩, 6), (⟨"ClickStreet$Lessons", "tryRows", "(III)V"⟩, 9), (⟨"ClickStreet$Lessons", "isBetter", "(I)Z"⟩, 9), (⟨"ClickStreet$Finder", "servesAll", "(II)Z"⟩, 6), (⟨"ClickStreet$Voices", "say", "(IIII)I"⟩, 6), (⟨"ClickStreet$Voices", "run", "(III)I"⟩, 6), (⟨"ClickStreet$Voices", "own", "(III)I"⟩, 6), (⟨"ClickStreet$Voices", "parted", "(I)I"⟩, 6), (⟨"ClickStreetModel", "finding", "(I)I"⟩, 33), (⟨"ClickStreetModel", "isFree", "(I)Z"⟩, 33), (⟨"ClickStreetModel", "in", "(I)I"⟩, 33), (⟨"ClickStreetModel", "thing", "(I)I"⟩, 33), (⟨"ClickStreetModel", "goer", "(I)I"⟩, 33), (⟨"ClickStreetModel", "comes", "(II)I"⟩, 33), (⟨"ClickStreetModel", "is", "(II)Z"⟩, 33)]
theorem lw_r2 : ∀ q ∈ lw_privs_2, lw_okq q := List.forall_mem_cons.mpr ⟨lw_p16, List.forall_mem_cons.mpr ⟨lw_p17, List.forall_mem_cons.mpr ⟨lw_p18, List.forall_mem_cons.mpr ⟨lw_p19, List.forall_mem_cons.mpr ⟨lw_p20, List.forall_mem_cons.mpr ⟨lw_p21, List.forall_mem_cons.mpr ⟨lw_p22, List.forall_mem_cons.mpr ⟨lw_p23, List.forall_mem_cons.mpr ⟨lw_p24, List.forall_mem_cons.mpr ⟨lw_p25, List.forall_mem_cons.mpr ⟨lw_p26, List.forall_mem_cons.mpr ⟨lw_p27, List.forall_mem_cons.mpr ⟨lw_p28, List.forall_mem_cons.mpr ⟨lw_p29, List.forall_mem_cons.mpr ⟨lw_p30, List.forall_mem_cons.mpr ⟨lw_p31, fun _ h => absurd h List.not_mem_nil⟩⟩⟩⟩⟩⟩⟩⟩⟩⟩⟩⟩⟩⟩⟩⟩
set_option maxRecDepth 20000 in
theorem lw_p32 : lw_okq (⟨"ClickStreetModel", "become", "(II)I"⟩, 33) := ⟨nhS7, tbM6 35 rfl, tbM6 204 rfl, tbM6 205 rfl⟩
set_option maxRecDepth 20000 in
theorem lw_p33 : lw_okq (⟨"ClickStreetModel", "reach", "(I)I"⟩, 33) := ⟨nhS7, tbM6 35 rfl, tbM6 236 rfl, tbM6 237 rfl⟩
set_option maxRecDepth 20000 in
theorem lw_p34 : lw_okq (⟨"ClickStreetModel", "kindOf", "(I)I"⟩, 33) := ⟨nhS7, tbM6 35 rfl, tbM7 0 rfl, tbM7 1 rfl⟩
set_option maxRecDepth 20000 in
theorem lw_p35 : lw_okq (⟨"ClickStreetModel", "ears", "(I)I"⟩, 33) := ⟨nhS7, tbM6 35 rfl, tbM7 7 rfl, tbM7 8 rfl⟩
set_option maxRecDepth 20000 in
theorem lw_p36 : lw_okq (⟨"ClickStreetModel", "text", "()V"⟩, 33) := ⟨nhS7, tbM6 35 rfl, tbM7 42 rfl, tbM7 43 rfl⟩
set_option maxRecDepth 20000 in
theorem lw_p37 : lw_okq (⟨"ClickStreetModel", "sum", "()V"⟩, 33) := ⟨nhS7, tbM6 35 rfl, tbM7 46 rfl, tbM7 47 rfl⟩
set_option maxRecDepth 20000 in
theorem lw_p38 : lw_okq (⟨"ClickStreetModel", "term", "()V"⟩, 33) := ⟨nhS7, tbM6 35 rfl, tbM7 50 rfl, tbM7 51 rfl⟩
set_option maxRecDepth 20000 in
theorem lw_p39 : lw_okq (⟨"ClickStreetModel", "one", "()V"⟩, 33) := ⟨nhS7, tbM6 35 rfl, tbM7 54 rfl, tbM7 55 rfl⟩
set_option maxRecDepth 20000 in
theorem lw_p40 : lw_okq (⟨"ClickStreetModel", "here", "()I"⟩, 33) := ⟨nhS7, tbM6 35 rfl, tbM7 58 rfl, tbM7 59 rfl⟩
set_option maxRecDepth 20000 in
theorem lw_p41 : lw_okq (⟨"ClickStreetModel", "opens", "(I)V"⟩, 33) := ⟨nhS7, tbM6 35 rfl, tbM7 62 rfl, tbM7 63 rfl⟩
set_option maxRecDepth 20000 in
theorem lw_p42 : lw_okq (⟨"ClickStreetModel", "codes", "(I)V"⟩, 33) := ⟨nhS7, tbM6 35 rfl, tbM7 66 rfl, tbM7 67 rfl⟩
set_option maxRecDepth 20000 in
theorem lw_p43 : lw_okq (⟨"ClickStreetModel", "must", "(I)V"⟩, 33) := ⟨nhS7, tbM6 35 rfl, tbM7 70 rfl, tbM7 71 rfl⟩
set_option maxRecDepth 20000 in
theorem lw_p44 : lw_okq (⟨"ClickStreetModel", "takes", "(I)Z"⟩, 33) := ⟨nhS7, tbM6 35 rfl, tbM7 74 rfl, tbM7 75 rfl⟩
set_option maxRecDepth 20000 in
theorem lw_p45 : lw_okq (⟨"ClickStreetModel", "nameOf", "(I)I"⟩, 33) := ⟨nhS7, tbM6 35 rfl, tbM7 78 rfl, tbM7 79 rfl⟩
set_option maxRecDepth 20000 in
theorem lw_p46 : lw_okq (⟨"ClickStreetModel", "isClick", "(I)Z"⟩, 33) := ⟨nhS7, tbM6 35 rfl, tbM7 107 rfl, tbM7 108 rfl⟩
set_option maxRecDepth 20000 in
theorem lw_p47 : lw_okq (⟨"ClickStreetModel", "echoFrom", "(III)I"⟩, 33) := ⟨nhS7, tbM6 35 rfl, tbM7 111 rfl, tbM7 112 rfl⟩
def lw_privs_3 : List (MethodName × Nat) := [(⟨"ClickStreetModel", "become", "(II)I"⟩, 33), (⟨"ClickStreetModel", "reach", "(I)I"⟩, 33), (⟨"ClickStreetModel", "kindOf", "(I)I"⟩, 33), (⟨"ClickStreetModel", "ears", "(I)I"⟩, 33), (⟨"ClickStreetModel", "text", "()V"⟩, 33), (⟨"ClickStreetModel", "sum", "()V"⟩, 33), (⟨"ClickStreetModel", "term", "()V"⟩, 33), (⟨"ClickStreetModel", "one", "()V"⟩, 33), (⟨"ClickStreetModel", "here", "()I"⟩, 33), (⟨"ClickStreetModel", "opens", "(I)V"⟩, 33), (⟨"ClickStreetModel", "codes", "(I)V"⟩, 33), (⟨"ClickStreetModel", "must", "(I)V"⟩, 33), (⟨"ClickStreetModel", "takes", "(I)Z"⟩, 33), (⟨"ClickStreetModel", "nameOf", "(I)I"⟩, 33), (⟨"ClickStreetModel", "isClick", "(I)Z"⟩, 33), (⟨"ClickStreetModel", "echoFrom", "(III)I"⟩, 33)]
theorem lw_r3 : ∀ q ∈ lw_privs_3, lw_okq q := List.forall_mem_cons.mpr ⟨lw_p32, List.forall_mem_cons.mpr ⟨lw_p33, List.forall_mem_cons.mpr ⟨lw_p34, List.forall_mem_cons.mpr ⟨lw_p35, List.forall_mem_cons.mpr ⟨lw_p36, List.forall_mem_cons.mpr ⟨lw_p37, List.forall_mem_cons.mpr ⟨lw_p38, List.forall_mem_cons.mpr ⟨lw_p39, List.forall_mem_cons.mpr ⟨lw_p40, List.forall_mem_cons.mpr ⟨lw_p41, List.forall_mem_cons.mpr ⟨lw_p42, List.forall_mem_cons.mpr ⟨lw_p43, List.forall_mem_cons.mpr ⟨lw_p44, List.forall_mem_cons.mpr ⟨lw_p45, List.forall_mem_cons.mpr ⟨lw_p46, List.forall_mem_cons.mpr ⟨lw_p47, fun _ h => absurd h List.not_mem_nil⟩⟩⟩⟩⟩⟩⟩⟩⟩⟩⟩⟩⟩⟩⟩⟩
set_option maxRecDepth 20000 in
theorem lw_p48 : lw_okq (⟨"ClickStreetModel", "on", "(III)I"⟩, 33) := ⟨nhS7, tbM6 35 rfl, tbM7 115 rfl, tbM7 116 rfl⟩
set_option maxRecDepth 20000 in
theorem lw_p49 : lw_okq (⟨"ClickStreetModel", "kindIn", "(I)I"⟩, 33) := ⟨nhS7, tbM6 35 rfl, tbM7 119 rfl, tbM7 120 rfl⟩
set_option maxRecDepth 20000 in
theorem lw_p50 : lw_okq (⟨"ClickStreetModel", "strength", "(IIII)I"⟩, 33) := ⟨nhS7, tbM6 35 rfl, tbM7 123 rfl, tbM7 124 rfl⟩
set_option maxRecDepth 20000 in
theorem lw_p51 : lw_okq (⟨"ClickStreetModel", "hasText", "(I)Z"⟩, 33) := ⟨nhS7, tbM6 35 rfl, tbM7 127 rfl, tbM7 128 rfl⟩
set_option maxRecDepth 20000 in
theorem lw_p52 : lw_okq (⟨"ClickStreetModel", "given", "(I)I"⟩, 33) := ⟨nhS7, tbM6 35 rfl, tbM7 131 rfl, tbM7 132 rfl⟩
set_option maxRecDepth 20000 in
theorem lw_p53 : lw_okq (⟨"ClickStreetModel", "isHeard", "(IIIIII)Z"⟩, 33) := ⟨nhS7, tbM6 35 rfl, tbM7 146 rfl, tbM7 147 rfl⟩
set_option maxRecDepth 20000 in
theorem lw_p54 : lw_okq (⟨"ClickStreetModel", "clicks", "(I)I"⟩, 33) := ⟨nhS7, tbM6 35 rfl, tbM7 154 rfl, tbM7 155 rfl⟩
set_option maxRecDepth 20000 in
theorem lw_p55 : lw_okq (⟨"ClickStreetModel", "heardFrom", "(III)I"⟩, 33) := ⟨nhS7, tbM6 35 rfl, tbM7 158 rfl, tbM7 159 rfl⟩
set_option maxRecDepth 20000 in
theorem lw_p56 : lw_okq (⟨"ClickStreetModel", "no", "(II)I"⟩, 33) := ⟨nhS7, tbM6 35 rfl, tbM7 162 rfl, tbM7 163 rfl⟩
set_option maxRecDepth 20000 in
theorem lw_p57 : lw_okq (⟨"ClickStreetModel", "yes", "(II)I"⟩, 33) := ⟨nhS7, tbM6 35 rfl, tbM7 166 rfl, tbM7 167 rfl⟩
set_option maxRecDepth 20000 in
theorem lw_p58 : lw_okq (⟨"ClickStreetModel", "more", "(II)V"⟩, 33) := ⟨nhS7, tbM6 35 rfl, tbM7 170 rfl, tbM7 171 rfl⟩
set_option maxRecDepth 20000 in
theorem lw_p59 : lw_okq (⟨"ClickStreetModel", "held", "(II)I"⟩, 33) := ⟨nhS7, tbM6 35 rfl, tbM7 178 rfl, tbM7 179 rfl⟩
set_option maxRecDepth 20000 in
theorem lw_p60 : lw_okq (⟨"ClickStreetModel", "areCells", "(IZ)Z"⟩, 33) := ⟨nhS7, tbM6 35 rfl, tbM7 202 rfl, tbM7 203 rfl⟩
set_option maxRecDepth 20000 in
theorem lw_p61 : lw_okq (⟨"ClickStreetModel", "findTold", "(III)V"⟩, 33) := ⟨nhS7, tbM6 35 rfl, tbM7 206 rfl, tbM7 207 rfl⟩
set_option maxRecDepth 20000 in
theorem lw_p62 : lw_okq (⟨"ClickStreetModel", "toldBy", "(I)I"⟩, 33) := ⟨nhS7, tbM6 35 rfl, tbM7 213 rfl, tbM7 214 rfl⟩
set_option maxRecDepth 20000 in
theorem lw_p63 : lw_okq (⟨"ClickStreetModel", "tenth", "()V"⟩, 33) := ⟨nhS7, tbM6 35 rfl, tbM7 221 rfl, tbM7 222 rfl⟩
def lw_privs_4 : List (MethodName × Nat) := [(⟨"ClickStreetModel", "on", "(III)I"⟩, 33), (⟨"ClickStreetModel", "kindIn", "(I)I"⟩, 33), (⟨"ClickStreetModel", "strength", "(IIII)I"⟩, 33), (⟨"ClickStreetModel", "hasText", "(I)Z"⟩, 33), (⟨"ClickStreetModel", "given", "(I)I"⟩, 33), (⟨"ClickStreetModel", "isHeard", "(IIIIII)Z"⟩, 33), (⟨"ClickStreetModel", "clicks", "(I)I"⟩, 33), (⟨"ClickStreetModel", "heardFrom", "(III)I"⟩, 33), (⟨"ClickStreetModel", "no", "(II)I"⟩, 33), (⟨"ClickStreetModel", "yes", "(II)I"⟩, 33), (⟨"ClickStreetModel", "more", "(II)V"⟩, 33), (⟨"ClickStreetModel", "held", "(II)I"⟩, 33), (⟨"ClickStreetModel", "areCells", "(IZ)Z"⟩, 33), (⟨"ClickStreetModel", "findTold", "(III)V"⟩, 33), (⟨"ClickStreetModel", "toldBy", "(I)I"⟩, 33), (⟨"ClickStreetModel", "tenth", "()V"⟩, 33)]
theorem lw_r4 : ∀ q ∈ lw_privs_4, lw_okq q := List.forall_mem_cons.mpr ⟨lw_p48, List.forall_mem_cons.mpr ⟨lw_p49, List.forall_mem_cons.mpr ⟨lw_p50, List.forall_mem_cons.mpr ⟨lw_p51, List.forall_mem_cons.mpr ⟨lw_p52, List.forall_mem_cons.mpr ⟨lw_p53, List.forall_mem_cons.mpr ⟨lw_p54, List.forall_mem_cons.mpr ⟨lw_p55, List.forall_mem_cons.mpr ⟨lw_p56, List.forall_mem_cons.mpr ⟨lw_p57, List.forall_mem_cons.mpr ⟨lw_p58, List.forall_mem_cons.mpr ⟨lw_p59, List.forall_mem_cons.mpr ⟨lw_p60, List.forall_mem_cons.mpr ⟨lw_p61, List.forall_mem_cons.mpr ⟨lw_p62, List.forall_mem_cons.mpr ⟨lw_p63, fun _ h => absurd h List.not_mem_nil⟩⟩⟩⟩⟩⟩⟩⟩⟩⟩⟩⟩⟩⟩⟩⟩
set_option maxRecDepth 20000 in
theorem lw_p64 : lw_okq (⟨"ClickStreetModel", "thingGoes", "(I)V"⟩, 33) := ⟨nhS7, tbM6 35 rfl, tbM7 225 rfl, tbM7 226 rfl⟩
set_option maxRecDepth 20000 in
theorem lw_p65 : lw_okq (⟨"ClickStreetModel", "walkerGoes", "(I)V"⟩, 33) := ⟨nhS7, tbM6 35 rfl, tbM7 229 rfl, tbM7 230 rfl⟩
set_option maxRecDepth 20000 in
theorem lw_p66 : lw_okq (⟨"ClickStreetModel", "habitOf", "(I)I"⟩, 33) := ⟨nhS7, tbM6 35 rfl, tbM7 233 rfl, tbM7 234 rfl⟩
set_option maxRecDepth 20000 in
theorem lw_p67 : lw_okq (⟨"ClickStreetModel", "fullAhead", "(II)I"⟩, 33) := ⟨nhS7, tbM6 35 rfl, tbM7 237 rfl, tbM7 238 rfl⟩
set_option maxRecDepth 20000 in
theorem lw_p68 : lw_okq (⟨"ClickStreetModel", "goesOn", "(I)V"⟩, 33) := ⟨nhS7, tbM6 35 rfl, tbM8 1 rfl, tbM8 2 rfl⟩
set_option maxRecDepth 20000 in
theorem lw_p69 : lw_okq (⟨"ClickStreetModel", "findFar", "(II)V"⟩, 33) := ⟨nhS7, tbM6 35 rfl, tbM8 9 rfl, tbM8 10 rfl⟩
set_option maxRecDepth 20000 in
theorem lw_p70 : lw_okq (⟨"ClickStreetModel", "cost", "(II)I"⟩, 33) := ⟨nhS7, tbM6 35 rfl, tbM8 14 rfl, tbM8 15 rfl⟩
set_option maxRecDepth 20000 in
theorem lw_p71 : lw_okq (⟨"ClickStreetModel", "tryRows", "(IIIII)V"⟩, 33) := ⟨nhS7, tbM6 35 rfl, tbM8 30 rfl, tbM8 31 rfl⟩
set_option maxRecDepth 20000 in
theorem lw_p72 : lw_okq (⟨"ClickStreetModel", "isPost", "(III)Z"⟩, 33) := ⟨nhS7, tbM6 35 rfl, tbM8 38 rfl, tbM8 39 rfl⟩
set_option maxRecDepth 20000 in
theorem lw_p73 : lw_okq (⟨"ClickStreetModel", "voiced", "(II)I"⟩, 33) := ⟨nhS7, tbM6 35 rfl, tbM8 46 rfl, tbM8 47 rfl⟩
set_option maxRecDepth 20000 in
theorem lw_p74 : lw_okq (⟨"ClickStreetModel", "bodyFrom", "(III)I"⟩, 33) := ⟨nhS7, tbM6 35 rfl, tbM8 50 rfl, tbM8 51 rfl⟩
set_option maxRecDepth 20000 in
theorem lw_p75 : lw_okq (⟨"ClickStreetModel", "body", "(III)I"⟩, 33) := ⟨nhS7, tbM6 35 rfl, tbM8 57 rfl, tbM8 58 rfl⟩
set_option maxRecDepth 20000 in
theorem lw_p76 : lw_okq (⟨"ClickStreetModel", "began", "(I)V"⟩, 33) := ⟨nhS7, tbM6 35 rfl, tbM8 61 rfl, tbM8 62 rfl⟩
set_option maxRecDepth 20000 in
theorem lw_p77 : lw_okq (⟨"ClickStreetModel", "sumOf", "(I)I"⟩, 33) := ⟨nhS7, tbM6 35 rfl, tbM8 105 rfl, tbM8 106 rfl⟩
def lw_privs_5 : List (MethodName × Nat) := [(⟨"ClickStreetModel", "thingGoes", "(I)V"⟩, 33), (⟨"ClickStreetModel", "walkerGoes", "(I)V"⟩, 33), (⟨"ClickStreetModel", "habitOf", "(I)I"⟩, 33), (⟨"ClickStreetModel", "fullAhead", "(II)I"⟩, 33), (⟨"ClickStreetModel", "goesOn", "(I)V"⟩, 33), (⟨"ClickStreetModel", "findFar", "(II)V"⟩, 33), (⟨"ClickStreetModel", "cost", "(II)I"⟩, 33), (⟨"ClickStreetModel", "tryRows", "(IIIII)V"⟩, 33), (⟨"ClickStreetModel", "isPost", "(III)Z"⟩, 33), (⟨"ClickStreetModel", "voiced", "(II)I"⟩, 33), (⟨"ClickStreetModel", "bodyFrom", "(III)I"⟩, 33), (⟨"ClickStreetModel", "body", "(III)I"⟩, 33), (⟨"ClickStreetModel", "began", "(I)V"⟩, 33), (⟨"ClickStreetModel", "sumOf", "(I)I"⟩, 33)]
theorem lw_r5 : ∀ q ∈ lw_privs_5, lw_okq q := List.forall_mem_cons.mpr ⟨lw_p64, List.forall_mem_cons.mpr ⟨lw_p65, List.forall_mem_cons.mpr ⟨lw_p66, List.forall_mem_cons.mpr ⟨lw_p67, List.forall_mem_cons.mpr ⟨lw_p68, List.forall_mem_cons.mpr ⟨lw_p69, List.forall_mem_cons.mpr ⟨lw_p70, List.forall_mem_cons.mpr ⟨lw_p71, List.forall_mem_cons.mpr ⟨lw_p72, List.forall_mem_cons.mpr ⟨lw_p73, List.forall_mem_cons.mpr ⟨lw_p74, List.forall_mem_cons.mpr ⟨lw_p75, List.forall_mem_cons.mpr ⟨lw_p76, List.forall_mem_cons.mpr ⟨lw_p77, fun _ h => absurd h List.not_mem_nil⟩⟩⟩⟩⟩⟩⟩⟩⟩⟩⟩⟩⟩⟩
def lw_privs : List (MethodName × Nat) := lw_privs_1 ++ (lw_privs_2 ++ (lw_privs_3 ++ (lw_privs_4 ++ (lw_privs_5))))
def lw_tbl : List Cond := k2_sels lw_privs ++ tables_1
theorem lw_privs_ok : ∀ q ∈ lw_privs, lw_okq q := by
  show ∀ q ∈ lw_privs_1 ++ (lw_privs_2 ++ (lw_privs_3 ++ (lw_privs_4 ++ (lw_privs_5)))), lw_okq q
  exact List.forall_mem_append.mpr ⟨lw_r1, List.forall_mem_append.mpr ⟨lw_r2, List.forall_mem_append.mpr ⟨lw_r3, List.forall_mem_append.mpr ⟨lw_r4, lw_r5⟩⟩⟩⟩
-- ===== end of PART A =====
