section
-- ===== PART A: goes FIRST, ahead of the names: the tables' words, and 'selects' of the private methods out of them =====
/-- a private method of a class that the tables say can be made, by its rows of tables_1 -/
def lw_okq (q : MethodName × Nat) : Prop := (q.1.cls ≠ "java/lang/invoke/MethodHandle" ∧ q.1.cls ≠ "java/lang/invoke/VarHandle") ∧ Cond.instantiable q.1.cls q.2 ∈ tables_1 ∧ Cond.privateMethod q.1 ∈ tables_1 ∧ Cond.instanceMethod q.1 ∈ tables_1
theorem tbM1 {w : Cond} (i : Nat) (h : tables_1_1[i]? = some w) : w ∈ tables_1 := List.mem_append_left _ (List.mem_of_getElem? h)
theorem tbM2 {w : Cond} (i : Nat) (h : tables_1_2[i]? = some w) : w ∈ tables_1 := List.mem_append_right _ (List.mem_append_left _ (List.mem_of_getElem? h))
theorem tbM3 {w : Cond} (i : Nat) (h : tables_1_3[i]? = some w) : w ∈ tables_1 := List.mem_append_right _ (List.mem_append_right _ (List.mem_append_left _ (List.mem_of_getElem? h)))
theorem tbM4 {w : Cond} (i : Nat) (h : tables_1_4[i]? = some w) : w ∈ tables_1 := List.mem_append_right _ (List.mem_append_right _ (List.mem_append_right _ (List.mem_append_left _ (List.mem_of_getElem? h))))
theorem tbM5 {w : Cond} (i : Nat) (h : tables_1_5[i]? = some w) : w ∈ tables_1 := List.mem_append_right _ (List.mem_append_right _ (List.mem_append_right _ (List.mem_append_right _ (List.mem_append_left _ (List.mem_of_getElem? h)))))
theorem tbM6 {w : Cond} (i : Nat) (h : tables_1_6[i]? = some w) : w ∈ tables_1 := List.mem_append_right _ (List.mem_append_right _ (List.mem_append_right _ (List.mem_append_right _ (List.mem_append_right _ (List.mem_append_left _ (List.mem_of_getElem? h))))))
theorem tbM7 {w : Cond} (i : Nat) (h : tables_1_7[i]? = some w) : w ∈ tables_1 := List.mem_append_right _ (List.mem_append_right _ (List.mem_append_right _ (List.mem_append_right _ (List.mem_append_right _ (List.mem_append_right _ (List.mem_append_left _ (List.mem_of_getElem? h)))))))
theorem tbM8 {w : Cond} (i : Nat) (h : tables_1_8[i]? = some w) : w ∈ tables_1 := List.mem_append_right _ (List.mem_append_right _ (List.mem_append_right _ (List.mem_append_right _ (List.mem_append_right _ (List.mem_append_right _ (List.mem_append_right _ (List.mem_of_getElem? h)))))))
theorem nhS0 : "ClickStreet" ≠ "java/lang/invoke/MethodHandle" ∧ "ClickStreet" ≠ "java/lang/invoke/VarHandle" := ⟨by decide +kernel, by decide +kernel⟩
theorem nhS1 : "ClickStreet$Finder" ≠ "java/lang/invoke/MethodHandle" ∧ "ClickStreet$Finder" ≠ "java/lang/invoke/VarHandle" := ⟨by decide +kernel, by decide +kernel⟩
theorem nhS2 : "ClickStreet$Lessons" ≠ "java/lang/invoke/MethodHandle" ∧ "ClickStreet$Lessons" ≠ "java/lang/invoke/VarHandle" := ⟨by decide +kernel, by decide +kernel⟩
theorem nhS3 : "ClickStreet$Reader" ≠ "java/lang/invoke/MethodHandle" ∧ "ClickStreet$Reader" ≠ "java/lang/invoke/VarHandle" := ⟨by decide +kernel, by decide +kernel⟩
theorem nhS4 : "ClickStreet$Street" ≠ "java/lang/invoke/MethodHandle" ∧ "ClickStreet$Street" ≠ "java/lang/invoke/VarHandle" := ⟨by decide +kernel, by decide +kernel⟩
theorem nhS5 : "ClickStreet$Voices" ≠ "java/lang/invoke/MethodHandle" ∧ "ClickStreet$Voices" ≠ "java/lang/invoke/VarHandle" := ⟨by decide +kernel, by decide +kernel⟩
theorem nhS6 : "ClickStreet$World" ≠ "java/lang/invoke/MethodHandle" ∧ "ClickStreet$World" ≠ "java/lang/invoke/VarHandle" := ⟨by decide +kernel, by decide +kernel⟩
theorem nhS7 : "ClickStreetModel" ≠ "java/lang/invoke/MethodHandle" ∧ "ClickStreetModel" ≠ "java/lang/invoke/VarHandle" := ⟨by decide +kernel, by decide +kernel⟩
set_option maxRecDepth 20000 in
theorem lw_p0 : lw_okq (⟨"ClickStreet", "error", "(I)I"⟩, 9) := ⟨nhS0, tbM1 24 rfl, tbM2 183 rfl, tbM2 184 rfl⟩
set_option maxRecDepth 20000 in
theorem lw_p1 : lw_okq (⟨"ClickStreet$Reader", "readComparisons", "()V"⟩, 7) := ⟨nhS3, tbM2 30 rfl, tbM3 135 rfl, tbM3 136 rfl⟩
set_option maxRecDepth 20000 in
theorem lw_p2 : lw_okq (⟨"ClickStreet$Reader", "readSum", "()V"⟩, 7) := ⟨nhS3, tbM2 30 rfl, tbM3 139 rfl, tbM3 140 rfl⟩
set_option maxRecDepth 20000 in
theorem lw_p3 : lw_okq (⟨"ClickStreet$Reader", "readTerm", "()V"⟩, 7) := ⟨nhS3, tbM2 30 rfl, tbM3 143 rfl, tbM3 144 rfl⟩
set_option maxRecDepth 20000 in
theorem lw_p4 : lw_okq (⟨"ClickStreet$Reader", "readOne", "()V"⟩, 7) := ⟨nhS3, tbM2 30 rfl, tbM3 147 rfl, tbM3 148 rfl⟩
set_option maxRecDepth 20000 in
theorem lw_p5 : lw_okq (⟨"ClickStreet$Reader", "next", "()I"⟩, 7) := ⟨nhS3, tbM2 30 rfl, tbM3 151 rfl, tbM3 152 rfl⟩
set_option maxRecDepth 20000 in
theorem lw_p6 : lw_okq (⟨"ClickStreet$Reader", "readNumber", "()V"⟩, 7) := ⟨nhS3, tbM2 30 rfl, tbM3 159 rfl, tbM3 160 rfl⟩
set_option maxRecDepth 20000 in
theorem lw_p7 : lw_okq (⟨"ClickStreet$Reader", "readOpened", "(I)V"⟩, 7) := ⟨nhS3, tbM2 30 rfl, tbM3 167 rfl, tbM3 168 rfl⟩
set_option maxRecDepth 20000 in
theorem lw_p8 : lw_okq (⟨"ClickStreet$Reader", "fail", "()V"⟩, 7) := ⟨nhS3, tbM2 30 rfl, tbM3 171 rfl, tbM3 172 rfl⟩
set_option maxRecDepth 20000 in
theorem lw_p9 : lw_okq (⟨"ClickStreet$Reader", "expect", "(I)V"⟩, 7) := ⟨nhS3, tbM2 30 rfl, tbM3 175 rfl, tbM3 176 rfl⟩
set_option maxRecDepth 20000 in
theorem lw_p10 : lw_okq (⟨"ClickStreet$Reader", "readName", "(I)V"⟩, 7) := ⟨nhS3, tbM2 30 rfl, tbM3 179 rfl, tbM3 180 rfl⟩
set_option maxRecDepth 20000 in
theorem lw_p11 : lw_okq (⟨"ClickStreet$Finder", "noteLearned", "(LClickStreet$World;III)V"⟩, 6) := ⟨nhS1, tbM2 65 rfl, tbM4 197 rfl, tbM4 198 rfl⟩
set_option maxRecDepth 20000 in
theorem lw_p12 : lw_okq (⟨"ClickStreet$Finder", "countLearned", "(I)I"⟩, 6) := ⟨nhS1, tbM2 65 rfl, tbM4 214 rfl, tbM4 215 rfl⟩
set_option maxRecDepth 20000 in
theorem lw_p13 : lw_okq (⟨"ClickStreet$Street", "letThingGo", "(I)V"⟩, 6) := ⟨nhS4, tbM1 38 rfl, tbM4 236 rfl, tbM4 237 rfl⟩
set_option maxRecDepth 20000 in
theorem lw_p14 : lw_okq (⟨"ClickStreet$World", "letWalkerGo", "(I)V"⟩, 8) := ⟨nhS6, tbM1 32 rfl, tbM5 2 rfl, tbM5 3 rfl⟩
set_option maxRecDepth 20000 in
theorem lw_p15 : lw_okq (⟨"ClickStreet$World", "goOn", "(I)V"⟩, 8) := ⟨nhS6, tbM1 32 rfl, tbM5 20 rfl, tbM5 21 rfl⟩
def lw_privs_1 : List (MethodName × Nat) := [(⟨"ClickStreet", "error", "(I)I"⟩, 9), (⟨"ClickStreet$Reader", "readComparisons", "()V"⟩, 7), (⟨"ClickStreet$Reader", "readSum", "()V"⟩, 7), (⟨"ClickStreet$Reader", "readTerm", "()V"⟩, 7), (⟨"ClickStreet$Reader", "readOne", "()V"⟩, 7), (⟨"ClickStreet$Reader", "next", "()I"⟩, 7), (⟨"ClickStreet$Reader", "readNumber", "()V"⟩, 7), (⟨"ClickStreet$Reader", "readOpened", "(I)V"⟩, 7), (⟨"ClickStreet$Reader", "fail", "()V"⟩, 7), (⟨"ClickStreet$Reader", "expect", "(I)V"⟩, 7), (⟨"ClickStreet$Reader", "readName", "(I)V"⟩, 7), (⟨"ClickStreet$Finder", "noteLearned", "(LClickStreet$World;III)V"⟩, 6), (⟨"ClickStreet$Finder", "countLearned", "(I)I"⟩, 6), (⟨"ClickStreet$Street", "letThingGo", "(I)V"⟩, 6), (⟨"ClickStreet$World", "letWalkerGo", "(I)V"⟩, 8), (⟨"ClickStreet$World", "goOn", "(I)V"⟩, 8)]
theorem lw_r1 : ∀ q ∈ lw_privs_1, lw_okq q := List.forall_mem_cons.mpr ⟨lw_p0, List.forall_mem_cons.mpr ⟨lw_p1, List.forall_mem_cons.mpr ⟨lw_p2, List.forall_mem_cons.mpr ⟨lw_p3, List.forall_mem_cons.mpr ⟨lw_p4, List.forall_mem_cons.mpr ⟨lw_p5, List.forall_mem_cons.mpr ⟨lw_p6, List.forall_mem_cons.mpr ⟨lw_p7, List.forall_mem_cons.mpr ⟨lw_p8, List.forall_mem_cons.mpr ⟨lw_p9, List.forall_mem_cons.mpr ⟨lw_p10, List.forall_mem_cons.mpr ⟨lw_p11, List.forall_mem_cons.mpr ⟨lw_p12, List.forall_mem_cons.mpr ⟨lw_p13, List.forall_mem_cons.mpr ⟨lw_p14, List.forall_mem_cons.mpr ⟨lw_p15, fun _ h => absurd h List.not_mem_nil⟩⟩⟩⟩⟩⟩⟩⟩⟩⟩⟩⟩⟩⟩⟩⟩
set_option maxRecDepth 20000 in
theorem lw_p16 : lw_okq (⟨"ClickStreet$Finder", "nearestOpen", "()I"⟩, 6) := ⟨nhS1, tbM2 65 rfl, tbM5 40 rfl, tbM5 41 rfl⟩
set_option maxRecDepth 20000 in
theorem lw_p17 : lw_okq (⟨"ClickStreet$Finder", "firstStep", "(LClickStreet$Walker;I)I"⟩, 6) := ⟨nhS1, tbM2 65 rfl, tbM5 56 rfl, tbM5 57 rfl⟩
set_option maxRecDepth 20000 in
theorem lw_p18 : lw_okq (⟨"ClickStreet$Lessons", "tryRows", "(III)V"⟩, 9) := ⟨nhS2, tbM1 116 rfl, tbM5 97 rfl, tbM5 98 rfl⟩
set_option maxRecDepth 20000 in
theorem lw_p19 : lw_okq (⟨"ClickStreet$Lessons", "isBetter", "(I)Z"⟩, 9) := ⟨nhS2, tbM1 116 rfl, tbM5 101 rfl, tbM5 102 rfl⟩
set_option maxRecDepth 20000 in
theorem lw_p20 : lw_okq (⟨"ClickStreet$Finder", "servesAll", "(II)Z"⟩, 6) := ⟨nhS1, tbM2 65 rfl, tbM5 134 rfl, tbM5 135 rfl⟩
set_option maxRecDepth 20000 in
theorem lw_p21 : lw_okq (⟨"ClickStreet$Voices", "say", "(IIII)I"⟩, 6) := ⟨nhS5, tbM2 94 rfl, tbM5 148 rfl, tbM5 149 rfl⟩
set_option maxRecDepth 20000 in
theorem lw_p22 : lw_okq (⟨"ClickStreet$Voices", "run", "(III)I"⟩, 6) := ⟨nhS5, tbM2 94 rfl, tbM5 154 rfl, tbM5 155 rfl⟩
set_option maxRecDepth 20000 in
theorem lw_p23 : lw_okq (⟨"ClickStreet$Voices", "own", "(III)I"⟩, 6) := ⟨nhS5, tbM2 94 rfl, tbM5 160 rfl, tbM5 161 rfl⟩
set_option maxRecDepth 20000 in
theorem lw_p24 : lw_okq (⟨"ClickStreet$Voices", "parted", "(I)I"⟩, 6) := ⟨nhS5, tbM2 94 rfl, tbM5 164 rfl, tbM5 165 rfl⟩
set_option maxRecDepth 20000 in
theorem lw_p25 : lw_okq (⟨"ClickStreetModel", "finding", "(I)I"⟩, 33) := ⟨nhS7, tbM6 35 rfl, tbM6 157 rfl, tbM6 158 rfl⟩
set_option maxRecDepth 20000 in
theorem lw_p26 : lw_okq (⟨"ClickStreetModel", "isFree", "(I)Z"⟩, 33) := ⟨nhS7, tbM6 35 rfl, tbM6 162 rfl, tbM6 163 rfl⟩
set_option maxRecDepth 20000 in
theorem lw_p27 : lw_okq (⟨"ClickStreetModel", "in", "(I)I"⟩, 33) := ⟨nhS7, tbM6 35 rfl, tbM6 166 rfl, tbM6 167 rfl⟩
set_option maxRecDepth 20000 in
theorem lw_p28 : lw_okq (⟨"ClickStreetModel", "thing", "(I)I"⟩, 33) := ⟨nhS7, tbM6 35 rfl, tbM6 170 rfl, tbM6 171 rfl⟩
set_option maxRecDepth 20000 in
theorem lw_p29 : lw_okq (⟨"ClickStreetModel", "goer", "(I)I"⟩, 33) := ⟨nhS7, tbM6 35 rfl, tbM6 174 rfl, tbM6 175 rfl⟩
set_option maxRecDepth 20000 in
theorem lw_p30 : lw_okq (⟨"ClickStreetModel", "comes", "(II)I"⟩, 33) := ⟨nhS7, tbM6 35 rfl, tbM6 180 rfl, tbM6 181 rfl⟩
set_option maxRecDepth 20000 in
theorem lw_p31 : lw_okq (⟨"ClickStreetModel", "is", "(II)Z"⟩, 33) := ⟨nhS7, tbM6 35 rfl, tbM6 188 rfl, tbM6 189 rfl⟩
def lw_privs_2 : List (MethodName × Nat) := [(⟨"ClickStreet$Finder", "nearestOpen", "()I"⟩, 6), (⟨"ClickStreet$Finder", "firstStep", "(LClickStreet$Walker;I)I"⟩, 6), (⟨"ClickStreet$Lessons", "tryRows", "(III)V"⟩, 9), (⟨"ClickStreet$Lessons", "isBetter", "(I)Z"⟩, 9), (⟨"ClickStreet$Finder", "servesAll", "(II)Z"⟩, 6), (⟨"ClickStreet$Voices", "say", "(IIII)I"⟩, 6), (⟨"ClickStreet$Voices", "run", "(III)I"⟩, 6), (⟨"ClickStreet$Voices", "own", "(III)I"⟩, 6), (⟨"ClickStreet$Voices", "parted", "(I)I"⟩, 6), (⟨"ClickStreetModel", "finding", "(I)I"⟩, 33), (⟨"ClickStreetModel", "isFree", "(I)Z"⟩, 33), (⟨"ClickStreetModel", "in", "(I)I"⟩, 33), (⟨"ClickStreetModel", "thing", "(I)I"⟩, 33), (⟨"ClickStreetModel", "goer", "(I)I"⟩, 33), (⟨"ClickStreetModel", "comes", "(II)I"⟩, 33), (⟨"ClickStreetModel", "is", "(II)Z"⟩, 33)]
theorem lw_r2 : ∀ q ∈ lw_privs_2, lw_okq q := List.forall_mem_cons.mpr ⟨lw_p16, List.forall_mem_cons.mpr ⟨lw_p17, List.forall_mem_cons.mpr ⟨lw_p18, List.forall_mem_cons.mpr ⟨lw_p19, List.forall_mem_cons.mpr ⟨lw_p20, List.forall_mem_cons.mpr ⟨lw_p21, List.forall_mem_cons.mpr ⟨lw_p22, List.forall_mem_cons.mpr ⟨lw_p23, List.forall_mem_cons.mpr ⟨lw_p24, List.forall_mem_cons.mpr ⟨lw_p25, List.forall_mem_cons.mpr ⟨lw_p26, List.forall_mem_cons.mpr ⟨lw_p27, List.forall_mem_cons.mpr ⟨lw_p28, List.forall_mem_cons.mpr ⟨lw_p29, List.forall_mem_cons.mpr ⟨lw_p30, List.forall_mem_cons.mpr ⟨lw_p31, fun _ h => absurd h List.not_mem_nil⟩⟩⟩⟩⟩⟩⟩⟩⟩⟩⟩⟩⟩⟩⟩⟩
set_option maxRecDepth 20000 in
theorem lw_p32 : lw_okq (⟨"ClickStreetModel", "become", "(II)I"⟩, 33) := ⟨nhS7, tbM6 35 rfl, tbM6 204 rfl, tbM6 205 rfl⟩
set_option maxRecDepth 20000 in
theorem lw_p33 : lw_okq (⟨"ClickStreetModel", "reach", "(I)I"⟩, 33) := ⟨nhS7, tbM6 35 rfl, tbM6 236 rfl, tbM6 237 rfl⟩
set_option maxRecDepth 20000 in
theorem lw_p34 : lw_okq (⟨"ClickStreetModel", "kindOf", "(I)I"⟩, 33) := ⟨nhS7, tbM6 35 rfl, tbM7 0 rfl, tbM7 1 rfl⟩
set_option maxRecDepth 20000 in
theorem lw_p35 : lw_okq (⟨"ClickStreetModel", "ears", "(I)I"⟩, 33) := ⟨nhS7, tbM6 35 rfl, tbM7 7 rfl, tbM7 8 rfl⟩
set_option maxRecDepth 20000 in
theorem lw_p36 : lw_okq (⟨"ClickStreetModel", "text", "()V"⟩, 33) := ⟨nhS7, tbM6 35 rfl, tbM7 42 rfl, tbM7 43 rfl⟩
set_option maxRecDepth 20000 in
theorem lw_p37 : lw_okq (⟨"ClickStreetModel", "sum", "()V"⟩, 33) := ⟨nhS7, tbM6 35 rfl, tbM7 46 rfl, tbM7 47 rfl⟩
set_option maxRecDepth 20000 in
theorem lw_p38 : lw_okq (⟨"ClickStreetModel", "term", "()V"⟩, 33) := ⟨nhS7, tbM6 35 rfl, tbM7 50 rfl, tbM7 51 rfl⟩
set_option maxRecDepth 20000 in
theorem lw_p39 : lw_okq (⟨"ClickStreetModel", "one", "()V"⟩, 33) := ⟨nhS7, tbM6 35 rfl, tbM7 54 rfl, tbM7 55 rfl⟩
set_option maxRecDepth 20000 in
theorem lw_p40 : lw_okq (⟨"ClickStreetModel", "here", "()I"⟩, 33) := ⟨nhS7, tbM6 35 rfl, tbM7 58 rfl, tbM7 59 rfl⟩
set_option maxRecDepth 20000 in
theorem lw_p41 : lw_okq (⟨"ClickStreetModel", "opens", "(I)V"⟩, 33) := ⟨nhS7, tbM6 35 rfl, tbM7 62 rfl, tbM7 63 rfl⟩
set_option maxRecDepth 20000 in
theorem lw_p42 : lw_okq (⟨"ClickStreetModel", "codes", "(I)V"⟩, 33) := ⟨nhS7, tbM6 35 rfl, tbM7 66 rfl, tbM7 67 rfl⟩
set_option maxRecDepth 20000 in
theorem lw_p43 : lw_okq (⟨"ClickStreetModel", "must", "(I)V"⟩, 33) := ⟨nhS7, tbM6 35 rfl, tbM7 70 rfl, tbM7 71 rfl⟩
set_option maxRecDepth 20000 in
theorem lw_p44 : lw_okq (⟨"ClickStreetModel", "takes", "(I)Z"⟩, 33) := ⟨nhS7, tbM6 35 rfl, tbM7 74 rfl, tbM7 75 rfl⟩
set_option maxRecDepth 20000 in
theorem lw_p45 : lw_okq (⟨"ClickStreetModel", "nameOf", "(I)I"⟩, 33) := ⟨nhS7, tbM6 35 rfl, tbM7 78 rfl, tbM7 79 rfl⟩
set_option maxRecDepth 20000 in
theorem lw_p46 : lw_okq (⟨"ClickStreetModel", "isClick", "(I)Z"⟩, 33) := ⟨nhS7, tbM6 35 rfl, tbM7 107 rfl, tbM7 108 rfl⟩
set_option maxRecDepth 20000 in
theorem lw_p47 : lw_okq (⟨"ClickStreetModel", "echoFrom", "(III)I"⟩, 33) := ⟨nhS7, tbM6 35 rfl, tbM7 111 rfl, tbM7 112 rfl⟩
def lw_privs_3 : List (MethodName × Nat) := [(⟨"ClickStreetModel", "become", "(II)I"⟩, 33), (⟨"ClickStreetModel", "reach", "(I)I"⟩, 33), (⟨"ClickStreetModel", "kindOf", "(I)I"⟩, 33), (⟨"ClickStreetModel", "ears", "(I)I"⟩, 33), (⟨"ClickStreetModel", "text", "()V"⟩, 33), (⟨"ClickStreetModel", "sum", "()V"⟩, 33), (⟨"ClickStreetModel", "term", "()V"⟩, 33), (⟨"ClickStreetModel", "one", "()V"⟩, 33), (⟨"ClickStreetModel", "here", "()I"⟩, 33), (⟨"ClickStreetModel", "opens", "(I)V"⟩, 33), (⟨"ClickStreetModel", "codes", "(I)V"⟩, 33), (⟨"ClickStreetModel", "must", "(I)V"⟩, 33), (⟨"ClickStreetModel", "takes", "(I)Z"⟩, 33), (⟨"ClickStreetModel", "nameOf", "(I)I"⟩, 33), (⟨"ClickStreetModel", "isClick", "(I)Z"⟩, 33), (⟨"ClickStreetModel", "echoFrom", "(III)I"⟩, 33)]
theorem lw_r3 : ∀ q ∈ lw_privs_3, lw_okq q := List.forall_mem_cons.mpr ⟨lw_p32, List.forall_mem_cons.mpr ⟨lw_p33, List.forall_mem_cons.mpr ⟨lw_p34, List.forall_mem_cons.mpr ⟨lw_p35, List.forall_mem_cons.mpr ⟨lw_p36, List.forall_mem_cons.mpr ⟨lw_p37, List.forall_mem_cons.mpr ⟨lw_p38, List.forall_mem_cons.mpr ⟨lw_p39, List.forall_mem_cons.mpr ⟨lw_p40, List.forall_mem_cons.mpr ⟨lw_p41, List.forall_mem_cons.mpr ⟨lw_p42, List.forall_mem_cons.mpr ⟨lw_p43, List.forall_mem_cons.mpr ⟨lw_p44, List.forall_mem_cons.mpr ⟨lw_p45, List.forall_mem_cons.mpr ⟨lw_p46, List.forall_mem_cons.mpr ⟨lw_p47, fun _ h => absurd h List.not_mem_nil⟩⟩⟩⟩⟩⟩⟩⟩⟩⟩⟩⟩⟩⟩⟩⟩
set_option maxRecDepth 20000 in
theorem lw_p48 : lw_okq (⟨"ClickStreetModel", "on", "(III)I"⟩, 33) := ⟨nhS7, tbM6 35 rfl, tbM7 115 rfl, tbM7 116 rfl⟩
set_option maxRecDepth 20000 in
theorem lw_p49 : lw_okq (⟨"ClickStreetModel", "kindIn", "(I)I"⟩, 33) := ⟨nhS7, tbM6 35 rfl, tbM7 119 rfl, tbM7 120 rfl⟩
set_option maxRecDepth 20000 in
theorem lw_p50 : lw_okq (⟨"ClickStreetModel", "strength", "(IIII)I"⟩, 33) := ⟨nhS7, tbM6 35 rfl, tbM7 123 rfl, tbM7 124 rfl⟩
set_option maxRecDepth 20000 in
theorem lw_p51 : lw_okq (⟨"ClickStreetModel", "hasText", "(I)Z"⟩, 33) := ⟨nhS7, tbM6 35 rfl, tbM7 127 rfl, tbM7 128 rfl⟩
set_option maxRecDepth 20000 in
theorem lw_p52 : lw_okq (⟨"ClickStreetModel", "given", "(I)I"⟩, 33) := ⟨nhS7, tbM6 35 rfl, tbM7 131 rfl, tbM7 132 rfl⟩
set_option maxRecDepth 20000 in
theorem lw_p53 : lw_okq (⟨"ClickStreetModel", "isHeard", "(IIIIII)Z"⟩, 33) := ⟨nhS7, tbM6 35 rfl, tbM7 146 rfl, tbM7 147 rfl⟩
set_option maxRecDepth 20000 in
theorem lw_p54 : lw_okq (⟨"ClickStreetModel", "clicks", "(I)I"⟩, 33) := ⟨nhS7, tbM6 35 rfl, tbM7 154 rfl, tbM7 155 rfl⟩
set_option maxRecDepth 20000 in
theorem lw_p55 : lw_okq (⟨"ClickStreetModel", "heardFrom", "(III)I"⟩, 33) := ⟨nhS7, tbM6 35 rfl, tbM7 158 rfl, tbM7 159 rfl⟩
set_option maxRecDepth 20000 in
theorem lw_p56 : lw_okq (⟨"ClickStreetModel", "no", "(II)I"⟩, 33) := ⟨nhS7, tbM6 35 rfl, tbM7 162 rfl, tbM7 163 rfl⟩
set_option maxRecDepth 20000 in
theorem lw_p57 : lw_okq (⟨"ClickStreetModel", "yes", "(II)I"⟩, 33) := ⟨nhS7, tbM6 35 rfl, tbM7 166 rfl, tbM7 167 rfl⟩
set_option maxRecDepth 20000 in
theorem lw_p58 : lw_okq (⟨"ClickStreetModel", "more", "(II)V"⟩, 33) := ⟨nhS7, tbM6 35 rfl, tbM7 170 rfl, tbM7 171 rfl⟩
set_option maxRecDepth 20000 in
theorem lw_p59 : lw_okq (⟨"ClickStreetModel", "held", "(II)I"⟩, 33) := ⟨nhS7, tbM6 35 rfl, tbM7 178 rfl, tbM7 179 rfl⟩
set_option maxRecDepth 20000 in
theorem lw_p60 : lw_okq (⟨"ClickStreetModel", "areCells", "(IZ)Z"⟩, 33) := ⟨nhS7, tbM6 35 rfl, tbM7 202 rfl, tbM7 203 rfl⟩
set_option maxRecDepth 20000 in
theorem lw_p61 : lw_okq (⟨"ClickStreetModel", "findTold", "(III)V"⟩, 33) := ⟨nhS7, tbM6 35 rfl, tbM7 206 rfl, tbM7 207 rfl⟩
set_option maxRecDepth 20000 in
theorem lw_p62 : lw_okq (⟨"ClickStreetModel", "toldBy", "(I)I"⟩, 33) := ⟨nhS7, tbM6 35 rfl, tbM7 213 rfl, tbM7 214 rfl⟩
set_option maxRecDepth 20000 in
theorem lw_p63 : lw_okq (⟨"ClickStreetModel", "tenth", "()V"⟩, 33) := ⟨nhS7, tbM6 35 rfl, tbM7 221 rfl, tbM7 222 rfl⟩
def lw_privs_4 : List (MethodName × Nat) := [(⟨"ClickStreetModel", "on", "(III)I"⟩, 33), (⟨"ClickStreetModel", "kindIn", "(I)I"⟩, 33), (⟨"ClickStreetModel", "strength", "(IIII)I"⟩, 33), (⟨"ClickStreetModel", "hasText", "(I)Z"⟩, 33), (⟨"ClickStreetModel", "given", "(I)I"⟩, 33), (⟨"ClickStreetModel", "isHeard", "(IIIIII)Z"⟩, 33), (⟨"ClickStreetModel", "clicks", "(I)I"⟩, 33), (⟨"ClickStreetModel", "heardFrom", "(III)I"⟩, 33), (⟨"ClickStreetModel", "no", "(II)I"⟩, 33), (⟨"ClickStreetModel", "yes", "(II)I"⟩, 33), (⟨"ClickStreetModel", "more", "(II)V"⟩, 33), (⟨"ClickStreetModel", "held", "(II)I"⟩, 33), (⟨"ClickStreetModel", "areCells", "(IZ)Z"⟩, 33), (⟨"ClickStreetModel", "findTold", "(III)V"⟩, 33), (⟨"ClickStreetModel", "toldBy", "(I)I"⟩, 33), (⟨"ClickStreetModel", "tenth", "()V"⟩, 33)]
theorem lw_r4 : ∀ q ∈ lw_privs_4, lw_okq q := List.forall_mem_cons.mpr ⟨lw_p48, List.forall_mem_cons.mpr ⟨lw_p49, List.forall_mem_cons.mpr ⟨lw_p50, List.forall_mem_cons.mpr ⟨lw_p51, List.forall_mem_cons.mpr ⟨lw_p52, List.forall_mem_cons.mpr ⟨lw_p53, List.forall_mem_cons.mpr ⟨lw_p54, List.forall_mem_cons.mpr ⟨lw_p55, List.forall_mem_cons.mpr ⟨lw_p56, List.forall_mem_cons.mpr ⟨lw_p57, List.forall_mem_cons.mpr ⟨lw_p58, List.forall_mem_cons.mpr ⟨lw_p59, List.forall_mem_cons.mpr ⟨lw_p60, List.forall_mem_cons.mpr ⟨lw_p61, List.forall_mem_cons.mpr ⟨lw_p62, List.forall_mem_cons.mpr ⟨lw_p63, fun _ h => absurd h List.not_mem_nil⟩⟩⟩⟩⟩⟩⟩⟩⟩⟩⟩⟩⟩⟩⟩⟩
set_option maxRecDepth 20000 in
theorem lw_p64 : lw_okq (⟨"ClickStreetModel", "thingGoes", "(I)V"⟩, 33) := ⟨nhS7, tbM6 35 rfl, tbM7 225 rfl, tbM7 226 rfl⟩
set_option maxRecDepth 20000 in
theorem lw_p65 : lw_okq (⟨"ClickStreetModel", "walkerGoes", "(I)V"⟩, 33) := ⟨nhS7, tbM6 35 rfl, tbM7 229 rfl, tbM7 230 rfl⟩
set_option maxRecDepth 20000 in
theorem lw_p66 : lw_okq (⟨"ClickStreetModel", "habitOf", "(I)I"⟩, 33) := ⟨nhS7, tbM6 35 rfl, tbM7 233 rfl, tbM7 234 rfl⟩
set_option maxRecDepth 20000 in
theorem lw_p67 : lw_okq (⟨"ClickStreetModel", "fullAhead", "(II)I"⟩, 33) := ⟨nhS7, tbM6 35 rfl, tbM7 237 rfl, tbM7 238 rfl⟩
set_option maxRecDepth 20000 in
theorem lw_p68 : lw_okq (⟨"ClickStreetModel", "goesOn", "(I)V"⟩, 33) := ⟨nhS7, tbM6 35 rfl, tbM8 1 rfl, tbM8 2 rfl⟩
set_option maxRecDepth 20000 in
theorem lw_p69 : lw_okq (⟨"ClickStreetModel", "findFar", "(II)V"⟩, 33) := ⟨nhS7, tbM6 35 rfl, tbM8 9 rfl, tbM8 10 rfl⟩
set_option maxRecDepth 20000 in
theorem lw_p70 : lw_okq (⟨"ClickStreetModel", "cost", "(II)I"⟩, 33) := ⟨nhS7, tbM6 35 rfl, tbM8 14 rfl, tbM8 15 rfl⟩
set_option maxRecDepth 20000 in
theorem lw_p71 : lw_okq (⟨"ClickStreetModel", "tryRows", "(IIIII)V"⟩, 33) := ⟨nhS7, tbM6 35 rfl, tbM8 30 rfl, tbM8 31 rfl⟩
set_option maxRecDepth 20000 in
theorem lw_p72 : lw_okq (⟨"ClickStreetModel", "isPost", "(III)Z"⟩, 33) := ⟨nhS7, tbM6 35 rfl, tbM8 38 rfl, tbM8 39 rfl⟩
set_option maxRecDepth 20000 in
theorem lw_p73 : lw_okq (⟨"ClickStreetModel", "voiced", "(II)I"⟩, 33) := ⟨nhS7, tbM6 35 rfl, tbM8 46 rfl, tbM8 47 rfl⟩
set_option maxRecDepth 20000 in
theorem lw_p74 : lw_okq (⟨"ClickStreetModel", "bodyFrom", "(III)I"⟩, 33) := ⟨nhS7, tbM6 35 rfl, tbM8 50 rfl, tbM8 51 rfl⟩
set_option maxRecDepth 20000 in
theorem lw_p75 : lw_okq (⟨"ClickStreetModel", "body", "(III)I"⟩, 33) := ⟨nhS7, tbM6 35 rfl, tbM8 57 rfl, tbM8 58 rfl⟩
set_option maxRecDepth 20000 in
theorem lw_p76 : lw_okq (⟨"ClickStreetModel", "began", "(I)V"⟩, 33) := ⟨nhS7, tbM6 35 rfl, tbM8 61 rfl, tbM8 62 rfl⟩
set_option maxRecDepth 20000 in
theorem lw_p77 : lw_okq (⟨"ClickStreetModel", "sumOf", "(I)I"⟩, 33) := ⟨nhS7, tbM6 35 rfl, tbM8 105 rfl, tbM8 106 rfl⟩
def lw_privs_5 : List (MethodName × Nat) := [(⟨"ClickStreetModel", "thingGoes", "(I)V"⟩, 33), (⟨"ClickStreetModel", "walkerGoes", "(I)V"⟩, 33), (⟨"ClickStreetModel", "habitOf", "(I)I"⟩, 33), (⟨"ClickStreetModel", "fullAhead", "(II)I"⟩, 33), (⟨"ClickStreetModel", "goesOn", "(I)V"⟩, 33), (⟨"ClickStreetModel", "findFar", "(II)V"⟩, 33), (⟨"ClickStreetModel", "cost", "(II)I"⟩, 33), (⟨"ClickStreetModel", "tryRows", "(IIIII)V"⟩, 33), (⟨"ClickStreetModel", "isPost", "(III)Z"⟩, 33), (⟨"ClickStreetModel", "voiced", "(II)I"⟩, 33), (⟨"ClickStreetModel", "bodyFrom", "(III)I"⟩, 33), (⟨"ClickStreetModel", "body", "(III)I"⟩, 33), (⟨"ClickStreetModel", "began", "(I)V"⟩, 33), (⟨"ClickStreetModel", "sumOf", "(I)I"⟩, 33)]
theorem lw_r5 : ∀ q ∈ lw_privs_5, lw_okq q := List.forall_mem_cons.mpr ⟨lw_p64, List.forall_mem_cons.mpr ⟨lw_p65, List.forall_mem_cons.mpr ⟨lw_p66, List.forall_mem_cons.mpr ⟨lw_p67, List.forall_mem_cons.mpr ⟨lw_p68, List.forall_mem_cons.mpr ⟨lw_p69, List.forall_mem_cons.mpr ⟨lw_p70, List.forall_mem_cons.mpr ⟨lw_p71, List.forall_mem_cons.mpr ⟨lw_p72, List.forall_mem_cons.mpr ⟨lw_p73, List.forall_mem_cons.mpr ⟨lw_p74, List.forall_mem_cons.mpr ⟨lw_p75, List.forall_mem_cons.mpr ⟨lw_p76, List.forall_mem_cons.mpr ⟨lw_p77, fun _ h => absurd h List.not_mem_nil⟩⟩⟩⟩⟩⟩⟩⟩⟩⟩⟩⟩⟩⟩
def lw_privs : List (MethodName × Nat) := lw_privs_1 ++ (lw_privs_2 ++ (lw_privs_3 ++ (lw_privs_4 ++ (lw_privs_5))))
def lw_tbl : List Cond := k2_sels lw_privs ++ tables_1
theorem lw_privs_ok : ∀ q ∈ lw_privs, lw_okq q := by
  show ∀ q ∈ lw_privs_1 ++ (lw_privs_2 ++ (lw_privs_3 ++ (lw_privs_4 ++ (lw_privs_5)))), lw_okq q
  exact List.forall_mem_append.mpr ⟨lw_r1, List.forall_mem_append.mpr ⟨lw_r2, List.forall_mem_append.mpr ⟨lw_r3, List.forall_mem_append.mpr ⟨lw_r4, lw_r5⟩⟩⟩⟩
-- ===== end of PART A =====
end
section
/-! names, printed out of the claim's own names: classes, fields, methods; one list of words; environment lists -/
def RX0 : String := "ClickStreet$Finder"
def TX0 : u_T := fun k => match k with
  | 0 => ("ClickStreet$Finder", "costs", "[I", true)
  | 1 => ("ClickStreet$Finder", "isDone", "[Z", true)
  | 2 => ("ClickStreet$Finder", "learned", "[J", true)
  | 3 => ("ClickStreet$Finder", "heardPosts", "[I", true)
  | 4 => ("ClickStreet$Finder", "most", "I", false)
  | _ => ("ClickStreet$Finder", "places", "I", false)
def tyX0 : Nat → FieldType := fun k => match k with
  | 0 => .array .int
  | 1 => .array .boolean
  | 2 => .array .long
  | 3 => .array .int
  | 4 => .int
  | _ => .int
theorem nmX0 : ∀ a, a < 6 → ∀ b, b < 6 → a ≠ b → (TX0 a).2.1 ≠ (TX0 b).2.1 := by decide +kernel
theorem tyX0_ok : ∀ k, k < 6 → parseFieldDescriptor (TX0 k).2.2.1 = some (tyX0 k) := by decide +kernel
abbrev cX0_init : ByteArray := prog_2_method_1_code
def yX0_init : MethodName := ⟨RX0, "<init>", "()V"⟩
abbrev cX0_measure : ByteArray := prog_2_method_2_code
def yX0_measure : MethodName := ⟨RX0, "measure", "(LClickStreet$Walker;I)V"⟩
abbrev cX0_nearestOpen : ByteArray := prog_2_method_3_code
def yX0_nearestOpen : MethodName := ⟨RX0, "nearestOpen", "()I"⟩
abbrev cX0_costInto : ByteArray := prog_2_method_4_code
def yX0_costInto : MethodName := ⟨RX0, "costInto", "(LClickStreet$Walker;I)I"⟩
abbrev cX0_costFrom : ByteArray := prog_2_method_5_code
def yX0_costFrom : MethodName := ⟨RX0, "costFrom", "(I)I"⟩
abbrev cX0_cellAfter : ByteArray := prog_2_method_6_code
def yX0_cellAfter : MethodName := ⟨RX0, "cellAfter", "(LClickStreet$Walker;II)I"⟩
abbrev cX0_firstStep : ByteArray := prog_2_method_7_code
def yX0_firstStep : MethodName := ⟨RX0, "firstStep", "(LClickStreet$Walker;I)I"⟩
abbrev cX0_chooseSpots : ByteArray := prog_2_method_8_code
def yX0_chooseSpots : MethodName := ⟨RX0, "chooseSpots", "(LClickStreet$World;ILClickStreet$Sheet;I)Z"⟩
abbrev cX0_noteLearned : ByteArray := prog_2_method_9_code
def yX0_noteLearned : MethodName := ⟨RX0, "noteLearned", "(LClickStreet$World;III)V"⟩
abbrev cX0_countLearned : ByteArray := prog_2_method_10_code
def yX0_countLearned : MethodName := ⟨RX0, "countLearned", "(I)I"⟩
abbrev cX0_choosePosts : ByteArray := prog_2_method_11_code
def yX0_choosePosts : MethodName := ⟨RX0, "choosePosts", "(LClickStreet$World;ILClickStreet$Sheet;LClickStreet$Sheet;)Z"⟩
abbrev cX0_servesAll : ByteArray := prog_2_method_12_code
def yX0_servesAll : MethodName := ⟨RX0, "servesAll", "(II)Z"⟩
abbrev cX0_wouldHear : ByteArray := prog_2_method_13_code
def yX0_wouldHear : MethodName := ⟨RX0, "wouldHear", "(LClickStreet$World;III)Z"⟩
def RX1 : String := "ClickStreet$Formula"
def TX1 : u_T := fun k => match k with
  | 0 => ("ClickStreet$Formula", "codes", "[I", true)
  | 1 => ("ClickStreet$Formula", "stack", "[I", true)
  | _ => ("ClickStreet$Formula", "size", "I", false)
def tyX1 : Nat → FieldType := fun k => match k with
  | 0 => .array .int
  | 1 => .array .int
  | _ => .int
theorem nmX1 : ∀ a, a < 3 → ∀ b, b < 3 → a ≠ b → (TX1 a).2.1 ≠ (TX1 b).2.1 := by decide +kernel
theorem tyX1_ok : ∀ k, k < 3 → parseFieldDescriptor (TX1 k).2.2.1 = some (tyX1 k) := by decide +kernel
abbrev cX1_init : ByteArray := prog_3_method_1_code
def yX1_init : MethodName := ⟨RX1, "<init>", "()V"⟩
abbrev cX1_isGiven : ByteArray := prog_3_method_2_code
def yX1_isGiven : MethodName := ⟨RX1, "isGiven", "()Z"⟩
abbrev cX1_clear : ByteArray := prog_3_method_3_code
def yX1_clear : MethodName := ⟨RX1, "clear", "()V"⟩
abbrev cX1_add : ByteArray := prog_3_method_4_code
def yX1_add : MethodName := ⟨RX1, "add", "(I)V"⟩
abbrev cX1_work : ByteArray := prog_3_method_5_code
def yX1_work : MethodName := ⟨RX1, "work", "([I)I"⟩
abbrev cX1_takeFrom : ByteArray := prog_3_method_6_code
def yX1_takeFrom : MethodName := ⟨RX1, "takeFrom", "(LClickStreet$Formula;)V"⟩
def RX2 : String := "ClickStreet$Laws"
def TX2 : u_T := fun k => match k with
  | 0 => ("ClickStreet$Laws", "noise", "I", false)
  | 1 => ("ClickStreet$Laws", "mask", "I", false)
  | 2 => ("ClickStreet$Laws", "snow", "I", false)
  | 3 => ("ClickStreet$Laws", "loud", "[I", true)
  | 4 => ("ClickStreet$Laws", "sharp", "[I", true)
  | 5 => ("ClickStreet$Laws", "texts", "[LClickStreet$Formula;", true)
  | _ => ("ClickStreet$Laws", "values", "[I", true)
def tyX2 : Nat → FieldType := fun k => match k with
  | 0 => .int
  | 1 => .int
  | 2 => .int
  | 3 => .array .int
  | 4 => .array .int
  | 5 => .array (.object "ClickStreet$Formula")
  | _ => .array .int
theorem nmX2 : ∀ a, a < 7 → ∀ b, b < 7 → a ≠ b → (TX2 a).2.1 ≠ (TX2 b).2.1 := by decide +kernel
theorem tyX2_ok : ∀ k, k < 7 → parseFieldDescriptor (TX2 k).2.2.1 = some (tyX2 k) := by decide +kernel
abbrev cX2_init : ByteArray := prog_4_method_1_code
def yX2_init : MethodName := ⟨RX2, "<init>", "()V"⟩
abbrev cX2_isClick : ByteArray := prog_4_method_2_code
def yX2_isClick : MethodName := ⟨RX2, "isClick", "(II)Z"⟩
abbrev cX2_isClick_ : ByteArray := prog_4_method_3_code
def yX2_isClick_ : MethodName := ⟨RX2, "isClick", "(I)Z"⟩
abbrev cX2_late : ByteArray := prog_4_method_4_code
def yX2_late : MethodName := ⟨RX2, "late", "(II)I"⟩
abbrev cX2_changeKind : ByteArray := prog_4_method_5_code
def yX2_changeKind : MethodName := ⟨RX2, "changeKind", "(III)I"⟩
abbrev cX2_changeAir : ByteArray := prog_4_method_6_code
def yX2_changeAir : MethodName := ⟨RX2, "changeAir", "(II)I"⟩
abbrev cX2_strength : ByteArray := prog_4_method_7_code
def yX2_strength : MethodName := ⟨RX2, "strength", "(III)I"⟩
abbrev cX2_isHeard : ByteArray := prog_4_method_8_code
def yX2_isHeard : MethodName := ⟨RX2, "isHeard", "(IIII)Z"⟩
abbrev cX2_hears : ByteArray := prog_4_method_9_code
def yX2_hears : MethodName := ⟨RX2, "hears", "(IIIII)Z"⟩
abbrev cX2_habitValue : ByteArray := prog_4_method_10_code
def yX2_habitValue : MethodName := ⟨RX2, "habitValue", "(IIIII)I"⟩
abbrev cX2_kindsAlike : ByteArray := prog_4_method_11_code
def yX2_kindsAlike : MethodName := ⟨RX2, "kindsAlike", "(IIIII)I"⟩
abbrev cX2_leastPitch : ByteArray := prog_4_method_12_code
def yX2_leastPitch : MethodName := ⟨RX2, "leastPitch", "(III)I"⟩
abbrev cX2_leastLoudness : ByteArray := prog_4_method_13_code
def yX2_leastLoudness : MethodName := ⟨RX2, "leastLoudness", "(III)I"⟩
abbrev cX2_takeFrom : ByteArray := prog_4_method_14_code
def yX2_takeFrom : MethodName := ⟨RX2, "takeFrom", "(LClickStreet$Laws;)V"⟩
def RX3 : String := "ClickStreet$Lessons"
def TX3 : u_T := fun k => match k with
  | 0 => ("ClickStreet$Lessons", "tells", "[I", true)
  | 1 => ("ClickStreet$Lessons", "needs", "[I", true)
  | 2 => ("ClickStreet$Lessons", "minutes", "[I", true)
  | 3 => ("ClickStreet$Lessons", "size", "I", false)
  | 4 => ("ClickStreet$Lessons", "tried", "LClickStreet$Row;", true)
  | 5 => ("ClickStreet$Lessons", "best", "LClickStreet$Row;", true)
  | 6 => ("ClickStreet$Lessons", "wantedBits", "I", false)
  | 7 => ("ClickStreet$Lessons", "fewestMinutes", "I", false)
  | _ => ("ClickStreet$Lessons", "isFound", "Z", false)
def tyX3 : Nat → FieldType := fun k => match k with
  | 0 => .array .int
  | 1 => .array .int
  | 2 => .array .int
  | 3 => .int
  | 4 => .object "ClickStreet$Row"
  | 5 => .object "ClickStreet$Row"
  | 6 => .int
  | 7 => .int
  | _ => .boolean
theorem nmX3 : ∀ a, a < 9 → ∀ b, b < 9 → a ≠ b → (TX3 a).2.1 ≠ (TX3 b).2.1 := by decide +kernel
theorem tyX3_ok : ∀ k, k < 9 → parseFieldDescriptor (TX3 k).2.2.1 = some (tyX3 k) := by decide +kernel
abbrev cX3_init : ByteArray := prog_5_method_1_code
def yX3_init : MethodName := ⟨RX3, "<init>", "()V"⟩
abbrev cX3_hasRoom : ByteArray := prog_5_method_2_code
def yX3_hasRoom : MethodName := ⟨RX3, "hasRoom", "()Z"⟩
abbrev cX3_add : ByteArray := prog_5_method_3_code
def yX3_add : MethodName := ⟨RX3, "add", "(III)I"⟩
abbrev cX3_findRow : ByteArray := prog_5_method_4_code
def yX3_findRow : MethodName := ⟨RX3, "findRow", "(II)Z"⟩
abbrev cX3_tryRows : ByteArray := prog_5_method_5_code
def yX3_tryRows : MethodName := ⟨RX3, "tryRows", "(III)V"⟩
abbrev cX3_isBetter : ByteArray := prog_5_method_6_code
def yX3_isBetter : MethodName := ⟨RX3, "isBetter", "(I)Z"⟩
abbrev cX3_takeFrom : ByteArray := prog_5_method_7_code
def yX3_takeFrom : MethodName := ⟨RX3, "takeFrom", "(LClickStreet$Lessons;)V"⟩
def RX4 : String := "ClickStreet$Reader"
def TX4 : u_T := fun k => match k with
  | 0 => ("ClickStreet$Reader", "draft", "LClickStreet$Formula;", true)
  | 1 => ("ClickStreet$Reader", "tape", "LClickStreet$Row;", false)
  | 2 => ("ClickStreet$Reader", "names", "Ljava/lang/String;", false)
  | 3 => ("ClickStreet$Reader", "place", "I", false)
  | 4 => ("ClickStreet$Reader", "fault", "I", false)
  | 5 => ("ClickStreet$Reader", "open", "I", false)
  | _ => ("ClickStreet$Reader", "parts", "I", false)
def tyX4 : Nat → FieldType := fun k => match k with
  | 0 => .object "ClickStreet$Formula"
  | 1 => .object "ClickStreet$Row"
  | 2 => .object "java/lang/String"
  | 3 => .int
  | 4 => .int
  | 5 => .int
  | _ => .int
theorem nmX4 : ∀ a, a < 7 → ∀ b, b < 7 → a ≠ b → (TX4 a).2.1 ≠ (TX4 b).2.1 := by decide +kernel
theorem tyX4_ok : ∀ k, k < 7 → parseFieldDescriptor (TX4 k).2.2.1 = some (tyX4 k) := by decide +kernel
abbrev cX4_init : ByteArray := prog_6_method_1_code
def yX4_init : MethodName := ⟨RX4, "<init>", "()V"⟩
abbrev cX4_read : ByteArray := prog_6_method_2_code
def yX4_read : MethodName := ⟨RX4, "read", "(LClickStreet$Row;I)I"⟩
abbrev cX4_next : ByteArray := prog_6_method_3_code
def yX4_next : MethodName := ⟨RX4, "next", "()I"⟩
abbrev cX4_fail : ByteArray := prog_6_method_4_code
def yX4_fail : MethodName := ⟨RX4, "fail", "()V"⟩
abbrev cX4_expect : ByteArray := prog_6_method_5_code
def yX4_expect : MethodName := ⟨RX4, "expect", "(I)V"⟩
abbrev cX4_readComparisons : ByteArray := prog_6_method_6_code
def yX4_readComparisons : MethodName := ⟨RX4, "readComparisons", "()V"⟩
abbrev cX4_readSum : ByteArray := prog_6_method_7_code
def yX4_readSum : MethodName := ⟨RX4, "readSum", "()V"⟩
abbrev cX4_readTerm : ByteArray := prog_6_method_8_code
def yX4_readTerm : MethodName := ⟨RX4, "readTerm", "()V"⟩
abbrev cX4_readOne : ByteArray := prog_6_method_9_code
def yX4_readOne : MethodName := ⟨RX4, "readOne", "()V"⟩
abbrev cX4_readNumber : ByteArray := prog_6_method_10_code
def yX4_readNumber : MethodName := ⟨RX4, "readNumber", "()V"⟩
abbrev cX4_readName : ByteArray := prog_6_method_11_code
def yX4_readName : MethodName := ⟨RX4, "readName", "(I)V"⟩
abbrev cX4_readOpened : ByteArray := prog_6_method_12_code
def yX4_readOpened : MethodName := ⟨RX4, "readOpened", "(I)V"⟩
def RX5 : String := "ClickStreet$Row"
def TX5 : u_T := fun k => match k with
  | 0 => ("ClickStreet$Row", "numbers", "[I", true)
  | _ => ("ClickStreet$Row", "size", "I", false)
def tyX5 : Nat → FieldType := fun k => match k with
  | 0 => .array .int
  | _ => .int
theorem nmX5 : ∀ a, a < 2 → ∀ b, b < 2 → a ≠ b → (TX5 a).2.1 ≠ (TX5 b).2.1 := by decide +kernel
theorem tyX5_ok : ∀ k, k < 2 → parseFieldDescriptor (TX5 k).2.2.1 = some (tyX5 k) := by decide +kernel
abbrev cX5_init : ByteArray := prog_7_method_1_code
def yX5_init : MethodName := ⟨RX5, "<init>", "(I)V"⟩
abbrev cX5_room : ByteArray := prog_7_method_2_code
def yX5_room : MethodName := ⟨RX5, "room", "()I"⟩
abbrev cX5_has : ByteArray := prog_7_method_3_code
def yX5_has : MethodName := ⟨RX5, "has", "(I)Z"⟩
abbrev cX5_get : ByteArray := prog_7_method_4_code
def yX5_get : MethodName := ⟨RX5, "get", "(I)I"⟩
abbrev cX5_add : ByteArray := prog_7_method_5_code
def yX5_add : MethodName := ⟨RX5, "add", "(I)V"⟩
abbrev cX5_dropLast : ByteArray := prog_7_method_6_code
def yX5_dropLast : MethodName := ⟨RX5, "dropLast", "()V"⟩
abbrev cX5_clear : ByteArray := prog_7_method_7_code
def yX5_clear : MethodName := ⟨RX5, "clear", "()V"⟩
abbrev cX5_takeFrom : ByteArray := prog_7_method_8_code
def yX5_takeFrom : MethodName := ⟨RX5, "takeFrom", "(LClickStreet$Row;)V"⟩
def RX6 : String := "ClickStreet$Sheet"
def TX6 : u_T := fun k => match k with
  | 0 => ("ClickStreet$Sheet", "bits", "I", false)
  | 1 => ("ClickStreet$Sheet", "size", "I", false)
  | _ => ("ClickStreet$Sheet", "numbers", "[I", true)
def tyX6 : Nat → FieldType := fun k => match k with
  | 0 => .int
  | 1 => .int
  | _ => .array .int
theorem nmX6 : ∀ a, a < 3 → ∀ b, b < 3 → a ≠ b → (TX6 a).2.1 ≠ (TX6 b).2.1 := by decide +kernel
theorem tyX6_ok : ∀ k, k < 3 → parseFieldDescriptor (TX6 k).2.2.1 = some (tyX6 k) := by decide +kernel
abbrev cX6_init : ByteArray := prog_8_method_1_code
def yX6_init : MethodName := ⟨RX6, "<init>", "()V"⟩
abbrev cX6_isMissing : ByteArray := prog_8_method_2_code
def yX6_isMissing : MethodName := ⟨RX6, "isMissing", "()Z"⟩
abbrev cX6_drop : ByteArray := prog_8_method_3_code
def yX6_drop : MethodName := ⟨RX6, "drop", "()V"⟩
abbrev cX6_begin : ByteArray := prog_8_method_4_code
def yX6_begin : MethodName := ⟨RX6, "begin", "(II)V"⟩
abbrev cX6_has : ByteArray := prog_8_method_5_code
def yX6_has : MethodName := ⟨RX6, "has", "(I)Z"⟩
abbrev cX6_numberAt : ByteArray := prog_8_method_6_code
def yX6_numberAt : MethodName := ⟨RX6, "numberAt", "(I)I"⟩
abbrev cX6_store : ByteArray := prog_8_method_7_code
def yX6_store : MethodName := ⟨RX6, "store", "(II)V"⟩
abbrev cX6_hasRun : ByteArray := prog_8_method_8_code
def yX6_hasRun : MethodName := ⟨RX6, "hasRun", "(II)Z"⟩
abbrev cX6_holdsFewCells : ByteArray := prog_8_method_9_code
def yX6_holdsFewCells : MethodName := ⟨RX6, "holdsFewCells", "()Z"⟩
abbrev cX6_hasTwoAlike : ByteArray := prog_8_method_10_code
def yX6_hasTwoAlike : MethodName := ⟨RX6, "hasTwoAlike", "()Z"⟩
def RX7 : String := "ClickStreet$Street"
def TX7 : u_T := fun k => match k with
  | 0 => ("ClickStreet$Street", "occupants", "[I", true)
  | 1 => ("ClickStreet$Street", "kinds", "[I", true)
  | 2 => ("ClickStreet$Street", "cells", "[I", true)
  | 3 => ("ClickStreet$Street", "sides", "[I", true)
  | 4 => ("ClickStreet$Street", "steps", "[I", true)
  | _ => ("ClickStreet$Street", "things", "I", false)
def tyX7 : Nat → FieldType := fun k => match k with
  | 0 => .array .int
  | 1 => .array .int
  | 2 => .array .int
  | 3 => .array .int
  | 4 => .array .int
  | _ => .int
theorem nmX7 : ∀ a, a < 6 → ∀ b, b < 6 → a ≠ b → (TX7 a).2.1 ≠ (TX7 b).2.1 := by decide +kernel
theorem tyX7_ok : ∀ k, k < 6 → parseFieldDescriptor (TX7 k).2.2.1 = some (tyX7 k) := by decide +kernel
abbrev cX7_init : ByteArray := prog_9_method_1_code
def yX7_init : MethodName := ⟨RX7, "<init>", "()V"⟩
abbrev cX7_isCell : ByteArray := prog_9_method_2_code
def yX7_isCell : MethodName := ⟨RX7, "isCell", "(I)Z"⟩
abbrev cX7_isSide : ByteArray := prog_9_method_3_code
def yX7_isSide : MethodName := ⟨RX7, "isSide", "(I)Z"⟩
abbrev cX7_cellFrom : ByteArray := prog_9_method_4_code
def yX7_cellFrom : MethodName := ⟨RX7, "cellFrom", "(III)I"⟩
abbrev cX7_isFree : ByteArray := prog_9_method_5_code
def yX7_isFree : MethodName := ⟨RX7, "isFree", "(I)Z"⟩
abbrev cX7_settle : ByteArray := prog_9_method_6_code
def yX7_settle : MethodName := ⟨RX7, "settle", "(II)V"⟩
abbrev cX7_hasRoom : ByteArray := prog_9_method_7_code
def yX7_hasRoom : MethodName := ⟨RX7, "hasRoom", "()Z"⟩
abbrev cX7_hasThing : ByteArray := prog_9_method_8_code
def yX7_hasThing : MethodName := ⟨RX7, "hasThing", "(I)Z"⟩
abbrev cX7_addThing : ByteArray := prog_9_method_9_code
def yX7_addThing : MethodName := ⟨RX7, "addThing", "(II)I"⟩
abbrev cX7_factOf : ByteArray := prog_9_method_10_code
def yX7_factOf : MethodName := ⟨RX7, "factOf", "(II)I"⟩
abbrev cX7_takeAway : ByteArray := prog_9_method_11_code
def yX7_takeAway : MethodName := ⟨RX7, "takeAway", "(I)I"⟩
abbrev cX7_countThings : ByteArray := prog_9_method_12_code
def yX7_countThings : MethodName := ⟨RX7, "countThings", "()I"⟩
abbrev cX7_kindIn : ByteArray := prog_9_method_13_code
def yX7_kindIn : MethodName := ⟨RX7, "kindIn", "(I)I"⟩
abbrev cX7_letThingsGo : ByteArray := prog_9_method_14_code
def yX7_letThingsGo : MethodName := ⟨RX7, "letThingsGo", "(I)V"⟩
abbrev cX7_letThingGo : ByteArray := prog_9_method_15_code
def yX7_letThingGo : MethodName := ⟨RX7, "letThingGo", "(I)V"⟩
abbrev cX7_takeFrom : ByteArray := prog_9_method_16_code
def yX7_takeFrom : MethodName := ⟨RX7, "takeFrom", "(LClickStreet$Street;)V"⟩
def RX8 : String := "ClickStreet$Voices"
def TX8 : u_T := fun k => match k with
  | 0 => ("ClickStreet$Voices", "begun", "LClickStreet$Row;", true)
  | 1 => ("ClickStreet$Voices", "trace", "LClickStreet$Row;", true)
  | 2 => ("ClickStreet$Voices", "kind", "I", false)
  | 3 => ("ClickStreet$Voices", "number", "I", false)
  | 4 => ("ClickStreet$Voices", "pitch", "I", false)
  | _ => ("ClickStreet$Voices", "isParted", "Z", false)
def tyX8 : Nat → FieldType := fun k => match k with
  | 0 => .object "ClickStreet$Row"
  | 1 => .object "ClickStreet$Row"
  | 2 => .int
  | 3 => .int
  | 4 => .int
  | _ => .boolean
theorem nmX8 : ∀ a, a < 6 → ∀ b, b < 6 → a ≠ b → (TX8 a).2.1 ≠ (TX8 b).2.1 := by decide +kernel
theorem tyX8_ok : ∀ k, k < 6 → parseFieldDescriptor (TX8 k).2.2.1 = some (tyX8 k) := by decide +kernel
abbrev cX8_init : ByteArray := prog_10_method_1_code
def yX8_init : MethodName := ⟨RX8, "<init>", "()V"⟩
abbrev cX8_speak : ByteArray := prog_10_method_2_code
def yX8_speak : MethodName := ⟨RX8, "speak", "(LClickStreet$Walker;III)I"⟩
abbrev cX8_keepTrace : ByteArray := prog_10_method_3_code
def yX8_keepTrace : MethodName := ⟨RX8, "keepTrace", "()V"⟩
abbrev cX8_say : ByteArray := prog_10_method_4_code
def yX8_say : MethodName := ⟨RX8, "say", "(IIII)I"⟩
abbrev cX8_own : ByteArray := prog_10_method_5_code
def yX8_own : MethodName := ⟨RX8, "own", "(III)I"⟩
abbrev cX8_run : ByteArray := prog_10_method_6_code
def yX8_run : MethodName := ⟨RX8, "run", "(III)I"⟩
abbrev cX8_parted : ByteArray := prog_10_method_7_code
def yX8_parted : MethodName := ⟨RX8, "parted", "(I)I"⟩
def RX9 : String := "ClickStreet$Walker"
def TX9 : u_T := fun k => match k with
  | 0 => ("ClickStreet$Walker", "kind", "I", false)
  | 1 => ("ClickStreet$Walker", "cell", "I", false)
  | 2 => ("ClickStreet$Walker", "side", "I", false)
  | 3 => ("ClickStreet$Walker", "pitch", "I", false)
  | 4 => ("ClickStreet$Walker", "loudness", "I", false)
  | 5 => ("ClickStreet$Walker", "every", "I", false)
  | 6 => ("ClickStreet$Walker", "isGoing", "Z", false)
  | 7 => ("ClickStreet$Walker", "bumps", "I", false)
  | 8 => ("ClickStreet$Walker", "clicks", "I", false)
  | 9 => ("ClickStreet$Walker", "yes", "[I", true)
  | _ => ("ClickStreet$Walker", "no", "[I", true)
def tyX9 : Nat → FieldType := fun k => match k with
  | 0 => .int
  | 1 => .int
  | 2 => .int
  | 3 => .int
  | 4 => .int
  | 5 => .int
  | 6 => .boolean
  | 7 => .int
  | 8 => .int
  | 9 => .array .int
  | _ => .array .int
theorem nmX9 : ∀ a, a < 11 → ∀ b, b < 11 → a ≠ b → (TX9 a).2.1 ≠ (TX9 b).2.1 := by decide +kernel
theorem tyX9_ok : ∀ k, k < 11 → parseFieldDescriptor (TX9 k).2.2.1 = some (tyX9 k) := by decide +kernel
abbrev cX9_init : ByteArray := prog_11_method_1_code
def yX9_init : MethodName := ⟨RX9, "<init>", "()V"⟩
abbrev cX9_kindAbove : ByteArray := prog_11_method_2_code
def yX9_kindAbove : MethodName := ⟨RX9, "kindAbove", "(I)I"⟩
abbrev cX9_begin : ByteArray := prog_11_method_3_code
def yX9_begin : MethodName := ⟨RX9, "begin", "(III)V"⟩
abbrev cX9_isOf : ByteArray := prog_11_method_4_code
def yX9_isOf : MethodName := ⟨RX9, "isOf", "(I)Z"⟩
abbrev cX9_reach : ByteArray := prog_11_method_5_code
def yX9_reach : MethodName := ⟨RX9, "reach", "()I"⟩
abbrev cX9_speed : ByteArray := prog_11_method_6_code
def yX9_speed : MethodName := ⟨RX9, "speed", "()I"⟩
abbrev cX9_ears : ByteArray := prog_11_method_7_code
def yX9_ears : MethodName := ⟨RX9, "ears", "()I"⟩
abbrev cX9_ownClick : ByteArray := prog_11_method_8_code
def yX9_ownClick : MethodName := ⟨RX9, "ownClick", "()I"⟩
abbrev cX9_factOf : ByteArray := prog_11_method_9_code
def yX9_factOf : MethodName := ⟨RX9, "factOf", "(I)I"⟩
abbrev cX9_addYes : ByteArray := prog_11_method_10_code
def yX9_addYes : MethodName := ⟨RX9, "addYes", "(II)V"⟩
abbrev cX9_addNo : ByteArray := prog_11_method_11_code
def yX9_addNo : MethodName := ⟨RX9, "addNo", "(I)V"⟩
abbrev cX9_held : ByteArray := prog_11_method_12_code
def yX9_held : MethodName := ⟨RX9, "held", "(I)I"⟩
abbrev cX9_canLearn : ByteArray := prog_11_method_13_code
def yX9_canLearn : MethodName := ⟨RX9, "canLearn", "(I)Z"⟩
abbrev cX9_countHeld : ByteArray := prog_11_method_14_code
def yX9_countHeld : MethodName := ⟨RX9, "countHeld", "(I)I"⟩
abbrev cX9_yardsToFull : ByteArray := prog_11_method_15_code
def yX9_yardsToFull : MethodName := ⟨RX9, "yardsToFull", "(I)I"⟩
abbrev cX9_yardsHeldFree : ByteArray := prog_11_method_16_code
def yX9_yardsHeldFree : MethodName := ⟨RX9, "yardsHeldFree", "()I"⟩
abbrev cX9_turn : ByteArray := prog_11_method_17_code
def yX9_turn : MethodName := ⟨RX9, "turn", "(I)V"⟩
abbrev cX9_takeFrom : ByteArray := prog_11_method_18_code
def yX9_takeFrom : MethodName := ⟨RX9, "takeFrom", "(LClickStreet$Walker;)V"⟩
def RX10 : String := "ClickStreet$World"
def TX10 : u_T := fun k => match k with
  | 0 => ("ClickStreet$World", "street", "LClickStreet$Street;", true)
  | 1 => ("ClickStreet$World", "laws", "LClickStreet$Laws;", true)
  | 2 => ("ClickStreet$World", "lessons", "LClickStreet$Lessons;", true)
  | 3 => ("ClickStreet$World", "tape", "LClickStreet$Row;", true)
  | 4 => ("ClickStreet$World", "waiting", "LClickStreet$Row;", true)
  | 5 => ("ClickStreet$World", "walkers", "[LClickStreet$Walker;", true)
  | 6 => ("ClickStreet$World", "walkerCount", "I", false)
  | _ => ("ClickStreet$World", "now", "I", false)
def tyX10 : Nat → FieldType := fun k => match k with
  | 0 => .object "ClickStreet$Street"
  | 1 => .object "ClickStreet$Laws"
  | 2 => .object "ClickStreet$Lessons"
  | 3 => .object "ClickStreet$Row"
  | 4 => .object "ClickStreet$Row"
  | 5 => .array (.object "ClickStreet$Walker")
  | 6 => .int
  | _ => .int
theorem nmX10 : ∀ a, a < 8 → ∀ b, b < 8 → a ≠ b → (TX10 a).2.1 ≠ (TX10 b).2.1 := by decide +kernel
theorem tyX10_ok : ∀ k, k < 8 → parseFieldDescriptor (TX10 k).2.2.1 = some (tyX10 k) := by decide +kernel
abbrev cX10_init : ByteArray := prog_12_method_1_code
def yX10_init : MethodName := ⟨RX10, "<init>", "()V"⟩
abbrev cX10_hasWalker : ByteArray := prog_12_method_2_code
def yX10_hasWalker : MethodName := ⟨RX10, "hasWalker", "(I)Z"⟩
abbrev cX10_addWalker : ByteArray := prog_12_method_3_code
def yX10_addWalker : MethodName := ⟨RX10, "addWalker", "(III)I"⟩
abbrev cX10_countBumps : ByteArray := prog_12_method_4_code
def yX10_countBumps : MethodName := ⟨RX10, "countBumps", "()I"⟩
abbrev cX10_countClicks : ByteArray := prog_12_method_5_code
def yX10_countClicks : MethodName := ⟨RX10, "countClicks", "()I"⟩
abbrev cX10_isFreeBut : ByteArray := prog_12_method_6_code
def yX10_isFreeBut : MethodName := ⟨RX10, "isFreeBut", "(II)Z"⟩
abbrev cX10_echoYards : ByteArray := prog_12_method_7_code
def yX10_echoYards : MethodName := ⟨RX10, "echoYards", "(III)I"⟩
abbrev cX10_heardYards : ByteArray := prog_12_method_8_code
def yX10_heardYards : MethodName := ⟨RX10, "heardYards", "(III)I"⟩
abbrev cX10_echoFact : ByteArray := prog_12_method_9_code
def yX10_echoFact : MethodName := ⟨RX10, "echoFact", "(IIII)I"⟩
abbrev cX10_makeClick : ByteArray := prog_12_method_10_code
def yX10_makeClick : MethodName := ⟨RX10, "makeClick", "(I)I"⟩
abbrev cX10_countWrong : ByteArray := prog_12_method_11_code
def yX10_countWrong : MethodName := ⟨RX10, "countWrong", "(I)I"⟩
abbrev cX10_sureYards : ByteArray := prog_12_method_12_code
def yX10_sureYards : MethodName := ⟨RX10, "sureYards", "(I)I"⟩
abbrev cX10_passTenth : ByteArray := prog_12_method_13_code
def yX10_passTenth : MethodName := ⟨RX10, "passTenth", "()V"⟩
abbrev cX10_letWalkerGo : ByteArray := prog_12_method_14_code
def yX10_letWalkerGo : MethodName := ⟨RX10, "letWalkerGo", "(I)V"⟩
abbrev cX10_goOn : ByteArray := prog_12_method_15_code
def yX10_goOn : MethodName := ⟨RX10, "goOn", "(I)V"⟩
abbrev cX10_takeFrom : ByteArray := prog_12_method_16_code
def yX10_takeFrom : MethodName := ⟨RX10, "takeFrom", "(LClickStreet$World;)V"⟩
def RX11 : String := "ClickStreet"
def TX11 : u_T := fun k => match k with
  | 0 => ("ClickStreet", "live", "LClickStreet$World;", true)
  | 1 => ("ClickStreet", "kept", "LClickStreet$World;", true)
  | 2 => ("ClickStreet", "trial", "LClickStreet$World;", true)
  | 3 => ("ClickStreet", "sheets", "[LClickStreet$Sheet;", true)
  | 4 => ("ClickStreet", "errors", "[I", true)
  | 5 => ("ClickStreet", "reader", "LClickStreet$Reader;", true)
  | 6 => ("ClickStreet", "finder", "LClickStreet$Finder;", true)
  | 7 => ("ClickStreet", "voices", "LClickStreet$Voices;", true)
  | _ => ("ClickStreet", "images", "I", false)
def tyX11 : Nat → FieldType := fun k => match k with
  | 0 => .object "ClickStreet$World"
  | 1 => .object "ClickStreet$World"
  | 2 => .object "ClickStreet$World"
  | 3 => .array (.object "ClickStreet$Sheet")
  | 4 => .array .int
  | 5 => .object "ClickStreet$Reader"
  | 6 => .object "ClickStreet$Finder"
  | 7 => .object "ClickStreet$Voices"
  | _ => .int
theorem nmX11 : ∀ a, a < 9 → ∀ b, b < 9 → a ≠ b → (TX11 a).2.1 ≠ (TX11 b).2.1 := by decide +kernel
theorem tyX11_ok : ∀ k, k < 9 → parseFieldDescriptor (TX11 k).2.2.1 = some (tyX11 k) := by decide +kernel
abbrev cX11_init : ByteArray := prog_1_method_1_code
def yX11_init : MethodName := ⟨RX11, "<init>", "()V"⟩
abbrev cX11_thing : ByteArray := prog_1_method_2_code
def yX11_thing : MethodName := ⟨RX11, "thing", "(II)I"⟩
abbrev cX11_thingIs : ByteArray := prog_1_method_3_code
def yX11_thingIs : MethodName := ⟨RX11, "thingIs", "(II)I"⟩
abbrev cX11_moves : ByteArray := prog_1_method_4_code
def yX11_moves : MethodName := ⟨RX11, "moves", "(III)I"⟩
abbrev cX11_away : ByteArray := prog_1_method_5_code
def yX11_away : MethodName := ⟨RX11, "away", "(I)I"⟩
abbrev cX11_kind : ByteArray := prog_1_method_6_code
def yX11_kind : MethodName := ⟨RX11, "kind", "(III)I"⟩
abbrev cX11_at : ByteArray := prog_1_method_7_code
def yX11_at : MethodName := ⟨RX11, "at", "(I)I"⟩
abbrev cX11_lays : ByteArray := prog_1_method_8_code
def yX11_lays : MethodName := ⟨RX11, "lays", "(II)I"⟩
abbrev cX11_air : ByteArray := prog_1_method_9_code
def yX11_air : MethodName := ⟨RX11, "air", "(II)I"⟩
abbrev cX11_walker : ByteArray := prog_1_method_10_code
def yX11_walker : MethodName := ⟨RX11, "walker", "(III)I"⟩
abbrev cX11_walkerIs : ByteArray := prog_1_method_11_code
def yX11_walkerIs : MethodName := ⟨RX11, "walkerIs", "(II)I"⟩
abbrev cX11_as : ByteArray := prog_1_method_12_code
def yX11_as : MethodName := ⟨RX11, "as", "(II)I"⟩
abbrev cX11_habit : ByteArray := prog_1_method_13_code
def yX11_habit : MethodName := ⟨RX11, "habit", "(IIII)I"⟩
abbrev cX11_face : ByteArray := prog_1_method_14_code
def yX11_face : MethodName := ⟨RX11, "face", "(II)I"⟩
abbrev cX11_goes : ByteArray := prog_1_method_15_code
def yX11_goes : MethodName := ⟨RX11, "goes", "(IZ)I"⟩
abbrev cX11_feed : ByteArray := prog_1_method_16_code
def yX11_feed : MethodName := ⟨RX11, "feed", "(JI)I"⟩
abbrev cX11_text : ByteArray := prog_1_method_17_code
def yX11_text : MethodName := ⟨RX11, "text", "(I)I"⟩
abbrev cX11_echo : ByteArray := prog_1_method_18_code
def yX11_echo : MethodName := ⟨RX11, "echo", "(IIII)I"⟩
abbrev cX11_click : ByteArray := prog_1_method_19_code
def yX11_click : MethodName := ⟨RX11, "click", "(I)I"⟩
abbrev cX11_head : ByteArray := prog_1_method_20_code
def yX11_head : MethodName := ⟨RX11, "head", "(III)I"⟩
abbrev cX11_heads : ByteArray := prog_1_method_21_code
def yX11_heads : MethodName := ⟨RX11, "heads", "(II)I"⟩
abbrev cX11_alike : ByteArray := prog_1_method_22_code
def yX11_alike : MethodName := ⟨RX11, "alike", "(IIIII)I"⟩
abbrev cX11_least : ByteArray := prog_1_method_23_code
def yX11_least : MethodName := ⟨RX11, "least", "(IIII)I"⟩
abbrev cX11_farthest : ByteArray := prog_1_method_24_code
def yX11_farthest : MethodName := ⟨RX11, "farthest", "(III)I"⟩
abbrev cX11_spots : ByteArray := prog_1_method_25_code
def yX11_spots : MethodName := ⟨RX11, "spots", "(IIII)I"⟩
abbrev cX11_tenths : ByteArray := prog_1_method_26_code
def yX11_tenths : MethodName := ⟨RX11, "tenths", "(I)I"⟩
abbrev cX11_way : ByteArray := prog_1_method_27_code
def yX11_way : MethodName := ⟨RX11, "way", "(III)I"⟩
abbrev cX11_safe : ByteArray := prog_1_method_28_code
def yX11_safe : MethodName := ⟨RX11, "safe", "(I)I"⟩
abbrev cX11_lesson : ByteArray := prog_1_method_29_code
def yX11_lesson : MethodName := ⟨RX11, "lesson", "(III)I"⟩
abbrev cX11_learn : ByteArray := prog_1_method_30_code
def yX11_learn : MethodName := ⟨RX11, "learn", "(III)I"⟩
abbrev cX11_posts : ByteArray := prog_1_method_31_code
def yX11_posts : MethodName := ⟨RX11, "posts", "(IIII)I"⟩
abbrev cX11_voice : ByteArray := prog_1_method_32_code
def yX11_voice : MethodName := ⟨RX11, "voice", "(III)I"⟩
abbrev cX11_trace : ByteArray := prog_1_method_33_code
def yX11_trace : MethodName := ⟨RX11, "trace", "(I)I"⟩
abbrev cX11_sheet : ByteArray := prog_1_method_34_code
def yX11_sheet : MethodName := ⟨RX11, "sheet", "(III)I"⟩
abbrev cX11_put : ByteArray := prog_1_method_35_code
def yX11_put : MethodName := ⟨RX11, "put", "(III)I"⟩
abbrev cX11_move : ByteArray := prog_1_method_36_code
def yX11_move : MethodName := ⟨RX11, "move", "(IIIII)I"⟩
abbrev cX11_image : ByteArray := prog_1_method_37_code
def yX11_image : MethodName := ⟨RX11, "image", "()I"⟩
abbrev cX11_restore : ByteArray := prog_1_method_38_code
def yX11_restore : MethodName := ⟨RX11, "restore", "()I"⟩
abbrev cX11_tell : ByteArray := prog_1_method_39_code
def yX11_tell : MethodName := ⟨RX11, "tell", "(I)I"⟩
abbrev cX11_check : ByteArray := prog_1_method_40_code
def yX11_check : MethodName := ⟨RX11, "check", "(I)I"⟩
abbrev cX11_count : ByteArray := prog_1_method_41_code
def yX11_count : MethodName := ⟨RX11, "count", "(I)I"⟩
abbrev cX11_told : ByteArray := prog_1_method_42_code
def yX11_told : MethodName := ⟨RX11, "told", "(I)I"⟩
abbrev cX11_error : ByteArray := prog_1_method_43_code
def yX11_error : MethodName := ⟨RX11, "error", "(I)I"⟩
abbrev cX11_within : ByteArray := prog_1_method_44_code
def yX11_within : MethodName := ⟨RX11, "within", "(III)Z"⟩
abbrev cX11_isThingKind : ByteArray := prog_1_method_45_code
def yX11_isThingKind : MethodName := ⟨RX11, "isThingKind", "(I)Z"⟩
abbrev cX11_isWalkerKind : ByteArray := prog_1_method_46_code
def yX11_isWalkerKind : MethodName := ⟨RX11, "isWalkerKind", "(I)Z"⟩
abbrev cX11_isSheet : ByteArray := prog_1_method_47_code
def yX11_isSheet : MethodName := ⟨RX11, "isSheet", "(I)Z"⟩
abbrev cX11_isBits : ByteArray := prog_1_method_48_code
def yX11_isBits : MethodName := ⟨RX11, "isBits", "(I)Z"⟩
def RX12 : String := "ClickStreetModel"
def TX12 : u_T := fun k => match k with
  | 0 => ("ClickStreetModel", "now", "[I", true)
  | 1 => ("ClickStreetModel", "kept", "[I", true)
  | 2 => ("ClickStreetModel", "aside", "[I", true)
  | 3 => ("ClickStreetModel", "images", "I", false)
  | 4 => ("ClickStreetModel", "found", "[I", true)
  | 5 => ("ClickStreetModel", "EAST", "[I", true)
  | 6 => ("ClickStreetModel", "SOUTH", "[I", true)
  | 7 => ("ClickStreetModel", "unseen", "I", false)
  | 8 => ("ClickStreetModel", "NAMED", "[Ljava/lang/String;", true)
  | 9 => ("ClickStreetModel", "at", "I", false)
  | 10 => ("ClickStreetModel", "use", "I", false)
  | 11 => ("ClickStreetModel", "open", "I", false)
  | 12 => ("ClickStreetModel", "told", "I", false)
  | 13 => ("ClickStreetModel", "isWrong", "Z", false)
  | 14 => ("ClickStreetModel", "coded", "I", false)
  | 15 => ("ClickStreetModel", "code", "[I", true)
  | 16 => ("ClickStreetModel", "named", "[I", true)
  | 17 => ("ClickStreetModel", "pile", "[I", true)
  | 18 => ("ClickStreetModel", "tells", "[Z", true)
  | 19 => ("ClickStreetModel", "far", "[I", true)
  | 20 => ("ClickStreetModel", "row", "[I", true)
  | 21 => ("ClickStreetModel", "bestRow", "[I", true)
  | 22 => ("ClickStreetModel", "bestMany", "I", false)
  | 23 => ("ClickStreetModel", "bestMinutes", "I", false)
  | 24 => ("ClickStreetModel", "posted", "[I", true)
  | 25 => ("ClickStreetModel", "trace", "[I", true)
  | 26 => ("ClickStreetModel", "traced", "I", false)
  | 27 => ("ClickStreetModel", "speaker", "I", false)
  | 28 => ("ClickStreetModel", "isParted", "Z", false)
  | 29 => ("ClickStreetModel", "widths", "[I", true)
  | 30 => ("ClickStreetModel", "sizes", "[I", true)
  | 31 => ("ClickStreetModel", "numbers", "[I", true)
  | _ => ("ClickStreetModel", "carried", "[I", true)
def tyX12 : Nat → FieldType := fun k => match k with
  | 0 => .array .int
  | 1 => .array .int
  | 2 => .array .int
  | 3 => .int
  | 4 => .array .int
  | 5 => .array .int
  | 6 => .array .int
  | 7 => .int
  | 8 => .array (.object "java/lang/String")
  | 9 => .int
  | 10 => .int
  | 11 => .int
  | 12 => .int
  | 13 => .boolean
  | 14 => .int
  | 15 => .array .int
  | 16 => .array .int
  | 17 => .array .int
  | 18 => .array .boolean
  | 19 => .array .int
  | 20 => .array .int
  | 21 => .array .int
  | 22 => .int
  | 23 => .int
  | 24 => .array .int
  | 25 => .array .int
  | 26 => .int
  | 27 => .int
  | 28 => .boolean
  | 29 => .array .int
  | 30 => .array .int
  | 31 => .array .int
  | _ => .array .int
theorem nmX12 : ∀ a, a < 33 → ∀ b, b < 33 → a ≠ b → (TX12 a).2.1 ≠ (TX12 b).2.1 := by decide +kernel
theorem tyX12_ok : ∀ k, k < 33 → parseFieldDescriptor (TX12 k).2.2.1 = some (tyX12 k) := by decide +kernel
abbrev cX12_init : ByteArray := prog_14_method_1_code
def yX12_init : MethodName := ⟨RX12, "<init>", "()V"⟩
abbrev cX12_finding : ByteArray := prog_14_method_2_code
def yX12_finding : MethodName := ⟨RX12, "finding", "(I)I"⟩
abbrev cX12_within : ByteArray := prog_14_method_3_code
def yX12_within : MethodName := ⟨RX12, "within", "(III)Z"⟩
abbrev cX12_is : ByteArray := prog_14_method_4_code
def yX12_is : MethodName := ⟨RX12, "is", "(II)Z"⟩
abbrev cX12_isCell : ByteArray := prog_14_method_5_code
def yX12_isCell : MethodName := ⟨RX12, "isCell", "(I)Z"⟩
abbrev cX12_isSide : ByteArray := prog_14_method_6_code
def yX12_isSide : MethodName := ⟨RX12, "isSide", "(I)Z"⟩
abbrev cX12_become : ByteArray := prog_14_method_7_code
def yX12_become : MethodName := ⟨RX12, "become", "(II)I"⟩
abbrev cX12_thing : ByteArray := prog_14_method_8_code
def yX12_thing : MethodName := ⟨RX12, "thing", "(I)I"⟩
abbrev cX12_goer : ByteArray := prog_14_method_9_code
def yX12_goer : MethodName := ⟨RX12, "goer", "(I)I"⟩
abbrev cX12_on : ByteArray := prog_14_method_10_code
def yX12_on : MethodName := ⟨RX12, "on", "(III)I"⟩
abbrev cX12_in : ByteArray := prog_14_method_11_code
def yX12_in : MethodName := ⟨RX12, "in", "(I)I"⟩
abbrev cX12_isFree : ByteArray := prog_14_method_12_code
def yX12_isFree : MethodName := ⟨RX12, "isFree", "(I)Z"⟩
abbrev cX12_thing_ : ByteArray := prog_14_method_13_code
def yX12_thing_ : MethodName := ⟨RX12, "thing", "(II)I"⟩
abbrev cX12_comes : ByteArray := prog_14_method_14_code
def yX12_comes : MethodName := ⟨RX12, "comes", "(II)I"⟩
abbrev cX12_thingIs : ByteArray := prog_14_method_15_code
def yX12_thingIs : MethodName := ⟨RX12, "thingIs", "(II)I"⟩
abbrev cX12_moves : ByteArray := prog_14_method_16_code
def yX12_moves : MethodName := ⟨RX12, "moves", "(III)I"⟩
abbrev cX12_away : ByteArray := prog_14_method_17_code
def yX12_away : MethodName := ⟨RX12, "away", "(I)I"⟩
abbrev cX12_kind : ByteArray := prog_14_method_18_code
def yX12_kind : MethodName := ⟨RX12, "kind", "(III)I"⟩
abbrev cX12_at : ByteArray := prog_14_method_19_code
def yX12_at : MethodName := ⟨RX12, "at", "(I)I"⟩
abbrev cX12_lays : ByteArray := prog_14_method_20_code
def yX12_lays : MethodName := ⟨RX12, "lays", "(II)I"⟩
abbrev cX12_air : ByteArray := prog_14_method_21_code
def yX12_air : MethodName := ⟨RX12, "air", "(II)I"⟩
abbrev cX12_walker : ByteArray := prog_14_method_22_code
def yX12_walker : MethodName := ⟨RX12, "walker", "(III)I"⟩
abbrev cX12_above : ByteArray := prog_14_method_23_code
def yX12_above : MethodName := ⟨RX12, "above", "(I)I"⟩
abbrev cX12_isUnder : ByteArray := prog_14_method_24_code
def yX12_isUnder : MethodName := ⟨RX12, "isUnder", "(II)Z"⟩
abbrev cX12_reachOf : ByteArray := prog_14_method_25_code
def yX12_reachOf : MethodName := ⟨RX12, "reachOf", "(I)I"⟩
abbrev cX12_kindOf : ByteArray := prog_14_method_26_code
def yX12_kindOf : MethodName := ⟨RX12, "kindOf", "(I)I"⟩
abbrev cX12_reach : ByteArray := prog_14_method_27_code
def yX12_reach : MethodName := ⟨RX12, "reach", "(I)I"⟩
abbrev cX12_ears : ByteArray := prog_14_method_28_code
def yX12_ears : MethodName := ⟨RX12, "ears", "(I)I"⟩
abbrev cX12_walkerIs : ByteArray := prog_14_method_29_code
def yX12_walkerIs : MethodName := ⟨RX12, "walkerIs", "(II)I"⟩
abbrev cX12_as : ByteArray := prog_14_method_30_code
def yX12_as : MethodName := ⟨RX12, "as", "(II)I"⟩
abbrev cX12_habit : ByteArray := prog_14_method_31_code
def yX12_habit : MethodName := ⟨RX12, "habit", "(IIII)I"⟩
abbrev cX12_face : ByteArray := prog_14_method_32_code
def yX12_face : MethodName := ⟨RX12, "face", "(II)I"⟩
abbrev cX12_goes : ByteArray := prog_14_method_33_code
def yX12_goes : MethodName := ⟨RX12, "goes", "(IZ)I"⟩
abbrev cX12_feed : ByteArray := prog_14_method_34_code
def yX12_feed : MethodName := ⟨RX12, "feed", "(JI)I"⟩
abbrev cX12_here : ByteArray := prog_14_method_35_code
def yX12_here : MethodName := ⟨RX12, "here", "()I"⟩
abbrev cX12_takes : ByteArray := prog_14_method_36_code
def yX12_takes : MethodName := ⟨RX12, "takes", "(I)Z"⟩
abbrev cX12_codes : ByteArray := prog_14_method_37_code
def yX12_codes : MethodName := ⟨RX12, "codes", "(I)V"⟩
abbrev cX12_must : ByteArray := prog_14_method_38_code
def yX12_must : MethodName := ⟨RX12, "must", "(I)V"⟩
abbrev cX12_text : ByteArray := prog_14_method_39_code
def yX12_text : MethodName := ⟨RX12, "text", "()V"⟩
abbrev cX12_sum : ByteArray := prog_14_method_40_code
def yX12_sum : MethodName := ⟨RX12, "sum", "()V"⟩
abbrev cX12_term : ByteArray := prog_14_method_41_code
def yX12_term : MethodName := ⟨RX12, "term", "()V"⟩
abbrev cX12_nameOf : ByteArray := prog_14_method_42_code
def yX12_nameOf : MethodName := ⟨RX12, "nameOf", "(I)I"⟩
abbrev cX12_opens : ByteArray := prog_14_method_43_code
def yX12_opens : MethodName := ⟨RX12, "opens", "(I)V"⟩
abbrev cX12_one : ByteArray := prog_14_method_44_code
def yX12_one : MethodName := ⟨RX12, "one", "()V"⟩
abbrev cX12_text_ : ByteArray := prog_14_method_45_code
def yX12_text_ : MethodName := ⟨RX12, "text", "(I)I"⟩
abbrev cX12_done : ByteArray := prog_14_method_46_code
def yX12_done : MethodName := ⟨RX12, "done", "(III)I"⟩
abbrev cX12_hasText : ByteArray := prog_14_method_47_code
def yX12_hasText : MethodName := ⟨RX12, "hasText", "(I)Z"⟩
abbrev cX12_given : ByteArray := prog_14_method_48_code
def yX12_given : MethodName := ⟨RX12, "given", "(I)I"⟩
abbrev cX12_late : ByteArray := prog_14_method_49_code
def yX12_late : MethodName := ⟨RX12, "late", "(II)I"⟩
abbrev cX12_strength : ByteArray := prog_14_method_50_code
def yX12_strength : MethodName := ⟨RX12, "strength", "(IIII)I"⟩
abbrev cX12_isHeard : ByteArray := prog_14_method_51_code
def yX12_isHeard : MethodName := ⟨RX12, "isHeard", "(IIIIII)Z"⟩
abbrev cX12_echoFrom : ByteArray := prog_14_method_52_code
def yX12_echoFrom : MethodName := ⟨RX12, "echoFrom", "(III)I"⟩
abbrev cX12_kindIn : ByteArray := prog_14_method_53_code
def yX12_kindIn : MethodName := ⟨RX12, "kindIn", "(I)I"⟩
abbrev cX12_isClick : ByteArray := prog_14_method_54_code
def yX12_isClick : MethodName := ⟨RX12, "isClick", "(I)Z"⟩
abbrev cX12_ear : ByteArray := prog_14_method_55_code
def yX12_ear : MethodName := ⟨RX12, "ear", "(IIII)I"⟩
abbrev cX12_echo : ByteArray := prog_14_method_56_code
def yX12_echo : MethodName := ⟨RX12, "echo", "(IIII)I"⟩
abbrev cX12_yes : ByteArray := prog_14_method_57_code
def yX12_yes : MethodName := ⟨RX12, "yes", "(II)I"⟩
abbrev cX12_no : ByteArray := prog_14_method_58_code
def yX12_no : MethodName := ⟨RX12, "no", "(II)I"⟩
abbrev cX12_more : ByteArray := prog_14_method_59_code
def yX12_more : MethodName := ⟨RX12, "more", "(II)V"⟩
abbrev cX12_heardFrom : ByteArray := prog_14_method_60_code
def yX12_heardFrom : MethodName := ⟨RX12, "heardFrom", "(III)I"⟩
abbrev cX12_clicks : ByteArray := prog_14_method_61_code
def yX12_clicks : MethodName := ⟨RX12, "clicks", "(I)I"⟩
abbrev cX12_click : ByteArray := prog_14_method_62_code
def yX12_click : MethodName := ⟨RX12, "click", "(I)I"⟩
abbrev cX12_held : ByteArray := prog_14_method_63_code
def yX12_held : MethodName := ⟨RX12, "held", "(II)I"⟩
abbrev cX12_head : ByteArray := prog_14_method_64_code
def yX12_head : MethodName := ⟨RX12, "head", "(III)I"⟩
abbrev cX12_heads : ByteArray := prog_14_method_65_code
def yX12_heads : MethodName := ⟨RX12, "heads", "(II)I"⟩
abbrev cX12_alike : ByteArray := prog_14_method_66_code
def yX12_alike : MethodName := ⟨RX12, "alike", "(IIIII)I"⟩
abbrev cX12_least : ByteArray := prog_14_method_67_code
def yX12_least : MethodName := ⟨RX12, "least", "(IIII)I"⟩
abbrev cX12_farthest : ByteArray := prog_14_method_68_code
def yX12_farthest : MethodName := ⟨RX12, "farthest", "(III)I"⟩
abbrev cX12_findTold : ByteArray := prog_14_method_69_code
def yX12_findTold : MethodName := ⟨RX12, "findTold", "(III)V"⟩
abbrev cX12_bits : ByteArray := prog_14_method_70_code
def yX12_bits : MethodName := ⟨RX12, "bits", "(I)I"⟩
abbrev cX12_toldBy : ByteArray := prog_14_method_71_code
def yX12_toldBy : MethodName := ⟨RX12, "toldBy", "(I)I"⟩
abbrev cX12_areCells : ByteArray := prog_14_method_72_code
def yX12_areCells : MethodName := ⟨RX12, "areCells", "(IZ)Z"⟩
abbrev cX12_spots : ByteArray := prog_14_method_73_code
def yX12_spots : MethodName := ⟨RX12, "spots", "(IIII)I"⟩
abbrev cX12_thingGoes : ByteArray := prog_14_method_74_code
def yX12_thingGoes : MethodName := ⟨RX12, "thingGoes", "(I)V"⟩
abbrev cX12_fullAhead : ByteArray := prog_14_method_75_code
def yX12_fullAhead : MethodName := ⟨RX12, "fullAhead", "(II)I"⟩
abbrev cX12_habitOf : ByteArray := prog_14_method_76_code
def yX12_habitOf : MethodName := ⟨RX12, "habitOf", "(I)I"⟩
abbrev cX12_goesOn : ByteArray := prog_14_method_77_code
def yX12_goesOn : MethodName := ⟨RX12, "goesOn", "(I)V"⟩
abbrev cX12_walkerGoes : ByteArray := prog_14_method_78_code
def yX12_walkerGoes : MethodName := ⟨RX12, "walkerGoes", "(I)V"⟩
abbrev cX12_tenth : ByteArray := prog_14_method_79_code
def yX12_tenth : MethodName := ⟨RX12, "tenth", "()V"⟩
abbrev cX12_tenths : ByteArray := prog_14_method_80_code
def yX12_tenths : MethodName := ⟨RX12, "tenths", "(I)I"⟩
abbrev cX12_cost : ByteArray := prog_14_method_81_code
def yX12_cost : MethodName := ⟨RX12, "cost", "(II)I"⟩
abbrev cX12_findFar : ByteArray := prog_14_method_82_code
def yX12_findFar : MethodName := ⟨RX12, "findFar", "(II)V"⟩
abbrev cX12_way : ByteArray := prog_14_method_83_code
def yX12_way : MethodName := ⟨RX12, "way", "(III)I"⟩
abbrev cX12_safe : ByteArray := prog_14_method_84_code
def yX12_safe : MethodName := ⟨RX12, "safe", "(I)I"⟩
abbrev cX12_lesson : ByteArray := prog_14_method_85_code
def yX12_lesson : MethodName := ⟨RX12, "lesson", "(III)I"⟩
abbrev cX12_tryRows : ByteArray := prog_14_method_86_code
def yX12_tryRows : MethodName := ⟨RX12, "tryRows", "(IIIII)V"⟩
abbrev cX12_learn : ByteArray := prog_14_method_87_code
def yX12_learn : MethodName := ⟨RX12, "learn", "(III)I"⟩
abbrev cX12_isPost : ByteArray := prog_14_method_88_code
def yX12_isPost : MethodName := ⟨RX12, "isPost", "(III)Z"⟩
abbrev cX12_posts : ByteArray := prog_14_method_89_code
def yX12_posts : MethodName := ⟨RX12, "posts", "(IIII)I"⟩
abbrev cX12_began : ByteArray := prog_14_method_90_code
def yX12_began : MethodName := ⟨RX12, "began", "(I)V"⟩
abbrev cX12_hasOwn : ByteArray := prog_14_method_91_code
def yX12_hasOwn : MethodName := ⟨RX12, "hasOwn", "(II)Z"⟩
abbrev cX12_voiced : ByteArray := prog_14_method_92_code
def yX12_voiced : MethodName := ⟨RX12, "voiced", "(II)I"⟩
abbrev cX12_bodyFrom : ByteArray := prog_14_method_93_code
def yX12_bodyFrom : MethodName := ⟨RX12, "bodyFrom", "(III)I"⟩
abbrev cX12_body : ByteArray := prog_14_method_94_code
def yX12_body : MethodName := ⟨RX12, "body", "(III)I"⟩
abbrev cX12_voice : ByteArray := prog_14_method_95_code
def yX12_voice : MethodName := ⟨RX12, "voice", "(III)I"⟩
abbrev cX12_trace : ByteArray := prog_14_method_96_code
def yX12_trace : MethodName := ⟨RX12, "trace", "(I)I"⟩
abbrev cX12_isSheet : ByteArray := prog_14_method_97_code
def yX12_isSheet : MethodName := ⟨RX12, "isSheet", "(I)Z"⟩
abbrev cX12_sheet : ByteArray := prog_14_method_98_code
def yX12_sheet : MethodName := ⟨RX12, "sheet", "(III)I"⟩
abbrev cX12_put : ByteArray := prog_14_method_99_code
def yX12_put : MethodName := ⟨RX12, "put", "(III)I"⟩
abbrev cX12_move : ByteArray := prog_14_method_100_code
def yX12_move : MethodName := ⟨RX12, "move", "(IIIII)I"⟩
abbrev cX12_copy : ByteArray := prog_14_method_101_code
def yX12_copy : MethodName := ⟨RX12, "copy", "([I[I)V"⟩
abbrev cX12_image : ByteArray := prog_14_method_102_code
def yX12_image : MethodName := ⟨RX12, "image", "()I"⟩
abbrev cX12_restore : ByteArray := prog_14_method_103_code
def yX12_restore : MethodName := ⟨RX12, "restore", "()I"⟩
abbrev cX12_tell : ByteArray := prog_14_method_104_code
def yX12_tell : MethodName := ⟨RX12, "tell", "(I)I"⟩
abbrev cX12_check : ByteArray := prog_14_method_105_code
def yX12_check : MethodName := ⟨RX12, "check", "(I)I"⟩
abbrev cX12_sumOf : ByteArray := prog_14_method_106_code
def yX12_sumOf : MethodName := ⟨RX12, "sumOf", "(I)I"⟩
abbrev cX12_count : ByteArray := prog_14_method_107_code
def yX12_count : MethodName := ⟨RX12, "count", "(I)I"⟩
abbrev cX12_told : ByteArray := prog_14_method_108_code
def yX12_told : MethodName := ⟨RX12, "told", "(I)I"⟩
def RL : String := "ClickStreetLaw"
def BASE : List Cond := lw_tbl.filter goodWord
def wsO (y : MethodName) (b : ByteArray) (n : Nat) (r : Option FieldType) : List Cond := .code y b n r :: BASE
abbrev classes : List vw_C := [(RX0, TX0, 6), (RX1, TX1, 3), (RX2, TX2, 7), (RX3, TX3, 9), (RX4, TX4, 7), (RX5, TX5, 2), (RX6, TX6, 3), (RX7, TX7, 6), (RX8, TX8, 6), (RX9, TX9, 11), (RX10, TX10, 8), (RX11, TX11, 9), (RX12, TX12, 33)]
def NFs : List (String × Nat × String × String × String × String) := [(RX10, 72, "ClickStreet$Street", "occupants", "[I", "ClickStreet"), (RX11, 124, "ClickStreet$Street", "occupants", "[I", "ClickStreet"), (RX11, 99, "ClickStreet$Street", "kinds", "[I", "ClickStreet"), (RX11, 102, "ClickStreet$Street", "cells", "[I", "ClickStreet"), (RX11, 105, "ClickStreet$Street", "sides", "[I", "ClickStreet"), (RX11, 108, "ClickStreet$Street", "steps", "[I", "ClickStreet"), (RX11, 210, "ClickStreet$Laws", "texts", "[LClickStreet$Formula;", "ClickStreet"), (RX4, 65, "ClickStreet$Row", "size", "I", "ClickStreet"), (RX3, 70, "ClickStreet$Row", "size", "I", "ClickStreet"), (RX11, 205, "ClickStreet$Row", "size", "I", "ClickStreet"), (RX11, 391, "ClickStreet$Lessons", "size", "I", "ClickStreet"), (RX11, 328, "ClickStreet$Lessons", "best", "LClickStreet$Row;", "ClickStreet"), (RX11, 325, "ClickStreet$Lessons", "fewestMinutes", "I", "ClickStreet"), (RX8, 38, "ClickStreet$Walker", "kind", "I", "ClickStreet"), (RX0, 56, "ClickStreet$Walker", "cell", "I", "ClickStreet"), (RX10, 109, "ClickStreet$Walker", "cell", "I", "ClickStreet"), (RX11, 229, "ClickStreet$Walker", "cell", "I", "ClickStreet"), (RX10, 119, "ClickStreet$Walker", "side", "I", "ClickStreet"), (RX11, 185, "ClickStreet$Walker", "side", "I", "ClickStreet"), (RX8, 41, "ClickStreet$Walker", "pitch", "I", "ClickStreet"), (RX11, 176, "ClickStreet$Walker", "pitch", "I", "ClickStreet"), (RX11, 179, "ClickStreet$Walker", "loudness", "I", "ClickStreet"), (RX11, 182, "ClickStreet$Walker", "every", "I", "ClickStreet"), (RX10, 151, "ClickStreet$Walker", "every", "I", "ClickStreet"), (RX10, 144, "ClickStreet$Walker", "isGoing", "Z", "ClickStreet"), (RX11, 188, "ClickStreet$Walker", "isGoing", "Z", "ClickStreet"), (RX10, 66, "ClickStreet$Walker", "bumps", "I", "ClickStreet"), (RX10, 69, "ClickStreet$Walker", "clicks", "I", "ClickStreet"), (RX11, 242, "ClickStreet$Walker", "yes", "[I", "ClickStreet"), (RX11, 245, "ClickStreet$Walker", "no", "[I", "ClickStreet"), (RX11, 71, "ClickStreet$World", "street", "LClickStreet$Street;", "ClickStreet"), (RX0, 70, "ClickStreet$World", "street", "LClickStreet$Street;", "ClickStreet"), (RX11, 114, "ClickStreet$World", "laws", "LClickStreet$Laws;", "ClickStreet"), (RX0, 126, "ClickStreet$World", "laws", "LClickStreet$Laws;", "ClickStreet"), (RX11, 313, "ClickStreet$World", "lessons", "LClickStreet$Lessons;", "ClickStreet"), (RX11, 192, "ClickStreet$World", "tape", "LClickStreet$Row;", "ClickStreet"), (RX11, 385, "ClickStreet$World", "waiting", "LClickStreet$Row;", "ClickStreet"), (RX0, 97, "ClickStreet$World", "walkers", "[LClickStreet$Walker;", "ClickStreet"), (RX11, 157, "ClickStreet$World", "walkers", "[LClickStreet$Walker;", "ClickStreet"), (RX11, 148, "ClickStreet$World", "walkerCount", "I", "ClickStreet"), (RX11, 290, "ClickStreet$World", "now", "I", "ClickStreet"), (RX11, 214, "ClickStreet$Reader", "draft", "LClickStreet$Formula;", "ClickStreet"), (RX11, 284, "ClickStreet$Finder", "most", "I", "ClickStreet"), (RX11, 287, "ClickStreet$Finder", "places", "I", "ClickStreet"), (RX11, 353, "ClickStreet$Voices", "trace", "LClickStreet$Row;", "ClickStreet"), (RX11, 347, "ClickStreet$Voices", "isParted", "Z", "ClickStreet"), (RX11, 133, "ClickStreet$Sheet", "bits", "I", "ClickStreet"), (RX0, 65, "ClickStreet$Sheet", "size", "I", "ClickStreet"), (RX11, 136, "ClickStreet$Sheet", "size", "I", "ClickStreet"), (RX11, 373, "ClickStreet$Sheet", "numbers", "[I", "ClickStreet")]
def NMs : List (String × Nat × MethodName × String) := [(RX2, 37, yX1_init, "ClickStreet"), (RX10, 25, yX3_init, "ClickStreet"), (RX10, 57, yX9_init, "ClickStreet"), (RX11, 34, yX4_init, "ClickStreet"), (RX4, 9, yX1_init, "ClickStreet"), (RX11, 41, yX0_init, "ClickStreet"), (RX11, 48, yX8_init, "ClickStreet"), (RX11, 57, yX6_init, "ClickStreet"), (RX2, 38, yX11_within, "ClickStreet")]
def NSs : List (String × Nat × String) := [(RX4, 25, ""), (RX4, 44, "loyp"), (RX4, 48, "snt"), (RX4, 50, "flrbt"), (RX12, 34, "loyp"), (RX12, 36, "snt"), (RX12, 38, "flrbt")]
def AOs : List String := ["ClickStreet$Formula", "ClickStreet$Walker", "ClickStreet$Sheet", "java/lang/String"]
abbrev TYS (cy : Nat → ClassId) : List (ClassId × FieldType) := [(cy 0, .int), (cy 1, .boolean), (cy 2, .long), (cy 3, .object "ClickStreet$Formula"), (cy 4, .object "ClickStreet$Walker"), (cy 5, .object "ClickStreet$Sheet"), (cy 6, .object "java/lang/String")]
end
section
/-! the base: one word list for every method, the environment that every contract carries, starts and calls in one row each -/
theorem bmem {w : Cond} (i : Nat) (h : lw_tbl[i]? = some w) (g : goodWord w = true) : w ∈ BASE := List.mem_filter.mpr ⟨List.mem_of_getElem? h, g⟩
theorem bmT1 {w : Cond} (i : Nat) (h : tables_1_1[i]? = some w) (g : goodWord w = true) : w ∈ BASE := List.mem_filter.mpr ⟨List.mem_append_right _ (tbM1 i h), g⟩
theorem bmT2 {w : Cond} (i : Nat) (h : tables_1_2[i]? = some w) (g : goodWord w = true) : w ∈ BASE := List.mem_filter.mpr ⟨List.mem_append_right _ (tbM2 i h), g⟩
theorem bmT3 {w : Cond} (i : Nat) (h : tables_1_3[i]? = some w) (g : goodWord w = true) : w ∈ BASE := List.mem_filter.mpr ⟨List.mem_append_right _ (tbM3 i h), g⟩
theorem bmT4 {w : Cond} (i : Nat) (h : tables_1_4[i]? = some w) (g : goodWord w = true) : w ∈ BASE := List.mem_filter.mpr ⟨List.mem_append_right _ (tbM4 i h), g⟩
theorem bmT5 {w : Cond} (i : Nat) (h : tables_1_5[i]? = some w) (g : goodWord w = true) : w ∈ BASE := List.mem_filter.mpr ⟨List.mem_append_right _ (tbM5 i h), g⟩
theorem bmT6 {w : Cond} (i : Nat) (h : tables_1_6[i]? = some w) (g : goodWord w = true) : w ∈ BASE := List.mem_filter.mpr ⟨List.mem_append_right _ (tbM6 i h), g⟩
theorem bmT7 {w : Cond} (i : Nat) (h : tables_1_7[i]? = some w) (g : goodWord w = true) : w ∈ BASE := List.mem_filter.mpr ⟨List.mem_append_right _ (tbM7 i h), g⟩
theorem bmT8 {w : Cond} (i : Nat) (h : tables_1_8[i]? = some w) (g : goodWord w = true) : w ∈ BASE := List.mem_filter.mpr ⟨List.mem_append_right _ (tbM8 i h), g⟩
theorem b_in {L : List Cond} (h : ∀ w ∈ L, w ∈ BASE) : GoodIn BASE L := fun w hw => ⟨h w hw, good_of_word (List.mem_filter.mp (h w hw)).2⟩
def KS (y : MethodName) (b : ByteArray) (n : Nat) (r : Option FieldType) (k : Nat) : Prop := Cond.static y ∈ BASE ∧ Cond.initialized y.cls ∈ BASE ∧ Cond.code y b n r ∈ BASE ∧ y.cls ≠ "java/lang/invoke/MethodHandle" ∧ y.cls ≠ "java/lang/invoke/VarHandle" ∧ (parseMethodDescriptor y.desc).map (fun d => d.parameters.length) = some k
def KV (y : MethodName) (b : ByteArray) (n : Nat) (r : Option FieldType) (k : Nat) : Prop := Cond.instanceMethod y ∈ BASE ∧ Cond.selects y.cls y y ∈ BASE ∧ Cond.initialized y.cls ∈ BASE ∧ Cond.code y b n r ∈ BASE ∧ y.cls ≠ "java/lang/invoke/MethodHandle" ∧ y.cls ≠ "java/lang/invoke/VarHandle" ∧ (parseMethodDescriptor y.desc).map (fun d => d.parameters.length) = some k
def KI (y : MethodName) (b : ByteArray) (n : Nat) (k : Nat) : Prop := Cond.instanceMethod y ∈ BASE ∧ y.name = "<init>" ∧ Cond.initialized y.cls ∈ BASE ∧ Cond.code y b n none ∈ BASE ∧ y.cls ≠ "java/lang/invoke/MethodHandle" ∧ y.cls ≠ "java/lang/invoke/VarHandle" ∧ (parseMethodDescriptor y.desc).map (fun d => d.parameters.length) = some k
theorem nhM_0 : RX11 ≠ "java/lang/invoke/MethodHandle" := by decide +kernel
theorem nhV_0 : RX11 ≠ "java/lang/invoke/VarHandle" := by decide +kernel
theorem nhM_1 : RX7 ≠ "java/lang/invoke/MethodHandle" := by decide +kernel
theorem nhV_1 : RX7 ≠ "java/lang/invoke/VarHandle" := by decide +kernel
theorem nhM_2 : RX5 ≠ "java/lang/invoke/MethodHandle" := by decide +kernel
theorem nhV_2 : RX5 ≠ "java/lang/invoke/VarHandle" := by decide +kernel
theorem nhM_3 : RX9 ≠ "java/lang/invoke/MethodHandle" := by decide +kernel
theorem nhV_3 : RX9 ≠ "java/lang/invoke/VarHandle" := by decide +kernel
theorem nhM_4 : RX6 ≠ "java/lang/invoke/MethodHandle" := by decide +kernel
theorem nhV_4 : RX6 ≠ "java/lang/invoke/VarHandle" := by decide +kernel
theorem nhM_5 : RX2 ≠ "java/lang/invoke/MethodHandle" := by decide +kernel
theorem nhV_5 : RX2 ≠ "java/lang/invoke/VarHandle" := by decide +kernel
theorem nhM_6 : RX1 ≠ "java/lang/invoke/MethodHandle" := by decide +kernel
theorem nhV_6 : RX1 ≠ "java/lang/invoke/VarHandle" := by decide +kernel
theorem nhM_7 : RX10 ≠ "java/lang/invoke/MethodHandle" := by decide +kernel
theorem nhV_7 : RX10 ≠ "java/lang/invoke/VarHandle" := by decide +kernel
theorem nhM_8 : RX3 ≠ "java/lang/invoke/MethodHandle" := by decide +kernel
theorem nhV_8 : RX3 ≠ "java/lang/invoke/VarHandle" := by decide +kernel
theorem nhM_9 : "java/lang/Integer" ≠ "java/lang/invoke/MethodHandle" := by decide +kernel
theorem nhV_9 : "java/lang/Integer" ≠ "java/lang/invoke/VarHandle" := by decide +kernel
theorem nhM_10 : "java/lang/Long" ≠ "java/lang/invoke/MethodHandle" := by decide +kernel
theorem nhV_10 : "java/lang/Long" ≠ "java/lang/invoke/VarHandle" := by decide +kernel
theorem nhM_11 : RX0 ≠ "java/lang/invoke/MethodHandle" := by decide +kernel
theorem nhV_11 : RX0 ≠ "java/lang/invoke/VarHandle" := by decide +kernel
theorem nhM_12 : RX8 ≠ "java/lang/invoke/MethodHandle" := by decide +kernel
theorem nhV_12 : RX8 ≠ "java/lang/invoke/VarHandle" := by decide +kernel
theorem nhM_13 : "jdk/internal/util/Preconditions" ≠ "java/lang/invoke/MethodHandle" := by decide +kernel
theorem nhV_13 : "jdk/internal/util/Preconditions" ≠ "java/lang/invoke/VarHandle" := by decide +kernel
theorem nhM_14 : "java/lang/StringLatin1" ≠ "java/lang/invoke/MethodHandle" := by decide +kernel
theorem nhV_14 : "java/lang/StringLatin1" ≠ "java/lang/invoke/VarHandle" := by decide +kernel
theorem nhM_15 : "java/lang/String" ≠ "java/lang/invoke/MethodHandle" := by decide +kernel
theorem nhV_15 : "java/lang/String" ≠ "java/lang/invoke/VarHandle" := by decide +kernel
theorem nhM_16 : RX4 ≠ "java/lang/invoke/MethodHandle" := by decide +kernel
theorem nhV_16 : RX4 ≠ "java/lang/invoke/VarHandle" := by decide +kernel
theorem nhM_17 : RX12 ≠ "java/lang/invoke/MethodHandle" := by decide +kernel
theorem nhV_17 : RX12 ≠ "java/lang/invoke/VarHandle" := by decide +kernel
theorem pdn_0 : (parseMethodDescriptor "(III)Z").map (fun d => d.parameters.length) = some 3 := by decide +kernel
theorem pdn_1 : (parseMethodDescriptor "(I)Z").map (fun d => d.parameters.length) = some 1 := by decide +kernel
theorem pdn_2 : (parseMethodDescriptor "(I)I").map (fun d => d.parameters.length) = some 1 := by decide +kernel
theorem pdn_3 : (parseMethodDescriptor "(III)I").map (fun d => d.parameters.length) = some 3 := by decide +kernel
theorem pdn_4 : (parseMethodDescriptor "(I)V").map (fun d => d.parameters.length) = some 1 := by decide +kernel
theorem pdn_5 : (parseMethodDescriptor "(II)V").map (fun d => d.parameters.length) = some 2 := by decide +kernel
theorem pdn_6 : (parseMethodDescriptor "()I").map (fun d => d.parameters.length) = some 0 := by decide +kernel
theorem pdn_7 : (parseMethodDescriptor "(II)Z").map (fun d => d.parameters.length) = some 2 := by decide +kernel
theorem pdn_8 : (parseMethodDescriptor "(II)I").map (fun d => d.parameters.length) = some 2 := by decide +kernel
theorem pdn_9 : (parseMethodDescriptor "()Z").map (fun d => d.parameters.length) = some 0 := by decide +kernel
theorem pdn_10 : (parseMethodDescriptor "(LClickStreet$Formula;)V").map (fun d => d.parameters.length) = some 1 := by decide +kernel
theorem pdn_11 : (parseMethodDescriptor "([I)I").map (fun d => d.parameters.length) = some 1 := by decide +kernel
theorem pdn_12 : (parseMethodDescriptor "(IIIII)Z").map (fun d => d.parameters.length) = some 5 := by decide +kernel
theorem pdn_13 : (parseMethodDescriptor "(IIII)Z").map (fun d => d.parameters.length) = some 4 := by decide +kernel
theorem pdn_14 : (parseMethodDescriptor "(IIIII)I").map (fun d => d.parameters.length) = some 5 := by decide +kernel
theorem pdn_15 : (parseMethodDescriptor "(LClickStreet$Laws;)V").map (fun d => d.parameters.length) = some 1 := by decide +kernel
theorem pdn_16 : (parseMethodDescriptor "(LClickStreet$Lessons;)V").map (fun d => d.parameters.length) = some 1 := by decide +kernel
theorem pdn_17 : (parseMethodDescriptor "(LClickStreet$Row;)V").map (fun d => d.parameters.length) = some 1 := by decide +kernel
theorem pdn_18 : (parseMethodDescriptor "(LClickStreet$Street;)V").map (fun d => d.parameters.length) = some 1 := by decide +kernel
theorem pdn_19 : (parseMethodDescriptor "(III)V").map (fun d => d.parameters.length) = some 3 := by decide +kernel
theorem pdn_20 : (parseMethodDescriptor "(LClickStreet$Walker;)V").map (fun d => d.parameters.length) = some 1 := by decide +kernel
theorem pdn_21 : (parseMethodDescriptor "(J)I").map (fun d => d.parameters.length) = some 1 := by decide +kernel
theorem pdn_22 : (parseMethodDescriptor "(LClickStreet$Walker;I)I").map (fun d => d.parameters.length) = some 2 := by decide +kernel
theorem pdn_23 : (parseMethodDescriptor "(LClickStreet$World;III)Z").map (fun d => d.parameters.length) = some 4 := by decide +kernel
theorem pdn_24 : (parseMethodDescriptor "(LClickStreet$World;III)V").map (fun d => d.parameters.length) = some 4 := by decide +kernel
theorem pdn_25 : (parseMethodDescriptor "(IIII)I").map (fun d => d.parameters.length) = some 4 := by decide +kernel
theorem pdn_26 : (parseMethodDescriptor "(LClickStreet$Walker;II)I").map (fun d => d.parameters.length) = some 3 := by decide +kernel
theorem pdn_27 : (parseMethodDescriptor "(LClickStreet$World;ILClickStreet$Sheet;LClickStreet$Sheet;)Z").map (fun d => d.parameters.length) = some 4 := by decide +kernel
theorem pdn_28 : (parseMethodDescriptor "(LClickStreet$World;ILClickStreet$Sheet;I)Z").map (fun d => d.parameters.length) = some 4 := by decide +kernel
theorem pdn_29 : (parseMethodDescriptor "(LClickStreet$Walker;I)V").map (fun d => d.parameters.length) = some 2 := by decide +kernel
theorem pdn_30 : (parseMethodDescriptor "()V").map (fun d => d.parameters.length) = some 0 := by decide +kernel
theorem pdn_31 : (parseMethodDescriptor "(LClickStreet$World;)V").map (fun d => d.parameters.length) = some 1 := by decide +kernel
theorem pdn_32 : (parseMethodDescriptor "(LClickStreet$Walker;III)I").map (fun d => d.parameters.length) = some 4 := by decide +kernel
theorem pdn_33 : (parseMethodDescriptor "(IILjava/util/function/BiFunction;)I").map (fun d => d.parameters.length) = some 3 := by decide +kernel
theorem pdn_34 : (parseMethodDescriptor "([BI)C").map (fun d => d.parameters.length) = some 2 := by decide +kernel
theorem pdn_35 : (parseMethodDescriptor "([BIII)I").map (fun d => d.parameters.length) = some 4 := by decide +kernel
theorem pdn_36 : (parseMethodDescriptor "()B").map (fun d => d.parameters.length) = some 0 := by decide +kernel
theorem pdn_37 : (parseMethodDescriptor "(LClickStreet$Row;I)I").map (fun d => d.parameters.length) = some 2 := by decide +kernel
theorem pdn_38 : (parseMethodDescriptor "(IIIIII)Z").map (fun d => d.parameters.length) = some 6 := by decide +kernel
theorem pdn_39 : (parseMethodDescriptor "(IZ)Z").map (fun d => d.parameters.length) = some 2 := by decide +kernel
theorem pdn_40 : (parseMethodDescriptor "([I[I)V").map (fun d => d.parameters.length) = some 2 := by decide +kernel
theorem pdn_41 : (parseMethodDescriptor "(IIIII)V").map (fun d => d.parameters.length) = some 5 := by decide +kernel
theorem pdn_42 : (parseMethodDescriptor "(I)C").map (fun d => d.parameters.length) = some 1 := by decide +kernel
theorem pdn_43 : (parseMethodDescriptor "(JI)I").map (fun d => d.parameters.length) = some 2 := by decide +kernel
theorem pdn_44 : (parseMethodDescriptor "(IZ)I").map (fun d => d.parameters.length) = some 2 := by decide +kernel
theorem wsO_in {y : MethodName} {b : ByteArray} {n : Nat} {r : Option FieldType} (h : Cond.code y b n r ∈ BASE) : ∀ w ∈ wsO y b n r, w ∈ BASE := fun w hw => (List.mem_cons.mp hw).elim (fun e => e ▸ h) id
theorem gS {own : String} {idx : Nat} {y : MethodName} {b : ByteArray} {n : Nat} {r : Option FieldType} {k : Nat} (h : KS y b n r k) (hl : Cond.methodLink own idx y ∈ BASE) : GoodIn BASE (va_wsS own idx y (wsO y b n r)) := b_in fun w hw => by
  rcases List.mem_append.mp hw with q | q
  · simp only [List.mem_cons, List.not_mem_nil, or_false] at q
    rcases q with rfl | rfl | rfl
    · exact hl
    · exact h.1
    · exact h.2.1
  · exact wsO_in h.2.2.1 w q
theorem gV {own : String} {idx : Nat} {y : MethodName} {b : ByteArray} {n : Nat} {r : Option FieldType} {k : Nat} (h : KV y b n r k) (hl : Cond.methodLink own idx y ∈ BASE) : GoodIn BASE (wsV own idx y.cls y (wsO y b n r)) := b_in fun w hw => by
  rcases List.mem_append.mp hw with q | q
  · simp only [List.mem_cons, List.not_mem_nil, or_false] at q
    rcases q with rfl | rfl | rfl | rfl
    · exact hl
    · exact h.1
    · exact h.2.1
    · exact h.2.2.1
  · exact wsO_in h.2.2.2.1 w q
/-- what holds of the machine's tables all the way -/
def EN (G : va_G) (cy : Nat → ClassId) (sk : Nat → Nat) (U : State) : Prop :=
  va_K G classes (TYS cy) U ∧ (∀ q ∈ NFs, va_Nw (.fieldLinkNest q.1 q.2.1 q.2.2.1 q.2.2.2.1 q.2.2.2.2.1 q.2.2.2.2.2) U) ∧ (∀ q ∈ NMs, va_Nw (.methodLinkNest q.1 q.2.1 q.2.2.1 q.2.2.2) U) ∧ (∀ (k : Nat) (q : String × Nat × String), NSs[k]? = some q → vk_R q.1 q.2.1 q.2.2 (sk k) U) ∧ ∀ C ∈ AOs, va_AO C U
theorem EN.same {G : va_G} {cy : Nat → ClassId} {sk : Nat → Nat} {u U : State} (hv : U.vm = u.vm) (h : EN G cy sk u) : EN G cy sk U := by
  have hA : u.vm.Alike U.vm := by rw [hv]; exact Vm.Alike.refl _
  exact ⟨va_K.moved hA h.1, fun q hq => va_Nw.same rfl hv.symm (h.2.1 q hq), fun q hq => va_Nw.same rfl hv.symm (h.2.2.1 q hq), fun k q hq => vk_R.same hv (h.2.2.2.1 k q hq), fun C hC => va_AO.moved hA (h.2.2.2.2 C hC)⟩
theorem EN.warm {G : va_G} {cy : Nat → ClassId} {sk : Nat → Nat} {s U : State} (hW : s.WarmedH U.vm) (h : EN G cy sk s) : EN G cy sk U :=
  ⟨va_K.moved hW.alike h.1, fun q hq => va_Nw.warmF hW (h.2.1 q hq), fun q hq => va_Nw.warmM hW (h.2.2.1 q hq), fun k q hq => vk_R.warm hW (h.2.2.2.1 k q hq), fun C hC => va_AO.moved hW.alike (h.2.2.2.2 C hC)⟩
def PR (G : va_G) (cy : Nat → ClassId) (sk : Nat → Nat) (sz : Nat) (ws : va_W) (U : State) : Prop := U.heap.size = sz ∧ va_P G classes ws U.heap ∧ EN G cy sk U ∧ va_D (fun _ => True) ws
theorem PR_blind {av : List Value} {G : va_G} {cy : Nat → ClassId} {sk : Nat → Nat} {sz : Nat} {ws : va_W} : FrameBlind (va_Pc av (PR G cy sk sz ws)) := fun a U g mk h => ⟨h.1, h.2.1, h.2.2.1, EN.same (u := U) (U := U.calling g mk a) rfl h.2.2.2.1, h.2.2.2.2⟩
theorem PR_of {av : List Value} {G : va_G} {cy : Nat → ClassId} {sk : Nat → Nat} {H : Heap} {ws : va_W} {A : Nat → Prop} {s : State} (hP : va_P G classes ws H) (hD : va_D A ws) (hE : EN G cy sk s) : ∀ U : State, U.heap = H → s.WarmedH U.vm → va_Pc av (PR G cy sk H.size ws) av.toArray U :=
  fun U hU hW => ⟨rfl, by rw [hU], by rw [hU]; exact hP, hE.warm hW, hD.weaken (fun _ _ _ _ => trivial)⟩
theorem P_cut {G : va_G} {cl : List vw_C} {ws wc : va_W} {H : Heap} (h : va_P G cl ws H) (is : List Nat) (hC : is.map (fun i => ws[i]?) = wc.map some) : va_P G cl wc H := fun k q hk => by
  have h1 : (is.map (fun i => ws[i]?))[k]? = some (some q) := by rw [hC, List.getElem?_map, hk]; rfl
  rw [List.getElem?_map] at h1
  cases hi : is[k]? with
  | none => rw [hi] at h1; cases h1
  | some i => rw [hi] at h1; exact h i q (Option.some.inj h1)
theorem P_nil {G : va_G} {cl : List vw_C} {H : Heap} : va_P G cl [] H := fun k q h => by simp at h
theorem D_nil {A : Nat → Prop} : va_D A [] := ⟨fun i j p q h => by simp at h, fun k q h => by simp at h⟩
/-- the start of every contract's proof -/
theorem mt {l : Launch} {y : MethodName} {b : ByteArray} {n : Nat} {r : Option FieldType} {rm : Room} {G : va_G} {cy : Nat → ClassId} {sk : Nat → Nat} {sz : Nat} {WS : va_W} {av : List Value} {Qc : Array Value → State → Outcome → State → Prop} {mc ms : Nat} {free : Addr → Prop} (hy : plainName y.cls = true) (hn : (lg_sl av).length ≤ n)
    (body : ∀ (p : Program) (e : Env) (s : State) (m : MethodId) (below : List Frame) (meth : Method) (c : Code) (ls : Array Slot), p.tables.exec = Jvm.exec → c.code = b → meth.sig.returnType = r → c.maxLocals = n → (∀ w ∈ BASE, w.before av.toArray s = true) → s.vm.findClass y.cls = some m.cls → meth.locks = false → meth.name = y.name → s.heap.size = sz → va_P G classes WS s.heap → EN G cy sk s → va_D (fun _ => True) WS → lv_has ls n (lv_args 0 av) →
      W p l e (headSpec (wsO y b n r) rm).room s m av.toArray below meth c s.heap [] 0 0 (MQ below Qc av.toArray s mc ms free) (F0 m 0 ls [])) : Met l y (wsO y b n r) rm (va_Pc av (PR G cy sk sz WS)) Qc mc ms free := by
  refine Met.ofW (cc := b) (maxL := n) (ret := r) (ws' := BASE) hy rfl ?_
  intro p e s m args below meth c s₁ B hml hv
  obtain ⟨rfl, hsz, hP, hE, hD⟩ := hv
  have hts := atoms_spec (ws := wsO y b n r) B.pre
  rw [lg_entry_eq]
  exact body p e s m below meth c _ B.exec B.bytes B.returns hml (fun w hw => hts w (List.mem_cons_of_mem _ hw)) (findClass_of_methodNamed B.named) B.notSynchronized (name_of_methodNamed B.named B.method).1 hsz hP hE hD (lv_entry av hn)
section BASECALLS
variable {p : Program} {l : Launch} {e : Env} {R : Room} {s : State} {m : MethodId} {args : Array Value} {below : List Frame} {meth : Method} {c : Code} {H H0 : Heap} {locs : List Loc} {cells slots : Nat} {Q : State → Prop}
variable {cc : ByteArray} {pc : Nat} {ls : Array Slot} {rest st As : List Value} {G : va_G} {cy : Nat → ClassId} {sk : Nat → Nat} {ws wc wr : va_W} {A : Nat → Prop} {own : String} {idx mc ms nL n k : Nat} {y : MethodName} {b : ByteArray} {r : Option FieldType} {rm : Room} {a ci : Nat} {fs : List Value} {host : String}
theorem tp {x v : Int32} (h : x = v) (kk : W p l e R s m args below meth c H locs cells slots Q (F0 m pc ls (.int v :: rest))) : W p l e R s m args below meth c H locs cells slots Q (F0 m pc ls (.int x :: rest)) := h ▸ kk
theorem tpl {x v : Int64} (h : x = v) (kk : W p l e R s m args below meth c H locs cells slots Q (F0 m pc ls (.long v :: rest))) : W p l e R s m args below meth c H locs cells slots Q (F0 m pc ls (.long x :: rest)) := h ▸ kk
theorem recv0 (hE : EN G cy sk s) (hP : va_P G classes ws H) (q0 : Nat) (he : ws[q0]? = some (a, .inr (ci, fs))) {q : vw_C} (hc : classes[ci]? = some q) (hq : q.1 = y.cls) : ∃ cell : Cell, H[a]? = some cell ∧ cell.vm.isStatics = false ∧ s.vm.findClass y.cls = some cell.cls := hq ▸ va_recv hE.1 hP hc he
/-- a reader is called: int, static -/
theorem rS {post : Int32 → Prop} (hx : p.tables.exec = Jvm.exec) (hb : c.code = cc) (hml : c.maxLocals = nL) (hown : s.vm.findClass own = some m.cls) (hts : ∀ w ∈ BASE, w.before args s = true) (hE : EN G cy sk s) (hM : Met l y (wsO y b n r) rm (va_Pc As (PR G cy sk H.size wc)) (vp_Si post) 0 0 (fun _ => False)) (hy : KS y b n r k) (hl : Cond.methodLink own idx y ∈ BASE)
    (hrc : rm.cells = 0) (hrs : rm.slots = 0) (hR : rm.frames + 1 ≤ R.frames ∧ 8 + (n + 11) + rm.locals ≤ R.locals) (hP : va_P G classes ws H) (hD : va_D A ws) (is : List Nat) (hnd : va_nd is = true) (hC : is.map (fun i => ws[i]?) = wc.map some) (hst : st = As.reverse ++ rest) (hn : As.length = k) (hls : ls.size = nL) (hW : (rest.map fun v => v.category).sum ≤ 8) (hdg : decode cc pc = .ok (.invokestatic idx, 3)) (hf : cells ≤ R.cells ∧ slots ≤ R.slots)
    (kk : ∀ r : Int32, post r → W p l e R s m args below meth c H locs cells slots Q (F0 m (pc + 3) ls (.int r :: rest))) : W p l e R s m args below meth c H locs cells slots Q (F0 m pc ls st) :=
  vp_callSi (W.runS ⟨hx, hb, hml, hown, hts⟩ hM (va_cwS k hts (gS hy hl) rfl hrc hrs hy.2.2.2 hR) ⟨PR_blind, PR_of (P_cut hP is hC) (hD.sub is hnd hC) hE⟩ rfl hn hls hst (lv_room hW) hdg hf) kk
/-- a reader is called: int, virtual -/
theorem rV {post : Int32 → Prop} (hx : p.tables.exec = Jvm.exec) (hb : c.code = cc) (hml : c.maxLocals = nL) (hown : s.vm.findClass own = some m.cls) (hts : ∀ w ∈ BASE, w.before args s = true) (hE : EN G cy sk s) (hM : Met l y (wsO y b n r) rm (va_Pc (.ref a :: As) (PR G cy sk H.size wc)) (vp_Si post) 0 0 (fun _ => False)) (hy : KV y b n r k) (hl : Cond.methodLink own idx y ∈ BASE)
    (hrc : rm.cells = 0) (hrs : rm.slots = 0) (hR : rm.frames + 1 ≤ R.frames ∧ 8 + (n + 11) + rm.locals ≤ R.locals) (hP : va_P G classes ws H) (hD : va_D A ws) (q0 : Nat) (he : ws[q0]? = some (a, .inr (ci, fs))) {q : vw_C} (hc : classes[ci]? = some q) (hq : q.1 = y.cls) (is : List Nat) (hnd : va_nd is = true) (hC : is.map (fun i => ws[i]?) = wc.map some) (hst : st = As.reverse ++ .ref a :: rest) (hn : As.length = k) (hls : ls.size = nL) (hW : (rest.map fun v => v.category).sum ≤ 8) (hdg : decode cc pc = .ok (.invokevirtual idx, 3)) (hf : cells ≤ R.cells ∧ slots ≤ R.slots)
    (kk : ∀ r : Int32, post r → W p l e R s m args below meth c H locs cells slots Q (F0 m (pc + 3) ls (.int r :: rest))) : W p l e R s m args below meth c H locs cells slots Q (F0 m pc ls st) :=
  vp_callSi (W.runV ⟨hx, hb, hml, hown, hts⟩ hM (cwV k hts (gV hy hl) rfl hrc hrs ⟨rfl, hy.2.2.2.2⟩ hR) ⟨PR_blind, recv0 hE hP q0 he hc hq, PR_of (P_cut hP is hC) (hD.sub is hnd hC) hE⟩ rfl hn hls hst (lv_room hW) hdg hf) kk
/-- a reader is called: void, virtual -/
theorem rVv {post : Unit → Prop} (hx : p.tables.exec = Jvm.exec) (hb : c.code = cc) (hml : c.maxLocals = nL) (hown : s.vm.findClass own = some m.cls) (hts : ∀ w ∈ BASE, w.before args s = true) (hE : EN G cy sk s) (hM : Met l y (wsO y b n r) rm (va_Pc (.ref a :: As) (PR G cy sk H.size wc)) (va_Sv post) 0 0 (fun _ => False)) (hy : KV y b n r k) (hl : Cond.methodLink own idx y ∈ BASE)
    (hrc : rm.cells = 0) (hrs : rm.slots = 0) (hR : rm.frames + 1 ≤ R.frames ∧ 8 + (n + 11) + rm.locals ≤ R.locals) (hP : va_P G classes ws H) (hD : va_D A ws) (q0 : Nat) (he : ws[q0]? = some (a, .inr (ci, fs))) {q : vw_C} (hc : classes[ci]? = some q) (hq : q.1 = y.cls) (is : List Nat) (hnd : va_nd is = true) (hC : is.map (fun i => ws[i]?) = wc.map some) (hst : st = As.reverse ++ .ref a :: rest) (hn : As.length = k) (hls : ls.size = nL) (hW : (rest.map fun v => v.category).sum ≤ 8) (hdg : decode cc pc = .ok (.invokevirtual idx, 3)) (hf : cells ≤ R.cells ∧ slots ≤ R.slots)
    (kk : post () → W p l e R s m args below meth c H locs cells slots Q (F0 m (pc + 3) ls rest)) : W p l e R s m args below meth c H locs cells slots Q (F0 m pc ls st) :=
  va_csv (W.runV ⟨hx, hb, hml, hown, hts⟩ hM (cwV k hts (gV hy hl) rfl hrc hrs ⟨rfl, hy.2.2.2.2⟩ hR) ⟨PR_blind, recv0 hE hP q0 he hc hq, PR_of (P_cut hP is hC) (hD.sub is hnd hC) hE⟩ rfl hn hls hst (lv_room hW) hdg hf) kk
/-- what stands behind a writer's call: the rest is unchanged, what the callee gives back is joined -/
def AFT (G : va_G) (A : Nat → Prop) (wr : va_W) (B : Heap → Prop) (wc : va_W) (z : Nat) (H1 : Heap) : Prop := B H1 ∧ (∀ w1 : va_W, va_P G classes w1 H1 → va_D (va_A wc z) w1 → va_P G classes (wr ++ w1) H1 ∧ va_D A (wr ++ w1)) ∧ va_P G classes wr H1 ∧ va_D A wr
theorem aft (hP : va_P G classes ws H) (hD : va_D A ws) (is ir : List Nat) (hC : is.map (fun i => ws[i]?) = wc.map some) (hR : ir.map (fun i => ws[i]?) = wr.map some) (hnr : va_nd ir = true) (hdis : ∀ i ∈ ir, i ∉ is) (hF : ∀ q, va_A wc H.size q → A q) {B : Heap → Prop} {H1 : Heap} (hB : B H1) (hk : ∀ q : Nat, q < H.size → ¬ va_A wc H.size q → H1[q]? = H[q]?) : AFT G A wr B wc H.size H1 := by
  refine ⟨hB, fun w1 h1 h2 => va_join hP hD is ir hC hR hnr hdis hk hF h1 h2, ?_⟩
  have := va_join hP hD is ir hC hR hnr hdis hk hF (w1 := []) P_nil D_nil
  rw [List.append_nil] at this
  exact this
/-- a writer is called: int, virtual -/
theorem wV {post : Int32 → Prop} {B : Heap → Prop} (hx : p.tables.exec = Jvm.exec) (hb : c.code = cc) (hml : c.maxLocals = nL) (hown : s.vm.findClass own = some m.cls) (hts : ∀ w ∈ BASE, w.before args s = true) (hE : EN G cy sk s) (hM : Met l y (wsO y b n r) rm (va_Pc (.ref a :: As) (PR G cy sk H.size wc)) (va_Qi (fun r (_ : Unit) => post r) (fun _ t => B t.heap) (va_A wc H.size)) mc ms (va_A wc H.size)) (hy : KV y b n r k) (hl : Cond.methodLink own idx y ∈ BASE)
    (hrc : rm.cells = mc) (hrs : rm.slots = ms) (hR : rm.frames + 1 ≤ R.frames ∧ 8 + (n + 11) + rm.locals ≤ R.locals) (hP : va_P G classes ws H) (hD : va_D A ws) (hS : va_S A H0 H locs) (hA : ∀ q, H0.size ≤ q → A q) (q0 : Nat) (he : ws[q0]? = some (a, .inr (ci, fs))) {q : vw_C} (hc : classes[ci]? = some q) (hq : q.1 = y.cls) (is ir : List Nat) (hnd : va_nd is = true) (hC : is.map (fun i => ws[i]?) = wc.map some) (hRr : ir.map (fun i => ws[i]?) = wr.map some) (hnr : va_nd ir = true) (hdis : ∀ i ∈ ir, i ∉ is) (hst : st = As.reverse ++ .ref a :: rest) (hn : As.length = k) (hls : ls.size = nL) (hW : (rest.map fun v => v.category).sum ≤ 8) (hdg : decode cc pc = .ok (.invokevirtual idx, 3)) (hf : cells + mc ≤ R.cells ∧ slots + ms ≤ R.slots)
    (kk : ∀ (r : Int32) (H1 : Heap) (locs1 : List Loc), post r → AFT G A wr B wc H.size H1 → va_S A H0 H1 locs1 → W p l e R s m args below meth c H1 locs1 (cells + mc) (slots + ms) Q (F0 m (pc + 3) ls (.int r :: rest))) : W p l e R s m args below meth c H locs cells slots Q (F0 m pc ls st) := by
  have hF := va_free (wc := wc) hD hS hA is hC
  refine va_calli (va_runV ⟨hx, hb, hml, hown, hts⟩ hM (cwV k hts (gV hy hl) rfl hrc hrs ⟨rfl, hy.2.2.2.2⟩ hR) ⟨PR_blind, recv0 hE hP q0 he hc hq, PR_of (P_cut hP is hC) (hD.sub is hnd hC) hE⟩ rfl hn hls hst (lv_room hW) hdg hf) hS (fun q _ h => hF q h) hF (fun r u t H1 locs1 ht hvm hp hB hz hk hS1 => ?_)
  subst ht
  exact kk r _ locs1 hp (aft hP hD is ir hC hRr hnr hdis hF hB hk) hS1
/-- a writer is called: void, virtual -/
theorem wVv {B : Heap → Prop} (hx : p.tables.exec = Jvm.exec) (hb : c.code = cc) (hml : c.maxLocals = nL) (hown : s.vm.findClass own = some m.cls) (hts : ∀ w ∈ BASE, w.before args s = true) (hE : EN G cy sk s) (hM : Met l y (wsO y b n r) rm (va_Pc (.ref a :: As) (PR G cy sk H.size wc)) (va_Qv (fun (_ : Unit) => True) (fun _ t => B t.heap) (va_A wc H.size)) mc ms (va_A wc H.size)) (hy : KV y b n r k) (hl : Cond.methodLink own idx y ∈ BASE)
    (hrc : rm.cells = mc) (hrs : rm.slots = ms) (hR : rm.frames + 1 ≤ R.frames ∧ 8 + (n + 11) + rm.locals ≤ R.locals) (hP : va_P G classes ws H) (hD : va_D A ws) (hS : va_S A H0 H locs) (hA : ∀ q, H0.size ≤ q → A q) (q0 : Nat) (he : ws[q0]? = some (a, .inr (ci, fs))) {q : vw_C} (hc : classes[ci]? = some q) (hq : q.1 = y.cls) (is ir : List Nat) (hnd : va_nd is = true) (hC : is.map (fun i => ws[i]?) = wc.map some) (hRr : ir.map (fun i => ws[i]?) = wr.map some) (hnr : va_nd ir = true) (hdis : ∀ i ∈ ir, i ∉ is) (hst : st = As.reverse ++ .ref a :: rest) (hn : As.length = k) (hls : ls.size = nL) (hW : (rest.map fun v => v.category).sum ≤ 8) (hdg : decode cc pc = .ok (.invokevirtual idx, 3)) (hf : cells + mc ≤ R.cells ∧ slots + ms ≤ R.slots)
    (kk : ∀ (H1 : Heap) (locs1 : List Loc), AFT G A wr B wc H.size H1 → va_S A H0 H1 locs1 → W p l e R s m args below meth c H1 locs1 (cells + mc) (slots + ms) Q (F0 m (pc + 3) ls rest)) : W p l e R s m args below meth c H locs cells slots Q (F0 m pc ls st) := by
  have hF := va_free (wc := wc) hD hS hA is hC
  refine va_callv (va_runV ⟨hx, hb, hml, hown, hts⟩ hM (cwV k hts (gV hy hl) rfl hrc hrs ⟨rfl, hy.2.2.2.2⟩ hR) ⟨PR_blind, recv0 hE hP q0 he hc hq, PR_of (P_cut hP is hC) (hD.sub is hnd hC) hE⟩ rfl hn hls hst (lv_room hW) hdg hf) hS (fun q _ h => hF q h) hF (fun u t H1 locs1 ht hvm hp hB hz hk hS1 => ?_)
  subst ht
  exact kk _ locs1 (aft hP hD is ir hC hRr hnr hdis hF hB hk) hS1
/-- a writer is called: void, static -/
theorem wSv {B : Heap → Prop} (hx : p.tables.exec = Jvm.exec) (hb : c.code = cc) (hml : c.maxLocals = nL) (hown : s.vm.findClass own = some m.cls) (hts : ∀ w ∈ BASE, w.before args s = true) (hE : EN G cy sk s) (hM : Met l y (wsO y b n r) rm (va_Pc As (PR G cy sk H.size wc)) (va_Qv (fun (_ : Unit) => True) (fun _ t => B t.heap) (va_A wc H.size)) mc ms (va_A wc H.size)) (hy : KS y b n r k) (hl : Cond.methodLink own idx y ∈ BASE)
    (hrc : rm.cells = mc) (hrs : rm.slots = ms) (hR : rm.frames + 1 ≤ R.frames ∧ 8 + (n + 11) + rm.locals ≤ R.locals) (hP : va_P G classes ws H) (hD : va_D A ws) (hS : va_S A H0 H locs) (hA : ∀ q, H0.size ≤ q → A q) (is ir : List Nat) (hnd : va_nd is = true) (hC : is.map (fun i => ws[i]?) = wc.map some) (hRr : ir.map (fun i => ws[i]?) = wr.map some) (hnr : va_nd ir = true) (hdis : ∀ i ∈ ir, i ∉ is) (hst : st = As.reverse ++ rest) (hn : As.length = k) (hls : ls.size = nL) (hW : (rest.map fun v => v.category).sum ≤ 8) (hdg : decode cc pc = .ok (.invokestatic idx, 3)) (hf : cells + mc ≤ R.cells ∧ slots + ms ≤ R.slots)
    (kk : ∀ (H1 : Heap) (locs1 : List Loc), AFT G A wr B wc H.size H1 → va_S A H0 H1 locs1 → W p l e R s m args below meth c H1 locs1 (cells + mc) (slots + ms) Q (F0 m (pc + 3) ls rest)) : W p l e R s m args below meth c H locs cells slots Q (F0 m pc ls st) := by
  have hF := va_free (wc := wc) hD hS hA is hC
  refine va_callv (va_runS ⟨hx, hb, hml, hown, hts⟩ hM (va_cwS k hts (gS hy hl) rfl hrc hrs hy.2.2.2 hR) ⟨PR_blind, PR_of (P_cut hP is hC) (hD.sub is hnd hC) hE⟩ rfl hn hls hst (lv_room hW) hdg hf) hS (fun q _ h => hF q h) hF (fun u t H1 locs1 ht hvm hp hB hz hk hS1 => ?_)
  subst ht
  exact kk _ locs1 (aft hP hD is ir hC hRr hnr hdis hF hB hk) hS1
/-- a constructor is called -/
theorem wI {B : Heap → Prop} (hx : p.tables.exec = Jvm.exec) (hb : c.code = cc) (hml : c.maxLocals = nL) (hown : s.vm.findClass own = some m.cls) (hts : ∀ w ∈ BASE, w.before args s = true) (hE : EN G cy sk s) (hM : Met l y (wsO y b n none) rm (va_Pc (.ref a :: As) (PR G cy sk H.size wc)) (va_Qv (fun (_ : Unit) => True) (fun _ t => B t.heap) (va_A wc H.size)) mc ms (va_A wc H.size)) (hy : KI y b n k) (hl : Cond.methodLink own idx y ∈ BASE)
    (hrc : rm.cells = mc) (hrs : rm.slots = ms) (hR : rm.frames + 1 ≤ R.frames ∧ 8 + (n + 11) + rm.locals ≤ R.locals) (hP : va_P G classes ws H) (hD : va_D A ws) (hS : va_S A H0 H locs) (hA : ∀ q, H0.size ≤ q → A q) (is ir : List Nat) (hnd : va_nd is = true) (hC : is.map (fun i => ws[i]?) = wc.map some) (hRr : ir.map (fun i => ws[i]?) = wr.map some) (hnr : va_nd ir = true) (hdis : ∀ i ∈ ir, i ∉ is) (hst : st = As.reverse ++ .ref a :: rest) (hn : As.length = k) (hls : ls.size = nL) (hW : (rest.map fun v => v.category).sum ≤ 8) (hdg : decode cc pc = .ok (.invokespecial idx, 3)) (hf : cells + mc ≤ R.cells ∧ slots + ms ≤ R.slots)
    (kk : ∀ (H1 : Heap) (locs1 : List Loc), AFT G A wr B wc H.size H1 → va_S A H0 H1 locs1 → W p l e R s m args below meth c H1 locs1 (cells + mc) (slots + ms) Q (F0 m (pc + 3) ls rest)) : W p l e R s m args below meth c H locs cells slots Q (F0 m pc ls st) := by
  have hF := va_free (wc := wc) hD hS hA is hC
  refine va_callv (va_runI ⟨hx, hb, hml, hown, hts⟩ hM (cwI k hts (b_in (wsO_in hy.2.2.2.1)) rfl hrc hrs (hts _ hy.2.2.1) (hts _ hl) (hts _ hy.1) hy.2.1 hy.2.2.2.2 hR) ⟨PR_blind, PR_of (P_cut hP is hC) (hD.sub is hnd hC) hE⟩ rfl hn hls hst (lv_room hW) hdg hf) hS (fun q _ h => hF q h) hF (fun u t H1 locs1 ht hvm hp hB hz hk hS1 => ?_)
  subst ht
  exact kk _ locs1 (aft hP hD is ir hC hRr hnr hdis hF hB hk) hS1
/-- a constructor of a nest mate's, private, is called -/
theorem wIN {B : Heap → Prop} (hx : p.tables.exec = Jvm.exec) (hb : c.code = cc) (hml : c.maxLocals = nL) (hown : s.vm.findClass own = some m.cls) (hts : ∀ w ∈ BASE, w.before args s = true) (hE : EN G cy sk s) (hM : Met l y (wsO y b n none) rm (va_Pc (.ref a :: As) (PR G cy sk H.size wc)) (va_Qv (fun (_ : Unit) => True) (fun _ t => B t.heap) (va_A wc H.size)) mc ms (va_A wc H.size)) (hy : KI y b n k) (hl : (own, idx, y, host) ∈ NMs)
    (hrc : rm.cells = mc) (hrs : rm.slots = ms) (hR : rm.frames + 1 ≤ R.frames ∧ 8 + (n + 11) + rm.locals ≤ R.locals) (hP : va_P G classes ws H) (hD : va_D A ws) (hS : va_S A H0 H locs) (hA : ∀ q, H0.size ≤ q → A q) (is ir : List Nat) (hnd : va_nd is = true) (hC : is.map (fun i => ws[i]?) = wc.map some) (hRr : ir.map (fun i => ws[i]?) = wr.map some) (hnr : va_nd ir = true) (hdis : ∀ i ∈ ir, i ∉ is) (hst : st = As.reverse ++ .ref a :: rest) (hn : As.length = k) (hls : ls.size = nL) (hW : (rest.map fun v => v.category).sum ≤ 8) (hdg : decode cc pc = .ok (.invokespecial idx, 3)) (hf : cells + mc ≤ R.cells ∧ slots + ms ≤ R.slots)
    (kk : ∀ (H1 : Heap) (locs1 : List Loc), AFT G A wr B wc H.size H1 → va_S A H0 H1 locs1 → W p l e R s m args below meth c H1 locs1 (cells + mc) (slots + ms) Q (F0 m (pc + 3) ls rest)) : W p l e R s m args below meth c H locs cells slots Q (F0 m pc ls st) := by
  have hF := va_free (wc := wc) hD hS hA is hC
  refine va_callv (va_runIN ⟨hx, hb, hml, hown, hts⟩ hM ⟨va_cnB k hts (b_in (wsO_in hy.2.2.2.1)) rfl hrc hrs (hE.2.2.1 _ hl) (hts _ hy.2.2.1) hy.2.2.2.2 hR, hy.2.1, hts _ hy.1⟩ ⟨PR_blind, PR_of (P_cut hP is hC) (hD.sub is hnd hC) hE⟩ rfl hn hls hst (lv_room hW) hdg hf) hS (fun q _ h => hF q h) hF (fun u t H1 locs1 ht hvm hp hB hz hk hS1 => ?_)
  subst ht
  exact kk _ locs1 (aft hP hD is ir hC hRr hnr hdis hF hB hk) hS1
end BASECALLS
section BASEARR
variable {p : Program} {l : Launch} {e : Env} {R : Room} {s : State} {m : MethodId} {args : Array Value} {below : List Frame} {meth : Method} {c : Code} {H H0 : Heap} {locs : List Loc} {cells slots : Nat} {Q : State → Prop}
variable {cc : ByteArray} {pc : Nat} {ls : Array Slot} {rest : List Value} {G : va_G} {cy : Nat → ClassId} {sk : Nat → Nat} {ws : va_W} {A : Nat → Prop} {own : String} {idx : Nat}
/-- a new int array -/
theorem nwI (hx : p.tables.exec = Jvm.exec) (hb : c.code = cc) (hts : ∀ w ∈ BASE, w.before args s = true) (hw : Cond.arrayClass .int ∈ BASE) (hE : EN G cy sk s) (hP : va_P G classes ws H) (hD : va_D A ws) (hS : va_S A H0 H locs) (hA : ∀ q, H0.size ≤ q → A q) {n : Int32} {N : Nat} (hn : ¬ n < 0) (hN : n.toNatClampNeg = N) (hbytes : N * 4 ≤ 536870912) (hcells : cells + 1 ≤ R.cells) (hslots : slots + N ≤ R.slots) (hdg : decode cc pc = .ok (.newarray .int, 2))
    (kk : ∀ (q : Nat) (H1 : Heap), va_P G classes (ws ++ [(q, .inl (cy 0, N, .inl (fun _ => 0)))]) H1 → va_D A (ws ++ [(q, .inl (cy 0, N, .inl (fun _ => 0)))]) → va_S A H0 H1 locs → W p l e R s m args below meth c H1 locs (cells + 1) (slots + N) Q (F0 m (pc + 2) ls (.ref q :: rest))) : W p l e R s m args below meth c H locs cells slots Q (F0 m pc ls (.int n :: rest)) := by
  refine va_newa (atype := .int) (ty := .int) (a0 := (N, .inl (fun _ => 0))) hx hb (hts _ hw) rfl hE.1 hP hD hS hA (fun _ => rfl) hn hN hbytes hcells hslots hdg (fun q cA H1 hK hP hD hS => ?_)
  have e1 := va_nm_int (hK.2 (TYS cy).length (cA, .int) (by simp)).2
  have e2 := va_nm_int (hE.1.2 0 (cy 0, .int) rfl).2
  have e3 : cA = cy 0 := Option.some.inj (e1.symm.trans e2)
  subst e3
  exact kk q H1 hP hD hS
theorem nwZ (hx : p.tables.exec = Jvm.exec) (hb : c.code = cc) (hts : ∀ w ∈ BASE, w.before args s = true) (hw : Cond.arrayClass .boolean ∈ BASE) (hE : EN G cy sk s) (hP : va_P G classes ws H) (hD : va_D A ws) (hS : va_S A H0 H locs) (hA : ∀ q, H0.size ≤ q → A q) {n : Int32} {N : Nat} (hn : ¬ n < 0) (hN : n.toNatClampNeg = N) (hbytes : N * 1 ≤ 536870912) (hcells : cells + 1 ≤ R.cells) (hslots : slots + N ≤ R.slots) (hdg : decode cc pc = .ok (.newarray .boolean, 2))
    (kk : ∀ (q : Nat) (H1 : Heap), va_P G classes (ws ++ [(q, .inl (cy 1, N, .inl (fun _ => 0)))]) H1 → va_D A (ws ++ [(q, .inl (cy 1, N, .inl (fun _ => 0)))]) → va_S A H0 H1 locs → W p l e R s m args below meth c H1 locs (cells + 1) (slots + N) Q (F0 m (pc + 2) ls (.ref q :: rest))) : W p l e R s m args below meth c H locs cells slots Q (F0 m pc ls (.int n :: rest)) := by
  refine va_newa (atype := .boolean) (ty := .boolean) (a0 := (N, .inl (fun _ => 0))) hx hb (hts _ hw) rfl hE.1 hP hD hS hA (fun _ => rfl) hn hN hbytes hcells hslots hdg (fun q cA H1 hK hP hD hS => ?_)
  have e1 := va_nm_boolean (hK.2 (TYS cy).length (cA, .boolean) (by simp)).2
  have e2 := va_nm_boolean (hE.1.2 1 (cy 1, .boolean) rfl).2
  have e3 : cA = cy 1 := Option.some.inj (e1.symm.trans e2)
  subst e3
  exact kk q H1 hP hD hS
theorem nwJ (hx : p.tables.exec = Jvm.exec) (hb : c.code = cc) (hts : ∀ w ∈ BASE, w.before args s = true) (hw : Cond.arrayClass .long ∈ BASE) (hE : EN G cy sk s) (hP : va_P G classes ws H) (hD : va_D A ws) (hS : va_S A H0 H locs) (hA : ∀ q, H0.size ≤ q → A q) {n : Int32} {N : Nat} (hn : ¬ n < 0) (hN : n.toNatClampNeg = N) (hbytes : N * 8 ≤ 536870912) (hcells : cells + 1 ≤ R.cells) (hslots : slots + N ≤ R.slots) (hdg : decode cc pc = .ok (.newarray .long, 2))
    (kk : ∀ (q : Nat) (H1 : Heap), va_P G classes (ws ++ [(q, .inl (cy 2, N, .inr (.inl (fun _ => 0))))]) H1 → va_D A (ws ++ [(q, .inl (cy 2, N, .inr (.inl (fun _ => 0))))]) → va_S A H0 H1 locs → W p l e R s m args below meth c H1 locs (cells + 1) (slots + N) Q (F0 m (pc + 2) ls (.ref q :: rest))) : W p l e R s m args below meth c H locs cells slots Q (F0 m pc ls (.int n :: rest)) := by
  refine va_newa (atype := .long) (ty := .long) (a0 := (N, .inr (.inl (fun _ => 0)))) hx hb (hts _ hw) rfl hE.1 hP hD hS hA (fun _ => rfl) hn hN hbytes hcells hslots hdg (fun q cA H1 hK hP hD hS => ?_)
  have e1 := va_nm_long (hK.2 (TYS cy).length (cA, .long) (by simp)).2
  have e2 := va_nm_long (hE.1.2 2 (cy 2, .long) rfl).2
  have e3 : cA = cy 2 := Option.some.inj (e1.symm.trans e2)
  subst e3
  exact kk q H1 hP hD hS
/-- a new array of references; t0 is the place of its type in TYS -/
theorem nwQ (hx : p.tables.exec = Jvm.exec) (hb : c.code = cc) (hown : s.vm.findClass own = some m.cls) (hts : ∀ w ∈ BASE, w.before args s = true) {C : String} (hw : Cond.classLink own idx C ∈ BASE) (hC : C ∈ AOs) (hE : EN G cy sk s) (hP : va_P G classes ws H) (hD : va_D A ws) (hS : va_S A H0 H locs) (hA : ∀ q, H0.size ≤ q → A q) {t0 : Nat} {cA0 : ClassId} (ht : (TYS cy)[t0]? = some (cA0, .object C)) {n : Int32} {N : Nat} (hn : ¬ n < 0) (hN : n.toNatClampNeg = N) (hbytes : N * 4 ≤ 536870912) (hcells : cells + 1 ≤ R.cells) (hslots : slots + N ≤ R.slots) (hdg : decode cc pc = .ok (.anewarray idx, 3))
    (kk : ∀ (q : Nat) (H1 : Heap), va_P G classes (ws ++ [(q, .inl (cA0, N, .inr (.inr (.inr (.inr (fun _ => none))))))]) H1 → va_D A (ws ++ [(q, .inl (cA0, N, .inr (.inr (.inr (.inr (fun _ => none))))))]) → va_S A H0 H1 locs → W p l e R s m args below meth c H1 locs (cells + 1) (slots + N) Q (F0 m (pc + 3) ls (.ref q :: rest))) : W p l e R s m args below meth c H locs cells slots Q (F0 m pc ls (.int n :: rest)) := by
  refine va_newq hx hb hown (hts _ hw) (hE.2.2.2.2 C hC) hE.1 hP hD hS hA hn hN hbytes hcells hslots hdg (fun q cA H1 hK hP hD hS => ?_)
  obtain ⟨-, -, -, -, -, e1⟩ := (hK.2 (TYS cy).length (cA, .object C) (by simp)).2
  obtain ⟨-, -, -, -, -, e2⟩ := (hE.1.2 t0 _ ht).2
  have e3 : cA = cA0 := Option.some.inj (e1.symm.trans e2)
  subst e3
  exact kk q H1 hP hD hS
end BASEARR
def inR (v lo hi : Int32) : Prop := lo ≤ v ∧ v ≤ hi
theorem vinL {i : Int32} {n : Nat} (h : (decide (i < 0) || decide (n ≤ i.toNatClampNeg)) = false) : vp_in i n := by
  unfold vp_in
  rcases Bool.or_eq_false_iff.mp h with ⟨h1, h2⟩
  exact fun q => q.elim (of_decide_eq_false h1) (of_decide_eq_false h2)
theorem vinB {i lo hi : Int32} {n : Nat} (h : inR i lo hi) (hl : 0 ≤ lo.toInt) (hh : hi.toInt < n) : vp_in i n := vp_in_iff.mpr ⟨Int.le_trans hl (Int32.le_iff_toInt_le.mp h.1), Int.lt_of_le_of_lt (Int32.le_iff_toInt_le.mp h.2) hh⟩
theorem vinB_nat {i lo hi : Int32} {n : Nat} (h : inR i lo hi) (hl : 0 ≤ lo.toInt) (hh : hi.toInt < n) : i.toNatClampNeg < n := by
  have := vinB h hl hh
  exact Nat.not_le.mp fun q => this (Or.inr q)
theorem bmems (ws : List Cond) (ps : List Nat) (hp : ws = ps.filterMap (fun i => lw_tbl[i]?)) (h : ws.all goodWord = true) : ∀ w ∈ ws, w ∈ BASE := by
  intro w hw
  have h1 := List.all_eq_true.mp h w hw
  rw [hp] at hw
  obtain ⟨i, -, hi⟩ := List.mem_filterMap.mp hw
  exact bmem i hi h1
section MISCV
variable {p : Program} {l : Launch} {e : Env} {R : Room} {s : State} {m : MethodId} {args : Array Value} {below : List Frame} {meth : Method} {c : Code} {H : Heap} {locs : List Loc} {cells slots : Nat} {Q : State → Prop}
theorem tpv {pc : Nat} {ls : Array Slot} {rest : List Value} {x v : Value} (h : x = v) (kk : W p l e R s m args below meth c H locs cells slots Q (F0 m pc ls (v :: rest))) : W p l e R s m args below meth c H locs cells slots Q (F0 m pc ls (x :: rest)) := h ▸ kk
end MISCV
theorem in4 {v : Int32} (h : inR v 0 3) : v = 0 ∨ v = 1 ∨ v = 2 ∨ v = 3 := by
  have h1 := Int32.le_iff_toInt_le.mp h.1
  have h2 := Int32.le_iff_toInt_le.mp h.2
  have e : v.toInt = 0 ∨ v.toInt = 1 ∨ v.toInt = 2 ∨ v.toInt = 3 := by
    have a : (0 : Int32).toInt = 0 := rfl
    have b : (3 : Int32).toInt = 3 := rfl
    omega
  rcases e with e | e | e | e
  · exact Or.inl (Int32.toInt_inj.mp e)
  · exact Or.inr (Or.inl (Int32.toInt_inj.mp e))
  · exact Or.inr (Or.inr (Or.inl (Int32.toInt_inj.mp e)))
  · exact Or.inr (Or.inr (Or.inr (Int32.toInt_inj.mp e)))
theorem upd_all {f : Nat → Int32} {i : Nat} {v : Int32} (hi : i < 2 ^ 31) (h : ∀ j, j < i → f j = v) : ∀ j, j < i + 1 → upd f (nI i).toNatClampNeg v j = v := by
  intro j hj
  rw [nI_clamp hi]
  unfold upd
  by_cases e : j = i
  · rw [if_pos e]
  · rw [if_neg e]; exact h j (by omega)
theorem mx0 {n : Nat} (h : n < 2 ^ 31) : (if (0 : Int32) < nI n then nI n else 0) = nI n := by
  rcases Nat.eq_zero_or_pos n with e | e
  · subst e; rfl
  · rw [if_pos (show (0 : Int32) < nI n from nI_lt (a := 0) (b := n) e h)]
theorem mn0 {n : Nat} (h : n < 2 ^ 31) : (if nI n < (0 : Int32) then nI n else 0) = 0 := by
  rw [if_neg (nI_pos h)]
end
section
/-! what stands in a code, byte by byte, out of pieces of it; a row an opcode -/
theorem rdb {t : ByteArray} {p m i k : Nat} {L : List UInt8} (h : (t.data.toList.drop p).take m = L) (hi : (L[i]?).map UInt8.toNat = some k) : (Reader.u1 : Decoder Nat) t (p + i) = .ok (k, p + i + 1) := by
  have h1 : ∃ x : UInt8, t.data.toList[p + i]? = some x ∧ x.toNat = k := by
    rw [← h, List.getElem?_take] at hi
    split at hi
    · rw [List.getElem?_drop] at hi
      exact Option.map_eq_some_iff.mp hi
    · cases hi
  obtain ⟨x, h2, h3⟩ := h1
  obtain ⟨hl, he⟩ := List.getElem?_eq_some_iff.mp h2
  have hs : p + i < t.size := hl
  have h4 : t[p + i].toNat = k := by rw [← h3, ← he]; rfl
  show (dite (p + i < t.size) _ _ : Decoder Nat) t (p + i) = _
  rw [dif_pos hs]
  show Except.ok (t[p + i].toNat, p + i + 1) = _
  rw [h4]
theorem dnx {t : ByteArray} {pc n k : Nat} {op : Instr} (e : (Decoder.instr pc) t pc = .ok (op, n)) (hk : n - pc = k) : decode t pc = .ok (op, k) := by
  show Except.bind ((Decoder.instr pc) t pc) _ = _
  rw [e]
  show Except.ok (op, n - pc) = _
  rw [hk]
theorem do_188_10 {t : ByteArray} {pc : Nat} (h0 : (Reader.u1 : Decoder Nat) t pc = .ok (188, pc + 1)) (h1 : (Reader.u1 : Decoder Nat) t (pc + 1) = .ok (10, pc + 2)) : decode t pc = .ok (.newarray .int, 2) := by
  refine dnx (n := pc + 2) ?_ (by omega)
  show Except.bind ((Reader.u1 : Decoder Nat) t pc) _ = _
  rw [h0]
  show Except.bind ((Reader.u1 : Decoder Nat) t (pc + 1)) _ = _
  rw [h1]
  rfl
theorem do_188_11 {t : ByteArray} {pc : Nat} (h0 : (Reader.u1 : Decoder Nat) t pc = .ok (188, pc + 1)) (h1 : (Reader.u1 : Decoder Nat) t (pc + 1) = .ok (11, pc + 2)) : decode t pc = .ok (.newarray .long, 2) := by
  refine dnx (n := pc + 2) ?_ (by omega)
  show Except.bind ((Reader.u1 : Decoder Nat) t pc) _ = _
  rw [h0]
  show Except.bind ((Reader.u1 : Decoder Nat) t (pc + 1)) _ = _
  rw [h1]
  rfl
theorem do_188_4 {t : ByteArray} {pc : Nat} (h0 : (Reader.u1 : Decoder Nat) t pc = .ok (188, pc + 1)) (h1 : (Reader.u1 : Decoder Nat) t (pc + 1) = .ok (4, pc + 2)) : decode t pc = .ok (.newarray .boolean, 2) := by
  refine dnx (n := pc + 2) ?_ (by omega)
  show Except.bind ((Reader.u1 : Decoder Nat) t pc) _ = _
  rw [h0]
  show Except.bind ((Reader.u1 : Decoder Nat) t (pc + 1)) _ = _
  rw [h1]
  rfl
theorem do_10 {t : ByteArray} {pc : Nat} (h0 : (Reader.u1 : Decoder Nat) t pc = .ok (10, pc + 1)) : decode t pc = .ok (.lconst 1, 1) := by
  refine dnx (n := pc + 1) ?_ (by omega)
  show Except.bind ((Reader.u1 : Decoder Nat) t pc) _ = _
  rw [h0]
  rfl
theorem do_100 {t : ByteArray} {pc : Nat} (h0 : (Reader.u1 : Decoder Nat) t pc = .ok (100, pc + 1)) : decode t pc = .ok (.isub, 1) := by
  refine dnx (n := pc + 1) ?_ (by omega)
  show Except.bind ((Reader.u1 : Decoder Nat) t pc) _ = _
  rw [h0]
  rfl
theorem do_104 {t : ByteArray} {pc : Nat} (h0 : (Reader.u1 : Decoder Nat) t pc = .ok (104, pc + 1)) : decode t pc = .ok (.imul, 1) := by
  refine dnx (n := pc + 1) ?_ (by omega)
  show Except.bind ((Reader.u1 : Decoder Nat) t pc) _ = _
  rw [h0]
  rfl
theorem do_108 {t : ByteArray} {pc : Nat} (h0 : (Reader.u1 : Decoder Nat) t pc = .ok (108, pc + 1)) : decode t pc = .ok (.idiv, 1) := by
  refine dnx (n := pc + 1) ?_ (by omega)
  show Except.bind ((Reader.u1 : Decoder Nat) t pc) _ = _
  rw [h0]
  rfl
theorem do_112 {t : ByteArray} {pc : Nat} (h0 : (Reader.u1 : Decoder Nat) t pc = .ok (112, pc + 1)) : decode t pc = .ok (.irem, 1) := by
  refine dnx (n := pc + 1) ?_ (by omega)
  show Except.bind ((Reader.u1 : Decoder Nat) t pc) _ = _
  rw [h0]
  rfl
theorem do_116 {t : ByteArray} {pc : Nat} (h0 : (Reader.u1 : Decoder Nat) t pc = .ok (116, pc + 1)) : decode t pc = .ok (.ineg, 1) := by
  refine dnx (n := pc + 1) ?_ (by omega)
  show Except.bind ((Reader.u1 : Decoder Nat) t pc) _ = _
  rw [h0]
  rfl
theorem do_120 {t : ByteArray} {pc : Nat} (h0 : (Reader.u1 : Decoder Nat) t pc = .ok (120, pc + 1)) : decode t pc = .ok (.ishl, 1) := by
  refine dnx (n := pc + 1) ?_ (by omega)
  show Except.bind ((Reader.u1 : Decoder Nat) t pc) _ = _
  rw [h0]
  rfl
theorem do_121 {t : ByteArray} {pc : Nat} (h0 : (Reader.u1 : Decoder Nat) t pc = .ok (121, pc + 1)) : decode t pc = .ok (.lshl, 1) := by
  refine dnx (n := pc + 1) ?_ (by omega)
  show Except.bind ((Reader.u1 : Decoder Nat) t pc) _ = _
  rw [h0]
  rfl
theorem do_122 {t : ByteArray} {pc : Nat} (h0 : (Reader.u1 : Decoder Nat) t pc = .ok (122, pc + 1)) : decode t pc = .ok (.ishr, 1) := by
  refine dnx (n := pc + 1) ?_ (by omega)
  show Except.bind ((Reader.u1 : Decoder Nat) t pc) _ = _
  rw [h0]
  rfl
theorem do_123 {t : ByteArray} {pc : Nat} (h0 : (Reader.u1 : Decoder Nat) t pc = .ok (123, pc + 1)) : decode t pc = .ok (.lshr, 1) := by
  refine dnx (n := pc + 1) ?_ (by omega)
  show Except.bind ((Reader.u1 : Decoder Nat) t pc) _ = _
  rw [h0]
  rfl
theorem do_125 {t : ByteArray} {pc : Nat} (h0 : (Reader.u1 : Decoder Nat) t pc = .ok (125, pc + 1)) : decode t pc = .ok (.lushr, 1) := by
  refine dnx (n := pc + 1) ?_ (by omega)
  show Except.bind ((Reader.u1 : Decoder Nat) t pc) _ = _
  rw [h0]
  rfl
theorem do_126 {t : ByteArray} {pc : Nat} (h0 : (Reader.u1 : Decoder Nat) t pc = .ok (126, pc + 1)) : decode t pc = .ok (.iand, 1) := by
  refine dnx (n := pc + 1) ?_ (by omega)
  show Except.bind ((Reader.u1 : Decoder Nat) t pc) _ = _
  rw [h0]
  rfl
theorem do_127 {t : ByteArray} {pc : Nat} (h0 : (Reader.u1 : Decoder Nat) t pc = .ok (127, pc + 1)) : decode t pc = .ok (.land, 1) := by
  refine dnx (n := pc + 1) ?_ (by omega)
  show Except.bind ((Reader.u1 : Decoder Nat) t pc) _ = _
  rw [h0]
  rfl
theorem do_128 {t : ByteArray} {pc : Nat} (h0 : (Reader.u1 : Decoder Nat) t pc = .ok (128, pc + 1)) : decode t pc = .ok (.ior, 1) := by
  refine dnx (n := pc + 1) ?_ (by omega)
  show Except.bind ((Reader.u1 : Decoder Nat) t pc) _ = _
  rw [h0]
  rfl
theorem do_129 {t : ByteArray} {pc : Nat} (h0 : (Reader.u1 : Decoder Nat) t pc = .ok (129, pc + 1)) : decode t pc = .ok (.lor, 1) := by
  refine dnx (n := pc + 1) ?_ (by omega)
  show Except.bind ((Reader.u1 : Decoder Nat) t pc) _ = _
  rw [h0]
  rfl
theorem do_130 {t : ByteArray} {pc : Nat} (h0 : (Reader.u1 : Decoder Nat) t pc = .ok (130, pc + 1)) : decode t pc = .ok (.ixor, 1) := by
  refine dnx (n := pc + 1) ?_ (by omega)
  show Except.bind ((Reader.u1 : Decoder Nat) t pc) _ = _
  rw [h0]
  rfl
theorem do_132 {t : ByteArray} {pc k1 k2 : Nat} {v : Int} (h0 : (Reader.u1 : Decoder Nat) t pc = .ok (132, pc + 1)) (h1 : (Reader.u1 : Decoder Nat) t (pc + 1) = .ok (k1, pc + 2)) (h2 : (Reader.u1 : Decoder Nat) t (pc + 2) = .ok (k2, pc + 3)) (hv : Reader.signed 8 k2 = v) : decode t pc = .ok (.iinc k1 v, 3) := by
  subst hv
  refine dnx (n := pc + 3) ?_ (by omega)
  show Except.bind ((Reader.u1 : Decoder Nat) t pc) _ = _
  rw [h0]
  show Except.bind ((Reader.u1 : Decoder Nat) t (pc + 1)) _ = _
  rw [h1]
  show Except.bind (Except.map _ ((Reader.u1 : Decoder Nat) t (pc + 2))) _ = _
  rw [h2]
  rfl
theorem do_133 {t : ByteArray} {pc : Nat} (h0 : (Reader.u1 : Decoder Nat) t pc = .ok (133, pc + 1)) : decode t pc = .ok (.i2l, 1) := by
  refine dnx (n := pc + 1) ?_ (by omega)
  show Except.bind ((Reader.u1 : Decoder Nat) t pc) _ = _
  rw [h0]
  rfl
theorem do_136 {t : ByteArray} {pc : Nat} (h0 : (Reader.u1 : Decoder Nat) t pc = .ok (136, pc + 1)) : decode t pc = .ok (.l2i, 1) := by
  refine dnx (n := pc + 1) ?_ (by omega)
  show Except.bind ((Reader.u1 : Decoder Nat) t pc) _ = _
  rw [h0]
  rfl
theorem do_145 {t : ByteArray} {pc : Nat} (h0 : (Reader.u1 : Decoder Nat) t pc = .ok (145, pc + 1)) : decode t pc = .ok (.i2b, 1) := by
  refine dnx (n := pc + 1) ?_ (by omega)
  show Except.bind ((Reader.u1 : Decoder Nat) t pc) _ = _
  rw [h0]
  rfl
theorem do_146 {t : ByteArray} {pc : Nat} (h0 : (Reader.u1 : Decoder Nat) t pc = .ok (146, pc + 1)) : decode t pc = .ok (.i2c, 1) := by
  refine dnx (n := pc + 1) ?_ (by omega)
  show Except.bind ((Reader.u1 : Decoder Nat) t pc) _ = _
  rw [h0]
  rfl
theorem do_147 {t : ByteArray} {pc : Nat} (h0 : (Reader.u1 : Decoder Nat) t pc = .ok (147, pc + 1)) : decode t pc = .ok (.i2s, 1) := by
  refine dnx (n := pc + 1) ?_ (by omega)
  show Except.bind ((Reader.u1 : Decoder Nat) t pc) _ = _
  rw [h0]
  rfl
theorem do_148 {t : ByteArray} {pc : Nat} (h0 : (Reader.u1 : Decoder Nat) t pc = .ok (148, pc + 1)) : decode t pc = .ok (.lcmp, 1) := by
  refine dnx (n := pc + 1) ?_ (by omega)
  show Except.bind ((Reader.u1 : Decoder Nat) t pc) _ = _
  rw [h0]
  rfl
theorem do_153 {t : ByteArray} {pc k1 k2 : Nat} {v : Int} (h0 : (Reader.u1 : Decoder Nat) t pc = .ok (153, pc + 1)) (h1 : (Reader.u1 : Decoder Nat) t (pc + 1) = .ok (k1, pc + 2)) (h2 : (Reader.u1 : Decoder Nat) t (pc + 2) = .ok (k2, pc + 3)) (hv : Reader.signed 16 (k1 * 256 + k2) = v) : decode t pc = .ok (.ifCond .eq v, 3) := by
  subst hv
  refine dnx (n := pc + 3) ?_ (by omega)
  show Except.bind ((Reader.u1 : Decoder Nat) t pc) _ = _
  rw [h0]
  show Except.bind (Except.map _ (Except.bind ((Reader.u1 : Decoder Nat) t (pc + 1)) _)) _ = _
  rw [h1]
  show Except.bind (Except.map _ (Except.bind ((Reader.u1 : Decoder Nat) t (pc + 2)) _)) _ = _
  rw [h2]
  rfl
theorem do_154 {t : ByteArray} {pc k1 k2 : Nat} {v : Int} (h0 : (Reader.u1 : Decoder Nat) t pc = .ok (154, pc + 1)) (h1 : (Reader.u1 : Decoder Nat) t (pc + 1) = .ok (k1, pc + 2)) (h2 : (Reader.u1 : Decoder Nat) t (pc + 2) = .ok (k2, pc + 3)) (hv : Reader.signed 16 (k1 * 256 + k2) = v) : decode t pc = .ok (.ifCond .ne v, 3) := by
  subst hv
  refine dnx (n := pc + 3) ?_ (by omega)
  show Except.bind ((Reader.u1 : Decoder Nat) t pc) _ = _
  rw [h0]
  show Except.bind (Except.map _ (Except.bind ((Reader.u1 : Decoder Nat) t (pc + 1)) _)) _ = _
  rw [h1]
  show Except.bind (Except.map _ (Except.bind ((Reader.u1 : Decoder Nat) t (pc + 2)) _)) _ = _
  rw [h2]
  rfl
theorem do_155 {t : ByteArray} {pc k1 k2 : Nat} {v : Int} (h0 : (Reader.u1 : Decoder Nat) t pc = .ok (155, pc + 1)) (h1 : (Reader.u1 : Decoder Nat) t (pc + 1) = .ok (k1, pc + 2)) (h2 : (Reader.u1 : Decoder Nat) t (pc + 2) = .ok (k2, pc + 3)) (hv : Reader.signed 16 (k1 * 256 + k2) = v) : decode t pc = .ok (.ifCond .lt v, 3) := by
  subst hv
  refine dnx (n := pc + 3) ?_ (by omega)
  show Except.bind ((Reader.u1 : Decoder Nat) t pc) _ = _
  rw [h0]
  show Except.bind (Except.map _ (Except.bind ((Reader.u1 : Decoder Nat) t (pc + 1)) _)) _ = _
  rw [h1]
  show Except.bind (Except.map _ (Except.bind ((Reader.u1 : Decoder Nat) t (pc + 2)) _)) _ = _
  rw [h2]
  rfl
theorem do_156 {t : ByteArray} {pc k1 k2 : Nat} {v : Int} (h0 : (Reader.u1 : Decoder Nat) t pc = .ok (156, pc + 1)) (h1 : (Reader.u1 : Decoder Nat) t (pc + 1) = .ok (k1, pc + 2)) (h2 : (Reader.u1 : Decoder Nat) t (pc + 2) = .ok (k2, pc + 3)) (hv : Reader.signed 16 (k1 * 256 + k2) = v) : decode t pc = .ok (.ifCond .ge v, 3) := by
  subst hv
  refine dnx (n := pc + 3) ?_ (by omega)
  show Except.bind ((Reader.u1 : Decoder Nat) t pc) _ = _
  rw [h0]
  show Except.bind (Except.map _ (Except.bind ((Reader.u1 : Decoder Nat) t (pc + 1)) _)) _ = _
  rw [h1]
  show Except.bind (Except.map _ (Except.bind ((Reader.u1 : Decoder Nat) t (pc + 2)) _)) _ = _
  rw [h2]
  rfl
theorem do_157 {t : ByteArray} {pc k1 k2 : Nat} {v : Int} (h0 : (Reader.u1 : Decoder Nat) t pc = .ok (157, pc + 1)) (h1 : (Reader.u1 : Decoder Nat) t (pc + 1) = .ok (k1, pc + 2)) (h2 : (Reader.u1 : Decoder Nat) t (pc + 2) = .ok (k2, pc + 3)) (hv : Reader.signed 16 (k1 * 256 + k2) = v) : decode t pc = .ok (.ifCond .gt v, 3) := by
  subst hv
  refine dnx (n := pc + 3) ?_ (by omega)
  show Except.bind ((Reader.u1 : Decoder Nat) t pc) _ = _
  rw [h0]
  show Except.bind (Except.map _ (Except.bind ((Reader.u1 : Decoder Nat) t (pc + 1)) _)) _ = _
  rw [h1]
  show Except.bind (Except.map _ (Except.bind ((Reader.u1 : Decoder Nat) t (pc + 2)) _)) _ = _
  rw [h2]
  rfl
theorem do_158 {t : ByteArray} {pc k1 k2 : Nat} {v : Int} (h0 : (Reader.u1 : Decoder Nat) t pc = .ok (158, pc + 1)) (h1 : (Reader.u1 : Decoder Nat) t (pc + 1) = .ok (k1, pc + 2)) (h2 : (Reader.u1 : Decoder Nat) t (pc + 2) = .ok (k2, pc + 3)) (hv : Reader.signed 16 (k1 * 256 + k2) = v) : decode t pc = .ok (.ifCond .le v, 3) := by
  subst hv
  refine dnx (n := pc + 3) ?_ (by omega)
  show Except.bind ((Reader.u1 : Decoder Nat) t pc) _ = _
  rw [h0]
  show Except.bind (Except.map _ (Except.bind ((Reader.u1 : Decoder Nat) t (pc + 1)) _)) _ = _
  rw [h1]
  show Except.bind (Except.map _ (Except.bind ((Reader.u1 : Decoder Nat) t (pc + 2)) _)) _ = _
  rw [h2]
  rfl
theorem do_159 {t : ByteArray} {pc k1 k2 : Nat} {v : Int} (h0 : (Reader.u1 : Decoder Nat) t pc = .ok (159, pc + 1)) (h1 : (Reader.u1 : Decoder Nat) t (pc + 1) = .ok (k1, pc + 2)) (h2 : (Reader.u1 : Decoder Nat) t (pc + 2) = .ok (k2, pc + 3)) (hv : Reader.signed 16 (k1 * 256 + k2) = v) : decode t pc = .ok (.if_icmp .eq v, 3) := by
  subst hv
  refine dnx (n := pc + 3) ?_ (by omega)
  show Except.bind ((Reader.u1 : Decoder Nat) t pc) _ = _
  rw [h0]
  show Except.bind (Except.map _ (Except.bind ((Reader.u1 : Decoder Nat) t (pc + 1)) _)) _ = _
  rw [h1]
  show Except.bind (Except.map _ (Except.bind ((Reader.u1 : Decoder Nat) t (pc + 2)) _)) _ = _
  rw [h2]
  rfl
theorem do_16 {t : ByteArray} {pc k1 : Nat} {v : Int} (h0 : (Reader.u1 : Decoder Nat) t pc = .ok (16, pc + 1)) (h1 : (Reader.u1 : Decoder Nat) t (pc + 1) = .ok (k1, pc + 2)) (hv : Reader.signed 8 k1 = v) : decode t pc = .ok (.bipush v, 2) := by
  subst hv
  refine dnx (n := pc + 2) ?_ (by omega)
  show Except.bind ((Reader.u1 : Decoder Nat) t pc) _ = _
  rw [h0]
  show Except.bind (Except.map _ ((Reader.u1 : Decoder Nat) t (pc + 1))) _ = _
  rw [h1]
  rfl
theorem do_160 {t : ByteArray} {pc k1 k2 : Nat} {v : Int} (h0 : (Reader.u1 : Decoder Nat) t pc = .ok (160, pc + 1)) (h1 : (Reader.u1 : Decoder Nat) t (pc + 1) = .ok (k1, pc + 2)) (h2 : (Reader.u1 : Decoder Nat) t (pc + 2) = .ok (k2, pc + 3)) (hv : Reader.signed 16 (k1 * 256 + k2) = v) : decode t pc = .ok (.if_icmp .ne v, 3) := by
  subst hv
  refine dnx (n := pc + 3) ?_ (by omega)
  show Except.bind ((Reader.u1 : Decoder Nat) t pc) _ = _
  rw [h0]
  show Except.bind (Except.map _ (Except.bind ((Reader.u1 : Decoder Nat) t (pc + 1)) _)) _ = _
  rw [h1]
  show Except.bind (Except.map _ (Except.bind ((Reader.u1 : Decoder Nat) t (pc + 2)) _)) _ = _
  rw [h2]
  rfl
theorem do_161 {t : ByteArray} {pc k1 k2 : Nat} {v : Int} (h0 : (Reader.u1 : Decoder Nat) t pc = .ok (161, pc + 1)) (h1 : (Reader.u1 : Decoder Nat) t (pc + 1) = .ok (k1, pc + 2)) (h2 : (Reader.u1 : Decoder Nat) t (pc + 2) = .ok (k2, pc + 3)) (hv : Reader.signed 16 (k1 * 256 + k2) = v) : decode t pc = .ok (.if_icmp .lt v, 3) := by
  subst hv
  refine dnx (n := pc + 3) ?_ (by omega)
  show Except.bind ((Reader.u1 : Decoder Nat) t pc) _ = _
  rw [h0]
  show Except.bind (Except.map _ (Except.bind ((Reader.u1 : Decoder Nat) t (pc + 1)) _)) _ = _
  rw [h1]
  show Except.bind (Except.map _ (Except.bind ((Reader.u1 : Decoder Nat) t (pc + 2)) _)) _ = _
  rw [h2]
  rfl
theorem do_162 {t : ByteArray} {pc k1 k2 : Nat} {v : Int} (h0 : (Reader.u1 : Decoder Nat) t pc = .ok (162, pc + 1)) (h1 : (Reader.u1 : Decoder Nat) t (pc + 1) = .ok (k1, pc + 2)) (h2 : (Reader.u1 : Decoder Nat) t (pc + 2) = .ok (k2, pc + 3)) (hv : Reader.signed 16 (k1 * 256 + k2) = v) : decode t pc = .ok (.if_icmp .ge v, 3) := by
  subst hv
  refine dnx (n := pc + 3) ?_ (by omega)
  show Except.bind ((Reader.u1 : Decoder Nat) t pc) _ = _
  rw [h0]
  show Except.bind (Except.map _ (Except.bind ((Reader.u1 : Decoder Nat) t (pc + 1)) _)) _ = _
  rw [h1]
  show Except.bind (Except.map _ (Except.bind ((Reader.u1 : Decoder Nat) t (pc + 2)) _)) _ = _
  rw [h2]
  rfl
theorem do_163 {t : ByteArray} {pc k1 k2 : Nat} {v : Int} (h0 : (Reader.u1 : Decoder Nat) t pc = .ok (163, pc + 1)) (h1 : (Reader.u1 : Decoder Nat) t (pc + 1) = .ok (k1, pc + 2)) (h2 : (Reader.u1 : Decoder Nat) t (pc + 2) = .ok (k2, pc + 3)) (hv : Reader.signed 16 (k1 * 256 + k2) = v) : decode t pc = .ok (.if_icmp .gt v, 3) := by
  subst hv
  refine dnx (n := pc + 3) ?_ (by omega)
  show Except.bind ((Reader.u1 : Decoder Nat) t pc) _ = _
  rw [h0]
  show Except.bind (Except.map _ (Except.bind ((Reader.u1 : Decoder Nat) t (pc + 1)) _)) _ = _
  rw [h1]
  show Except.bind (Except.map _ (Except.bind ((Reader.u1 : Decoder Nat) t (pc + 2)) _)) _ = _
  rw [h2]
  rfl
theorem do_164 {t : ByteArray} {pc k1 k2 : Nat} {v : Int} (h0 : (Reader.u1 : Decoder Nat) t pc = .ok (164, pc + 1)) (h1 : (Reader.u1 : Decoder Nat) t (pc + 1) = .ok (k1, pc + 2)) (h2 : (Reader.u1 : Decoder Nat) t (pc + 2) = .ok (k2, pc + 3)) (hv : Reader.signed 16 (k1 * 256 + k2) = v) : decode t pc = .ok (.if_icmp .le v, 3) := by
  subst hv
  refine dnx (n := pc + 3) ?_ (by omega)
  show Except.bind ((Reader.u1 : Decoder Nat) t pc) _ = _
  rw [h0]
  show Except.bind (Except.map _ (Except.bind ((Reader.u1 : Decoder Nat) t (pc + 1)) _)) _ = _
  rw [h1]
  show Except.bind (Except.map _ (Except.bind ((Reader.u1 : Decoder Nat) t (pc + 2)) _)) _ = _
  rw [h2]
  rfl
theorem do_167 {t : ByteArray} {pc k1 k2 : Nat} {v : Int} (h0 : (Reader.u1 : Decoder Nat) t pc = .ok (167, pc + 1)) (h1 : (Reader.u1 : Decoder Nat) t (pc + 1) = .ok (k1, pc + 2)) (h2 : (Reader.u1 : Decoder Nat) t (pc + 2) = .ok (k2, pc + 3)) (hv : Reader.signed 16 (k1 * 256 + k2) = v) : decode t pc = .ok (.goto v, 3) := by
  subst hv
  refine dnx (n := pc + 3) ?_ (by omega)
  show Except.bind ((Reader.u1 : Decoder Nat) t pc) _ = _
  rw [h0]
  show Except.bind (Except.map _ (Except.bind ((Reader.u1 : Decoder Nat) t (pc + 1)) _)) _ = _
  rw [h1]
  show Except.bind (Except.map _ (Except.bind ((Reader.u1 : Decoder Nat) t (pc + 2)) _)) _ = _
  rw [h2]
  rfl
theorem do_17 {t : ByteArray} {pc k1 k2 : Nat} {v : Int} (h0 : (Reader.u1 : Decoder Nat) t pc = .ok (17, pc + 1)) (h1 : (Reader.u1 : Decoder Nat) t (pc + 1) = .ok (k1, pc + 2)) (h2 : (Reader.u1 : Decoder Nat) t (pc + 2) = .ok (k2, pc + 3)) (hv : Reader.signed 16 (k1 * 256 + k2) = v) : decode t pc = .ok (.sipush v, 3) := by
  subst hv
  refine dnx (n := pc + 3) ?_ (by omega)
  show Except.bind ((Reader.u1 : Decoder Nat) t pc) _ = _
  rw [h0]
  show Except.bind (Except.map _ (Except.bind ((Reader.u1 : Decoder Nat) t (pc + 1)) _)) _ = _
  rw [h1]
  show Except.bind (Except.map _ (Except.bind ((Reader.u1 : Decoder Nat) t (pc + 2)) _)) _ = _
  rw [h2]
  rfl
theorem do_172 {t : ByteArray} {pc : Nat} (h0 : (Reader.u1 : Decoder Nat) t pc = .ok (172, pc + 1)) : decode t pc = .ok (.ireturn, 1) := by
  refine dnx (n := pc + 1) ?_ (by omega)
  show Except.bind ((Reader.u1 : Decoder Nat) t pc) _ = _
  rw [h0]
  rfl
theorem do_177 {t : ByteArray} {pc : Nat} (h0 : (Reader.u1 : Decoder Nat) t pc = .ok (177, pc + 1)) : decode t pc = .ok (.return_, 1) := by
  refine dnx (n := pc + 1) ?_ (by omega)
  show Except.bind ((Reader.u1 : Decoder Nat) t pc) _ = _
  rw [h0]
  rfl
theorem do_178 {t : ByteArray} {pc k1 k2 v : Nat} (h0 : (Reader.u1 : Decoder Nat) t pc = .ok (178, pc + 1)) (h1 : (Reader.u1 : Decoder Nat) t (pc + 1) = .ok (k1, pc + 2)) (h2 : (Reader.u1 : Decoder Nat) t (pc + 2) = .ok (k2, pc + 3)) (hv : k1 * 256 + k2 = v) : decode t pc = .ok (.getstatic v, 3) := by
  subst hv
  refine dnx (n := pc + 3) ?_ (by omega)
  show Except.bind ((Reader.u1 : Decoder Nat) t pc) _ = _
  rw [h0]
  show Except.bind (Except.bind ((Reader.u1 : Decoder Nat) t (pc + 1)) _) _ = _
  rw [h1]
  show Except.bind (Except.bind ((Reader.u1 : Decoder Nat) t (pc + 2)) _) _ = _
  rw [h2]
  rfl
theorem do_18 {t : ByteArray} {pc k1 : Nat} (h0 : (Reader.u1 : Decoder Nat) t pc = .ok (18, pc + 1)) (h1 : (Reader.u1 : Decoder Nat) t (pc + 1) = .ok (k1, pc + 2)) : decode t pc = .ok (.ldc k1, 2) := by
  refine dnx (n := pc + 2) ?_ (by omega)
  show Except.bind ((Reader.u1 : Decoder Nat) t pc) _ = _
  rw [h0]
  show Except.bind ((Reader.u1 : Decoder Nat) t (pc + 1)) _ = _
  rw [h1]
  rfl
theorem do_180 {t : ByteArray} {pc k1 k2 v : Nat} (h0 : (Reader.u1 : Decoder Nat) t pc = .ok (180, pc + 1)) (h1 : (Reader.u1 : Decoder Nat) t (pc + 1) = .ok (k1, pc + 2)) (h2 : (Reader.u1 : Decoder Nat) t (pc + 2) = .ok (k2, pc + 3)) (hv : k1 * 256 + k2 = v) : decode t pc = .ok (.getfield v, 3) := by
  subst hv
  refine dnx (n := pc + 3) ?_ (by omega)
  show Except.bind ((Reader.u1 : Decoder Nat) t pc) _ = _
  rw [h0]
  show Except.bind (Except.bind ((Reader.u1 : Decoder Nat) t (pc + 1)) _) _ = _
  rw [h1]
  show Except.bind (Except.bind ((Reader.u1 : Decoder Nat) t (pc + 2)) _) _ = _
  rw [h2]
  rfl
theorem do_181 {t : ByteArray} {pc k1 k2 v : Nat} (h0 : (Reader.u1 : Decoder Nat) t pc = .ok (181, pc + 1)) (h1 : (Reader.u1 : Decoder Nat) t (pc + 1) = .ok (k1, pc + 2)) (h2 : (Reader.u1 : Decoder Nat) t (pc + 2) = .ok (k2, pc + 3)) (hv : k1 * 256 + k2 = v) : decode t pc = .ok (.putfield v, 3) := by
  subst hv
  refine dnx (n := pc + 3) ?_ (by omega)
  show Except.bind ((Reader.u1 : Decoder Nat) t pc) _ = _
  rw [h0]
  show Except.bind (Except.bind ((Reader.u1 : Decoder Nat) t (pc + 1)) _) _ = _
  rw [h1]
  show Except.bind (Except.bind ((Reader.u1 : Decoder Nat) t (pc + 2)) _) _ = _
  rw [h2]
  rfl
theorem do_182 {t : ByteArray} {pc k1 k2 v : Nat} (h0 : (Reader.u1 : Decoder Nat) t pc = .ok (182, pc + 1)) (h1 : (Reader.u1 : Decoder Nat) t (pc + 1) = .ok (k1, pc + 2)) (h2 : (Reader.u1 : Decoder Nat) t (pc + 2) = .ok (k2, pc + 3)) (hv : k1 * 256 + k2 = v) : decode t pc = .ok (.invokevirtual v, 3) := by
  subst hv
  refine dnx (n := pc + 3) ?_ (by omega)
  show Except.bind ((Reader.u1 : Decoder Nat) t pc) _ = _
  rw [h0]
  show Except.bind (Except.bind ((Reader.u1 : Decoder Nat) t (pc + 1)) _) _ = _
  rw [h1]
  show Except.bind (Except.bind ((Reader.u1 : Decoder Nat) t (pc + 2)) _) _ = _
  rw [h2]
  rfl
theorem do_183 {t : ByteArray} {pc k1 k2 v : Nat} (h0 : (Reader.u1 : Decoder Nat) t pc = .ok (183, pc + 1)) (h1 : (Reader.u1 : Decoder Nat) t (pc + 1) = .ok (k1, pc + 2)) (h2 : (Reader.u1 : Decoder Nat) t (pc + 2) = .ok (k2, pc + 3)) (hv : k1 * 256 + k2 = v) : decode t pc = .ok (.invokespecial v, 3) := by
  subst hv
  refine dnx (n := pc + 3) ?_ (by omega)
  show Except.bind ((Reader.u1 : Decoder Nat) t pc) _ = _
  rw [h0]
  show Except.bind (Except.bind ((Reader.u1 : Decoder Nat) t (pc + 1)) _) _ = _
  rw [h1]
  show Except.bind (Except.bind ((Reader.u1 : Decoder Nat) t (pc + 2)) _) _ = _
  rw [h2]
  rfl
theorem do_184 {t : ByteArray} {pc k1 k2 v : Nat} (h0 : (Reader.u1 : Decoder Nat) t pc = .ok (184, pc + 1)) (h1 : (Reader.u1 : Decoder Nat) t (pc + 1) = .ok (k1, pc + 2)) (h2 : (Reader.u1 : Decoder Nat) t (pc + 2) = .ok (k2, pc + 3)) (hv : k1 * 256 + k2 = v) : decode t pc = .ok (.invokestatic v, 3) := by
  subst hv
  refine dnx (n := pc + 3) ?_ (by omega)
  show Except.bind ((Reader.u1 : Decoder Nat) t pc) _ = _
  rw [h0]
  show Except.bind (Except.bind ((Reader.u1 : Decoder Nat) t (pc + 1)) _) _ = _
  rw [h1]
  show Except.bind (Except.bind ((Reader.u1 : Decoder Nat) t (pc + 2)) _) _ = _
  rw [h2]
  rfl
theorem do_187 {t : ByteArray} {pc k1 k2 v : Nat} (h0 : (Reader.u1 : Decoder Nat) t pc = .ok (187, pc + 1)) (h1 : (Reader.u1 : Decoder Nat) t (pc + 1) = .ok (k1, pc + 2)) (h2 : (Reader.u1 : Decoder Nat) t (pc + 2) = .ok (k2, pc + 3)) (hv : k1 * 256 + k2 = v) : decode t pc = .ok (.new v, 3) := by
  subst hv
  refine dnx (n := pc + 3) ?_ (by omega)
  show Except.bind ((Reader.u1 : Decoder Nat) t pc) _ = _
  rw [h0]
  show Except.bind (Except.bind ((Reader.u1 : Decoder Nat) t (pc + 1)) _) _ = _
  rw [h1]
  show Except.bind (Except.bind ((Reader.u1 : Decoder Nat) t (pc + 2)) _) _ = _
  rw [h2]
  rfl
theorem do_189 {t : ByteArray} {pc k1 k2 v : Nat} (h0 : (Reader.u1 : Decoder Nat) t pc = .ok (189, pc + 1)) (h1 : (Reader.u1 : Decoder Nat) t (pc + 1) = .ok (k1, pc + 2)) (h2 : (Reader.u1 : Decoder Nat) t (pc + 2) = .ok (k2, pc + 3)) (hv : k1 * 256 + k2 = v) : decode t pc = .ok (.anewarray v, 3) := by
  subst hv
  refine dnx (n := pc + 3) ?_ (by omega)
  show Except.bind ((Reader.u1 : Decoder Nat) t pc) _ = _
  rw [h0]
  show Except.bind (Except.bind ((Reader.u1 : Decoder Nat) t (pc + 1)) _) _ = _
  rw [h1]
  show Except.bind (Except.bind ((Reader.u1 : Decoder Nat) t (pc + 2)) _) _ = _
  rw [h2]
  rfl
theorem do_19 {t : ByteArray} {pc k1 k2 v : Nat} (h0 : (Reader.u1 : Decoder Nat) t pc = .ok (19, pc + 1)) (h1 : (Reader.u1 : Decoder Nat) t (pc + 1) = .ok (k1, pc + 2)) (h2 : (Reader.u1 : Decoder Nat) t (pc + 2) = .ok (k2, pc + 3)) (hv : k1 * 256 + k2 = v) : decode t pc = .ok (.ldc_w v, 3) := by
  subst hv
  refine dnx (n := pc + 3) ?_ (by omega)
  show Except.bind ((Reader.u1 : Decoder Nat) t pc) _ = _
  rw [h0]
  show Except.bind (Except.bind ((Reader.u1 : Decoder Nat) t (pc + 1)) _) _ = _
  rw [h1]
  show Except.bind (Except.bind ((Reader.u1 : Decoder Nat) t (pc + 2)) _) _ = _
  rw [h2]
  rfl
theorem do_190 {t : ByteArray} {pc : Nat} (h0 : (Reader.u1 : Decoder Nat) t pc = .ok (190, pc + 1)) : decode t pc = .ok (.arraylength, 1) := by
  refine dnx (n := pc + 1) ?_ (by omega)
  show Except.bind ((Reader.u1 : Decoder Nat) t pc) _ = _
  rw [h0]
  rfl
theorem do_2 {t : ByteArray} {pc : Nat} (h0 : (Reader.u1 : Decoder Nat) t pc = .ok (2, pc + 1)) : decode t pc = .ok (.iconst (-1), 1) := by
  refine dnx (n := pc + 1) ?_ (by omega)
  show Except.bind ((Reader.u1 : Decoder Nat) t pc) _ = _
  rw [h0]
  rfl
theorem do_20 {t : ByteArray} {pc k1 k2 v : Nat} (h0 : (Reader.u1 : Decoder Nat) t pc = .ok (20, pc + 1)) (h1 : (Reader.u1 : Decoder Nat) t (pc + 1) = .ok (k1, pc + 2)) (h2 : (Reader.u1 : Decoder Nat) t (pc + 2) = .ok (k2, pc + 3)) (hv : k1 * 256 + k2 = v) : decode t pc = .ok (.ldc2_w v, 3) := by
  subst hv
  refine dnx (n := pc + 3) ?_ (by omega)
  show Except.bind ((Reader.u1 : Decoder Nat) t pc) _ = _
  rw [h0]
  show Except.bind (Except.bind ((Reader.u1 : Decoder Nat) t (pc + 1)) _) _ = _
  rw [h1]
  show Except.bind (Except.bind ((Reader.u1 : Decoder Nat) t (pc + 2)) _) _ = _
  rw [h2]
  rfl
theorem do_21 {t : ByteArray} {pc k1 : Nat} (h0 : (Reader.u1 : Decoder Nat) t pc = .ok (21, pc + 1)) (h1 : (Reader.u1 : Decoder Nat) t (pc + 1) = .ok (k1, pc + 2)) : decode t pc = .ok (.iload k1, 2) := by
  refine dnx (n := pc + 2) ?_ (by omega)
  show Except.bind ((Reader.u1 : Decoder Nat) t pc) _ = _
  rw [h0]
  show Except.bind ((Reader.u1 : Decoder Nat) t (pc + 1)) _ = _
  rw [h1]
  rfl
theorem do_22 {t : ByteArray} {pc k1 : Nat} (h0 : (Reader.u1 : Decoder Nat) t pc = .ok (22, pc + 1)) (h1 : (Reader.u1 : Decoder Nat) t (pc + 1) = .ok (k1, pc + 2)) : decode t pc = .ok (.lload k1, 2) := by
  refine dnx (n := pc + 2) ?_ (by omega)
  show Except.bind ((Reader.u1 : Decoder Nat) t pc) _ = _
  rw [h0]
  show Except.bind ((Reader.u1 : Decoder Nat) t (pc + 1)) _ = _
  rw [h1]
  rfl
theorem do_25 {t : ByteArray} {pc k1 : Nat} (h0 : (Reader.u1 : Decoder Nat) t pc = .ok (25, pc + 1)) (h1 : (Reader.u1 : Decoder Nat) t (pc + 1) = .ok (k1, pc + 2)) : decode t pc = .ok (.aload k1, 2) := by
  refine dnx (n := pc + 2) ?_ (by omega)
  show Except.bind ((Reader.u1 : Decoder Nat) t pc) _ = _
  rw [h0]
  show Except.bind ((Reader.u1 : Decoder Nat) t (pc + 1)) _ = _
  rw [h1]
  rfl
theorem do_26 {t : ByteArray} {pc : Nat} (h0 : (Reader.u1 : Decoder Nat) t pc = .ok (26, pc + 1)) : decode t pc = .ok (.iload_n 0, 1) := by
  refine dnx (n := pc + 1) ?_ (by omega)
  show Except.bind ((Reader.u1 : Decoder Nat) t pc) _ = _
  rw [h0]
  rfl
theorem do_27 {t : ByteArray} {pc : Nat} (h0 : (Reader.u1 : Decoder Nat) t pc = .ok (27, pc + 1)) : decode t pc = .ok (.iload_n 1, 1) := by
  refine dnx (n := pc + 1) ?_ (by omega)
  show Except.bind ((Reader.u1 : Decoder Nat) t pc) _ = _
  rw [h0]
  rfl
theorem do_28 {t : ByteArray} {pc : Nat} (h0 : (Reader.u1 : Decoder Nat) t pc = .ok (28, pc + 1)) : decode t pc = .ok (.iload_n 2, 1) := by
  refine dnx (n := pc + 1) ?_ (by omega)
  show Except.bind ((Reader.u1 : Decoder Nat) t pc) _ = _
  rw [h0]
  rfl
theorem do_29 {t : ByteArray} {pc : Nat} (h0 : (Reader.u1 : Decoder Nat) t pc = .ok (29, pc + 1)) : decode t pc = .ok (.iload_n 3, 1) := by
  refine dnx (n := pc + 1) ?_ (by omega)
  show Except.bind ((Reader.u1 : Decoder Nat) t pc) _ = _
  rw [h0]
  rfl
theorem do_3 {t : ByteArray} {pc : Nat} (h0 : (Reader.u1 : Decoder Nat) t pc = .ok (3, pc + 1)) : decode t pc = .ok (.iconst 0, 1) := by
  refine dnx (n := pc + 1) ?_ (by omega)
  show Except.bind ((Reader.u1 : Decoder Nat) t pc) _ = _
  rw [h0]
  rfl
theorem do_31 {t : ByteArray} {pc : Nat} (h0 : (Reader.u1 : Decoder Nat) t pc = .ok (31, pc + 1)) : decode t pc = .ok (.lload_n 1, 1) := by
  refine dnx (n := pc + 1) ?_ (by omega)
  show Except.bind ((Reader.u1 : Decoder Nat) t pc) _ = _
  rw [h0]
  rfl
theorem do_4 {t : ByteArray} {pc : Nat} (h0 : (Reader.u1 : Decoder Nat) t pc = .ok (4, pc + 1)) : decode t pc = .ok (.iconst 1, 1) := by
  refine dnx (n := pc + 1) ?_ (by omega)
  show Except.bind ((Reader.u1 : Decoder Nat) t pc) _ = _
  rw [h0]
  rfl
theorem do_42 {t : ByteArray} {pc : Nat} (h0 : (Reader.u1 : Decoder Nat) t pc = .ok (42, pc + 1)) : decode t pc = .ok (.aload_n 0, 1) := by
  refine dnx (n := pc + 1) ?_ (by omega)
  show Except.bind ((Reader.u1 : Decoder Nat) t pc) _ = _
  rw [h0]
  rfl
theorem do_43 {t : ByteArray} {pc : Nat} (h0 : (Reader.u1 : Decoder Nat) t pc = .ok (43, pc + 1)) : decode t pc = .ok (.aload_n 1, 1) := by
  refine dnx (n := pc + 1) ?_ (by omega)
  show Except.bind ((Reader.u1 : Decoder Nat) t pc) _ = _
  rw [h0]
  rfl
theorem do_44 {t : ByteArray} {pc : Nat} (h0 : (Reader.u1 : Decoder Nat) t pc = .ok (44, pc + 1)) : decode t pc = .ok (.aload_n 2, 1) := by
  refine dnx (n := pc + 1) ?_ (by omega)
  show Except.bind ((Reader.u1 : Decoder Nat) t pc) _ = _
  rw [h0]
  rfl
theorem do_45 {t : ByteArray} {pc : Nat} (h0 : (Reader.u1 : Decoder Nat) t pc = .ok (45, pc + 1)) : decode t pc = .ok (.aload_n 3, 1) := by
  refine dnx (n := pc + 1) ?_ (by omega)
  show Except.bind ((Reader.u1 : Decoder Nat) t pc) _ = _
  rw [h0]
  rfl
theorem do_46 {t : ByteArray} {pc : Nat} (h0 : (Reader.u1 : Decoder Nat) t pc = .ok (46, pc + 1)) : decode t pc = .ok (.iaload, 1) := by
  refine dnx (n := pc + 1) ?_ (by omega)
  show Except.bind ((Reader.u1 : Decoder Nat) t pc) _ = _
  rw [h0]
  rfl
theorem do_47 {t : ByteArray} {pc : Nat} (h0 : (Reader.u1 : Decoder Nat) t pc = .ok (47, pc + 1)) : decode t pc = .ok (.laload, 1) := by
  refine dnx (n := pc + 1) ?_ (by omega)
  show Except.bind ((Reader.u1 : Decoder Nat) t pc) _ = _
  rw [h0]
  rfl
theorem do_5 {t : ByteArray} {pc : Nat} (h0 : (Reader.u1 : Decoder Nat) t pc = .ok (5, pc + 1)) : decode t pc = .ok (.iconst 2, 1) := by
  refine dnx (n := pc + 1) ?_ (by omega)
  show Except.bind ((Reader.u1 : Decoder Nat) t pc) _ = _
  rw [h0]
  rfl
theorem do_50 {t : ByteArray} {pc : Nat} (h0 : (Reader.u1 : Decoder Nat) t pc = .ok (50, pc + 1)) : decode t pc = .ok (.aaload, 1) := by
  refine dnx (n := pc + 1) ?_ (by omega)
  show Except.bind ((Reader.u1 : Decoder Nat) t pc) _ = _
  rw [h0]
  rfl
theorem do_51 {t : ByteArray} {pc : Nat} (h0 : (Reader.u1 : Decoder Nat) t pc = .ok (51, pc + 1)) : decode t pc = .ok (.baload, 1) := by
  refine dnx (n := pc + 1) ?_ (by omega)
  show Except.bind ((Reader.u1 : Decoder Nat) t pc) _ = _
  rw [h0]
  rfl
theorem do_54 {t : ByteArray} {pc k1 : Nat} (h0 : (Reader.u1 : Decoder Nat) t pc = .ok (54, pc + 1)) (h1 : (Reader.u1 : Decoder Nat) t (pc + 1) = .ok (k1, pc + 2)) : decode t pc = .ok (.istore k1, 2) := by
  refine dnx (n := pc + 2) ?_ (by omega)
  show Except.bind ((Reader.u1 : Decoder Nat) t pc) _ = _
  rw [h0]
  show Except.bind ((Reader.u1 : Decoder Nat) t (pc + 1)) _ = _
  rw [h1]
  rfl
theorem do_55 {t : ByteArray} {pc k1 : Nat} (h0 : (Reader.u1 : Decoder Nat) t pc = .ok (55, pc + 1)) (h1 : (Reader.u1 : Decoder Nat) t (pc + 1) = .ok (k1, pc + 2)) : decode t pc = .ok (.lstore k1, 2) := by
  refine dnx (n := pc + 2) ?_ (by omega)
  show Except.bind ((Reader.u1 : Decoder Nat) t pc) _ = _
  rw [h0]
  show Except.bind ((Reader.u1 : Decoder Nat) t (pc + 1)) _ = _
  rw [h1]
  rfl
theorem do_58 {t : ByteArray} {pc k1 : Nat} (h0 : (Reader.u1 : Decoder Nat) t pc = .ok (58, pc + 1)) (h1 : (Reader.u1 : Decoder Nat) t (pc + 1) = .ok (k1, pc + 2)) : decode t pc = .ok (.astore k1, 2) := by
  refine dnx (n := pc + 2) ?_ (by omega)
  show Except.bind ((Reader.u1 : Decoder Nat) t pc) _ = _
  rw [h0]
  show Except.bind ((Reader.u1 : Decoder Nat) t (pc + 1)) _ = _
  rw [h1]
  rfl
theorem do_6 {t : ByteArray} {pc : Nat} (h0 : (Reader.u1 : Decoder Nat) t pc = .ok (6, pc + 1)) : decode t pc = .ok (.iconst 3, 1) := by
  refine dnx (n := pc + 1) ?_ (by omega)
  show Except.bind ((Reader.u1 : Decoder Nat) t pc) _ = _
  rw [h0]
  rfl
theorem do_60 {t : ByteArray} {pc : Nat} (h0 : (Reader.u1 : Decoder Nat) t pc = .ok (60, pc + 1)) : decode t pc = .ok (.istore_n 1, 1) := by
  refine dnx (n := pc + 1) ?_ (by omega)
  show Except.bind ((Reader.u1 : Decoder Nat) t pc) _ = _
  rw [h0]
  rfl
theorem do_61 {t : ByteArray} {pc : Nat} (h0 : (Reader.u1 : Decoder Nat) t pc = .ok (61, pc + 1)) : decode t pc = .ok (.istore_n 2, 1) := by
  refine dnx (n := pc + 1) ?_ (by omega)
  show Except.bind ((Reader.u1 : Decoder Nat) t pc) _ = _
  rw [h0]
  rfl
theorem do_62 {t : ByteArray} {pc : Nat} (h0 : (Reader.u1 : Decoder Nat) t pc = .ok (62, pc + 1)) : decode t pc = .ok (.istore_n 3, 1) := by
  refine dnx (n := pc + 1) ?_ (by omega)
  show Except.bind ((Reader.u1 : Decoder Nat) t pc) _ = _
  rw [h0]
  rfl
theorem do_7 {t : ByteArray} {pc : Nat} (h0 : (Reader.u1 : Decoder Nat) t pc = .ok (7, pc + 1)) : decode t pc = .ok (.iconst 4, 1) := by
  refine dnx (n := pc + 1) ?_ (by omega)
  show Except.bind ((Reader.u1 : Decoder Nat) t pc) _ = _
  rw [h0]
  rfl
theorem do_76 {t : ByteArray} {pc : Nat} (h0 : (Reader.u1 : Decoder Nat) t pc = .ok (76, pc + 1)) : decode t pc = .ok (.astore_n 1, 1) := by
  refine dnx (n := pc + 1) ?_ (by omega)
  show Except.bind ((Reader.u1 : Decoder Nat) t pc) _ = _
  rw [h0]
  rfl
theorem do_77 {t : ByteArray} {pc : Nat} (h0 : (Reader.u1 : Decoder Nat) t pc = .ok (77, pc + 1)) : decode t pc = .ok (.astore_n 2, 1) := by
  refine dnx (n := pc + 1) ?_ (by omega)
  show Except.bind ((Reader.u1 : Decoder Nat) t pc) _ = _
  rw [h0]
  rfl
theorem do_78 {t : ByteArray} {pc : Nat} (h0 : (Reader.u1 : Decoder Nat) t pc = .ok (78, pc + 1)) : decode t pc = .ok (.astore_n 3, 1) := by
  refine dnx (n := pc + 1) ?_ (by omega)
  show Except.bind ((Reader.u1 : Decoder Nat) t pc) _ = _
  rw [h0]
  rfl
theorem do_79 {t : ByteArray} {pc : Nat} (h0 : (Reader.u1 : Decoder Nat) t pc = .ok (79, pc + 1)) : decode t pc = .ok (.iastore, 1) := by
  refine dnx (n := pc + 1) ?_ (by omega)
  show Except.bind ((Reader.u1 : Decoder Nat) t pc) _ = _
  rw [h0]
  rfl
theorem do_8 {t : ByteArray} {pc : Nat} (h0 : (Reader.u1 : Decoder Nat) t pc = .ok (8, pc + 1)) : decode t pc = .ok (.iconst 5, 1) := by
  refine dnx (n := pc + 1) ?_ (by omega)
  show Except.bind ((Reader.u1 : Decoder Nat) t pc) _ = _
  rw [h0]
  rfl
theorem do_80 {t : ByteArray} {pc : Nat} (h0 : (Reader.u1 : Decoder Nat) t pc = .ok (80, pc + 1)) : decode t pc = .ok (.lastore, 1) := by
  refine dnx (n := pc + 1) ?_ (by omega)
  show Except.bind ((Reader.u1 : Decoder Nat) t pc) _ = _
  rw [h0]
  rfl
theorem do_83 {t : ByteArray} {pc : Nat} (h0 : (Reader.u1 : Decoder Nat) t pc = .ok (83, pc + 1)) : decode t pc = .ok (.aastore, 1) := by
  refine dnx (n := pc + 1) ?_ (by omega)
  show Except.bind ((Reader.u1 : Decoder Nat) t pc) _ = _
  rw [h0]
  rfl
theorem do_84 {t : ByteArray} {pc : Nat} (h0 : (Reader.u1 : Decoder Nat) t pc = .ok (84, pc + 1)) : decode t pc = .ok (.bastore, 1) := by
  refine dnx (n := pc + 1) ?_ (by omega)
  show Except.bind ((Reader.u1 : Decoder Nat) t pc) _ = _
  rw [h0]
  rfl
theorem do_87 {t : ByteArray} {pc : Nat} (h0 : (Reader.u1 : Decoder Nat) t pc = .ok (87, pc + 1)) : decode t pc = .ok (.pop, 1) := by
  refine dnx (n := pc + 1) ?_ (by omega)
  show Except.bind ((Reader.u1 : Decoder Nat) t pc) _ = _
  rw [h0]
  rfl
theorem do_89 {t : ByteArray} {pc : Nat} (h0 : (Reader.u1 : Decoder Nat) t pc = .ok (89, pc + 1)) : decode t pc = .ok (.dup, 1) := by
  refine dnx (n := pc + 1) ?_ (by omega)
  show Except.bind ((Reader.u1 : Decoder Nat) t pc) _ = _
  rw [h0]
  rfl
theorem do_9 {t : ByteArray} {pc : Nat} (h0 : (Reader.u1 : Decoder Nat) t pc = .ok (9, pc + 1)) : decode t pc = .ok (.lconst 0, 1) := by
  refine dnx (n := pc + 1) ?_ (by omega)
  show Except.bind ((Reader.u1 : Decoder Nat) t pc) _ = _
  rw [h0]
  rfl
theorem do_92 {t : ByteArray} {pc : Nat} (h0 : (Reader.u1 : Decoder Nat) t pc = .ok (92, pc + 1)) : decode t pc = .ok (.dup2, 1) := by
  refine dnx (n := pc + 1) ?_ (by omega)
  show Except.bind ((Reader.u1 : Decoder Nat) t pc) _ = _
  rw [h0]
  rfl
theorem do_96 {t : ByteArray} {pc : Nat} (h0 : (Reader.u1 : Decoder Nat) t pc = .ok (96, pc + 1)) : decode t pc = .ok (.iadd, 1) := by
  refine dnx (n := pc + 1) ?_ (by omega)
  show Except.bind ((Reader.u1 : Decoder Nat) t pc) _ = _
  rw [h0]
  rfl
theorem do_97 {t : ByteArray} {pc : Nat} (h0 : (Reader.u1 : Decoder Nat) t pc = .ok (97, pc + 1)) : decode t pc = .ok (.ladd, 1) := by
  refine dnx (n := pc + 1) ?_ (by omega)
  show Except.bind ((Reader.u1 : Decoder Nat) t pc) _ = _
  rw [h0]
  rfl
end
section
/-! the general base: statics and constant Strings are heap facts outside the world -/
abbrev STs : List (String × String × List Int32) := [(RX9, "REACHES", [3, 12, 1, 6, 0, 6, 5, 10]), (RX9, "SPEEDS", [1, 1, 1, 1, 1, 1, 1, 2]), (RX9, "HEARS_TO", [9, 9, 9, 9, 9, 9, 5, 9]), (RX9, "ABOVE", [-1, 0, 0, 0, 0, 1, 3, 1]), (RX7, "EAST", [0, 1, 1, 1, 0, -1, -1, -1]), (RX7, "SOUTH", [-1, -1, 0, 1, 1, 1, 0, -1]), (RX8, "BODIES", [10, 11, 12, 13, 20, 0, 0, 21, 0, 30, 0, 0, 40, 0, 41, 0, 0, 0, 50, 0, 0, 60, 0, 0, 0, 70, 71, 0, 0, 0, 0, 80])]
abbrev SBs : List (List Int32) := [[], [108, 111, 121, 112], [115, 110, 116], [102, 108, 114, 98, 116], [108, 111, 121, 112], [115, 110, 116], [102, 108, 114, 98, 116]]
def NW (ws : va_W) : Nat → Prop := fun q => ∃ (k : Nat) (e : va_E), ws[k]? = some (q, e)
def STAT (sa sk : Nat → Nat) (B : Nat → Prop) (U : State) (H : Heap) : Prop :=
  (∀ (k : Nat) (q : String × String × List Int32), STs[k]? = some q → va_Z q.1 q.2.1 "[I" (.ref (sa k)) B U H ∧ va_T .int (sa k) q.2.2.length (fun j => .int (q.2.2.getD j 0)) B U H) ∧ va_Z "java/lang/String" "COMPACT_STRINGS" "Z" (.int 1) B U H ∧
  (∀ (k : Nat) (l : List Int32), SBs[k]? = some l → va_O "java/lang/String" (sk k) B U H ∧ va_OF "java/lang/String" "coder" "B" (.int 0) (sk k) B U H ∧ va_OF "java/lang/String" "value" "[B" (.ref (sa (10 + k))) (sk k) B U H ∧ va_T .byte (sa (10 + k)) l.length (fun j => .int (l.getD j 0)) B U H) ∧
  va_Zq "jdk/internal/util/Preconditions" "SIOOBE_FORMATTER" "Ljava/util/function/BiFunction;" B U H
theorem STAT.moved {sa sk : Nat → Nat} {B : Nat → Prop} {u U : State} {H : Heap} (hvm : u.vm.Alike U.vm) (h : STAT sa sk B u H) : STAT sa sk B U H :=
  ⟨fun k q hq => ⟨(h.1 k q hq).1.moved hvm, (h.1 k q hq).2.moved hvm⟩, h.2.1.moved hvm, fun k l hl => ⟨(h.2.2.1 k l hl).1.moved hvm, (h.2.2.1 k l hl).2.1.moved hvm, (h.2.2.1 k l hl).2.2.1.moved hvm, (h.2.2.1 k l hl).2.2.2.moved hvm⟩, h.2.2.2.moved hvm⟩
theorem STAT.kept {sa sk : Nat → Nat} {B : Nat → Prop} {U : State} {H H1 : Heap} (h : STAT sa sk B U H) (hq : ∀ a : Nat, a < H.size → ¬ B a → H1[a]? = H[a]?) : STAT sa sk B U H1 :=
  ⟨fun k q hk => ⟨(h.1 k q hk).1.kept hq, (h.1 k q hk).2.kept hq⟩, h.2.1.kept hq, fun k l hl => ⟨(h.2.2.1 k l hl).1.kept hq, (h.2.2.1 k l hl).2.1.kept hq, (h.2.2.1 k l hl).2.2.1.kept hq, (h.2.2.1 k l hl).2.2.2.kept hq⟩, h.2.2.2.kept hq⟩
theorem STAT.narrow {sa sk : Nat → Nat} {A B : Nat → Prop} {U : State} {H : Heap} (h : STAT sa sk A U H) (hAB : ∀ q, B q → A q) : STAT sa sk B U H :=
  ⟨fun k q hk => ⟨(h.1 k q hk).1.narrow hAB, (h.1 k q hk).2.narrow hAB⟩, h.2.1.narrow hAB, fun k l hl => ⟨(h.2.2.1 k l hl).1.narrow hAB, (h.2.2.1 k l hl).2.1.narrow hAB, (h.2.2.1 k l hl).2.2.1.narrow hAB, (h.2.2.1 k l hl).2.2.2.narrow hAB⟩, h.2.2.2.narrow hAB⟩
theorem nA_up {ws : va_W} {H : Heap} {a : Nat} {cell : Cell} (h : H[a]? = some cell) (hn : ¬ NW ws a) : ¬ va_A ws H.size a := fun q => q.elim hn (fun z => absurd (Array.getElem?_eq_some_iff.mp h).1 (Nat.not_lt.mpr z))
theorem STAT.up {sa sk : Nat → Nat} {ws : va_W} {U : State} {H : Heap} (h : STAT sa sk (NW ws) U H) : STAT sa sk (va_A ws H.size) U H := by
  have hZ : ∀ {C n d : String} {v : Value}, va_Z C n d v (NW ws) U H → va_Z C n d v (va_A ws H.size) U H := fun ⟨cf, kf, fi, f, a, ce, h1, h2, h3, h4, h5, h6, h7, h8⟩ => ⟨cf, kf, fi, f, a, ce, h1, h2, h3, h4, h5, h6, h7, nA_up h5 h8⟩
  have hT : ∀ {ty : FieldType} {t N : Nat} {f : Nat → Value}, va_T ty t N f (NW ws) U H → va_T ty t N f (va_A ws H.size) U H := fun ⟨ce, h1, h2, h3, h4, h5, h6, h7⟩ => ⟨ce, h1, h2, h3, h4, h5, h6, nA_up h1 h7⟩
  have hO : ∀ {E : String} {t : Nat}, va_O E t (NW ws) U H → va_O E t (va_A ws H.size) U H := fun ⟨ce, h1, h2, h3, h4⟩ => ⟨ce, h1, h2, h3, nA_up h1 h4⟩
  have hF : ∀ {o n d : String} {v : Value} {t : Nat}, va_OF o n d v t (NW ws) U H → va_OF o n d v t (va_A ws H.size) U H := fun ⟨cf, k, i, f, ce, h1, h2, h3, h4, h5, h6⟩ => ⟨cf, k, i, f, ce, h1, h2, h3, h4, h5, nA_up h3 h6⟩
  exact ⟨fun k q hk => ⟨hZ (h.1 k q hk).1, hT (h.1 k q hk).2⟩, hZ h.2.1, fun k l hl => ⟨hO (h.2.2.1 k l hl).1, hF (h.2.2.1 k l hl).2.1, hF (h.2.2.1 k l hl).2.2.1, hT (h.2.2.1 k l hl).2.2.2⟩, h.2.2.2.elim (fun q => Or.inl (hZ q)) (fun ⟨t, q⟩ => Or.inr ⟨t, hZ q⟩)⟩
def PG (G : va_G) (cy : Nat → ClassId) (sk sa : Nat → Nat) (sz : Nat) (ws : va_W) (U : State) : Prop := PR G cy sk sz ws U ∧ STAT sa sk (NW ws) U U.heap
theorem PG_blind {av : List Value} {G : va_G} {cy : Nat → ClassId} {sk sa : Nat → Nat} {sz : Nat} {ws : va_W} : FrameBlind (va_Pc av (PG G cy sk sa sz ws)) := fun a U g mk h => ⟨h.1, ⟨h.2.1.1, h.2.1.2.1, EN.same (u := U) (U := U.calling g mk a) rfl h.2.1.2.2.1, h.2.1.2.2.2⟩, STAT.moved (u := U) (U := U.calling g mk a) (Vm.Alike.refl U.vm) h.2.2⟩
theorem PG_of {av : List Value} {G : va_G} {cy : Nat → ClassId} {sk sa : Nat → Nat} {H : Heap} {ws : va_W} {A : Nat → Prop} {s : State} {locs : List Loc} (hS : va_S A s.heap H locs) (hT : STAT sa sk A s s.heap) (hP : va_P G classes ws H) (hD : va_D A ws) (hE : EN G cy sk s) : ∀ U : State, U.heap = H → s.WarmedH U.vm → va_Pc av (PG G cy sk sa H.size ws) av.toArray U :=
  fun U hU hW => ⟨rfl, ⟨by rw [hU], by rw [hU]; exact hP, hE.warm hW, hD.weaken (fun _ _ _ _ => trivial)⟩, by rw [hU]; exact ((hT.kept hS.2.1).narrow (fun q ⟨k, e, h⟩ => hD.2 k _ h)).moved hW.alike⟩
theorem D_nw {ws : va_W} {A : Nat → Prop} (h : va_D A ws) : va_D (NW ws) ws := ⟨h.1, fun k q hk => ⟨k, q.2, hk⟩⟩
/-! references by role, world and number; values; the memory -/
abbrev rf : Type := Nat × Nat × Nat
abbrev mV : Type := Int32 ⊕ Int64 ⊕ rf
abbrev mM : Type := (rf → Nat → Int32) × (Nat → Int64)
abbrev vI (x : Int32) : mV := .inl x
abbrev vL (x : Int64) : mV := .inr (.inl x)
abbrev vR (c : rf) : mV := .inr (.inr c)
def gv (ad : rf → Nat) (v : mV) : Value := match v with
  | .inl x => .int x
  | .inr (.inl x) => .long x
  | .inr (.inr c) => .ref (ad c)
def gl (ad : rf → Nat) (l : List (Nat × mV)) : List (Nat × Value) := l.map (fun q => (q.1, gv ad q.2))
def vc2 (v : mV) : Bool := match v with
  | .inr (.inl _) => true
  | _ => false
def lset (l : List (Nat × mV)) (i : Nat) (v : mV) : List (Nat × mV) := (i, v) :: l.filter (fun q => !(q.1 == i) && !(q.1 + 1 == i && vc2 q.2))
def lset2 (l : List (Nat × mV)) (i : Nat) (v : mV) : List (Nat × mV) := (i, v) :: l.filter (fun q => !(q.1 == i) && (!(q.1 == i + 1) && !(q.1 + 1 == i && vc2 q.2)))
theorem gv_cat (ad : rf → Nat) (v : mV) : ((gv ad v).category == 2) = vc2 v := by rcases v with x | x | x <;> rfl
theorem gl_lset (ad : rf → Nat) (l : List (Nat × mV)) (i : Nat) (v : mV) : (i, gv ad v) :: (gl ad l).filter (fun q => !(q.1 == i) && !(q.1 + 1 == i && q.2.category == 2)) = gl ad (lset l i v) := by
  unfold gl lset
  rw [List.map_cons, List.filter_map]
  congr 2
  refine List.filter_congr fun q _ => ?_
  simp only [Function.comp, gv_cat]
theorem gl_lset2 (ad : rf → Nat) (l : List (Nat × mV)) (i : Nat) (v : mV) : (i, gv ad v) :: (gl ad l).filter (fun q => !(q.1 == i) && (!(q.1 == i + 1) && !(q.1 + 1 == i && q.2.category == 2))) = gl ad (lset2 l i v) := by
  unfold gl lset2
  rw [List.map_cons, List.filter_map]
  congr 2
  refine List.filter_congr fun q _ => ?_
  simp only [Function.comp, gv_cat]
theorem gl_at {ad : rf → Nat} {l : List (Nat × mV)} {k i : Nat} {v : mV} (h : l[k]? = some (i, v)) : (gl ad l)[k]? = some (i, gv ad v) := by
  unfold gl
  rw [List.getElem?_map, h]; rfl
abbrev fR : Type := Nat → Nat → Int32 → mV
def oI : fR := fun _ _ x => vI x
def oS (r : Nat) : fR := fun b w _ => vR (r, b, w)
def oW (r w : Nat) : fR := fun b _ _ => vR (r, b, w)
def oC (c : rf) : fR := fun _ _ _ => vR c
def oD (t : List rf) : fR := fun _ _ x => vR (t.getD x.toNatClampNeg (0, 0, 0))
def rl (w : Nat) : Nat := ([48, 24, 7, 7, 30, 30, 0] : List Nat).getD w 0
def OB (r : Nat) : Option (Nat × List fR) := match r with
  | 0 => some (0, [oC (20, 0, 0), oC (21, 0, 0), oC (22, 0, 0), oC (23, 0, 0), oI, oI])
  | 1 => some (1, [oS 24, oS 25, oI])
  | 2 => some (2, [oI, oI, oI, oS 26, oS 27, oS 28, oS 29])
  | 3 => some (3, [oS 30, oS 31, oS 32, oI, oW 5 2, oW 5 3, oI, oI, oI])
  | 4 => some (4, [oC (1, 3, 0), oD [(5, 3, 6), (5, 0, 0)], oD [(91, 0, 0), (91, 1, 0), (91, 2, 0), (91, 3, 0)], oI, oI, oI, oI])
  | 5 => some (5, [oS 33, oI])
  | 6 => some (6, [oI, oI, oS 34])
  | 7 => some (7, [oS 35, oS 36, oS 37, oS 38, oS 39, oI])
  | 8 => some (8, [oC (5, 3, 4), oC (5, 3, 5), oI, oI, oI, oI])
  | 9 => some (9, [oI, oI, oI, oI, oI, oI, oI, oI, oI, oS 40, oS 41])
  | 10 => some (10, [oS 7, oS 2, oS 3, oW 5 0, oW 5 1, oS 42, oI, oI])
  | 11 => some (11, [oC (10, 0, 0), oC (10, 1, 0), oC (10, 2, 0), oC (43, 0, 0), oC (44, 0, 0), oC (4, 0, 0), oC (0, 0, 0), oC (8, 0, 0), oI])
  | 12 => some (12, [oC (50, 0, 0), oC (51, 0, 0), oC (52, 0, 0), oI, oC (53, 0, 0), oC (54, 0, 0), oC (55, 0, 0), oI, oC (56, 0, 0), oI, oI, oI, oI, oI, oI, oC (57, 0, 0), oC (58, 0, 0), oC (59, 0, 0), oC (60, 0, 0), oC (61, 0, 0), oC (62, 0, 0), oC (63, 0, 0), oI, oI, oC (64, 0, 0), oC (65, 0, 0), oI, oI, oI, oC (66, 0, 0), oC (67, 0, 0), oC (68, 0, 0), oC (69, 0, 0)])
  | _ => none
def AR (r : Nat) : Option (Nat × (Nat → Nat)) := match r with
  | 20 => some (0, fun _ => 192)
  | 21 => some (1, fun _ => 192)
  | 22 => some (2, fun _ => 24)
  | 23 => some (0, fun _ => 8)
  | 24 => some (0, fun _ => 48)
  | 25 => some (0, fun _ => 48)
  | 26 => some (0, fun _ => 5)
  | 27 => some (0, fun _ => 5)
  | 29 => some (0, fun _ => 5)
  | 30 => some (0, fun _ => 7)
  | 31 => some (0, fun _ => 7)
  | 32 => some (0, fun _ => 7)
  | 33 => some (0, rl)
  | 34 => some (0, fun _ => 24)
  | 35 => some (0, fun _ => 192)
  | 36 => some (0, fun _ => 40)
  | 37 => some (0, fun _ => 40)
  | 38 => some (0, fun _ => 40)
  | 39 => some (0, fun _ => 40)
  | 40 => some (0, fun _ => 192)
  | 41 => some (0, fun _ => 192)
  | 44 => some (0, fun _ => 7)
  | 50 => some (0, fun _ => 3567)
  | 51 => some (0, fun _ => 3567)
  | 52 => some (0, fun _ => 3567)
  | 53 => some (0, fun _ => 7)
  | 54 => some (0, fun _ => 8)
  | 55 => some (0, fun _ => 8)
  | 57 => some (0, fun _ => 49)
  | 58 => some (0, fun _ => 5)
  | 59 => some (0, fun _ => 49)
  | 60 => some (1, fun _ => 1536)
  | 61 => some (0, fun _ => 192)
  | 62 => some (0, fun _ => 7)
  | 63 => some (0, fun _ => 7)
  | 64 => some (0, fun _ => 8)
  | 65 => some (0, fun _ => 30)
  | 66 => some (0, fun _ => 4)
  | 67 => some (0, fun _ => 4)
  | 68 => some (0, fun _ => 96)
  | 69 => some (0, fun _ => 24)
  | _ => none
def RA (r : Nat) : Option (Nat × Nat × (Nat → Nat → rf)) := match r with
  | 28 => some (3, 3, fun b j => (1, b, j))
  | 42 => some (4, 8, fun b j => (9, b, j))
  | 43 => some (5, 4, fun _ j => (6, 0, j))
  | 56 => some (6, 3, fun _ j => (91, 4 + j, 0))
  | _ => none
def rg (q : Nat × Nat × Nat × Nat × Nat) : List rf := (List.range q.2.2.1).flatMap (fun i => (List.range q.2.2.2.2).map (fun j => (q.1, q.2.1 + i, q.2.2.2.1 + j)))
theorem rg_mem {q : Nat × Nat × Nat × Nat × Nat} {b w : Nat} (h1 : q.2.1 ≤ b) (h2 : b < q.2.1 + q.2.2.1) (h3 : q.2.2.2.1 ≤ w) (h4 : w < q.2.2.2.1 + q.2.2.2.2) : (q.1, b, w) ∈ rg q := by
  refine List.mem_flatMap.mpr ⟨b - q.2.1, List.mem_range.mpr (by omega), List.mem_map.mpr ⟨w - q.2.2.2.1, List.mem_range.mpr (by omega), ?_⟩⟩
  rw [show q.2.1 + (b - q.2.1) = b by omega, show q.2.2.2.1 + (w - q.2.2.2.1) = w by omega]
def TCC : List (Nat × Nat × Nat × Nat × Nat) := [(0, 0, 1, 0, 1), (1, 0, 3, 0, 3), (1, 3, 1, 0, 1), (2, 0, 3, 0, 1), (3, 0, 3, 0, 1), (4, 0, 1, 0, 1), (5, 0, 3, 0, 4), (5, 3, 1, 4, 3), (6, 0, 1, 0, 4), (7, 0, 3, 0, 1), (8, 0, 1, 0, 1), (9, 0, 3, 0, 8), (10, 0, 3, 0, 1), (11, 0, 1, 0, 1), (20, 0, 1, 0, 1), (21, 0, 1, 0, 1), (22, 0, 1, 0, 1), (23, 0, 1, 0, 1), (24, 0, 3, 0, 3), (24, 3, 1, 0, 1), (25, 0, 3, 0, 3), (25, 3, 1, 0, 1), (26, 0, 3, 0, 1), (27, 0, 3, 0, 1), (28, 0, 3, 0, 1), (29, 0, 3, 0, 1), (30, 0, 3, 0, 1), (31, 0, 3, 0, 1), (32, 0, 3, 0, 1), (33, 0, 3, 0, 4), (33, 3, 1, 4, 3), (34, 0, 1, 0, 4), (35, 0, 3, 0, 1), (36, 0, 3, 0, 1), (37, 0, 3, 0, 1), (38, 0, 3, 0, 1), (39, 0, 3, 0, 1), (40, 0, 3, 0, 8), (41, 0, 3, 0, 8), (42, 0, 3, 0, 1), (43, 0, 1, 0, 1), (44, 0, 1, 0, 1)]
def CC : List rf := TCC.flatMap rg
theorem CC_in (i : Nat) {q : Nat × Nat × Nat × Nat × Nat} (hq : TCC[i]? = some q) {b w : Nat} (h1 : q.2.1 ≤ b) (h2 : b < q.2.1 + q.2.2.1) (h3 : q.2.2.2.1 ≤ w) (h4 : w < q.2.2.2.1 + q.2.2.2.2) : (q.1, b, w) ∈ CC := List.mem_flatMap.mpr ⟨q, List.mem_of_getElem? hq, rg_mem h1 h2 h3 h4⟩
theorem CC_nd : CC.Nodup := by decide +kernel
theorem CC_22 : ∀ c ∈ CC, c.1 = 22 → c = (22, 0, 0) := by decide +kernel
def TDD : List (Nat × Nat × Nat × Nat × Nat) := [(12, 0, 1, 0, 1), (50, 0, 1, 0, 1), (51, 0, 1, 0, 1), (52, 0, 1, 0, 1), (53, 0, 1, 0, 1), (54, 0, 1, 0, 1), (55, 0, 1, 0, 1), (56, 0, 1, 0, 1), (57, 0, 1, 0, 1), (58, 0, 1, 0, 1), (59, 0, 1, 0, 1), (60, 0, 1, 0, 1), (61, 0, 1, 0, 1), (62, 0, 1, 0, 1), (63, 0, 1, 0, 1), (64, 0, 1, 0, 1), (65, 0, 1, 0, 1), (66, 0, 1, 0, 1), (67, 0, 1, 0, 1), (68, 0, 1, 0, 1), (69, 0, 1, 0, 1)]
def DD : List rf := TDD.flatMap rg
theorem DD_in (i : Nat) {q : Nat × Nat × Nat × Nat × Nat} (hq : TDD[i]? = some q) {b w : Nat} (h1 : q.2.1 ≤ b) (h2 : b < q.2.1 + q.2.2.1) (h3 : q.2.2.2.1 ≤ w) (h4 : w < q.2.2.2.1 + q.2.2.2.2) : (q.1, b, w) ∈ DD := List.mem_flatMap.mpr ⟨q, List.mem_of_getElem? hq, rg_mem h1 h2 h3 h4⟩
theorem DD_nd : DD.Nodup := by decide +kernel
theorem DD_22 : ∀ c ∈ DD, c.1 = 22 → c = (22, 0, 0) := by decide +kernel
def vF (b w : Nat) : Prop := (b < 3 ∧ w < 3) ∨ (b = 3 ∧ w = 0)
def vRw (b w : Nat) : Prop := (b < 3 ∧ w < 4) ∨ (b = 3 ∧ 4 ≤ w ∧ w < 7)
theorem ic_0 : ((0, 0, 0) : rf) ∈ CC := CC_in 0 (q := (0, 0, 1, 0, 1)) rfl (by dsimp only; omega) (by dsimp only; omega) (by dsimp only; omega) (by dsimp only; omega)
theorem ic_1 {b w : Nat} (h : vF b w) : ((1, b, w) : rf) ∈ CC := h.elim (fun h => CC_in 1 (q := (1, 0, 3, 0, 3)) rfl (by dsimp only; omega) (by dsimp only; omega) (by dsimp only; omega) (by dsimp only; omega)) (fun h => CC_in 2 (q := (1, 3, 1, 0, 1)) rfl (by dsimp only; omega) (by dsimp only; omega) (by dsimp only; omega) (by dsimp only; omega))
theorem ic_2 {b : Nat} (hb : b < 3) : ((2, b, 0) : rf) ∈ CC := CC_in 3 (q := (2, 0, 3, 0, 1)) rfl (by dsimp only; omega) (by dsimp only; omega) (by dsimp only; omega) (by dsimp only; omega)
theorem ic_3 {b : Nat} (hb : b < 3) : ((3, b, 0) : rf) ∈ CC := CC_in 4 (q := (3, 0, 3, 0, 1)) rfl (by dsimp only; omega) (by dsimp only; omega) (by dsimp only; omega) (by dsimp only; omega)
theorem ic_4 : ((4, 0, 0) : rf) ∈ CC := CC_in 5 (q := (4, 0, 1, 0, 1)) rfl (by dsimp only; omega) (by dsimp only; omega) (by dsimp only; omega) (by dsimp only; omega)
theorem ic_5 {b w : Nat} (h : vRw b w) : ((5, b, w) : rf) ∈ CC := h.elim (fun h => CC_in 6 (q := (5, 0, 3, 0, 4)) rfl (by dsimp only; omega) (by dsimp only; omega) (by dsimp only; omega) (by dsimp only; omega)) (fun h => CC_in 7 (q := (5, 3, 1, 4, 3)) rfl (by dsimp only; omega) (by dsimp only; omega) (by dsimp only; omega) (by dsimp only; omega))
theorem ic_6 {w : Nat} (hw : w < 4) : ((6, 0, w) : rf) ∈ CC := CC_in 8 (q := (6, 0, 1, 0, 4)) rfl (by dsimp only; omega) (by dsimp only; omega) (by dsimp only; omega) (by dsimp only; omega)
theorem ic_7 {b : Nat} (hb : b < 3) : ((7, b, 0) : rf) ∈ CC := CC_in 9 (q := (7, 0, 3, 0, 1)) rfl (by dsimp only; omega) (by dsimp only; omega) (by dsimp only; omega) (by dsimp only; omega)
theorem ic_8 : ((8, 0, 0) : rf) ∈ CC := CC_in 10 (q := (8, 0, 1, 0, 1)) rfl (by dsimp only; omega) (by dsimp only; omega) (by dsimp only; omega) (by dsimp only; omega)
theorem ic_9 {b w : Nat} (hb : b < 3) (hw : w < 8) : ((9, b, w) : rf) ∈ CC := CC_in 11 (q := (9, 0, 3, 0, 8)) rfl (by dsimp only; omega) (by dsimp only; omega) (by dsimp only; omega) (by dsimp only; omega)
theorem ic_10 {b : Nat} (hb : b < 3) : ((10, b, 0) : rf) ∈ CC := CC_in 12 (q := (10, 0, 3, 0, 1)) rfl (by dsimp only; omega) (by dsimp only; omega) (by dsimp only; omega) (by dsimp only; omega)
theorem ic_11 : ((11, 0, 0) : rf) ∈ CC := CC_in 13 (q := (11, 0, 1, 0, 1)) rfl (by dsimp only; omega) (by dsimp only; omega) (by dsimp only; omega) (by dsimp only; omega)
theorem ic_12 : ((12, 0, 0) : rf) ∈ DD := DD_in 0 (q := (12, 0, 1, 0, 1)) rfl (by dsimp only; omega) (by dsimp only; omega) (by dsimp only; omega) (by dsimp only; omega)
theorem ic_20 : ((20, 0, 0) : rf) ∈ CC := CC_in 14 (q := (20, 0, 1, 0, 1)) rfl (by dsimp only; omega) (by dsimp only; omega) (by dsimp only; omega) (by dsimp only; omega)
theorem ic_21 : ((21, 0, 0) : rf) ∈ CC := CC_in 15 (q := (21, 0, 1, 0, 1)) rfl (by dsimp only; omega) (by dsimp only; omega) (by dsimp only; omega) (by dsimp only; omega)
theorem ic_22 : ((22, 0, 0) : rf) ∈ CC := CC_in 16 (q := (22, 0, 1, 0, 1)) rfl (by dsimp only; omega) (by dsimp only; omega) (by dsimp only; omega) (by dsimp only; omega)
theorem ic_23 : ((23, 0, 0) : rf) ∈ CC := CC_in 17 (q := (23, 0, 1, 0, 1)) rfl (by dsimp only; omega) (by dsimp only; omega) (by dsimp only; omega) (by dsimp only; omega)
theorem ic_24 {b w : Nat} (h : vF b w) : ((24, b, w) : rf) ∈ CC := h.elim (fun h => CC_in 18 (q := (24, 0, 3, 0, 3)) rfl (by dsimp only; omega) (by dsimp only; omega) (by dsimp only; omega) (by dsimp only; omega)) (fun h => CC_in 19 (q := (24, 3, 1, 0, 1)) rfl (by dsimp only; omega) (by dsimp only; omega) (by dsimp only; omega) (by dsimp only; omega))
theorem ic_25 {b w : Nat} (h : vF b w) : ((25, b, w) : rf) ∈ CC := h.elim (fun h => CC_in 20 (q := (25, 0, 3, 0, 3)) rfl (by dsimp only; omega) (by dsimp only; omega) (by dsimp only; omega) (by dsimp only; omega)) (fun h => CC_in 21 (q := (25, 3, 1, 0, 1)) rfl (by dsimp only; omega) (by dsimp only; omega) (by dsimp only; omega) (by dsimp only; omega))
theorem ic_26 {b : Nat} (hb : b < 3) : ((26, b, 0) : rf) ∈ CC := CC_in 22 (q := (26, 0, 3, 0, 1)) rfl (by dsimp only; omega) (by dsimp only; omega) (by dsimp only; omega) (by dsimp only; omega)
theorem ic_27 {b : Nat} (hb : b < 3) : ((27, b, 0) : rf) ∈ CC := CC_in 23 (q := (27, 0, 3, 0, 1)) rfl (by dsimp only; omega) (by dsimp only; omega) (by dsimp only; omega) (by dsimp only; omega)
theorem ic_28 {b : Nat} (hb : b < 3) : ((28, b, 0) : rf) ∈ CC := CC_in 24 (q := (28, 0, 3, 0, 1)) rfl (by dsimp only; omega) (by dsimp only; omega) (by dsimp only; omega) (by dsimp only; omega)
theorem ic_29 {b : Nat} (hb : b < 3) : ((29, b, 0) : rf) ∈ CC := CC_in 25 (q := (29, 0, 3, 0, 1)) rfl (by dsimp only; omega) (by dsimp only; omega) (by dsimp only; omega) (by dsimp only; omega)
theorem ic_30 {b : Nat} (hb : b < 3) : ((30, b, 0) : rf) ∈ CC := CC_in 26 (q := (30, 0, 3, 0, 1)) rfl (by dsimp only; omega) (by dsimp only; omega) (by dsimp only; omega) (by dsimp only; omega)
theorem ic_31 {b : Nat} (hb : b < 3) : ((31, b, 0) : rf) ∈ CC := CC_in 27 (q := (31, 0, 3, 0, 1)) rfl (by dsimp only; omega) (by dsimp only; omega) (by dsimp only; omega) (by dsimp only; omega)
theorem ic_32 {b : Nat} (hb : b < 3) : ((32, b, 0) : rf) ∈ CC := CC_in 28 (q := (32, 0, 3, 0, 1)) rfl (by dsimp only; omega) (by dsimp only; omega) (by dsimp only; omega) (by dsimp only; omega)
theorem ic_33 {b w : Nat} (h : vRw b w) : ((33, b, w) : rf) ∈ CC := h.elim (fun h => CC_in 29 (q := (33, 0, 3, 0, 4)) rfl (by dsimp only; omega) (by dsimp only; omega) (by dsimp only; omega) (by dsimp only; omega)) (fun h => CC_in 30 (q := (33, 3, 1, 4, 3)) rfl (by dsimp only; omega) (by dsimp only; omega) (by dsimp only; omega) (by dsimp only; omega))
theorem ic_34 {w : Nat} (hw : w < 4) : ((34, 0, w) : rf) ∈ CC := CC_in 31 (q := (34, 0, 1, 0, 4)) rfl (by dsimp only; omega) (by dsimp only; omega) (by dsimp only; omega) (by dsimp only; omega)
theorem ic_35 {b : Nat} (hb : b < 3) : ((35, b, 0) : rf) ∈ CC := CC_in 32 (q := (35, 0, 3, 0, 1)) rfl (by dsimp only; omega) (by dsimp only; omega) (by dsimp only; omega) (by dsimp only; omega)
theorem ic_36 {b : Nat} (hb : b < 3) : ((36, b, 0) : rf) ∈ CC := CC_in 33 (q := (36, 0, 3, 0, 1)) rfl (by dsimp only; omega) (by dsimp only; omega) (by dsimp only; omega) (by dsimp only; omega)
theorem ic_37 {b : Nat} (hb : b < 3) : ((37, b, 0) : rf) ∈ CC := CC_in 34 (q := (37, 0, 3, 0, 1)) rfl (by dsimp only; omega) (by dsimp only; omega) (by dsimp only; omega) (by dsimp only; omega)
theorem ic_38 {b : Nat} (hb : b < 3) : ((38, b, 0) : rf) ∈ CC := CC_in 35 (q := (38, 0, 3, 0, 1)) rfl (by dsimp only; omega) (by dsimp only; omega) (by dsimp only; omega) (by dsimp only; omega)
theorem ic_39 {b : Nat} (hb : b < 3) : ((39, b, 0) : rf) ∈ CC := CC_in 36 (q := (39, 0, 3, 0, 1)) rfl (by dsimp only; omega) (by dsimp only; omega) (by dsimp only; omega) (by dsimp only; omega)
theorem ic_40 {b w : Nat} (hb : b < 3) (hw : w < 8) : ((40, b, w) : rf) ∈ CC := CC_in 37 (q := (40, 0, 3, 0, 8)) rfl (by dsimp only; omega) (by dsimp only; omega) (by dsimp only; omega) (by dsimp only; omega)
theorem ic_41 {b w : Nat} (hb : b < 3) (hw : w < 8) : ((41, b, w) : rf) ∈ CC := CC_in 38 (q := (41, 0, 3, 0, 8)) rfl (by dsimp only; omega) (by dsimp only; omega) (by dsimp only; omega) (by dsimp only; omega)
theorem ic_42 {b : Nat} (hb : b < 3) : ((42, b, 0) : rf) ∈ CC := CC_in 39 (q := (42, 0, 3, 0, 1)) rfl (by dsimp only; omega) (by dsimp only; omega) (by dsimp only; omega) (by dsimp only; omega)
theorem ic_43 : ((43, 0, 0) : rf) ∈ CC := CC_in 40 (q := (43, 0, 1, 0, 1)) rfl (by dsimp only; omega) (by dsimp only; omega) (by dsimp only; omega) (by dsimp only; omega)
theorem ic_44 : ((44, 0, 0) : rf) ∈ CC := CC_in 41 (q := (44, 0, 1, 0, 1)) rfl (by dsimp only; omega) (by dsimp only; omega) (by dsimp only; omega) (by dsimp only; omega)
theorem ic_50 : ((50, 0, 0) : rf) ∈ DD := DD_in 1 (q := (50, 0, 1, 0, 1)) rfl (by dsimp only; omega) (by dsimp only; omega) (by dsimp only; omega) (by dsimp only; omega)
theorem ic_51 : ((51, 0, 0) : rf) ∈ DD := DD_in 2 (q := (51, 0, 1, 0, 1)) rfl (by dsimp only; omega) (by dsimp only; omega) (by dsimp only; omega) (by dsimp only; omega)
theorem ic_52 : ((52, 0, 0) : rf) ∈ DD := DD_in 3 (q := (52, 0, 1, 0, 1)) rfl (by dsimp only; omega) (by dsimp only; omega) (by dsimp only; omega) (by dsimp only; omega)
theorem ic_53 : ((53, 0, 0) : rf) ∈ DD := DD_in 4 (q := (53, 0, 1, 0, 1)) rfl (by dsimp only; omega) (by dsimp only; omega) (by dsimp only; omega) (by dsimp only; omega)
theorem ic_54 : ((54, 0, 0) : rf) ∈ DD := DD_in 5 (q := (54, 0, 1, 0, 1)) rfl (by dsimp only; omega) (by dsimp only; omega) (by dsimp only; omega) (by dsimp only; omega)
theorem ic_55 : ((55, 0, 0) : rf) ∈ DD := DD_in 6 (q := (55, 0, 1, 0, 1)) rfl (by dsimp only; omega) (by dsimp only; omega) (by dsimp only; omega) (by dsimp only; omega)
theorem ic_56 : ((56, 0, 0) : rf) ∈ DD := DD_in 7 (q := (56, 0, 1, 0, 1)) rfl (by dsimp only; omega) (by dsimp only; omega) (by dsimp only; omega) (by dsimp only; omega)
theorem ic_57 : ((57, 0, 0) : rf) ∈ DD := DD_in 8 (q := (57, 0, 1, 0, 1)) rfl (by dsimp only; omega) (by dsimp only; omega) (by dsimp only; omega) (by dsimp only; omega)
theorem ic_58 : ((58, 0, 0) : rf) ∈ DD := DD_in 9 (q := (58, 0, 1, 0, 1)) rfl (by dsimp only; omega) (by dsimp only; omega) (by dsimp only; omega) (by dsimp only; omega)
theorem ic_59 : ((59, 0, 0) : rf) ∈ DD := DD_in 10 (q := (59, 0, 1, 0, 1)) rfl (by dsimp only; omega) (by dsimp only; omega) (by dsimp only; omega) (by dsimp only; omega)
theorem ic_60 : ((60, 0, 0) : rf) ∈ DD := DD_in 11 (q := (60, 0, 1, 0, 1)) rfl (by dsimp only; omega) (by dsimp only; omega) (by dsimp only; omega) (by dsimp only; omega)
theorem ic_61 : ((61, 0, 0) : rf) ∈ DD := DD_in 12 (q := (61, 0, 1, 0, 1)) rfl (by dsimp only; omega) (by dsimp only; omega) (by dsimp only; omega) (by dsimp only; omega)
theorem ic_62 : ((62, 0, 0) : rf) ∈ DD := DD_in 13 (q := (62, 0, 1, 0, 1)) rfl (by dsimp only; omega) (by dsimp only; omega) (by dsimp only; omega) (by dsimp only; omega)
theorem ic_63 : ((63, 0, 0) : rf) ∈ DD := DD_in 14 (q := (63, 0, 1, 0, 1)) rfl (by dsimp only; omega) (by dsimp only; omega) (by dsimp only; omega) (by dsimp only; omega)
theorem ic_64 : ((64, 0, 0) : rf) ∈ DD := DD_in 15 (q := (64, 0, 1, 0, 1)) rfl (by dsimp only; omega) (by dsimp only; omega) (by dsimp only; omega) (by dsimp only; omega)
theorem ic_65 : ((65, 0, 0) : rf) ∈ DD := DD_in 16 (q := (65, 0, 1, 0, 1)) rfl (by dsimp only; omega) (by dsimp only; omega) (by dsimp only; omega) (by dsimp only; omega)
theorem ic_66 : ((66, 0, 0) : rf) ∈ DD := DD_in 17 (q := (66, 0, 1, 0, 1)) rfl (by dsimp only; omega) (by dsimp only; omega) (by dsimp only; omega) (by dsimp only; omega)
theorem ic_67 : ((67, 0, 0) : rf) ∈ DD := DD_in 18 (q := (67, 0, 1, 0, 1)) rfl (by dsimp only; omega) (by dsimp only; omega) (by dsimp only; omega) (by dsimp only; omega)
theorem ic_68 : ((68, 0, 0) : rf) ∈ DD := DD_in 19 (q := (68, 0, 1, 0, 1)) rfl (by dsimp only; omega) (by dsimp only; omega) (by dsimp only; omega) (by dsimp only; omega)
theorem ic_69 : ((69, 0, 0) : rf) ∈ DD := DD_in 20 (q := (69, 0, 1, 0, 1)) rfl (by dsimp only; omega) (by dsimp only; omega) (by dsimp only; omega) (by dsimp only; omega)
def fvs (ad : rf → Nat) (M : mM) (c : rf) : List fR → Nat → List Value
  | [], _ => []
  | f :: l, k => gv ad (f c.2.1 c.2.2 (M.1 c k)) :: fvs ad M c l (k + 1)
def arE (cy : Nat → ClassId) (k n : Nat) (f : Nat → Int32) (g : Nat → Int64) : va_E := match k with
  | 0 => .inl (cy 0, n, .inl f)
  | 1 => .inl (cy 1, n, .inl f)
  | _ => .inl (cy 2, n, .inr (.inl g))
def ent (cy : Nat → ClassId) (ad : rf → Nat) (M : mM) (c : rf) : va_E := match OB c.1 with
  | some q => .inr (q.1, fvs ad M c q.2 0)
  | none => match AR c.1 with
    | some q => arE cy q.1 (q.2 c.2.2) (M.1 c) M.2
    | none => match RA c.1 with
      | some (t, n, g) => .inl (cy t, n, .inr (.inr (.inr (.inr (fun j => some (ad (g c.2.1 j)))))))
      | none => .inr (0, [])
def WS (cls : List rf) (cy : Nat → ClassId) (ad : rf → Nat) (M : mM) : va_W := cls.map (fun c => (ad c, ent cy ad M c))
def up (M : mM) (c : rf) (k : Nat) (v : Int32) : mM := (fun c' k' => if c' = c ∧ k' = k then v else M.1 c' k', M.2)
def upL (M : mM) (k : Nat) (v : Int64) : mM := (M.1, vp_updL M.2 k v)
def cp (M : mM) (c0 c1 : rf) (sp dp n : Nat) : mM := (fun c' k' => if c' = c1 then va_cpy (M.1 c0) (M.1 c1) sp dp n k' else M.1 c' k', M.2)
theorem up_same (M : mM) (c : rf) (k : Nat) (v : Int32) : (up M c k v).1 c k = v := if_pos ⟨rfl, rfl⟩
theorem up_ne {M : mM} {c c' : rf} {k k' : Nat} {v : Int32} (h : ¬ (c' = c ∧ k' = k)) : (up M c k v).1 c' k' = M.1 c' k' := if_neg h
theorem up_row (M : mM) (c : rf) (k : Nat) (v : Int32) : (up M c k v).1 c = upd (M.1 c) k v := by
  funext j
  unfold up upd
  by_cases h : j = k
  · rw [if_pos h]; exact if_pos ⟨rfl, h⟩
  · rw [if_neg h]; exact if_neg (fun q => h q.2)
theorem up_other {M : mM} {c c' : rf} (k : Nat) (v : Int32) (h : c' ≠ c) : (up M c k v).1 c' = M.1 c' := by
  funext j
  exact if_neg (fun q => h q.1)
theorem cp_row (M : mM) (c0 c1 : rf) (sp dp n : Nat) : (cp M c0 c1 sp dp n).1 c1 = va_cpy (M.1 c0) (M.1 c1) sp dp n := by
  funext j
  exact if_pos rfl
theorem cp_other {M : mM} {c0 c1 c' : rf} (sp dp n : Nat) (h : c' ≠ c1) : (cp M c0 c1 sp dp n).1 c' = M.1 c' := by
  funext j
  exact if_neg h
theorem fvs_get (ad : rf → Nat) (M : mM) (c : rf) : ∀ (fs : List fR) (k0 k : Nat), (fvs ad M c fs k0)[k]? = (fs[k]?).map (fun f => gv ad (f c.2.1 c.2.2 (M.1 c (k0 + k))))
  | [], _, _ => rfl
  | f :: l, k0, 0 => rfl
  | f :: l, k0, k + 1 => by
    have h := fvs_get ad M c l (k0 + 1) k
    rw [show k0 + 1 + k = k0 + (k + 1) by omega] at h
    exact h
theorem fvs_cong {ad : rf → Nat} {M M' : mM} {c : rf} (h : M'.1 c = M.1 c) : ∀ (fs : List fR) (k0 : Nat), fvs ad M' c fs k0 = fvs ad M c fs k0
  | [], _ => rfl
  | f :: l, k0 => by
    show gv ad (f _ _ (M'.1 c k0)) :: _ = gv ad (f _ _ (M.1 c k0)) :: _
    rw [h, fvs_cong h l]
theorem fvs_set {ad : rf → Nat} {M : mM} {c : rf} {fs : List fR} {k : Nat} {f : fR} (hf : fs[k]? = some f) (x : Int32) : (fvs ad M c fs 0).set k (gv ad (f c.2.1 c.2.2 x)) = fvs ad (up M c k x) c fs 0 := by
  refine List.ext_getElem? fun j => ?_
  rw [List.getElem?_set, fvs_get, fvs_get, Nat.zero_add]
  by_cases h : k = j
  · subst h
    have hl : k < (fvs ad M c fs 0).length := by
      have h1 := fvs_get ad M c fs 0 k
      rw [hf] at h1
      exact (List.getElem?_eq_some_iff.mp h1).1
    rw [if_pos rfl, if_pos hl, hf, up_same]; rfl
  · rw [if_neg h, up_ne (fun q => h q.2.symm)]
theorem ent_cong {cy : Nat → ClassId} {ad : rf → Nat} {M M' : mM} {c : rf} (h : M'.1 c = M.1 c) (h3 : M'.2 = M.2) : ent cy ad M' c = ent cy ad M c := by
  unfold ent
  rw [h, h3]
  simp only [fvs_cong h]
theorem WS_mem {cls : List rf} {cy : Nat → ClassId} {ad : rf → Nat} {M : mM} {c : rf} (h : c ∈ cls) : ∃ q0 : Nat, cls[q0]? = some c ∧ (WS cls cy ad M)[q0]? = some (ad c, ent cy ad M c) := by
  obtain ⟨q0, hq⟩ := List.mem_iff_getElem?.mp h
  exact ⟨q0, hq, by unfold WS; rw [List.getElem?_map, hq]; rfl⟩
theorem WS_set {cls : List rf} (hnd : cls.Nodup) {cy : Nat → ClassId} {ad : rf → Nat} {M M' : mM} {c : rf} {q0 : Nat} (hq : cls[q0]? = some c) (h : ∀ c', c' ∈ cls → c' ≠ c → ent cy ad M' c' = ent cy ad M c') : (WS cls cy ad M).set q0 (ad c, ent cy ad M' c) = WS cls cy ad M' := by
  refine List.ext_getElem? fun j => ?_
  have hl : q0 < cls.length := (List.getElem?_eq_some_iff.mp hq).1
  rw [List.getElem?_set]
  unfold WS
  rw [List.getElem?_map, List.getElem?_map, List.length_map]
  by_cases e : q0 = j
  · subst e
    rw [if_pos rfl, if_pos hl, hq]; rfl
  · rw [if_neg e]
    cases hj : cls[j]? with
    | none => rfl
    | some c' =>
      have hne : c' ≠ c := fun q => by
        subst q
        exact e ((List.getElem?_inj hl hnd).mp (hq.trans hj.symm))
      show some (ad c', ent cy ad M c') = some (ad c', ent cy ad M' c')
      rw [h c' (List.mem_of_getElem? hj) hne]
def skA (ad : rf → Nat) : Nat → Nat := fun k => ad (91, k, 0)
def saA (ad : rf → Nat) : Nat → Nat := fun k => ad (90, k, 0)
def rmd (d : Nat) : Room := { frames := d, cells := 0, slots := 0, locals := 100 * d }
def WO (cls : List rf) (G : va_G) (cy : Nat → ClassId) (ad : rf → Nat) (A : Nat → Prop) (M : mM) (H : Heap) : Prop := va_P G classes (WS cls cy ad M) H ∧ va_D A (WS cls cy ad M)
def CX (G : va_G) (cy : Nat → ClassId) (ad : rf → Nat) (y : MethodName) (b : ByteArray) (n : Nat) (r : Option FieldType) (p : Program) (s : State) (m : MethodId) (args : Array Value) (meth : Method) (c : Code) (A : Nat → Prop) : Prop :=
  p.tables.exec = Jvm.exec ∧ c.code = b ∧ meth.sig.returnType = r ∧ c.maxLocals = n ∧ (∀ w ∈ BASE, w.before args s = true) ∧ s.vm.findClass y.cls = some m.cls ∧ meth.locks = false ∧ EN G cy (skA ad) s ∧ STAT (saA ad) (skA ad) A s s.heap ∧ ∀ q : Nat, s.heap.size ≤ q → A q
def QC (cls : List rf) (G : va_G) (cy : Nat → ClassId) (ad : rf → Nat) (r : Option FieldType) (A : Nat → Prop) (Q : Int32 → mM → Prop) : Array Value → State → Outcome → State → Prop := match r with
  | none => va_Qv (fun M' : mM => Q 0 M') (fun M' t => WO cls G cy ad A M' t.heap) A
  | some _ => va_Qi (fun r (M' : mM) => Q r M') (fun M' t => WO cls G cy ad A M' t.heap) A
/-- from here on the method comes to its end, with Q of its answer and of the memory -/
def WP (cls : List rf) (l : Launch) (G : va_G) (cy : Nat → ClassId) (ad : rf → Nat) (y : MethodName) (b : ByteArray) (n : Nat) (r : Option FieldType) (d : Nat) (pc : Nat) (ls : List (Nat × mV)) (st : List mV) (M : mM) (Q : Int32 → mM → Prop) : Prop :=
  ∀ (p : Program) (e : Env) (s : State) (m : MethodId) (args : Array Value) (below : List Frame) (meth : Method) (c : Code) (A : Nat → Prop), CX G cy ad y b n r p s m args meth c A →
  ∀ (lsA : Array Slot) (H : Heap) (locs : List Loc), lv_has lsA n (gl ad ls) → WO cls G cy ad A M H → va_S A s.heap H locs →
  W p l e (rmd d) s m args below meth c H locs 0 0 (MQ below (QC cls G cy ad r A Q) args s 0 0 A) (F0 m pc lsA (st.map (gv ad)))
end
section
/-! the rows of WP: an instruction, a row -/
def isI (x : Int32) (a : Int) : Prop := x.toInt = a
theorem rngI (x : Int32) : -2147483648 ≤ x.toInt ∧ x.toInt < 2147483648 := by
  have h1 := Int32.le_toInt x
  have h2 := Int32.toInt_lt x
  exact ⟨by simpa using h1, by simpa using h2⟩
theorem bmI {z : Int} (h1 : -2147483648 ≤ z) (h2 : z < 2147483648) : z.bmod (2 ^ 32) = z := by
  rw [Int.bmod_def]
  split <;> omega
theorem addI {x y : Int32} {a c : Int} (hx : x.toInt = a) (hy : y.toInt = c) (h1 : -2147483648 ≤ a + c) (h2 : a + c < 2147483648) : (x + y).toInt = a + c := by
  rw [Int32.toInt_add, hx, hy]; exact bmI h1 h2
theorem subI {x y : Int32} {a c : Int} (hx : x.toInt = a) (hy : y.toInt = c) (h1 : -2147483648 ≤ a - c) (h2 : a - c < 2147483648) : (x - y).toInt = a - c := by
  rw [Int32.toInt_sub, hx, hy]; exact bmI h1 h2
theorem mulI {x y : Int32} {a c : Int} (hx : x.toInt = a) (hy : y.toInt = c) (h1 : -2147483648 ≤ a * c) (h2 : a * c < 2147483648) : (x * y).toInt = a * c := by
  rw [Int32.toInt_mul, hx, hy]; exact bmI h1 h2
theorem nI_of_toInt {x : Int32} {a : Nat} (hx : x.toInt = a) : x = nI a := by
  have h := rngI x
  exact Int32.toInt_inj.mp (hx.trans (nI_toInt (by omega)).symm)
theorem divI {x y : Int32} {a c : Int} (hx : x.toInt = a) (hy : y.toInt = c) (h1 : 0 ≤ a) (h2 : 0 < c) : (x / y).toInt = a / c := by
  obtain ⟨a', rfl⟩ := Int.eq_ofNat_of_zero_le h1
  obtain ⟨c', rfl⟩ := Int.eq_ofNat_of_zero_le (Int.le_of_lt h2)
  have hx1 := rngI x
  have hy1 := rngI y
  have e1 := nI_of_toInt hx
  have e2 := nI_of_toInt hy
  have l1 : a' < 2 ^ 31 := by omega
  have l2 : c' < 2 ^ 31 := by omega
  rw [e1, e2, pk_div l1 (by omega) l2, nI_toInt (Nat.lt_of_le_of_lt (Nat.div_le_self _ _) l1)]
  exact Int.natCast_ediv a' c'
theorem remI {x y : Int32} {a c : Int} (hx : x.toInt = a) (hy : y.toInt = c) (h1 : 0 ≤ a) (h2 : 0 < c) : (x - x / y * y).toInt = a % c := by
  obtain ⟨a', rfl⟩ := Int.eq_ofNat_of_zero_le h1
  obtain ⟨c', rfl⟩ := Int.eq_ofNat_of_zero_le (Int.le_of_lt h2)
  have hx1 := rngI x
  have hy1 := rngI y
  have e1 := nI_of_toInt hx
  have e2 := nI_of_toInt hy
  have l1 : a' < 2 ^ 31 := by omega
  have l2 : c' < 2 ^ 31 := by omega
  rw [e1, e2, pk_rem l1 (by omega) l2, nI_toInt (Nat.lt_of_le_of_lt (Nat.mod_le _ _) l1)]
  exact Int.natCast_emod a' c'
theorem andI (x : Int32) {m : Int32} (k : Nat) (hm : m.toBitVec.toNat = 2 ^ k - 1) (hk : k ≤ 30) : 0 ≤ (x &&& m).toInt ∧ (x &&& m).toInt < (2 ^ k : Nat) := by
  obtain ⟨j, h1, h2⟩ := pk_andE x k hm
  have h3 : 2 ^ k ≤ 2 ^ 30 := Nat.pow_le_pow_right (by decide) hk
  rw [h2, nI_toInt (by omega)]
  omega
theorem vinI {x : Int32} {a : Int} {n : Nat} (hx : x.toInt = a) (h : 0 ≤ a ∧ a < n) : vp_in x n := vp_in_iff.mpr (by rw [hx]; exact h)
theorem clI {x : Int32} {a : Int} (hx : x.toInt = a) (h : 0 ≤ a) : ((x.toNatClampNeg : Nat) : Int) = a := by
  show ((x.toInt.toNat : Nat) : Int) = a
  rw [hx]; exact Int.toNat_of_nonneg h
theorem clN {x : Int32} {j : Nat} (hx : x.toInt = j) : x.toNatClampNeg = j := by
  have := clI hx (Int.natCast_nonneg j)
  exact Int.ofNat_inj.mp this
def FLK (own : String) (idx ci k : Nat) (ty : FieldType) (fin : Bool) : Prop := ∃ (C : String) (T : u_T) (N : Nat) (ty0 : Nat → FieldType), classes[ci]? = some (C, T, N) ∧ (∀ w ∈ u_ws C T N, w ∈ BASE) ∧ (∀ k, k < N → parseFieldDescriptor (T k).2.2.1 = some (ty0 k)) ∧ (∀ a, a < N → ∀ b, b < N → a ≠ b → (T a).2.1 ≠ (T b).2.1) ∧ k < N ∧ ty0 k = ty ∧ (T k).2.2.2 = fin ∧ (Cond.fieldLink own idx (T k).1 (T k).2.1 (T k).2.2.1 ∈ BASE ∨ ∃ host, (own, idx, (T k).1, (T k).2.1, (T k).2.2.1, host) ∈ NFs)
theorem cat1 {ad : rf → Nat} {v : mV} (h : vc2 v = false) : (gv ad v).category = 1 := by
  rcases v with x | x | x
  · rfl
  · cases h
  · rfl
theorem cvE {x w : Int32} {a c : Int} (hx : x.toInt = a) (hy : w.toInt = c) (h : x = w) : a = c := by rw [← hx, ← hy, h]
theorem cvN {x w : Int32} {a c : Int} (hx : x.toInt = a) (hy : w.toInt = c) (h : ¬ x = w) : ¬ a = c := fun q => h (Int32.toInt_inj.mp (by rw [hx, hy, q]))
theorem cvLt {x w : Int32} {a c : Int} (hx : x.toInt = a) (hy : w.toInt = c) (h : x < w) : a < c := by rw [← hx, ← hy]; exact Int32.lt_iff_toInt_lt.mp h
theorem cvLe {x w : Int32} {a c : Int} (hx : x.toInt = a) (hy : w.toInt = c) (h : x ≤ w) : a ≤ c := by rw [← hx, ← hy]; exact Int32.le_iff_toInt_le.mp h
theorem cvnLt {x w : Int32} {a c : Int} (hx : x.toInt = a) (hy : w.toInt = c) (h : ¬ x < w) : c ≤ a := by
  rw [← hx, ← hy]; exact Int.not_lt.mp (fun q => h (Int32.lt_iff_toInt_lt.mpr q))
theorem cvnLe {x w : Int32} {a c : Int} (hx : x.toInt = a) (hy : w.toInt = c) (h : ¬ x ≤ w) : c < a := by
  rw [← hx, ← hy]; exact Int.not_le.mp (fun q => h (Int32.le_iff_toInt_le.mpr q))
theorem nzB {v : Int32} (hz : 0 ≤ v.toInt ∧ v.toInt ≤ 1) : narrow .boolean (.int v) = .int v ∧ fits .boolean (.int v) = true := by
  have h : v.toInt = 0 ∨ v.toInt = 1 := by omega
  rcases h with h | h
  · have e : v = 0 := Int32.toInt_inj.mp h
    subst e; exact ⟨rfl, rfl⟩
  · have e : v = 1 := Int32.toInt_inj.mp h
    subst e; exact ⟨rfl, rfl⟩
theorem ent_long {cy : Nat → ClassId} {ad : rf → Nat} {M M' : mM} {c : rf} (h : ¬ c.1 = 22) (h1 : M'.1 = M.1) : ent cy ad M' c = ent cy ad M c := by
  have hk : ∀ (q : Nat) (k : Nat) (nf : Nat → Nat), AR q = some (k + 2, nf) → q = 22 := by
    intro q k nf hq
    unfold AR at hq
    split at hq <;> first | rfl | (cases hq)
  unfold ent
  have e : M'.1 c = M.1 c := by rw [h1]
  cases hO : OB c.1 with
  | some q => simp only [fvs_cong e]
  | none =>
    cases hA : AR c.1 with
    | some q =>
      obtain ⟨k, nf⟩ := q
      rcases k with _ | _ | k
      · simp only [e]; rfl
      · simp only [e]; rfl
      · exact absurd (hk _ _ _ hA) h
    | none => rfl
theorem catsum (ad : rf → Nat) : ∀ st : List mV, ((st.map (gv ad)).map fun v => v.category).sum ≤ 2 * st.length
  | [] => Nat.le_refl _
  | v :: l => by
    have h := catsum ad l
    have hv : (gv ad v).category ≤ 2 := by rcases v with x | x | x <;> first | exact Nat.le_succ 1 | exact Nat.le_refl 2
    simp only [List.map_cons, List.sum_cons, List.length_cons]
    omega
theorem lcI (x w : Int64) : ((lg_cmp x w).toInt = -1 ∧ x.toInt < w.toInt) ∨ ((lg_cmp x w).toInt = 0 ∧ x.toInt = w.toInt) ∨ ((lg_cmp x w).toInt = 1 ∧ w.toInt < x.toInt) := by
  unfold lg_cmp
  split
  · rename_i h; exact Or.inr (Or.inr ⟨rfl, Int64.lt_iff_toInt_lt.mp h⟩)
  · rename_i h
    have h1 : ¬ w.toInt < x.toInt := fun q => h (Int64.lt_iff_toInt_lt.mpr q)
    split
    · rename_i h2; exact Or.inr (Or.inl ⟨rfl, by rw [h2]⟩)
    · rename_i h2
      refine Or.inl ⟨rfl, ?_⟩
      have h3 : x.toInt ≠ w.toInt := fun q => h2 (Int64.toInt_inj.mp q)
      omega
section WPROWS
variable {cls : List rf} {l : Launch} {G : va_G} {cy : Nat → ClassId} {ad : rf → Nat} {y : MethodName} {b : ByteArray} {n : Nat} {r : Option FieldType} {d : Nat} {pc : Nat} {ls : List (Nat × mV)} {st : List mV} {M : mM} {Q : Int32 → mM → Prop}
theorem w_iconst {k : Int} {v : Int32} (hd : decode b pc = .ok (.iconst k, 1)) (hv : Int32.ofInt k = v) (kk : WP cls l G cy ad y b n r d (pc + 1) ls (vI v :: st) M Q) : WP cls l G cy ad y b n r d pc ls st M Q := fun p e s m args below meth c A X lsA H locs hl hP hS => lv_iconst X.1 X.2.1 hd hv (kk p e s m args below meth c A X lsA H locs hl hP hS)
theorem w_bipush {k : Int} {v : Int32} (hd : decode b pc = .ok (.bipush k, 2)) (hv : (Int8.ofInt k).toInt32 = v) (kk : WP cls l G cy ad y b n r d (pc + 2) ls (vI v :: st) M Q) : WP cls l G cy ad y b n r d pc ls st M Q := fun p e s m args below meth c A X lsA H locs hl hP hS => lv_bipush X.1 X.2.1 hd hv (kk p e s m args below meth c A X lsA H locs hl hP hS)
theorem w_sipush {k : Int} {v : Int32} (hd : decode b pc = .ok (.sipush k, 3)) (hv : (Int16.ofInt k).toInt32 = v) (kk : WP cls l G cy ad y b n r d (pc + 3) ls (vI v :: st) M Q) : WP cls l G cy ad y b n r d pc ls st M Q := fun p e s m args below meth c A X lsA H locs hl hP hS => lv_sipush X.1 X.2.1 hd hv (kk p e s m args below meth c A X lsA H locs hl hP hS)
theorem w_lconst {k : Fin 2} {v : Int64} (hd : decode b pc = .ok (.lconst k, 1)) (hv : Int64.ofNat (k : Nat) = v) (kk : WP cls l G cy ad y b n r d (pc + 1) ls (vL v :: st) M Q) : WP cls l G cy ad y b n r d pc ls st M Q := fun p e s m args below meth c A X lsA H locs hl hP hS => lv_lconst X.1 X.2.1 hd hv (kk p e s m args below meth c A X lsA H locs hl hP hS)
theorem w_ldc {idx : Nat} {v : Int32} (hw : Cond.constant y.cls idx v ∈ BASE) (hd : decode b pc = .ok (.ldc idx, 2)) (kk : WP cls l G cy ad y b n r d (pc + 2) ls (vI v :: st) M Q) : WP cls l G cy ad y b n r d pc ls st M Q := fun p e s m args below meth c A X lsA H locs hl hP hS => lv_ldc X.1 X.2.1 X.2.2.2.2.2.1 (X.2.2.2.2.1 _ hw) hd (kk p e s m args below meth c A X lsA H locs hl hP hS)
theorem w_ldc_w {idx : Nat} {v : Int32} (hw : Cond.constant y.cls idx v ∈ BASE) (hd : decode b pc = .ok (.ldc_w idx, 3)) (kk : WP cls l G cy ad y b n r d (pc + 3) ls (vI v :: st) M Q) : WP cls l G cy ad y b n r d pc ls st M Q := fun p e s m args below meth c A X lsA H locs hl hP hS => lv_ldcw X.1 X.2.1 X.2.2.2.2.2.1 (X.2.2.2.2.1 _ hw) hd (kk p e s m args below meth c A X lsA H locs hl hP hS)
theorem w_ldc2 {idx : Nat} {v : Int64} (hw : Cond.constantLong y.cls idx v ∈ BASE) (hd : decode b pc = .ok (.ldc2_w idx, 3)) (kk : WP cls l G cy ad y b n r d (pc + 3) ls (vL v :: st) M Q) : WP cls l G cy ad y b n r d pc ls st M Q := fun p e s m args below meth c A X lsA H locs hl hP hS => lv_ldc2 X.1 X.2.1 X.2.2.2.2.2.1 (X.2.2.2.2.1 _ hw) hd (kk p e s m args below meth c A X lsA H locs hl hP hS)
theorem w_ldcS {idx k : Nat} {tx : String} (hs : NSs[k]? = some (y.cls, idx, tx)) (hd : decode b pc = .ok (.ldc idx, 2)) (kk : WP cls l G cy ad y b n r d (pc + 2) ls (vR (91, k, 0) :: st) M Q) : WP cls l G cy ad y b n r d pc ls st M Q := fun p e s m args below meth c A X lsA H locs hl hP hS => va_ldcS X.1 X.2.1 X.2.2.2.2.2.1 (X.2.2.2.2.2.2.2.1.2.2.2.1 k _ hs) hd (kk p e s m args below meth c A X lsA H locs hl hP hS)
theorem w_iload_n {k : Fin 4} {i : Nat} {x : Int32} (hd : decode b pc = .ok (.iload_n k, 1)) (hi : (k : Nat) = i) (j : Nat) (hj : ls[j]? = some (i, vI x)) (kk : WP cls l G cy ad y b n r d (pc + 1) ls (vI x :: st) M Q) : WP cls l G cy ad y b n r d pc ls st M Q := fun p e s m args below meth c A X lsA H locs hl hP hS => lv_iload_n X.1 X.2.1 hd hi (lv_at hl j (gl_at hj)) (kk p e s m args below meth c A X lsA H locs hl hP hS)
theorem w_iload {i : Nat} {x : Int32} (hd : decode b pc = .ok (.iload i, 2)) (j : Nat) (hj : ls[j]? = some (i, vI x)) (kk : WP cls l G cy ad y b n r d (pc + 2) ls (vI x :: st) M Q) : WP cls l G cy ad y b n r d pc ls st M Q := fun p e s m args below meth c A X lsA H locs hl hP hS => lv_iload X.1 X.2.1 hd (lv_at hl j (gl_at hj)) (kk p e s m args below meth c A X lsA H locs hl hP hS)
theorem w_lload_n {k : Fin 4} {i : Nat} {x : Int64} (hd : decode b pc = .ok (.lload_n k, 1)) (hi : (k : Nat) = i) (j : Nat) (hj : ls[j]? = some (i, vL x)) (kk : WP cls l G cy ad y b n r d (pc + 1) ls (vL x :: st) M Q) : WP cls l G cy ad y b n r d pc ls st M Q := fun p e s m args below meth c A X lsA H locs hl hP hS => lv_lload_n X.1 X.2.1 hd hi (lv_at hl j (gl_at hj)) (kk p e s m args below meth c A X lsA H locs hl hP hS)
theorem w_lload {i : Nat} {x : Int64} (hd : decode b pc = .ok (.lload i, 2)) (j : Nat) (hj : ls[j]? = some (i, vL x)) (kk : WP cls l G cy ad y b n r d (pc + 2) ls (vL x :: st) M Q) : WP cls l G cy ad y b n r d pc ls st M Q := fun p e s m args below meth c A X lsA H locs hl hP hS => lv_lload X.1 X.2.1 hd (lv_at hl j (gl_at hj)) (kk p e s m args below meth c A X lsA H locs hl hP hS)
theorem w_aload_n {k : Fin 4} {i : Nat} {x : rf} (hd : decode b pc = .ok (.aload_n k, 1)) (hi : (k : Nat) = i) (j : Nat) (hj : ls[j]? = some (i, vR x)) (kk : WP cls l G cy ad y b n r d (pc + 1) ls (vR x :: st) M Q) : WP cls l G cy ad y b n r d pc ls st M Q := fun p e s m args below meth c A X lsA H locs hl hP hS => lv_aload_n X.1 X.2.1 hd hi (lv_at hl j (gl_at hj)) (kk p e s m args below meth c A X lsA H locs hl hP hS)
theorem w_aload {i : Nat} {x : rf} (hd : decode b pc = .ok (.aload i, 2)) (j : Nat) (hj : ls[j]? = some (i, vR x)) (kk : WP cls l G cy ad y b n r d (pc + 2) ls (vR x :: st) M Q) : WP cls l G cy ad y b n r d pc ls st M Q := fun p e s m args below meth c A X lsA H locs hl hP hS => lv_aload X.1 X.2.1 hd (lv_at hl j (gl_at hj)) (kk p e s m args below meth c A X lsA H locs hl hP hS)
theorem w_istore_n {k : Fin 4} {i : Nat} {x : Int32} {ls' : List (Nat × mV)} (hd : decode b pc = .ok (.istore_n k, 1)) (hi : (k : Nat) = i) (hn : i < n) (hs : lset ls i (vI x) = ls') (kk : WP cls l G cy ad y b n r d (pc + 1) ls' st M Q) : WP cls l G cy ad y b n r d pc ls (vI x :: st) M Q := fun p e s m args below meth c A X lsA H locs hl hP hS => lv_istore_n X.1 X.2.1 hd hi hl hn (hs ▸ gl_lset ad ls i (vI x)) (fun lsA hl => kk p e s m args below meth c A X lsA H locs hl hP hS)
theorem w_istore {i : Nat} {x : Int32} {ls' : List (Nat × mV)} (hd : decode b pc = .ok (.istore i, 2)) (hn : i < n) (hs : lset ls i (vI x) = ls') (kk : WP cls l G cy ad y b n r d (pc + 2) ls' st M Q) : WP cls l G cy ad y b n r d pc ls (vI x :: st) M Q := fun p e s m args below meth c A X lsA H locs hl hP hS => lv_istore X.1 X.2.1 hd hl hn (hs ▸ gl_lset ad ls i (vI x)) (fun lsA hl => kk p e s m args below meth c A X lsA H locs hl hP hS)
theorem w_astore_n {k : Fin 4} {i : Nat} {x : rf} {ls' : List (Nat × mV)} (hd : decode b pc = .ok (.astore_n k, 1)) (hi : (k : Nat) = i) (hn : i < n) (hs : lset ls i (vR x) = ls') (kk : WP cls l G cy ad y b n r d (pc + 1) ls' st M Q) : WP cls l G cy ad y b n r d pc ls (vR x :: st) M Q := fun p e s m args below meth c A X lsA H locs hl hP hS => lv_astore_n X.1 X.2.1 hd hi hl hn (hs ▸ gl_lset ad ls i (vR x)) (fun lsA hl => kk p e s m args below meth c A X lsA H locs hl hP hS)
theorem w_astore {i : Nat} {x : rf} {ls' : List (Nat × mV)} (hd : decode b pc = .ok (.astore i, 2)) (hn : i < n) (hs : lset ls i (vR x) = ls') (kk : WP cls l G cy ad y b n r d (pc + 2) ls' st M Q) : WP cls l G cy ad y b n r d pc ls (vR x :: st) M Q := fun p e s m args below meth c A X lsA H locs hl hP hS => lv_astore X.1 X.2.1 hd hl hn (hs ▸ gl_lset ad ls i (vR x)) (fun lsA hl => kk p e s m args below meth c A X lsA H locs hl hP hS)
theorem w_lstore_n {k : Fin 4} {i : Nat} {x : Int64} {ls' : List (Nat × mV)} (hd : decode b pc = .ok (.lstore_n k, 1)) (hi : (k : Nat) = i) (hn : i + 1 < n) (hs : lset2 ls i (vL x) = ls') (kk : WP cls l G cy ad y b n r d (pc + 1) ls' st M Q) : WP cls l G cy ad y b n r d pc ls (vL x :: st) M Q := fun p e s m args below meth c A X lsA H locs hl hP hS => lv_lstore_n X.1 X.2.1 hd hi hl hn (hs ▸ gl_lset2 ad ls i (vL x)) (fun lsA hl => kk p e s m args below meth c A X lsA H locs hl hP hS)
theorem w_lstore {i : Nat} {x : Int64} {ls' : List (Nat × mV)} (hd : decode b pc = .ok (.lstore i, 2)) (hn : i + 1 < n) (hs : lset2 ls i (vL x) = ls') (kk : WP cls l G cy ad y b n r d (pc + 2) ls' st M Q) : WP cls l G cy ad y b n r d pc ls (vL x :: st) M Q := fun p e s m args below meth c A X lsA H locs hl hP hS => lv_lstore X.1 X.2.1 hd hl hn (hs ▸ gl_lset2 ad ls i (vL x)) (fun lsA hl => kk p e s m args below meth c A X lsA H locs hl hP hS)
theorem w_iincE {i j : Nat} {k : Int} {x z : Int32} {ls' : List (Nat × mV)} (hd : decode b pc = .ok (.iinc i k, 3)) (hj : ls[j]? = some (i, vI x)) (hz : x + Int32.ofInt k = z) (hn : i < n) (hs : lset ls i (vI z) = ls') (kk : WP cls l G cy ad y b n r d (pc + 3) ls' st M Q) : WP cls l G cy ad y b n r d pc ls st M Q := fun p e s m args below meth c A X lsA H locs hl hP hS => lv_iinc X.1 X.2.1 hd hl (gl_at hj) hz hn (hs ▸ gl_lset ad ls i (vI z)) (fun lsA hl => kk p e s m args below meth c A X lsA H locs hl hP hS)
theorem w_iincU {i j : Nat} {k : Int} {x : Int32} {f : Int32 → List (Nat × mV)} (hd : decode b pc = .ok (.iinc i k, 3)) (hj : ls[j]? = some (i, vI x)) (hn : i < n) (hs : ∀ z, lset ls i (vI z) = f z) (kk : ∀ z : Int32, WP cls l G cy ad y b n r d (pc + 3) (f z) st M Q) : WP cls l G cy ad y b n r d pc ls st M Q := w_iincE hd hj rfl hn (hs _) (kk _)
theorem w_iincB {i j : Nat} {k : Int} {x : Int32} {f : Int32 → List (Nat × mV)} {a : Int} (hd : decode b pc = .ok (.iinc i k, 3)) (hj : ls[j]? = some (i, vI x)) (hn : i < n) (hs : ∀ z, lset ls i (vI z) = f z) (hx : x.toInt = a) (hk : (Int32.ofInt k).toInt = k) (h : -2147483648 ≤ a + k ∧ a + k < 2147483648) (kk : ∀ z : Int32, z.toInt = a + k → WP cls l G cy ad y b n r d (pc + 3) (f z) st M Q) : WP cls l G cy ad y b n r d pc ls st M Q := w_iincE hd hj rfl hn (hs _) (kk _ (addI hx hk h.1 h.2))
theorem w_iadd {x w : Int32} (hd : decode b pc = .ok (.iadd, 1)) (kk : ∀ z : Int32, z = x + w → WP cls l G cy ad y b n r d (pc + 1) ls (vI z :: st) M Q) : WP cls l G cy ad y b n r d pc ls (vI w :: vI x :: st) M Q := fun p e s m args below meth c A X lsA H locs hl hP hS => lv_iadd X.1 X.2.1 hd (kk _ rfl p e s m args below meth c A X lsA H locs hl hP hS)
theorem w_isub {x w : Int32} (hd : decode b pc = .ok (.isub, 1)) (kk : ∀ z : Int32, z = x - w → WP cls l G cy ad y b n r d (pc + 1) ls (vI z :: st) M Q) : WP cls l G cy ad y b n r d pc ls (vI w :: vI x :: st) M Q := fun p e s m args below meth c A X lsA H locs hl hP hS => lv_isub X.1 X.2.1 hd (kk _ rfl p e s m args below meth c A X lsA H locs hl hP hS)
theorem w_imul {x w : Int32} (hd : decode b pc = .ok (.imul, 1)) (kk : ∀ z : Int32, z = x * w → WP cls l G cy ad y b n r d (pc + 1) ls (vI z :: st) M Q) : WP cls l G cy ad y b n r d pc ls (vI w :: vI x :: st) M Q := fun p e s m args below meth c A X lsA H locs hl hP hS => lv_imul X.1 X.2.1 hd (kk _ rfl p e s m args below meth c A X lsA H locs hl hP hS)
theorem w_iand {x w : Int32} (hd : decode b pc = .ok (.iand, 1)) (kk : ∀ z : Int32, z = x &&& w → WP cls l G cy ad y b n r d (pc + 1) ls (vI z :: st) M Q) : WP cls l G cy ad y b n r d pc ls (vI w :: vI x :: st) M Q := fun p e s m args below meth c A X lsA H locs hl hP hS => lv_iand X.1 X.2.1 hd (kk _ rfl p e s m args below meth c A X lsA H locs hl hP hS)
theorem w_ior {x w : Int32} (hd : decode b pc = .ok (.ior, 1)) (kk : ∀ z : Int32, z = x ||| w → WP cls l G cy ad y b n r d (pc + 1) ls (vI z :: st) M Q) : WP cls l G cy ad y b n r d pc ls (vI w :: vI x :: st) M Q := fun p e s m args below meth c A X lsA H locs hl hP hS => lv_ior X.1 X.2.1 hd (kk _ rfl p e s m args below meth c A X lsA H locs hl hP hS)
theorem w_ixor {x w : Int32} (hd : decode b pc = .ok (.ixor, 1)) (kk : ∀ z : Int32, z = x ^^^ w → WP cls l G cy ad y b n r d (pc + 1) ls (vI z :: st) M Q) : WP cls l G cy ad y b n r d pc ls (vI w :: vI x :: st) M Q := fun p e s m args below meth c A X lsA H locs hl hP hS => lv_ixor X.1 X.2.1 hd (kk _ rfl p e s m args below meth c A X lsA H locs hl hP hS)
theorem w_ishl {x w : Int32} (hd : decode b pc = .ok (.ishl, 1)) (kk : ∀ z : Int32, z = x <<< (w &&& 31) → WP cls l G cy ad y b n r d (pc + 1) ls (vI z :: st) M Q) : WP cls l G cy ad y b n r d pc ls (vI w :: vI x :: st) M Q := fun p e s m args below meth c A X lsA H locs hl hP hS => lv_ishl X.1 X.2.1 hd (kk _ rfl p e s m args below meth c A X lsA H locs hl hP hS)
theorem w_ishr {x w : Int32} (hd : decode b pc = .ok (.ishr, 1)) (kk : ∀ z : Int32, z = x >>> (w &&& 31) → WP cls l G cy ad y b n r d (pc + 1) ls (vI z :: st) M Q) : WP cls l G cy ad y b n r d pc ls (vI w :: vI x :: st) M Q := fun p e s m args below meth c A X lsA H locs hl hP hS => lv_ishr X.1 X.2.1 hd (kk _ rfl p e s m args below meth c A X lsA H locs hl hP hS)
theorem w_idiv {x w : Int32} (hd : decode b pc = .ok (.idiv, 1)) (hne : ¬ w = 0) (kk : ∀ z : Int32, z = x / w → WP cls l G cy ad y b n r d (pc + 1) ls (vI z :: st) M Q) : WP cls l G cy ad y b n r d pc ls (vI w :: vI x :: st) M Q := fun p e s m args below meth c A X lsA H locs hl hP hS => lv_idiv X.1 X.2.1 hd hne (kk _ rfl p e s m args below meth c A X lsA H locs hl hP hS)
theorem w_irem {x w : Int32} (hd : decode b pc = .ok (.irem, 1)) (hne : ¬ w = 0) (kk : ∀ z : Int32, z = x - x / w * w → WP cls l G cy ad y b n r d (pc + 1) ls (vI z :: st) M Q) : WP cls l G cy ad y b n r d pc ls (vI w :: vI x :: st) M Q := fun p e s m args below meth c A X lsA H locs hl hP hS => lv_irem X.1 X.2.1 hd hne (kk _ rfl p e s m args below meth c A X lsA H locs hl hP hS)
theorem w_ineg {x : Int32} (hd : decode b pc = .ok (.ineg, 1)) (kk : ∀ z : Int32, z = -x → WP cls l G cy ad y b n r d (pc + 1) ls (vI z :: st) M Q) : WP cls l G cy ad y b n r d pc ls (vI x :: st) M Q := fun p e s m args below meth c A X lsA H locs hl hP hS => lv_ineg X.1 X.2.1 hd (kk _ rfl p e s m args below meth c A X lsA H locs hl hP hS)
theorem w_ladd {x w : Int64} (hd : decode b pc = .ok (.ladd, 1)) (kk : ∀ z : Int64, z = x + w → WP cls l G cy ad y b n r d (pc + 1) ls (vL z :: st) M Q) : WP cls l G cy ad y b n r d pc ls (vL w :: vL x :: st) M Q := fun p e s m args below meth c A X lsA H locs hl hP hS => lv_ladd X.1 X.2.1 hd (kk _ rfl p e s m args below meth c A X lsA H locs hl hP hS)
theorem w_lor {x w : Int64} (hd : decode b pc = .ok (.lor, 1)) (kk : ∀ z : Int64, z = x ||| w → WP cls l G cy ad y b n r d (pc + 1) ls (vL z :: st) M Q) : WP cls l G cy ad y b n r d pc ls (vL w :: vL x :: st) M Q := fun p e s m args below meth c A X lsA H locs hl hP hS => lv_lor X.1 X.2.1 hd (kk _ rfl p e s m args below meth c A X lsA H locs hl hP hS)
theorem w_land {x w : Int64} (hd : decode b pc = .ok (.land, 1)) (kk : ∀ z : Int64, z = x &&& w → WP cls l G cy ad y b n r d (pc + 1) ls (vL z :: st) M Q) : WP cls l G cy ad y b n r d pc ls (vL w :: vL x :: st) M Q := fun p e s m args below meth c A X lsA H locs hl hP hS => lv_land X.1 X.2.1 hd (kk _ rfl p e s m args below meth c A X lsA H locs hl hP hS)
theorem w_lushr {x : Int64} {w : Int32} (hd : decode b pc = .ok (.lushr, 1)) (kk : ∀ z : Int64, z = (x.toUInt64 >>> (w.toInt64.toUInt64 &&& Int64.toUInt64 63)).toInt64 → WP cls l G cy ad y b n r d (pc + 1) ls (vL z :: st) M Q) : WP cls l G cy ad y b n r d pc ls (vI w :: vL x :: st) M Q := fun p e s m args below meth c A X lsA H locs hl hP hS => lv_lushr X.1 X.2.1 hd rfl (kk _ rfl p e s m args below meth c A X lsA H locs hl hP hS)
theorem w_lshl {x : Int64} {w : Int32} (hd : decode b pc = .ok (.lshl, 1)) (kk : ∀ z : Int64, z = x <<< (w.toInt64 &&& 63) → WP cls l G cy ad y b n r d (pc + 1) ls (vL z :: st) M Q) : WP cls l G cy ad y b n r d pc ls (vI w :: vL x :: st) M Q := fun p e s m args below meth c A X lsA H locs hl hP hS => lv_lshl X.1 X.2.1 hd rfl (kk _ rfl p e s m args below meth c A X lsA H locs hl hP hS)
theorem w_lshr {x : Int64} {w : Int32} (hd : decode b pc = .ok (.lshr, 1)) (kk : ∀ z : Int64, z = x >>> (w.toInt64 &&& 63) → WP cls l G cy ad y b n r d (pc + 1) ls (vL z :: st) M Q) : WP cls l G cy ad y b n r d pc ls (vI w :: vL x :: st) M Q := fun p e s m args below meth c A X lsA H locs hl hP hS => lv_lshr X.1 X.2.1 hd rfl (kk _ rfl p e s m args below meth c A X lsA H locs hl hP hS)
theorem w_i2l {x : Int32} (hd : decode b pc = .ok (.i2l, 1)) (kk : ∀ z : Int64, z = x.toInt64 → WP cls l G cy ad y b n r d (pc + 1) ls (vL z :: st) M Q) : WP cls l G cy ad y b n r d pc ls (vI x :: st) M Q := fun p e s m args below meth c A X lsA H locs hl hP hS => lv_i2l X.1 X.2.1 hd rfl (kk _ rfl p e s m args below meth c A X lsA H locs hl hP hS)
theorem w_l2i {x : Int64} (hd : decode b pc = .ok (.l2i, 1)) (kk : ∀ z : Int32, z = x.toInt32 → WP cls l G cy ad y b n r d (pc + 1) ls (vI z :: st) M Q) : WP cls l G cy ad y b n r d pc ls (vL x :: st) M Q := fun p e s m args below meth c A X lsA H locs hl hP hS => lv_l2i X.1 X.2.1 hd rfl (kk _ rfl p e s m args below meth c A X lsA H locs hl hP hS)
theorem w_i2b {x : Int32} (hd : decode b pc = .ok (.i2b, 1)) (kk : ∀ z : Int32, z = x.toInt8.toInt32 → WP cls l G cy ad y b n r d (pc + 1) ls (vI z :: st) M Q) : WP cls l G cy ad y b n r d pc ls (vI x :: st) M Q := fun p e s m args below meth c A X lsA H locs hl hP hS => lv_i2b X.1 X.2.1 hd rfl (kk _ rfl p e s m args below meth c A X lsA H locs hl hP hS)
theorem w_i2s {x : Int32} (hd : decode b pc = .ok (.i2s, 1)) (kk : ∀ z : Int32, z = x.toInt16.toInt32 → WP cls l G cy ad y b n r d (pc + 1) ls (vI z :: st) M Q) : WP cls l G cy ad y b n r d pc ls (vI x :: st) M Q := fun p e s m args below meth c A X lsA H locs hl hP hS => lv_i2s X.1 X.2.1 hd rfl (kk _ rfl p e s m args below meth c A X lsA H locs hl hP hS)
theorem w_i2c {x : Int32} (hd : decode b pc = .ok (.i2c, 1)) (kk : ∀ z : Int32, z = (x.toUInt32 % 65536).toInt32 → WP cls l G cy ad y b n r d (pc + 1) ls (vI z :: st) M Q) : WP cls l G cy ad y b n r d pc ls (vI x :: st) M Q := fun p e s m args below meth c A X lsA H locs hl hP hS => lv_i2c X.1 X.2.1 hd rfl (kk _ rfl p e s m args below meth c A X lsA H locs hl hP hS)
theorem w_iaddB {x w : Int32} {a c : Int} (hd : decode b pc = .ok (.iadd, 1)) (hx : x.toInt = a) (hy : w.toInt = c) (h : -2147483648 ≤ a + c ∧ a + c < 2147483648) (kk : ∀ z : Int32, z.toInt = a + c → WP cls l G cy ad y b n r d (pc + 1) ls (vI z :: st) M Q) : WP cls l G cy ad y b n r d pc ls (vI w :: vI x :: st) M Q := w_iadd hd (fun z hz => kk z (hz ▸ addI hx hy h.1 h.2))
theorem w_isubB {x w : Int32} {a c : Int} (hd : decode b pc = .ok (.isub, 1)) (hx : x.toInt = a) (hy : w.toInt = c) (h : -2147483648 ≤ a - c ∧ a - c < 2147483648) (kk : ∀ z : Int32, z.toInt = a - c → WP cls l G cy ad y b n r d (pc + 1) ls (vI z :: st) M Q) : WP cls l G cy ad y b n r d pc ls (vI w :: vI x :: st) M Q := w_isub hd (fun z hz => kk z (hz ▸ subI hx hy h.1 h.2))
theorem w_imulB {x w : Int32} {a c : Int} (hd : decode b pc = .ok (.imul, 1)) (hx : x.toInt = a) (hy : w.toInt = c) (h : -2147483648 ≤ a * c ∧ a * c < 2147483648) (kk : ∀ z : Int32, z.toInt = a * c → WP cls l G cy ad y b n r d (pc + 1) ls (vI z :: st) M Q) : WP cls l G cy ad y b n r d pc ls (vI w :: vI x :: st) M Q := w_imul hd (fun z hz => kk z (hz ▸ mulI hx hy h.1 h.2))
theorem w_idivB {x w : Int32} {a c : Int} (hd : decode b pc = .ok (.idiv, 1)) (hne : ¬ w = 0) (hx : x.toInt = a) (hy : w.toInt = c) (h : 0 ≤ a) (h2 : 0 < c) (kk : ∀ z : Int32, z.toInt = a / c → WP cls l G cy ad y b n r d (pc + 1) ls (vI z :: st) M Q) : WP cls l G cy ad y b n r d pc ls (vI w :: vI x :: st) M Q := w_idiv hd hne (fun z hz => kk z (hz ▸ divI hx hy h h2))
theorem w_iremB {x w : Int32} {a c : Int} (hd : decode b pc = .ok (.irem, 1)) (hne : ¬ w = 0) (hx : x.toInt = a) (hy : w.toInt = c) (h : 0 ≤ a) (h2 : 0 < c) (kk : ∀ z : Int32, z.toInt = a % c → WP cls l G cy ad y b n r d (pc + 1) ls (vI z :: st) M Q) : WP cls l G cy ad y b n r d pc ls (vI w :: vI x :: st) M Q := w_irem hd hne (fun z hz => kk z (hz ▸ remI hx hy h h2))
theorem w_iandB {x w : Int32} (k : Nat) (hd : decode b pc = .ok (.iand, 1)) (hm : w.toBitVec.toNat = 2 ^ k - 1) (hk : k ≤ 30) (kk : ∀ z : Int32, 0 ≤ z.toInt ∧ z.toInt < (2 ^ k : Nat) → WP cls l G cy ad y b n r d (pc + 1) ls (vI z :: st) M Q) : WP cls l G cy ad y b n r d pc ls (vI w :: vI x :: st) M Q := w_iand hd (fun z hz => kk z (hz ▸ andI x k hm hk))
theorem w_E {x z : Int32} (h : x = z) (kk : WP cls l G cy ad y b n r d pc ls (vI z :: st) M Q) : WP cls l G cy ad y b n r d pc ls (vI x :: st) M Q := h ▸ kk
theorem w_lcmp {x w : Int64} (hd : decode b pc = .ok (.lcmp, 1)) (kk : ∀ z : Int32, ((z.toInt = -1 ∧ x.toInt < w.toInt) ∨ (z.toInt = 0 ∧ x.toInt = w.toInt) ∨ (z.toInt = 1 ∧ w.toInt < x.toInt)) → WP cls l G cy ad y b n r d (pc + 1) ls (vI z :: st) M Q) : WP cls l G cy ad y b n r d pc ls (vL w :: vL x :: st) M Q := fun p e s m args below meth c A X lsA H locs hl hP hS => by
    refine W.lcmp X.1 X.2.1 hd ?_
    exact kk _ (lcI x w) p e s m args below meth c A X lsA H locs hl hP hS
theorem w_dup {v : mV} (hd : decode b pc = .ok (.dup, 1)) (hc : vc2 v = false) (kk : WP cls l G cy ad y b n r d (pc + 1) ls (v :: v :: st) M Q) : WP cls l G cy ad y b n r d pc ls (v :: st) M Q := fun p e s m args below meth c A X lsA H locs hl hP hS => lv_dup X.1 X.2.1 hd (cat1 hc) (kk p e s m args below meth c A X lsA H locs hl hP hS)
theorem w_dup2 {v w : mV} (hd : decode b pc = .ok (.dup2, 1)) (hc : vc2 v = false) (hc2 : vc2 w = false) (kk : WP cls l G cy ad y b n r d (pc + 1) ls (v :: w :: v :: w :: st) M Q) : WP cls l G cy ad y b n r d pc ls (v :: w :: st) M Q := fun p e s m args below meth c A X lsA H locs hl hP hS => lv_dup2_11 X.1 X.2.1 hd (cat1 hc) (cat1 hc2) (kk p e s m args below meth c A X lsA H locs hl hP hS)
theorem w_pop {v : mV} (hd : decode b pc = .ok (.pop, 1)) (hc : vc2 v = false) (kk : WP cls l G cy ad y b n r d (pc + 1) ls st M Q) : WP cls l G cy ad y b n r d pc ls (v :: st) M Q := fun p e s m args below meth c A X lsA H locs hl hP hS => lv_pop X.1 X.2.1 hd (cat1 hc) (kk p e s m args below meth c A X lsA H locs hl hP hS)
theorem w_goto {off : Int} {tgt : Nat} (hd : decode b pc = .ok (.goto off, 3)) (ht : (pc : Int) + off = (tgt : Int)) (kk : WP cls l G cy ad y b n r d tgt ls st M Q) : WP cls l G cy ad y b n r d pc ls st M Q := fun p e s m args below meth c A X lsA H locs hl hP hS => lv_goto X.1 X.2.1 hd ht (kk p e s m args below meth c A X lsA H locs hl hP hS)
theorem w_if_eq {x : Int32} {a : Int} {off : Int} {tgt : Nat} (hd : decode b pc = .ok (.ifCond .eq off, 3)) (ht : (pc : Int) + off = (tgt : Int)) (hx : x.toInt = a) (k1 : a = 0 → WP cls l G cy ad y b n r d tgt ls st M Q) (k2 : ¬ a = 0 → WP cls l G cy ad y b n r d (pc + 3) ls st M Q) : WP cls l G cy ad y b n r d pc ls (vI x :: st) M Q := fun p e s m args below meth c_ A X lsA H locs hl hP hS => lv_if_eq X.1 X.2.1 hd ht (fun h => k1 (cvE hx rfl h) p e s m args below meth c_ A X lsA H locs hl hP hS) (fun h => k2 (cvN hx rfl h) p e s m args below meth c_ A X lsA H locs hl hP hS)
theorem w_icmp_eq {x w : Int32} {a c : Int} {off : Int} {tgt : Nat} (hd : decode b pc = .ok (.if_icmp .eq off, 3)) (ht : (pc : Int) + off = (tgt : Int)) (hx : x.toInt = a) (hy : w.toInt = c) (k1 : a = c → WP cls l G cy ad y b n r d tgt ls st M Q) (k2 : ¬ a = c → WP cls l G cy ad y b n r d (pc + 3) ls st M Q) : WP cls l G cy ad y b n r d pc ls (vI w :: vI x :: st) M Q := fun p e s m args below meth c_ A X lsA H locs hl hP hS => lv_icmp_eq X.1 X.2.1 hd ht (fun h => k1 (cvE hx hy h) p e s m args below meth c_ A X lsA H locs hl hP hS) (fun h => k2 (cvN hx hy h) p e s m args below meth c_ A X lsA H locs hl hP hS)
theorem w_if_ne {x : Int32} {a : Int} {off : Int} {tgt : Nat} (hd : decode b pc = .ok (.ifCond .ne off, 3)) (ht : (pc : Int) + off = (tgt : Int)) (hx : x.toInt = a) (k1 : ¬ a = 0 → WP cls l G cy ad y b n r d tgt ls st M Q) (k2 : a = 0 → WP cls l G cy ad y b n r d (pc + 3) ls st M Q) : WP cls l G cy ad y b n r d pc ls (vI x :: st) M Q := fun p e s m args below meth c_ A X lsA H locs hl hP hS => lv_if_ne X.1 X.2.1 hd ht (fun h => k1 (cvN hx rfl h) p e s m args below meth c_ A X lsA H locs hl hP hS) (fun h => k2 (cvE hx rfl (by first | exact h | exact Classical.not_not.mp h)) p e s m args below meth c_ A X lsA H locs hl hP hS)
theorem w_icmp_ne {x w : Int32} {a c : Int} {off : Int} {tgt : Nat} (hd : decode b pc = .ok (.if_icmp .ne off, 3)) (ht : (pc : Int) + off = (tgt : Int)) (hx : x.toInt = a) (hy : w.toInt = c) (k1 : ¬ a = c → WP cls l G cy ad y b n r d tgt ls st M Q) (k2 : a = c → WP cls l G cy ad y b n r d (pc + 3) ls st M Q) : WP cls l G cy ad y b n r d pc ls (vI w :: vI x :: st) M Q := fun p e s m args below meth c_ A X lsA H locs hl hP hS => lv_icmp_ne X.1 X.2.1 hd ht (fun h => k1 (cvN hx hy h) p e s m args below meth c_ A X lsA H locs hl hP hS) (fun h => k2 (cvE hx hy (by first | exact h | exact Classical.not_not.mp h)) p e s m args below meth c_ A X lsA H locs hl hP hS)
theorem w_if_lt {x : Int32} {a : Int} {off : Int} {tgt : Nat} (hd : decode b pc = .ok (.ifCond .lt off, 3)) (ht : (pc : Int) + off = (tgt : Int)) (hx : x.toInt = a) (k1 : a < 0 → WP cls l G cy ad y b n r d tgt ls st M Q) (k2 : 0 ≤ a → WP cls l G cy ad y b n r d (pc + 3) ls st M Q) : WP cls l G cy ad y b n r d pc ls (vI x :: st) M Q := fun p e s m args below meth c_ A X lsA H locs hl hP hS => lv_if_lt X.1 X.2.1 hd ht (fun h => k1 (cvLt hx rfl h) p e s m args below meth c_ A X lsA H locs hl hP hS) (fun h => k2 (cvnLt hx rfl h) p e s m args below meth c_ A X lsA H locs hl hP hS)
theorem w_icmp_lt {x w : Int32} {a c : Int} {off : Int} {tgt : Nat} (hd : decode b pc = .ok (.if_icmp .lt off, 3)) (ht : (pc : Int) + off = (tgt : Int)) (hx : x.toInt = a) (hy : w.toInt = c) (k1 : a < c → WP cls l G cy ad y b n r d tgt ls st M Q) (k2 : c ≤ a → WP cls l G cy ad y b n r d (pc + 3) ls st M Q) : WP cls l G cy ad y b n r d pc ls (vI w :: vI x :: st) M Q := fun p e s m args below meth c_ A X lsA H locs hl hP hS => lv_icmp_lt X.1 X.2.1 hd ht (fun h => k1 (cvLt hx hy h) p e s m args below meth c_ A X lsA H locs hl hP hS) (fun h => k2 (cvnLt hx hy h) p e s m args below meth c_ A X lsA H locs hl hP hS)
theorem w_if_ge {x : Int32} {a : Int} {off : Int} {tgt : Nat} (hd : decode b pc = .ok (.ifCond .ge off, 3)) (ht : (pc : Int) + off = (tgt : Int)) (hx : x.toInt = a) (k1 : 0 ≤ a → WP cls l G cy ad y b n r d tgt ls st M Q) (k2 : a < 0 → WP cls l G cy ad y b n r d (pc + 3) ls st M Q) : WP cls l G cy ad y b n r d pc ls (vI x :: st) M Q := fun p e s m args below meth c_ A X lsA H locs hl hP hS => lv_if_ge X.1 X.2.1 hd ht (fun h => k1 (cvLe rfl hx h) p e s m args below meth c_ A X lsA H locs hl hP hS) (fun h => k2 (cvnLe rfl hx h) p e s m args below meth c_ A X lsA H locs hl hP hS)
theorem w_icmp_ge {x w : Int32} {a c : Int} {off : Int} {tgt : Nat} (hd : decode b pc = .ok (.if_icmp .ge off, 3)) (ht : (pc : Int) + off = (tgt : Int)) (hx : x.toInt = a) (hy : w.toInt = c) (k1 : c ≤ a → WP cls l G cy ad y b n r d tgt ls st M Q) (k2 : a < c → WP cls l G cy ad y b n r d (pc + 3) ls st M Q) : WP cls l G cy ad y b n r d pc ls (vI w :: vI x :: st) M Q := fun p e s m args below meth c_ A X lsA H locs hl hP hS => lv_icmp_ge X.1 X.2.1 hd ht (fun h => k1 (cvLe hy hx h) p e s m args below meth c_ A X lsA H locs hl hP hS) (fun h => k2 (cvnLe hy hx h) p e s m args below meth c_ A X lsA H locs hl hP hS)
theorem w_if_gt {x : Int32} {a : Int} {off : Int} {tgt : Nat} (hd : decode b pc = .ok (.ifCond .gt off, 3)) (ht : (pc : Int) + off = (tgt : Int)) (hx : x.toInt = a) (k1 : 0 < a → WP cls l G cy ad y b n r d tgt ls st M Q) (k2 : a ≤ 0 → WP cls l G cy ad y b n r d (pc + 3) ls st M Q) : WP cls l G cy ad y b n r d pc ls (vI x :: st) M Q := fun p e s m args below meth c_ A X lsA H locs hl hP hS => lv_if_gt X.1 X.2.1 hd ht (fun h => k1 (cvLt rfl hx h) p e s m args below meth c_ A X lsA H locs hl hP hS) (fun h => k2 (cvnLt rfl hx h) p e s m args below meth c_ A X lsA H locs hl hP hS)
theorem w_icmp_gt {x w : Int32} {a c : Int} {off : Int} {tgt : Nat} (hd : decode b pc = .ok (.if_icmp .gt off, 3)) (ht : (pc : Int) + off = (tgt : Int)) (hx : x.toInt = a) (hy : w.toInt = c) (k1 : c < a → WP cls l G cy ad y b n r d tgt ls st M Q) (k2 : a ≤ c → WP cls l G cy ad y b n r d (pc + 3) ls st M Q) : WP cls l G cy ad y b n r d pc ls (vI w :: vI x :: st) M Q := fun p e s m args below meth c_ A X lsA H locs hl hP hS => lv_icmp_gt X.1 X.2.1 hd ht (fun h => k1 (cvLt hy hx h) p e s m args below meth c_ A X lsA H locs hl hP hS) (fun h => k2 (cvnLt hy hx h) p e s m args below meth c_ A X lsA H locs hl hP hS)
theorem w_if_le {x : Int32} {a : Int} {off : Int} {tgt : Nat} (hd : decode b pc = .ok (.ifCond .le off, 3)) (ht : (pc : Int) + off = (tgt : Int)) (hx : x.toInt = a) (k1 : a ≤ 0 → WP cls l G cy ad y b n r d tgt ls st M Q) (k2 : 0 < a → WP cls l G cy ad y b n r d (pc + 3) ls st M Q) : WP cls l G cy ad y b n r d pc ls (vI x :: st) M Q := fun p e s m args below meth c_ A X lsA H locs hl hP hS => lv_if_le X.1 X.2.1 hd ht (fun h => k1 (cvLe hx rfl h) p e s m args below meth c_ A X lsA H locs hl hP hS) (fun h => k2 (cvnLe hx rfl h) p e s m args below meth c_ A X lsA H locs hl hP hS)
theorem w_icmp_le {x w : Int32} {a c : Int} {off : Int} {tgt : Nat} (hd : decode b pc = .ok (.if_icmp .le off, 3)) (ht : (pc : Int) + off = (tgt : Int)) (hx : x.toInt = a) (hy : w.toInt = c) (k1 : a ≤ c → WP cls l G cy ad y b n r d tgt ls st M Q) (k2 : c < a → WP cls l G cy ad y b n r d (pc + 3) ls st M Q) : WP cls l G cy ad y b n r d pc ls (vI w :: vI x :: st) M Q := fun p e s m args below meth c_ A X lsA H locs hl hP hS => lv_icmp_le X.1 X.2.1 hd ht (fun h => k1 (cvLe hx hy h) p e s m args below meth c_ A X lsA H locs hl hP hS) (fun h => k2 (cvnLe hx hy h) p e s m args below meth c_ A X lsA H locs hl hP hS)
theorem w_tsIn {x : Int32} {a dflt lo hi off : Int} {offs : Array Int} {len tgt : Nat} (hd : decode b pc = .ok (.tableswitch dflt lo hi offs, len)) (hx : x.toInt = a) (h1 : ¬ a < lo) (h2 : ¬ hi < a) (ho : offs[(a - lo).toNat]? = some off) (ht : (pc : Int) + off = (tgt : Int)) (kk : WP cls l G cy ad y b n r d tgt ls st M Q) : WP cls l G cy ad y b n r d pc ls (vI x :: st) M Q := fun p e s m args below meth c A X lsA H locs hl hP hS => lv_tableIn X.1 X.2.1 hd (hx ▸ h1) (hx ▸ h2) (hx ▸ ho) ht (kk p e s m args below meth c A X lsA H locs hl hP hS)
theorem w_tsOut {x : Int32} {a dflt lo hi : Int} {offs : Array Int} {len tgt : Nat} (hd : decode b pc = .ok (.tableswitch dflt lo hi offs, len)) (hx : x.toInt = a) (h : a < lo ∨ hi < a) (ht : (pc : Int) + dflt = (tgt : Int)) (kk : WP cls l G cy ad y b n r d tgt ls st M Q) : WP cls l G cy ad y b n r d pc ls (vI x :: st) M Q := fun p e s m args below meth c A X lsA H locs hl hP hS => lv_tableOut X.1 X.2.1 hd (hx ▸ h) ht (kk p e s m args below meth c A X lsA H locs hl hP hS)
theorem w_ls {x : Int32} {a dflt off : Int} {ps : Array (Int × Int)} {len tgt : Nat} (hd : decode b pc = .ok (.lookupswitch dflt ps, len)) (hp : (ps.toList.zip (ps.toList.drop 1)).all (fun (a, next) => a.1 < next.1) = true) (hx : x.toInt = a) (ho : Op.lookupswitch.offset ps.toList dflt a = off) (ht : (pc : Int) + off = (tgt : Int)) (kk : WP cls l G cy ad y b n r d tgt ls st M Q) : WP cls l G cy ad y b n r d pc ls (vI x :: st) M Q := fun p e s m args below meth c A X lsA H locs hl hP hS => lv_lookup X.1 X.2.1 hd hp (hx ▸ ho) ht (kk p e s m args below meth c A X lsA H locs hl hP hS)
theorem w_get {own : String} {idx ci k role b' w : Nat} {ty : FieldType} {fin : Bool} {fs : List fR} {f : fR} {v : mV} (hF : FLK y.cls idx ci k ty fin) (hO : OB role = some (ci, fs)) (hf : fs[k]? = some f) (hc : (role, b', w) ∈ cls) (hd : decode b pc = .ok (.getfield idx, 3)) (hv : f b' w (M.1 (role, b', w) k) = v) (kk : WP cls l G cy ad y b n r d (pc + 3) ls (v :: st) M Q) : WP cls l G cy ad y b n r d pc ls (vR (role, b', w) :: st) M Q := by
  intro p e s m args below meth c A X lsA H locs hl hP hS
  obtain ⟨hx, hb, hr, hml, hts, hown, hlk, hE, hT, hA⟩ := X
  obtain ⟨C, T, N, ty0, h1, h2, h3, h4, h5, h6, h7, h8⟩ := hF
  obtain ⟨q0, -, hq⟩ := WS_mem (cy := cy) (ad := ad) (M := M) hc
  have he : (WS cls cy ad M)[q0]? = some (ad (role, b', w), .inr (ci, fvs ad M (role, b', w) fs 0)) := by
    rw [hq]; unfold ent; dsimp only; rw [hO]
  have hg : (fvs ad M (role, b', w) fs 0)[k]? = some (gv ad v) := by
    rw [fvs_get, hf, ← hv, Nat.zero_add]; rfl
  have kk := kk p e s m args below meth c A ⟨hx, hb, hr, hml, hts, hown, hlk, hE, hT, hA⟩ lsA H locs hl hP hS
  rcases h8 with h8 | ⟨host, h8⟩
  · exact va_get hx hb hts h2 hown hE.1 hP.1 q0 he h1 k h5 (hts _ h8) (fun _ h9 => h9) hg hd kk
  · exact va_getN hx hb hts h2 hown hE.1 hP.1 q0 he h1 k h5 (va_Nw.use rfl (hE.2.1 _ h8)) (fun _ h9 => h9) hg hd kk
theorem w_put {idx ci k role b' w : Nat} {ty : FieldType} {fs : List fR} {f : fR} {v : mV} {x : Int32} (hnd : cls.Nodup) (hF : FLK y.cls idx ci k ty false) (hO : OB role = some (ci, fs)) (hf : fs[k]? = some f) (hc : (role, b', w) ∈ cls) (hd : decode b pc = .ok (.putfield idx, 3)) (hv : f b' w x = v) (hn : narrow ty (gv ad v) = gv ad v) (hfit : fits ty (gv ad v) = true) (kk : ∀ M', M' = up M (role, b', w) k x → WP cls l G cy ad y b n r d (pc + 3) ls st M' Q) : WP cls l G cy ad y b n r d pc ls (v :: vR (role, b', w) :: st) M Q := by
  intro p e s m args below meth c A X lsA H locs hl hP hS
  obtain ⟨hx, hb, hr, hml, hts, hown, hlk, hE, hT, hA⟩ := X
  obtain ⟨C, T, N, ty0, h1, h2, h3, h4, h5, h6, h7, h8⟩ := hF
  obtain ⟨q0, hq0, hq⟩ := WS_mem (cy := cy) (ad := ad) (M := M) hc
  have he : (WS cls cy ad M)[q0]? = some (ad (role, b', w), .inr (ci, fvs ad M (role, b', w) fs 0)) := by
    rw [hq]; unfold ent; dsimp only; rw [hO]
  have hl2 : k < (fvs ad M (role, b', w) fs 0).length := by
    have h := fvs_get ad M (role, b', w) fs 0 k
    rw [hf] at h
    exact (List.getElem?_eq_some_iff.mp h).1
  have hset : (WS cls cy ad M).set q0 (ad (role, b', w), .inr (ci, (fvs ad M (role, b', w) fs 0).set k (gv ad v))) = WS cls cy ad (up M (role, b', w) k x) := by
    have h := WS_set hnd (cy := cy) (ad := ad) (M := M) (M' := up M (role, b', w) k x) hq0 (fun c' _ hne => ent_cong (up_other k x hne) rfl)
    rw [← h]
    congr 2
    unfold ent
    dsimp only
    rw [hO, ← hv]
    exact congrArg (fun q => Sum.inr (ci, q)) (fvs_set (c := (role, b', w)) hf x)
  have K : ∀ (H1 : Heap) (locs1 : List Loc), va_P G classes ((WS cls cy ad M).set q0 (ad (role, b', w), .inr (ci, (fvs ad M (role, b', w) fs 0).set k (gv ad v)))) H1 → va_D A ((WS cls cy ad M).set q0 (ad (role, b', w), .inr (ci, (fvs ad M (role, b', w) fs 0).set k (gv ad v)))) → va_S A s.heap H1 locs1 → W p l e (rmd d) s m args below meth c H1 locs1 0 0 (MQ below (QC cls G cy ad r A Q) args s 0 0 A) (F0 m (pc + 3) lsA (st.map (gv ad))) := by
    intro H1 locs1 g1 g2 g3
    rw [hset] at g1 g2
    exact kk _ rfl p e s m args below meth c A ⟨hx, hb, hr, hml, hts, hown, hlk, hE, hT, hA⟩ lsA H1 locs1 hl ⟨g1, g2⟩ g3
  rcases h8 with h8 | ⟨host, h8⟩
  · exact va_put hx hb hts h2 ty0 h3 h4 hown hE.1 hP.1 hP.2 hS q0 he h1 k h5 (hts _ h8) (fun _ h9 => h9) h7 (h6 ▸ h3 k h5) hn hfit hl2 hd K
  · exact va_putN hx hb hts h2 ty0 h3 h4 hown hE.1 hP.1 hP.2 hS q0 he h1 k h5 (va_Nw.use rfl (hE.2.1 _ h8)) (fun _ h9 => h9) h7 (h6 ▸ h3 k h5) hn hfit hl2 hd K
theorem ent_arr {role b' w : Nat} {nf : Nat → Nat} {k : Nat} (hO : OB role = none) (hA : AR role = some (k, nf)) : ent cy ad M (role, b', w) = arE cy k (nf w) (M.1 (role, b', w)) M.2 := by
  unfold ent
  dsimp only
  rw [hO, hA]
theorem w_alen {role b' w : Nat} {nf : Nat → Nat} {k : Nat} (hk : k < 3) (hO : OB role = none) (hR : AR role = some (k, nf)) (hc : (role, b', w) ∈ cls) (hd : decode b pc = .ok (.arraylength, 1)) {v : Int32} (hv : Int32.ofNat (nf w) = v) (kk : WP cls l G cy ad y b n r d (pc + 1) ls (vI v :: st) M Q) : WP cls l G cy ad y b n r d pc ls (vR (role, b', w) :: st) M Q := by
  intro p e s m args below meth c A X lsA H locs hl hP hS
  obtain ⟨q0, -, hq⟩ := WS_mem (cy := cy) (ad := ad) (M := M) hc
  rw [ent_arr hO hR] at hq
  have kk := kk p e s m args below meth c A X lsA H locs hl hP hS
  obtain ⟨hx, hb, hr, hml, hts, hown, hlk, hE, hT, hA⟩ := X
  rcases k with _ | _ | _ | k
  · exact va_alen hx hb hE.1 hP.1 q0 0 hq (ty := .int) rfl hv hd kk
  · exact va_alen hx hb hE.1 hP.1 q0 1 hq (ty := .boolean) rfl hv hd kk
  · exact va_alen hx hb hE.1 hP.1 q0 2 hq (ty := .long) rfl hv hd kk
  · omega
theorem w_iald {role b' w : Nat} {nf : Nat → Nat} {x : Int32} {a : Int} (hO : OB role = none) (hR : AR role = some (0, nf)) (hc : (role, b', w) ∈ cls) (hx : x.toInt = a) (h : 0 ≤ a ∧ a < (nf w : Nat)) (hd : decode b pc = .ok (.iaload, 1)) (kk : ∀ j : Nat, (j : Int) = a → ∀ z : Int32, z = M.1 (role, b', w) j → WP cls l G cy ad y b n r d (pc + 1) ls (vI z :: st) M Q) : WP cls l G cy ad y b n r d pc ls (vI x :: vR (role, b', w) :: st) M Q := by
  intro p e s m args below meth c A X lsA H locs hl hP hS
  obtain ⟨q0, -, hq⟩ := WS_mem (cy := cy) (ad := ad) (M := M) hc
  rw [ent_arr hO hR] at hq
  exact va_iald X.1 X.2.1 X.2.2.2.2.2.2.2.1.1 hP.1 q0 0 hq rfl (vinI hx h) hd (kk _ (clI hx h.1) _ rfl p e s m args below meth c A X lsA H locs hl hP hS)
theorem w_zald {role b' w : Nat} {nf : Nat → Nat} {x : Int32} {a : Int} (hO : OB role = none) (hR : AR role = some (1, nf)) (hc : (role, b', w) ∈ cls) (hx : x.toInt = a) (h : 0 ≤ a ∧ a < (nf w : Nat)) (hd : decode b pc = .ok (.baload, 1)) (kk : ∀ j : Nat, (j : Int) = a → ∀ z : Int32, z = M.1 (role, b', w) j → WP cls l G cy ad y b n r d (pc + 1) ls (vI z :: st) M Q) : WP cls l G cy ad y b n r d pc ls (vI x :: vR (role, b', w) :: st) M Q := by
  intro p e s m args below meth c A X lsA H locs hl hP hS
  obtain ⟨q0, -, hq⟩ := WS_mem (cy := cy) (ad := ad) (M := M) hc
  rw [ent_arr hO hR] at hq
  exact va_zald X.1 X.2.1 X.2.2.2.2.2.2.2.1.1 hP.1 q0 1 hq rfl (vinI hx h) hd (kk _ (clI hx h.1) _ rfl p e s m args below meth c A X lsA H locs hl hP hS)
theorem w_lald {role b' w : Nat} {nf : Nat → Nat} {x : Int32} {a : Int} (hO : OB role = none) (hR : AR role = some (2, nf)) (hc : (role, b', w) ∈ cls) (hx : x.toInt = a) (h : 0 ≤ a ∧ a < (nf w : Nat)) (hd : decode b pc = .ok (.laload, 1)) (kk : ∀ j : Nat, (j : Int) = a → ∀ z : Int64, z = M.2 j → WP cls l G cy ad y b n r d (pc + 1) ls (vL z :: st) M Q) : WP cls l G cy ad y b n r d pc ls (vI x :: vR (role, b', w) :: st) M Q := by
  intro p e s m args below meth c A X lsA H locs hl hP hS
  obtain ⟨q0, -, hq⟩ := WS_mem (cy := cy) (ad := ad) (M := M) hc
  rw [ent_arr hO hR] at hq
  exact va_lald X.1 X.2.1 X.2.2.2.2.2.2.2.1.1 hP.1 q0 2 hq rfl (vinI hx h) hd (kk _ (clI hx h.1) _ rfl p e s m args below meth c A X lsA H locs hl hP hS)
theorem w_iast {role b' w : Nat} {nf : Nat → Nat} {x v : Int32} {a : Int} (hnd : cls.Nodup) (hO : OB role = none) (hR : AR role = some (0, nf)) (hc : (role, b', w) ∈ cls) (hx : x.toInt = a) (h : 0 ≤ a ∧ a < (nf w : Nat)) (hd : decode b pc = .ok (.iastore, 1)) (kk : ∀ j : Nat, (j : Int) = a → ∀ M', M' = up M (role, b', w) j v → WP cls l G cy ad y b n r d (pc + 1) ls st M' Q) : WP cls l G cy ad y b n r d pc ls (vI v :: vI x :: vR (role, b', w) :: st) M Q := by
  intro p e s m args below meth c A X lsA H locs hl hP hS
  obtain ⟨q0, hq0, hq⟩ := WS_mem (cy := cy) (ad := ad) (M := M) hc
  rw [ent_arr hO hR] at hq
  refine va_iast X.1 X.2.1 X.2.2.2.2.2.2.2.1.1 hP.1 hP.2 hS q0 0 hq rfl (vinI hx h) hd (fun H1 locs1 g1 g2 g3 => ?_)
  have hset := WS_set hnd (cy := cy) (ad := ad) (M := M) (M' := up M (role, b', w) x.toNatClampNeg v) hq0 (fun c' _ hne => ent_cong (up_other _ v hne) rfl)
  rw [ent_arr hO hR] at hset
  rw [up_row] at hset
  have k1 := congrArg (fun q => va_P G classes q H1) hset
  have k2 := congrArg (fun q => va_D A q) hset
  replace g1 := k1.mp g1
  replace g2 := k2.mp g2
  exact kk _ (clI hx h.1) _ rfl p e s m args below meth c A X lsA H1 locs1 hl ⟨g1, g2⟩ g3
theorem w_zast {role b' w : Nat} {nf : Nat → Nat} {x v : Int32} {a : Int} (hnd : cls.Nodup) (hO : OB role = none) (hR : AR role = some (1, nf)) (hc : (role, b', w) ∈ cls) (hx : x.toInt = a) (h : 0 ≤ a ∧ a < (nf w : Nat)) (hd : decode b pc = .ok (.bastore, 1)) (kk : ∀ j : Nat, (j : Int) = a → ∀ M', M' = up M (role, b', w) j (vp_nar .boolean v) → WP cls l G cy ad y b n r d (pc + 1) ls st M' Q) : WP cls l G cy ad y b n r d pc ls (vI v :: vI x :: vR (role, b', w) :: st) M Q := by
  intro p e s m args below meth c A X lsA H locs hl hP hS
  obtain ⟨q0, hq0, hq⟩ := WS_mem (cy := cy) (ad := ad) (M := M) hc
  rw [ent_arr hO hR] at hq
  refine va_zast X.1 X.2.1 X.2.2.2.2.2.2.2.1.1 hP.1 hP.2 hS q0 1 hq rfl (vinI hx h) hd (fun H1 locs1 g1 g2 g3 => ?_)
  have hset := WS_set hnd (cy := cy) (ad := ad) (M := M) (M' := up M (role, b', w) x.toNatClampNeg (vp_nar .boolean v)) hq0 (fun c' _ hne => ent_cong (up_other _ _ hne) rfl)
  rw [ent_arr hO hR] at hset
  rw [up_row] at hset
  have k1 := congrArg (fun q => va_P G classes q H1) hset
  have k2 := congrArg (fun q => va_D A q) hset
  replace g1 := k1.mp g1
  replace g2 := k2.mp g2
  exact kk _ (clI hx h.1) _ rfl p e s m args below meth c A X lsA H1 locs1 hl ⟨g1, g2⟩ g3
theorem w_last {x : Int32} {v : Int64} {a : Int} (hnd : cls.Nodup) (h22 : ∀ c ∈ cls, c.1 = 22 → c = (22, 0, 0)) (hc : ((22, 0, 0) : rf) ∈ cls) (hx : x.toInt = a) (h : 0 ≤ a ∧ a < (24 : Nat)) (hd : decode b pc = .ok (.lastore, 1)) (kk : ∀ j : Nat, (j : Int) = a → ∀ M', M' = upL M j v → WP cls l G cy ad y b n r d (pc + 1) ls st M' Q) : WP cls l G cy ad y b n r d pc ls (vL v :: vI x :: vR (22, 0, 0) :: st) M Q := by
  intro p e s m args below meth c A X lsA H locs hl hP hS
  obtain ⟨q0, hq0, hq⟩ := WS_mem (cy := cy) (ad := ad) (M := M) hc
  rw [ent_arr (nf := fun _ => 24) (k := 2) rfl rfl] at hq
  refine va_last X.1 X.2.1 X.2.2.2.2.2.2.2.1.1 hP.1 hP.2 hS q0 2 hq rfl (vinI hx h) hd (fun H1 locs1 g1 g2 g3 => ?_)
  have hset := WS_set hnd (cy := cy) (ad := ad) (M := M) (M' := upL M x.toNatClampNeg v) hq0 (fun c' hm hne => ent_long (fun q => hne (h22 c' hm q)) rfl)
  rw [ent_arr (nf := fun _ => 24) (k := 2) rfl rfl] at hset
  have k1 := congrArg (fun q => va_P G classes q H1) hset
  have k2 := congrArg (fun q => va_D A q) hset
  replace g1 := k1.mp g1
  replace g2 := k2.mp g2
  exact kk _ (clI hx h.1) _ rfl p e s m args below meth c A X lsA H1 locs1 hl ⟨g1, g2⟩ g3
theorem w_aald {role b' w t : Nat} {nn : Nat} {C : String} {g : Nat → Nat → rf} {x : Int32} {a : Int} (hO : OB role = none) (hR : AR role = none) (hQ : RA role = some (t, nn, g)) (ht : ∀ cy : Nat → ClassId, (TYS cy)[t]? = some (cy t, .object C)) (hc : (role, b', w) ∈ cls) (hx : x.toInt = a) (h : 0 ≤ a ∧ a < (nn : Nat)) (hd : decode b pc = .ok (.aaload, 1)) (kk : ∀ j : Nat, (j : Int) = a → j < nn → WP cls l G cy ad y b n r d (pc + 1) ls (vR (g b' j) :: st) M Q) : WP cls l G cy ad y b n r d pc ls (vI x :: vR (role, b', w) :: st) M Q := by
  intro p e s m args below meth c A X lsA H locs hl hP hS
  obtain ⟨q0, -, hq⟩ := WS_mem (cy := cy) (ad := ad) (M := M) hc
  have he : ent cy ad M (role, b', w) = .inl (cy t, nn, .inr (.inr (.inr (.inr (fun j => some (ad (g b' j))))))) := by
    unfold ent; dsimp only; rw [hO, hR, hQ]
  rw [he] at hq
  have hj := clI hx h.1
  exact va_aldq X.1 X.2.1 X.2.2.2.2.2.2.2.1.1 hP.1 q0 t hq (ht cy) (vinI hx h) hd (kk _ hj (by omega) p e s m args below meth c A X lsA H locs hl hP hS)
theorem w_copy {r0 b0 w0 r1 b1 w1 : Nat} {n0 n1 : Nat → Nat} {idx : Nat} {sp dp nn : Int32} {x0 x1 x2 : Int} (hnd : cls.Nodup) (hO0 : OB r0 = none) (hR0 : AR r0 = some (0, n0)) (hc0 : (r0, b0, w0) ∈ cls) (hO1 : OB r1 = none) (hR1 : AR r1 = some (0, n1)) (hc1 : (r1, b1, w1) ∈ cls) (hl1 : Cond.methodLink y.cls idx arraycopyName ∈ BASE) (hnat : Cond.native arraycopyName ∈ BASE) (hstat : Cond.static arraycopyName ∈ BASE) (hini : Cond.initialized "java/lang/System" ∈ BASE) (hsp : sp.toInt = x0) (hdp : dp.toInt = x1) (hnn : nn.toInt = x2) (h : 0 ≤ x0 ∧ 0 ≤ x1 ∧ 0 ≤ x2 ∧ x0 + x2 ≤ (n0 w0 : Nat) ∧ x1 + x2 ≤ (n1 w1 : Nat)) (hst : st = []) (hd1 : 1 ≤ d) (hd : decode b pc = .ok (.invokestatic idx, 3)) (kk : ∀ M', M' = cp M (r0, b0, w0) (r1, b1, w1) sp.toNatClampNeg dp.toNatClampNeg nn.toNatClampNeg → WP cls l G cy ad y b n r d (pc + 3) ls st M' Q) : WP cls l G cy ad y b n r d pc ls (vI nn :: vI dp :: vR (r1, b1, w1) :: vI sp :: vR (r0, b0, w0) :: st) M Q := by
  intro p e s m args below meth c A X lsA H locs hl hP hS
  subst hst
  obtain ⟨q0, -, hq⟩ := WS_mem (cy := cy) (ad := ad) (M := M) hc0
  obtain ⟨q1, hq1, hq2⟩ := WS_mem (cy := cy) (ad := ad) (M := M) hc1
  rw [ent_arr hO0 hR0] at hq
  rw [ent_arr hO1 hR1] at hq2
  have hX := X
  obtain ⟨hx, hb, hr, hml, hts, hown, hlk, hE, hT, hA⟩ := X
  have e0 := clI hsp h.1
  have e1 := clI hdp h.2.1
  have e2 := clI hnn h.2.2.1
  have z0 : (0 : Int32).toInt = 0 := rfl
  refine va_copyi (ty := .int) hx hb (hml.trans hl.1.symm) hown (hts _ hl1) (hts _ hnat) (hts _ hstat) (hts _ hini) hE.1 hP.1 hP.2 hS q0 q1 0 0 hq hq2 rfl rfl rfl (fun q => by have := cvLt hsp z0 q; omega) (fun q => by have := cvLt hdp z0 q; omega) (fun q => by have := cvLt hnn z0 q; omega) (by omega) (by omega) (fun _ _ => rfl) (by show 1 ≤ d; exact hd1) (by show _ ≤ 100 * d; exact Nat.le_trans (Nat.le_of_ble_eq_true rfl) (Nat.mul_le_mul_left 100 hd1)) hd (fun H1 locs1 g1 g2 g3 => ?_)
  have hset := WS_set hnd (cy := cy) (ad := ad) (M := M) (M' := cp M (r0, b0, w0) (r1, b1, w1) sp.toNatClampNeg dp.toNatClampNeg nn.toNatClampNeg) hq1 (fun c' _ hne => ent_cong (cp_other _ _ _ hne) rfl)
  rw [ent_arr hO1 hR1] at hset
  rw [cp_row] at hset
  have k1 := congrArg (fun q => va_P G classes q H1) hset
  have k2 := congrArg (fun q => va_D A q) hset
  replace g1 := k1.mp g1
  replace g2 := k2.mp g2
  exact kk _ rfl p e s m args below meth c A hX lsA H1 locs1 hl ⟨g1, g2⟩ g3
theorem w_gets {k idx : Nat} {q : String × String × List Int32} (hk : STs[k]? = some q) (hw : Cond.fieldLink y.cls idx q.1 q.2.1 "[I" ∈ BASE) (hd : decode b pc = .ok (.getstatic idx, 3)) (kk : WP cls l G cy ad y b n r d (pc + 3) ls (vR (90, k, 0) :: st) M Q) : WP cls l G cy ad y b n r d pc ls st M Q := by
  intro p e s m args below meth c A X lsA H locs hl hP hS
  have kk := kk p e s m args below meth c A X lsA H locs hl hP hS
  obtain ⟨hx, hb, hr, hml, hts, hown, hlk, hE, hT, hA⟩ := X
  exact va_gets hx hb (hT.1 k _ hk).1 hS hown (hts _ hw) (fun _ h9 => h9) hd kk
theorem w_iaT {k : Nat} {q : String × String × List Int32} {x : Int32} {a : Int} (hk : STs[k]? = some q) (hx : x.toInt = a) (h : 0 ≤ a ∧ a < (q.2.2.length : Nat)) (hd : decode b pc = .ok (.iaload, 1)) (kk : ∀ j : Nat, (j : Int) = a → ∀ z : Int32, z = q.2.2.getD j 0 → WP cls l G cy ad y b n r d (pc + 1) ls (vI z :: st) M Q) : WP cls l G cy ad y b n r d pc ls (vI x :: vR (90, k, 0) :: st) M Q := by
  intro p e s m args below meth c A X lsA H locs hl hP hS
  have kk := kk _ (clI hx h.1) _ rfl p e s m args below meth c A X lsA H locs hl hP hS
  obtain ⟨hx1, hb, hr, hml, hts, hown, hlk, hE, hT, hA⟩ := X
  exact va_ti hx1 hb (hT.1 k _ hk).2 hS (vinI hx h) rfl hd kk
theorem w_max {x w : Int32} {a c : Int} {idx : Nat} (hl1 : Cond.methodLink y.cls idx Lib.Math.max.name ∈ BASE) (h2 : Cond.static Lib.Math.max.name ∈ BASE) (h3 : Cond.initialized "java/lang/Math" ∈ BASE) (h4 : Cond.code Lib.Math.max.name Lib.Math.max.code 2 (some .int) ∈ BASE) (hx : x.toInt = a) (hy : w.toInt = c) (hs : st.length ≤ 4) (hd1 : 1 ≤ d) (hd : decode b pc = .ok (.invokestatic idx, 3)) (kk : ∀ z : Int32, ((z.toInt = a ∧ c ≤ a) ∨ (z.toInt = c ∧ a ≤ c)) → WP cls l G cy ad y b n r d (pc + 3) ls (vI z :: st) M Q) : WP cls l G cy ad y b n r d pc ls (vI w :: vI x :: st) M Q := by
  intro p e s m args below meth c' A X lsA H locs hl hP hS
  have hX := X
  obtain ⟨hx1, hb, hr, hml, hts, hown, hlk, hE, hT, hA⟩ := X
  have hc := catsum ad st
  refine va_mmax hx1 hb (hml.trans hl.1.symm) hown (hts _ hl1) (hts _ h2) (hts _ h3) (hts _ h4) (by show _ ≤ d; omega) (by show _ ≤ 100 * d; omega) (by omega) (by omega) hd (kk _ ?_ p e s m args below meth c' A hX lsA H locs hl hP hS)
  split
  · rename_i hq; exact Or.inr ⟨hy, Int.le_of_lt (cvLt hx hy hq)⟩
  · rename_i hq; exact Or.inl ⟨hx, cvnLt hx hy hq⟩
theorem w_min {x w : Int32} {a c : Int} {idx : Nat} (hl1 : Cond.methodLink y.cls idx Lib.Math.min.name ∈ BASE) (h2 : Cond.static Lib.Math.min.name ∈ BASE) (h3 : Cond.initialized "java/lang/Math" ∈ BASE) (h4 : Cond.code Lib.Math.min.name Lib.Math.min.code 2 (some .int) ∈ BASE) (hx : x.toInt = a) (hy : w.toInt = c) (hs : st.length ≤ 4) (hd1 : 1 ≤ d) (hd : decode b pc = .ok (.invokestatic idx, 3)) (kk : ∀ z : Int32, ((z.toInt = a ∧ a ≤ c) ∨ (z.toInt = c ∧ c ≤ a)) → WP cls l G cy ad y b n r d (pc + 3) ls (vI z :: st) M Q) : WP cls l G cy ad y b n r d pc ls (vI w :: vI x :: st) M Q := by
  intro p e s m args below meth c' A X lsA H locs hl hP hS
  have hX := X
  obtain ⟨hx1, hb, hr, hml, hts, hown, hlk, hE, hT, hA⟩ := X
  have hc := catsum ad st
  refine va_mmin hx1 hb (hml.trans hl.1.symm) hown (hts _ hl1) (hts _ h2) (hts _ h3) (hts _ h4) (by show _ ≤ d; omega) (by show _ ≤ 100 * d; omega) (by omega) (by omega) hd (kk _ ?_ p e s m args below meth c' A hX lsA H locs hl hP hS)
  split
  · rename_i hq; exact Or.inr ⟨hy, Int.le_of_lt (cvLt hy hx hq)⟩
  · rename_i hq; exact Or.inl ⟨hx, cvnLt hy hx hq⟩
theorem w_iret {v : Int32} (hr : r = some .int) (hd : decode b pc = .ok (.ireturn, 1)) (hQ : Q v M) : WP cls l G cy ad y b n r d pc ls [vI v] M Q := by
  intro p e s m args below meth c A X lsA H locs hl hP hS
  obtain ⟨hx1, hb, hr1, hml, hts, hown, hlk, hE, hT, hA⟩ := X
  subst hr
  exact W.iret (v := v) hx1 hb hr1 (fun t ht hW => ⟨⟨v, M, rfl, hQ, by show WO cls G cy ad A M t.heap; rw [ht]; exact hP⟩, hS.F ht⟩) hS.2.2 hd
theorem w_zret {v : Int32} (hr : r = some .boolean) (hd : decode b pc = .ok (.ireturn, 1)) (hz : 0 ≤ v.toInt ∧ v.toInt ≤ 1) (hQ : Q v M) : WP cls l G cy ad y b n r d pc ls [vI v] M Q := by
  intro p e s m args below meth c A X lsA H locs hl hP hS
  obtain ⟨hx1, hb, hr1, hml, hts, hown, hlk, hE, hT, hA⟩ := X
  subst hr
  exact W.zret (v := v) hx1 hb hr1 (nzB hz).1 (fun t ht hW => ⟨⟨v, M, rfl, hQ, by show WO cls G cy ad A M t.heap; rw [ht]; exact hP⟩, hS.F ht⟩) hS.2.2 hd
theorem w_vret (hr : r = none) (hd : decode b pc = .ok (.return_, 1)) (hQ : Q 0 M) : WP cls l G cy ad y b n r d pc ls [] M Q := by
  intro p e s m args below meth c A X lsA H locs hl hP hS
  obtain ⟨hx1, hb, hr1, hml, hts, hown, hlk, hE, hT, hA⟩ := X
  subst hr
  exact W.vret hx1 hb hr1 (fun t ht hW => ⟨⟨M, rfl, hQ, by show WO cls G cy ad A M t.heap; rw [ht]; exact hP⟩, hS.F ht⟩) hS.2.2 hd
end WPROWS
end
section
/-! contracts and calls -/
def las : Nat → List mV → List (Nat × mV)
  | _, [] => []
  | i, v :: t => (i, v) :: las (bif vc2 v then i + 2 else i + 1) t
theorem las_gl (ad : rf → Nat) : ∀ (as : List mV) (i : Nat), gl ad (las i as) = lv_args i (as.map (gv ad))
  | [], _ => rfl
  | v :: t, i => by
    have hc : (if (gv ad v).category = 2 then i + 2 else i + 1) = (bif vc2 v then i + 2 else i + 1) := by rcases v with x | x | x <;> rfl
    have h := las_gl ad t (bif vc2 v then i + 2 else i + 1)
    show (i, gv ad v) :: gl ad (las _ t) = (i, gv ad v) :: lv_args (if (gv ad v).category = 2 then i + 2 else i + 1) (t.map (gv ad))
    rw [hc, h]
abbrev PW (cls : List rf) (G : va_G) (cy : Nat → ClassId) (ad : rf → Nat) (sz : Nat) (M : mM) : State → Prop := PG G cy (skA ad) (saA ad) sz (WS cls cy ad M)
theorem toMet {cls : List rf} {l : Launch} {G : va_G} {cy : Nat → ClassId} {ad : rf → Nat} {y : MethodName} {b : ByteArray} {n : Nat} {r : Option FieldType} {d : Nat} {as : List mV} {M : mM} {Q : Int32 → mM → Prop} (h : WP cls l G cy ad y b n r d 0 (las 0 as) [] M Q) (hy : plainName y.cls = true) (hn : (lg_sl (as.map (gv ad))).length ≤ n) (sz : Nat) :
    Met l y (wsO y b n r) (rmd d) (va_Pc (as.map (gv ad)) (PW cls G cy ad sz M)) (QC cls G cy ad r (va_A (WS cls cy ad M) sz) Q) 0 0 (va_A (WS cls cy ad M) sz) := by
  refine Met.ofW (cc := b) (maxL := n) (ret := r) (ws' := BASE) hy rfl ?_
  intro p e s m args below meth c s₁ B hml hv
  obtain ⟨rfl, ⟨hsz, hP, hE, hD⟩, hT⟩ := hv
  have hts := atoms_spec (ws := wsO y b n r) B.pre
  rw [lg_entry_eq]
  subst hsz
  exact h p e s m (as.map (gv ad)).toArray below meth c (va_A (WS cls cy ad M) s.heap.size) ⟨B.exec, B.bytes, B.returns, hml, fun w hw => hts w (List.mem_cons_of_mem _ hw), findClass_of_methodNamed B.named, B.notSynchronized, hE, hT.up, fun q h => Or.inr h⟩ _ s.heap [] (by rw [las_gl]; exact lv_entry _ hn) ⟨hP, hD.self⟩ va_S.rf
section WPCALLS
variable {cls : List rf} {l : Launch} {G : va_G} {cy : Nat → ClassId} {ad : rf → Nat} {y : MethodName} {b : ByteArray} {n : Nat} {r : Option FieldType} {d : Nat} {pc : Nat} {ls : List (Nat × mV)} {st : List mV} {M : mM} {Q : Int32 → mM → Prop}
variable {y' : MethodName} {b' : ByteArray} {n' : Nat} {Q' : Int32 → mM → Prop} {as rest : List mV} {idx k : Nat}
theorem WO_free {A : Nat → Prop} {s : State} {H : Heap} {locs : List Loc} (hP : WO cls G cy ad A M H) (hS : va_S A s.heap H locs) (hA : ∀ q : Nat, s.heap.size ≤ q → A q) : ∀ q, va_A (WS cls cy ad M) H.size q → A q := fun q h => h.elim (fun ⟨k, e, h⟩ => hP.2.2 k _ h) (fun h => hA q (Nat.le_trans hS.1 h))
theorem WO_up {A B : Nat → Prop} {H : Heap} (h : WO cls G cy ad B M H) (hF : ∀ q, B q → A q) : WO cls G cy ad A M H := ⟨h.1, h.2.weaken (fun _ q _ hb => hF q.1 hb)⟩
theorem args_st {ad : rf → Nat} (as rest : List mV) (v : List mV) : (as.reverse ++ (v ++ rest)).map (gv ad) = (as.map (gv ad)).reverse ++ (v.map (gv ad) ++ rest.map (gv ad)) := by
  rw [List.map_append, List.map_reverse, List.map_append]
/-- a method of an object is called: int -/
theorem w_callV {ty : FieldType} {role b1 w1 ci : Nat} {fs : List fR} {q : vw_C} (hc : WP cls l G cy ad y' b' n' (some ty) d 0 (las 0 (vR (role, b1, w1) :: as)) [] M Q') (hy : KV y' b' n' (some ty) k) (hp : plainName y'.cls = true) (hn : (lg_sl ((vR (role, b1, w1) :: as).map (gv ad))).length ≤ n') (hl : Cond.methodLink y.cls idx y' ∈ BASE) (hO : OB role = some (ci, fs)) (hcl : classes[ci]? = some q) (hq : q.1 = y'.cls) (hm : (role, b1, w1) ∈ cls) (hk : as.length = k) (hst : st = as.reverse ++ ([vR (role, b1, w1)] ++ rest)) (hb8 : n' ≤ 80) (hr4 : rest.length ≤ 4) (hd : decode b pc = .ok (.invokevirtual idx, 3))
    (kk : ∀ (v : Int32) (M' : mM), Q' v M' → WP cls l G cy ad y b n r (d + 1) (pc + 3) ls (vI v :: rest) M' Q) : WP cls l G cy ad y b n r (d + 1) pc ls st M Q := by
  intro p e s m args below meth c A X lsA H locs hl2 hP hS
  have hX := X
  obtain ⟨hx, hb, hr, hml, hts, hown, hlk, hE, hT, hA⟩ := X
  subst hst
  rw [args_st]
  have hM := toMet hc hp hn H.size
  have hF := WO_free hP hS hA
  obtain ⟨q0, -, hq0⟩ := WS_mem (cy := cy) (ad := ad) (M := M) hm
  have he : (WS cls cy ad M)[q0]? = some (ad (role, b1, w1), .inr (ci, fvs ad M (role, b1, w1) fs 0)) := by
    rw [hq0]; unfold ent; dsimp only; rw [hO]
  have hcat := catsum ad rest
  refine va_calli (va_runV (rest := rest.map (gv ad)) ⟨hx, hb, hml, hown, hts⟩ hM (cwV k hts (gV hy hl) rfl rfl rfl ⟨rfl, hy.2.2.2.2⟩ ⟨Nat.le_refl _, by show 8 + (n' + 11) + 100 * d ≤ 100 * (d + 1); omega⟩) ⟨PG_blind, recv0 hE hP.1 q0 he hcl hq, PG_of hS hT hP.1 hP.2 hE⟩ rfl (by rw [List.length_map]; exact hk) hl2.1 rfl (lv_room (by omega)) hd ⟨Nat.le_refl _, Nat.le_refl _⟩) hS (fun q _ h => hF q h) hF (fun v u t H1 locs1 ht hvm hpo hB hz hkp hS1 => ?_)
  subst ht
  exact kk v u hpo p e s m args below meth c A hX lsA _ locs1 hl2 (WO_up hB hF) hS1
/-- .. void -/
theorem w_callVv {role b1 w1 ci : Nat} {fs : List fR} {q : vw_C} (hc : WP cls l G cy ad y' b' n' none d 0 (las 0 (vR (role, b1, w1) :: as)) [] M Q') (hy : KV y' b' n' none k) (hp : plainName y'.cls = true) (hn : (lg_sl ((vR (role, b1, w1) :: as).map (gv ad))).length ≤ n') (hl : Cond.methodLink y.cls idx y' ∈ BASE) (hO : OB role = some (ci, fs)) (hcl : classes[ci]? = some q) (hq : q.1 = y'.cls) (hm : (role, b1, w1) ∈ cls) (hk : as.length = k) (hst : st = as.reverse ++ ([vR (role, b1, w1)] ++ rest)) (hb8 : n' ≤ 80) (hr4 : rest.length ≤ 4) (hd : decode b pc = .ok (.invokevirtual idx, 3))
    (kk : ∀ (M' : mM), Q' 0 M' → WP cls l G cy ad y b n r (d + 1) (pc + 3) ls rest M' Q) : WP cls l G cy ad y b n r (d + 1) pc ls st M Q := by
  intro p e s m args below meth c A X lsA H locs hl2 hP hS
  have hX := X
  obtain ⟨hx, hb, hr, hml, hts, hown, hlk, hE, hT, hA⟩ := X
  subst hst
  rw [args_st]
  have hM := toMet hc hp hn H.size
  have hF := WO_free hP hS hA
  obtain ⟨q0, -, hq0⟩ := WS_mem (cy := cy) (ad := ad) (M := M) hm
  have he : (WS cls cy ad M)[q0]? = some (ad (role, b1, w1), .inr (ci, fvs ad M (role, b1, w1) fs 0)) := by
    rw [hq0]; unfold ent; dsimp only; rw [hO]
  have hcat := catsum ad rest
  refine va_callv (va_runV (rest := rest.map (gv ad)) ⟨hx, hb, hml, hown, hts⟩ hM (cwV k hts (gV hy hl) rfl rfl rfl ⟨rfl, hy.2.2.2.2⟩ ⟨Nat.le_refl _, by show 8 + (n' + 11) + 100 * d ≤ 100 * (d + 1); omega⟩) ⟨PG_blind, recv0 hE hP.1 q0 he hcl hq, PG_of hS hT hP.1 hP.2 hE⟩ rfl (by rw [List.length_map]; exact hk) hl2.1 rfl (lv_room (by omega)) hd ⟨Nat.le_refl _, Nat.le_refl _⟩) hS (fun q _ h => hF q h) hF (fun u t H1 locs1 ht hvm hpo hB hz hkp hS1 => ?_)
  subst ht
  exact kk u hpo p e s m args below meth c A hX lsA _ locs1 hl2 (WO_up hB hF) hS1
/-- a static method is called: int -/
theorem w_callS {ty : FieldType} (hc : WP cls l G cy ad y' b' n' (some ty) d 0 (las 0 as) [] M Q') (hy : KS y' b' n' (some ty) k) (hp : plainName y'.cls = true) (hn : (lg_sl (as.map (gv ad))).length ≤ n') (hl : Cond.methodLink y.cls idx y' ∈ BASE) (hk : as.length = k) (hst : st = as.reverse ++ ([] ++ rest)) (hb8 : n' ≤ 80) (hr4 : rest.length ≤ 4) (hd : decode b pc = .ok (.invokestatic idx, 3))
    (kk : ∀ (v : Int32) (M' : mM), Q' v M' → WP cls l G cy ad y b n r (d + 1) (pc + 3) ls (vI v :: rest) M' Q) : WP cls l G cy ad y b n r (d + 1) pc ls st M Q := by
  intro p e s m args below meth c A X lsA H locs hl2 hP hS
  have hX := X
  obtain ⟨hx, hb, hr, hml, hts, hown, hlk, hE, hT, hA⟩ := X
  subst hst
  rw [args_st]
  have hM := toMet hc hp hn H.size
  have hF := WO_free hP hS hA
  have hcat := catsum ad rest
  refine va_calli (va_runS (rest := rest.map (gv ad)) ⟨hx, hb, hml, hown, hts⟩ hM (va_cwS k hts (gS hy hl) rfl rfl rfl hy.2.2.2 ⟨Nat.le_refl _, by show 8 + (n' + 11) + 100 * d ≤ 100 * (d + 1); omega⟩) ⟨PG_blind, PG_of hS hT hP.1 hP.2 hE⟩ rfl (by rw [List.length_map]; exact hk) hl2.1 rfl (lv_room (by omega)) hd ⟨Nat.le_refl _, Nat.le_refl _⟩) hS (fun q _ h => hF q h) hF (fun v u t H1 locs1 ht hvm hpo hB hz hkp hS1 => ?_)
  subst ht
  exact kk v u hpo p e s m args below meth c A hX lsA _ locs1 hl2 (WO_up hB hF) hS1
/-- .. void -/
theorem w_callSv (hc : WP cls l G cy ad y' b' n' none d 0 (las 0 as) [] M Q') (hy : KS y' b' n' none k) (hp : plainName y'.cls = true) (hn : (lg_sl (as.map (gv ad))).length ≤ n') (hl : Cond.methodLink y.cls idx y' ∈ BASE) (hk : as.length = k) (hst : st = as.reverse ++ ([] ++ rest)) (hb8 : n' ≤ 80) (hr4 : rest.length ≤ 4) (hd : decode b pc = .ok (.invokestatic idx, 3))
    (kk : ∀ (M' : mM), Q' 0 M' → WP cls l G cy ad y b n r (d + 1) (pc + 3) ls rest M' Q) : WP cls l G cy ad y b n r (d + 1) pc ls st M Q := by
  intro p e s m args below meth c A X lsA H locs hl2 hP hS
  have hX := X
  obtain ⟨hx, hb, hr, hml, hts, hown, hlk, hE, hT, hA⟩ := X
  subst hst
  rw [args_st]
  have hM := toMet hc hp hn H.size
  have hF := WO_free hP hS hA
  have hcat := catsum ad rest
  refine va_callv (va_runS (rest := rest.map (gv ad)) ⟨hx, hb, hml, hown, hts⟩ hM (va_cwS k hts (gS hy hl) rfl rfl rfl hy.2.2.2 ⟨Nat.le_refl _, by show 8 + (n' + 11) + 100 * d ≤ 100 * (d + 1); omega⟩) ⟨PG_blind, PG_of hS hT hP.1 hP.2 hE⟩ rfl (by rw [List.length_map]; exact hk) hl2.1 rfl (lv_room (by omega)) hd ⟨Nat.le_refl _, Nat.le_refl _⟩) hS (fun q _ h => hF q h) hF (fun u t H1 locs1 ht hvm hpo hB hz hkp hS1 => ?_)
  subst ht
  exact kk u hpo p e s m args below meth c A hX lsA _ locs1 hl2 (WO_up hB hF) hS1
/-- a nest mate's private static method is called: int -/
theorem w_callSN {ty : FieldType} {host : String} (hc : WP cls l G cy ad y' b' n' (some ty) d 0 (las 0 as) [] M Q') (hy : KS y' b' n' (some ty) k) (hp : plainName y'.cls = true) (hn : (lg_sl (as.map (gv ad))).length ≤ n') (hl : (y.cls, idx, y', host) ∈ NMs) (hk : as.length = k) (hst : st = as.reverse ++ ([] ++ rest)) (hb8 : n' ≤ 80) (hr4 : rest.length ≤ 4) (hd : decode b pc = .ok (.invokestatic idx, 3))
    (kk : ∀ (v : Int32) (M' : mM), Q' v M' → WP cls l G cy ad y b n r (d + 1) (pc + 3) ls (vI v :: rest) M' Q) : WP cls l G cy ad y b n r (d + 1) pc ls st M Q := by
  intro p e s m args below meth c A X lsA H locs hl2 hP hS
  have hX := X
  obtain ⟨hx, hb, hr, hml, hts, hown, hlk, hE, hT, hA⟩ := X
  subst hst
  rw [args_st]
  have hM := toMet hc hp hn H.size
  have hF := WO_free hP hS hA
  have hcat := catsum ad rest
  refine va_calli (va_runSN (rest := rest.map (gv ad)) ⟨hx, hb, hml, hown, hts⟩ hM ⟨va_cnB k hts (b_in (wsO_in hy.2.2.1)) rfl rfl rfl (hE.2.2.1 _ hl) (hts _ hy.2.1) hy.2.2.2 ⟨Nat.le_refl _, by show 8 + (n' + 11) + 100 * d ≤ 100 * (d + 1); omega⟩, hts _ hy.1, trivial⟩ ⟨PG_blind, PG_of hS hT hP.1 hP.2 hE⟩ rfl (by rw [List.length_map]; exact hk) hl2.1 rfl (lv_room (by omega)) hd ⟨Nat.le_refl _, Nat.le_refl _⟩) hS (fun q _ h => hF q h) hF (fun v u t H1 locs1 ht hvm hpo hB hz hkp hS1 => ?_)
  subst ht
  exact kk v u hpo p e s m args below meth c A hX lsA _ locs1 hl2 (WO_up hB hF) hS1
end WPCALLS
end
section
/-! rows with names, frames, the class's invariant -/
section WPROWS2
variable {cls : List rf} {l : Launch} {G : va_G} {cy : Nat → ClassId} {ad : rf → Nat} {y : MethodName} {b : ByteArray} {n : Nat} {r : Option FieldType} {d : Nat} {pc : Nat} {ls : List (Nat × mV)} {st : List mV} {M : mM} {Q : Int32 → mM → Prop}
theorem w_getI {idx ci k role b' w : Nat} {ty : FieldType} {fin : Bool} {fs : List fR} (hF : FLK y.cls idx ci k ty fin) (hO : OB role = some (ci, fs)) (hf : fs[k]? = some oI) (hc : (role, b', w) ∈ cls) (hd : decode b pc = .ok (.getfield idx, 3)) (kk : ∀ z : Int32, z = M.1 (role, b', w) k → WP cls l G cy ad y b n r d (pc + 3) ls (vI z :: st) M Q) : WP cls l G cy ad y b n r d pc ls (vR (role, b', w) :: st) M Q := w_get (own := y.cls) hF hO hf hc hd rfl (kk _ rfl)
theorem w_getR {idx ci k role b' w : Nat} {ty : FieldType} {fin : Bool} {fs : List fR} {f : fR} {c' : rf} (hF : FLK y.cls idx ci k ty fin) (hO : OB role = some (ci, fs)) (hf : fs[k]? = some f) (hc : (role, b', w) ∈ cls) (hd : decode b pc = .ok (.getfield idx, 3)) (hv : f b' w (M.1 (role, b', w) k) = vR c') (kk : WP cls l G cy ad y b n r d (pc + 3) ls (vR c' :: st) M Q) : WP cls l G cy ad y b n r d pc ls (vR (role, b', w) :: st) M Q := w_get (own := y.cls) hF hO hf hc hd hv kk
theorem w_putI {idx ci k role b' w : Nat} {fs : List fR} {x : Int32} (hnd : cls.Nodup) (hF : FLK y.cls idx ci k .int false) (hO : OB role = some (ci, fs)) (hf : fs[k]? = some oI) (hc : (role, b', w) ∈ cls) (hd : decode b pc = .ok (.putfield idx, 3)) (kk : ∀ M', M' = up M (role, b', w) k x → WP cls l G cy ad y b n r d (pc + 3) ls st M' Q) : WP cls l G cy ad y b n r d pc ls (vI x :: vR (role, b', w) :: st) M Q := w_put hnd hF hO hf hc hd rfl rfl rfl kk
theorem w_putZ {idx ci k role b' w : Nat} {fs : List fR} {x : Int32} (hnd : cls.Nodup) (hF : FLK y.cls idx ci k .boolean false) (hO : OB role = some (ci, fs)) (hf : fs[k]? = some oI) (hc : (role, b', w) ∈ cls) (hz : 0 ≤ x.toInt ∧ x.toInt ≤ 1) (hd : decode b pc = .ok (.putfield idx, 3)) (kk : ∀ M', M' = up M (role, b', w) k x → WP cls l G cy ad y b n r d (pc + 3) ls st M' Q) : WP cls l G cy ad y b n r d pc ls (vI x :: vR (role, b', w) :: st) M Q := w_put hnd hF hO hf hc hd rfl (nzB hz).1 (nzB hz).2 kk
theorem w_putD {idx ci k role b' w : Nat} {ty : FieldType} {fs : List fR} {t : List rf} (x : Int32) {c' : rf} (hnd : cls.Nodup) (hF : FLK y.cls idx ci k ty false) (hO : OB role = some (ci, fs)) (hf : fs[k]? = some (oD t)) (hc : (role, b', w) ∈ cls) (hx : oD t b' w x = vR c') (hn : narrow ty (.ref (ad c')) = .ref (ad c')) (hfit : fits ty (.ref (ad c')) = true) (hd : decode b pc = .ok (.putfield idx, 3)) (kk : ∀ M', M' = up M (role, b', w) k x → WP cls l G cy ad y b n r d (pc + 3) ls st M' Q) : WP cls l G cy ad y b n r d pc ls (vR c' :: vR (role, b', w) :: st) M Q := w_put hnd hF hO hf hc hd hx hn hfit kk
theorem w_ialdL {role b' w : Nat} {nf : Nat → Nat} {x : Int32} (j : Nat) (hO : OB role = none) (hR : AR role = some (0, nf)) (hc : (role, b', w) ∈ cls) (hx : x.toInt = (j : Int)) (h : j < nf w) (hd : decode b pc = .ok (.iaload, 1)) (kk : ∀ z : Int32, z = M.1 (role, b', w) j → WP cls l G cy ad y b n r d (pc + 1) ls (vI z :: st) M Q) : WP cls l G cy ad y b n r d pc ls (vI x :: vR (role, b', w) :: st) M Q := w_iald hO hR hc hx ⟨Int.natCast_nonneg j, Int.ofNat_lt.mpr h⟩ hd (fun j' hj z hz => kk z (by rw [hz, Int.ofNat_inj.mp hj]))
theorem w_iastL {role b' w : Nat} {nf : Nat → Nat} {x v : Int32} (j : Nat) (hnd : cls.Nodup) (hO : OB role = none) (hR : AR role = some (0, nf)) (hc : (role, b', w) ∈ cls) (hx : x.toInt = (j : Int)) (h : j < nf w) (hd : decode b pc = .ok (.iastore, 1)) (kk : ∀ M', M' = up M (role, b', w) j v → WP cls l G cy ad y b n r d (pc + 1) ls st M' Q) : WP cls l G cy ad y b n r d pc ls (vI v :: vI x :: vR (role, b', w) :: st) M Q := w_iast hnd hO hR hc hx ⟨Int.natCast_nonneg j, Int.ofNat_lt.mpr h⟩ hd (fun j' hj M' hM => kk M' (by rw [hM, Int.ofNat_inj.mp hj]))
theorem w_aaldL {role b' w t : Nat} {nn : Nat} {C : String} {g : Nat → Nat → rf} {x : Int32} (j : Nat) (hO : OB role = none) (hR : AR role = none) (hQ : RA role = some (t, nn, g)) (ht : ∀ cy : Nat → ClassId, (TYS cy)[t]? = some (cy t, .object C)) (hc : (role, b', w) ∈ cls) (hx : x.toInt = (j : Int)) (h : j < nn) (hd : decode b pc = .ok (.aaload, 1)) (kk : WP cls l G cy ad y b n r d (pc + 1) ls (vR (g b' j) :: st) M Q) : WP cls l G cy ad y b n r d pc ls (vI x :: vR (role, b', w) :: st) M Q := w_aald hO hR hQ ht hc hx ⟨Int.natCast_nonneg j, Int.ofNat_lt.mpr h⟩ hd (fun j' hj _ => Int.ofNat_inj.mp hj ▸ kk)
theorem w_iincX {i j : Nat} {k : Int} {x : Int32} {f : Int32 → List (Nat × mV)} (hd : decode b pc = .ok (.iinc i k, 3)) (hj : ls[j]? = some (i, vI x)) (hn : i < n) (hs : ∀ z, lset ls i (vI z) = f z) (kk : ∀ z : Int32, z = x + Int32.ofInt k → WP cls l G cy ad y b n r d (pc + 3) (f z) st M Q) : WP cls l G cy ad y b n r d pc ls st M Q := w_iincE hd hj rfl hn (hs _) (kk _ rfl)
theorem w_loc {ls' : List (Nat × mV)} (ks : List Nat) (hl : ks.filterMap (fun k => ls[k]?) = ls') (kk : WP cls l G cy ad y b n r d pc ls' st M Q) : WP cls l G cy ad y b n r d pc ls st M Q := by
  intro p e s m args below meth c A X lsA H locs hl2 hP hS
  refine kk p e s m args below meth c A X lsA H locs (lv_sub hl2 ks ?_) hP hS
  subst hl
  unfold lv_pick gl
  rw [List.map_filterMap]
  congr 1
  funext k
  rw [List.getElem?_map]
theorem QC_mono {A : Nat → Prop} {Q' : Int32 → mM → Prop} (hq : ∀ v M', Q' v M' → Q v M') {a : Array Value} {s t : State} {o : Outcome} (h : QC cls G cy ad r A Q' a s o t) : QC cls G cy ad r A Q a s o t := by
  cases r with
  | none =>
    obtain ⟨⟨u, a1, a2, a3⟩, a4⟩ := h
    exact ⟨⟨u, a1, hq _ _ a2, a3⟩, a4⟩
  | some ty =>
    obtain ⟨⟨v, u, a1, a2, a3⟩, a4⟩ := h
    exact ⟨⟨v, u, a1, hq _ _ a2, a3⟩, a4⟩
theorem w_Q {Q' : Int32 → mM → Prop} (h : WP cls l G cy ad y b n r d pc ls st M Q') (hq : ∀ v M', Q' v M' → Q v M') : WP cls l G cy ad y b n r d pc ls st M Q := by
  intro p e s m args below meth c A X lsA H locs hl hP hS T hT hX
  obtain ⟨t, h1, o, g1, g2, g3, g4⟩ := h p e s m args below meth c A X lsA H locs hl hP hS T hT hX
  exact ⟨t, h1, o, g1, g2, QC_mono hq g3, g4⟩
theorem rl_le (w : Nat) : rl w ≤ 48 := by
  unfold rl
  rcases w with _ | _ | _ | _ | _ | _ | _ | w <;> first | decide | exact Nat.zero_le _
theorem w_rl {w : Nat} (kk : ∀ z : Int32, z.toInt = ((rl w : Nat) : Int) ∧ rl w ≤ 48 → WP cls l G cy ad y b n r d pc ls (vI z :: st) M Q) : WP cls l G cy ad y b n r d pc ls (vI (Int32.ofNat (rl w)) :: st) M Q := kk _ ⟨nI_toInt (Nat.lt_of_le_of_lt (rl_le w) (by decide)), rl_le w⟩
end WPROWS2
/-! what a loop reaches -/
def RTC {α : Type} (S : α → α → Prop) (a : α) : Nat → α → Prop
  | 0, z => a = z
  | n + 1, z => ∃ x : α, RTC S a n x ∧ S x z
def RCH {α : Type} (S : α → α → Prop) (a z : α) : Prop := ∃ n : Nat, RTC S a n z
theorem RCH.refl {α : Type} {S : α → α → Prop} {a : α} : RCH S a a := ⟨0, rfl⟩
theorem RCH.tail {α : Type} {S : α → α → Prop} {a x z : α} (h : RCH S a x) (hs : S x z) : RCH S a z := h.elim (fun n hn => ⟨n + 1, x, hn, hs⟩)
theorem RCH.ind {α : Type} {S : α → α → Prop} {a : α} {P : α → Prop} (h0 : P a) (hs : ∀ x z, P x → S x z → P z) : ∀ {z : α}, RCH S a z → P z := fun {z} h => by
  obtain ⟨n, hn⟩ := h
  induction n generalizing z with
  | zero => exact hn ▸ h0
  | succ n ih =>
    obtain ⟨x, h1, h2⟩ := hn
    exact hs x z (ih h1) h2
def iushrX (x w : Int32) : Int32 := (x.toUInt32 >>> (w.toUInt32 &&& Int32.toUInt32 31)).toInt32
theorem ofEq {P : Int32 → Prop} {z x : Int32} (h : z = x) (p : P x) : P z := h ▸ p
def FR (S : rf → Nat → Prop) (M M' : mM) : Prop := ∀ c k, ¬ S c k → M'.1 c k = M.1 c k
theorem FR.self {S : rf → Nat → Prop} {M : mM} : FR S M M := fun _ _ _ => rfl
theorem FR.put {S : rf → Nat → Prop} {M M1 M2 : mM} {c : rf} {k : Nat} {v : Int32} (h : FR S M M1) (he : M2 = up M1 c k v) (hs : S c k) : FR S M M2 := fun c' k' hn => by
  subst he
  rw [up_ne (fun q => hn (by rw [q.1, q.2]; exact hs))]
  exact h c' k' hn
theorem FR.putL {S : rf → Nat → Prop} {M M1 M2 : mM} {k : Nat} {v : Int64} (h : FR S M M1) (he : M2 = upL M1 k v) : FR S M M2 := fun c' k' hn => by
  subst he
  exact h c' k' hn
theorem FR.cpy {S : rf → Nat → Prop} {M M1 M2 : mM} {c0 c1 : rf} {a b n : Nat} (h : FR S M M1) (he : M2 = cp M1 c0 c1 a b n) (hs : ∀ k, S c1 k) : FR S M M2 := fun c' k' hn => by
  subst he
  rw [cp_other a b n (show c' ≠ c1 from fun q => hn (by rw [q]; exact hs k'))]
  exact h c' k' hn
theorem FR.tr {S S' : rf → Nat → Prop} {M M1 M2 : mM} (h : FR S M M1) (h2 : FR S' M1 M2) (hs : ∀ c k, S' c k → S c k) : FR S M M2 := fun c k hn => (h2 c k (fun q => hn (hs c k q))).trans (h c k hn)
def zB (v : Int32) : Prop := 0 ≤ v.toInt ∧ v.toInt ≤ 1
/-- the class's invariant, field by field -/
def IN (r k : Nat) (v : Int32) : Prop := match r with
  | 6 => k = 1 → 0 ≤ v.toInt ∧ v.toInt ≤ 24
  | 9 => k = 6 → 0 ≤ v.toInt ∧ v.toInt ≤ 1
  | 3 => k = 8 → 0 ≤ v.toInt ∧ v.toInt ≤ 1
  | 8 => k = 5 → 0 ≤ v.toInt ∧ v.toInt ≤ 1
  | _ => True
def Inv (M : mM) : Prop := ∀ (c : rf) (k : Nat), IN c.1 k (M.1 c k)
theorem Inv.put {M M' : mM} {c : rf} {k : Nat} {v : Int32} (h : Inv M) (he : M' = up M c k v) (hv : IN c.1 k v) : Inv M' := by
  subst he
  intro c' k'
  by_cases e : c' = c ∧ k' = k
  · rw [e.1, e.2, up_same]; exact hv
  · rw [up_ne e]; exact h c' k'
theorem Inv.putL {M M' : mM} {k : Nat} {v : Int64} (h : Inv M) (he : M' = upL M k v) : Inv M' := by
  subst he
  exact h
theorem Inv.cpy {M M' : mM} {c0 c1 : rf} {a b n : Nat} (h : Inv M) (he : M' = cp M c0 c1 a b n) (hv : ∀ k v, IN c1.1 k v) : Inv M' := by
  subst he
  intro c' k'
  by_cases e : c' = c1
  · subst e; exact hv _ _
  · rw [cp_other _ _ _ e]; exact h c' k'
end
section
/-! words of the tables that are used, by their places; decode rows; fields -/
theorem li_m1 : ((-1) : Int32).toInt = -1 := by decide
theorem li_0 : (0 : Int32).toInt = 0 := by decide
theorem li_1 : (1 : Int32).toInt = 1 := by decide
theorem li_3 : (3 : Int32).toInt = 3 := by decide
theorem li_4 : (4 : Int32).toInt = 4 := by decide
theorem li_7 : (7 : Int32).toInt = 7 := by decide
theorem li_8 : (8 : Int32).toInt = 8 := by decide
theorem li_12 : (12 : Int32).toInt = 12 := by decide
theorem li_16 : (16 : Int32).toInt = 16 := by decide
theorem li_31 : (31 : Int32).toInt = 31 := by decide
theorem li_192 : (192 : Int32).toInt = 192 := by decide
set_option maxRecDepth 20000 in
theorem m_79 : Cond.initialized RX11 ∈ BASE := bmT1 1 rfl rfl
set_option maxRecDepth 20000 in
theorem m_81 : Cond.initialized RX7 ∈ BASE := bmT1 3 rfl rfl
set_option maxRecDepth 20000 in
theorem m_494 : Cond.methodLink RX11 89 yX11_within ∈ BASE := bmT2 176 rfl rfl
set_option maxRecDepth 20000 in
theorem m_495 : Cond.static yX11_within ∈ BASE := bmT2 177 rfl rfl
set_option maxRecDepth 20000 in
theorem m_496 : Cond.code yX11_within cX11_within 3 (some .boolean) ∈ BASE := bmT2 178 rfl rfl
set_option maxRecDepth 20000 in
theorem m_498 : Cond.static yX7_isCell ∈ BASE := bmT2 180 rfl rfl
set_option maxRecDepth 20000 in
theorem m_499 : Cond.code yX7_isCell cX7_isCell 1 (some .boolean) ∈ BASE := bmT2 181 rfl rfl
set_option maxRecDepth 20000 in
theorem m_509 : Cond.methodLink RX7 29 yX7_isCell ∈ BASE := bmT2 191 rfl rfl
set_option maxRecDepth 20000 in
theorem m_540 : Cond.static yX7_isSide ∈ BASE := bmT2 222 rfl rfl
set_option maxRecDepth 20000 in
theorem m_541 : Cond.code yX7_isSide cX7_isSide 1 (some .boolean) ∈ BASE := bmT2 223 rfl rfl
set_option maxRecDepth 20000 in
theorem m_646 : Cond.fieldLink RX9 47 "ClickStreet$Walker" "ABOVE" "[I" ∈ BASE := bmT3 88 rfl rfl
set_option maxRecDepth 20000 in
theorem m_852 : Cond.methodLink RX7 33 yX7_isSide ∈ BASE := bmT4 54 rfl rfl
set_option maxRecDepth 20000 in
theorem m_853 : Cond.fieldLink RX7 36 "ClickStreet$Street" "EAST" "[I" ∈ BASE := bmT4 55 rfl rfl
set_option maxRecDepth 20000 in
theorem m_855 : Cond.fieldLink RX7 39 "ClickStreet$Street" "SOUTH" "[I" ∈ BASE := bmT4 57 rfl rfl
theorem kS_X11_within : KS yX11_within cX11_within 3 (some .boolean) 3 := ⟨m_495, m_79, m_496, nhM_0, nhV_0, pdn_0⟩
theorem kS_X7_isCell : KS yX7_isCell cX7_isCell 1 (some .boolean) 1 := ⟨m_498, m_81, m_499, nhM_1, nhV_1, pdn_1⟩
theorem kS_X7_isSide : KS yX7_isSide cX7_isSide 1 (some .boolean) 1 := ⟨m_540, m_81, m_541, nhM_1, nhV_1, pdn_1⟩
theorem dX11_isBits_0 : decode cX11_isBits 0 = .ok (.iload_n 0, 1) := by decide +kernel
theorem dX11_isBits_1 : decode cX11_isBits 1 = .ok (.iconst 0, 1) := by decide +kernel
theorem dX11_isBits_2 : decode cX11_isBits 2 = .ok (.bipush 31, 2) := by decide +kernel
theorem dX11_isBits_4 : decode cX11_isBits 4 = .ok (.invokestatic 89, 3) := by decide +kernel
theorem dX11_isBits_7 : decode cX11_isBits 7 = .ok (.ireturn, 1) := by decide +kernel
theorem dX11_isSheet_0 : decode cX11_isSheet 0 = .ok (.iload_n 0, 1) := by decide +kernel
theorem dX11_isSheet_1 : decode cX11_isSheet 1 = .ok (.iconst 0, 1) := by decide +kernel
theorem dX11_isSheet_2 : decode cX11_isSheet 2 = .ok (.iconst 3, 1) := by decide +kernel
theorem dX11_isSheet_3 : decode cX11_isSheet 3 = .ok (.invokestatic 89, 3) := by decide +kernel
theorem dX11_isSheet_6 : decode cX11_isSheet 6 = .ok (.ireturn, 1) := by decide +kernel
theorem dX11_isThingKind_0 : decode cX11_isThingKind 0 = .ok (.iload_n 0, 1) := by decide +kernel
theorem dX11_isThingKind_1 : decode cX11_isThingKind 1 = .ok (.iconst 0, 1) := by decide +kernel
theorem dX11_isThingKind_2 : decode cX11_isThingKind 2 = .ok (.iconst 4, 1) := by decide +kernel
theorem dX11_isThingKind_3 : decode cX11_isThingKind 3 = .ok (.invokestatic 89, 3) := by decide +kernel
theorem dX11_isThingKind_6 : decode cX11_isThingKind 6 = .ok (.ireturn, 1) := by decide +kernel
theorem dX11_isWalkerKind_0 : decode cX11_isWalkerKind 0 = .ok (.iload_n 0, 1) := by decide +kernel
theorem dX11_isWalkerKind_1 : decode cX11_isWalkerKind 1 = .ok (.iconst 0, 1) := by decide +kernel
theorem dX11_isWalkerKind_2 : decode cX11_isWalkerKind 2 = .ok (.bipush 7, 2) := by decide +kernel
theorem dX11_isWalkerKind_4 : decode cX11_isWalkerKind 4 = .ok (.invokestatic 89, 3) := by decide +kernel
theorem dX11_isWalkerKind_7 : decode cX11_isWalkerKind 7 = .ok (.ireturn, 1) := by decide +kernel
theorem dX11_within_0 : decode cX11_within 0 = .ok (.iload_n 0, 1) := by decide +kernel
theorem dX11_within_1 : decode cX11_within 1 = .ok (.iload_n 1, 1) := by decide +kernel
theorem dX11_within_2 : decode cX11_within 2 = .ok (.if_icmp .lt 12, 3) := by decide +kernel
theorem dX11_within_5 : decode cX11_within 5 = .ok (.iload_n 0, 1) := by decide +kernel
theorem dX11_within_6 : decode cX11_within 6 = .ok (.iload_n 2, 1) := by decide +kernel
theorem dX11_within_7 : decode cX11_within 7 = .ok (.if_icmp .gt 7, 3) := by decide +kernel
theorem dX11_within_10 : decode cX11_within 10 = .ok (.iconst 1, 1) := by decide +kernel
theorem dX11_within_11 : decode cX11_within 11 = .ok (.goto 4, 3) := by decide +kernel
theorem dX11_within_14 : decode cX11_within 14 = .ok (.iconst 0, 1) := by decide +kernel
theorem dX11_within_15 : decode cX11_within 15 = .ok (.ireturn, 1) := by decide +kernel
theorem ch_cX7_cellFrom_0 : (cX7_cellFrom.data.toList.drop 0).take 36 = [26, 184, 0, 29, 153, 0, 20, 27, 184, 0, 33, 153, 0, 13, 28, 155, 0, 9, 28, 16, 16, 164, 0, 5, 2, 172, 26, 16, 16, 112, 28, 178, 0, 36, 27, 46] := by decide +kernel
theorem dX7_cellFrom_0 : decode cX7_cellFrom 0 = .ok (.iload_n 0, 1) := do_26 (rdb (p := 0) (i := 0) ch_cX7_cellFrom_0 rfl)
theorem dX7_cellFrom_1 : decode cX7_cellFrom 1 = .ok (.invokestatic 29, 3) := do_184 (rdb (p := 0) (i := 1) ch_cX7_cellFrom_0 rfl) (rdb (p := 0) (i := 2) ch_cX7_cellFrom_0 rfl) (rdb (p := 0) (i := 3) ch_cX7_cellFrom_0 rfl) rfl
theorem dX7_cellFrom_4 : decode cX7_cellFrom 4 = .ok (.ifCond .eq 20, 3) := do_153 (rdb (p := 0) (i := 4) ch_cX7_cellFrom_0 rfl) (rdb (p := 0) (i := 5) ch_cX7_cellFrom_0 rfl) (rdb (p := 0) (i := 6) ch_cX7_cellFrom_0 rfl) (by decide +kernel)
theorem dX7_cellFrom_7 : decode cX7_cellFrom 7 = .ok (.iload_n 1, 1) := do_27 (rdb (p := 0) (i := 7) ch_cX7_cellFrom_0 rfl)
theorem dX7_cellFrom_8 : decode cX7_cellFrom 8 = .ok (.invokestatic 33, 3) := do_184 (rdb (p := 0) (i := 8) ch_cX7_cellFrom_0 rfl) (rdb (p := 0) (i := 9) ch_cX7_cellFrom_0 rfl) (rdb (p := 0) (i := 10) ch_cX7_cellFrom_0 rfl) rfl
theorem dX7_cellFrom_11 : decode cX7_cellFrom 11 = .ok (.ifCond .eq 13, 3) := do_153 (rdb (p := 0) (i := 11) ch_cX7_cellFrom_0 rfl) (rdb (p := 0) (i := 12) ch_cX7_cellFrom_0 rfl) (rdb (p := 0) (i := 13) ch_cX7_cellFrom_0 rfl) (by decide +kernel)
theorem dX7_cellFrom_14 : decode cX7_cellFrom 14 = .ok (.iload_n 2, 1) := do_28 (rdb (p := 0) (i := 14) ch_cX7_cellFrom_0 rfl)
theorem dX7_cellFrom_15 : decode cX7_cellFrom 15 = .ok (.ifCond .lt 9, 3) := do_155 (rdb (p := 0) (i := 15) ch_cX7_cellFrom_0 rfl) (rdb (p := 0) (i := 16) ch_cX7_cellFrom_0 rfl) (rdb (p := 0) (i := 17) ch_cX7_cellFrom_0 rfl) (by decide +kernel)
theorem dX7_cellFrom_18 : decode cX7_cellFrom 18 = .ok (.iload_n 2, 1) := do_28 (rdb (p := 0) (i := 18) ch_cX7_cellFrom_0 rfl)
theorem dX7_cellFrom_19 : decode cX7_cellFrom 19 = .ok (.bipush 16, 2) := do_16 (rdb (p := 0) (i := 19) ch_cX7_cellFrom_0 rfl) (rdb (p := 0) (i := 20) ch_cX7_cellFrom_0 rfl) (by decide +kernel)
theorem dX7_cellFrom_21 : decode cX7_cellFrom 21 = .ok (.if_icmp .le 5, 3) := do_164 (rdb (p := 0) (i := 21) ch_cX7_cellFrom_0 rfl) (rdb (p := 0) (i := 22) ch_cX7_cellFrom_0 rfl) (rdb (p := 0) (i := 23) ch_cX7_cellFrom_0 rfl) (by decide +kernel)
theorem dX7_cellFrom_24 : decode cX7_cellFrom 24 = .ok (.iconst (-1), 1) := do_2 (rdb (p := 0) (i := 24) ch_cX7_cellFrom_0 rfl)
theorem dX7_cellFrom_25 : decode cX7_cellFrom 25 = .ok (.ireturn, 1) := do_172 (rdb (p := 0) (i := 25) ch_cX7_cellFrom_0 rfl)
theorem dX7_cellFrom_26 : decode cX7_cellFrom 26 = .ok (.iload_n 0, 1) := do_26 (rdb (p := 0) (i := 26) ch_cX7_cellFrom_0 rfl)
theorem dX7_cellFrom_27 : decode cX7_cellFrom 27 = .ok (.bipush 16, 2) := do_16 (rdb (p := 0) (i := 27) ch_cX7_cellFrom_0 rfl) (rdb (p := 0) (i := 28) ch_cX7_cellFrom_0 rfl) (by decide +kernel)
theorem dX7_cellFrom_29 : decode cX7_cellFrom 29 = .ok (.irem, 1) := do_112 (rdb (p := 0) (i := 29) ch_cX7_cellFrom_0 rfl)
theorem dX7_cellFrom_30 : decode cX7_cellFrom 30 = .ok (.iload_n 2, 1) := do_28 (rdb (p := 0) (i := 30) ch_cX7_cellFrom_0 rfl)
theorem dX7_cellFrom_31 : decode cX7_cellFrom 31 = .ok (.getstatic 36, 3) := do_178 (rdb (p := 0) (i := 31) ch_cX7_cellFrom_0 rfl) (rdb (p := 0) (i := 32) ch_cX7_cellFrom_0 rfl) (rdb (p := 0) (i := 33) ch_cX7_cellFrom_0 rfl) rfl
theorem ch_cX7_cellFrom_32 : (cX7_cellFrom.data.toList.drop 32).take 36 = [0, 36, 27, 46, 104, 96, 62, 26, 16, 16, 108, 28, 178, 0, 39, 27, 46, 104, 96, 54, 4, 29, 155, 0, 21, 29, 16, 16, 162, 0, 15, 21, 4, 155, 0, 10] := by decide +kernel
theorem dX7_cellFrom_34 : decode cX7_cellFrom 34 = .ok (.iload_n 1, 1) := do_27 (rdb (p := 32) (i := 2) ch_cX7_cellFrom_32 rfl)
theorem dX7_cellFrom_35 : decode cX7_cellFrom 35 = .ok (.iaload, 1) := do_46 (rdb (p := 32) (i := 3) ch_cX7_cellFrom_32 rfl)
theorem dX7_cellFrom_36 : decode cX7_cellFrom 36 = .ok (.imul, 1) := do_104 (rdb (p := 32) (i := 4) ch_cX7_cellFrom_32 rfl)
theorem dX7_cellFrom_37 : decode cX7_cellFrom 37 = .ok (.iadd, 1) := do_96 (rdb (p := 32) (i := 5) ch_cX7_cellFrom_32 rfl)
theorem dX7_cellFrom_38 : decode cX7_cellFrom 38 = .ok (.istore_n 3, 1) := do_62 (rdb (p := 32) (i := 6) ch_cX7_cellFrom_32 rfl)
theorem dX7_cellFrom_39 : decode cX7_cellFrom 39 = .ok (.iload_n 0, 1) := do_26 (rdb (p := 32) (i := 7) ch_cX7_cellFrom_32 rfl)
theorem dX7_cellFrom_40 : decode cX7_cellFrom 40 = .ok (.bipush 16, 2) := do_16 (rdb (p := 32) (i := 8) ch_cX7_cellFrom_32 rfl) (rdb (p := 32) (i := 9) ch_cX7_cellFrom_32 rfl) (by decide +kernel)
theorem dX7_cellFrom_42 : decode cX7_cellFrom 42 = .ok (.idiv, 1) := do_108 (rdb (p := 32) (i := 10) ch_cX7_cellFrom_32 rfl)
theorem dX7_cellFrom_43 : decode cX7_cellFrom 43 = .ok (.iload_n 2, 1) := do_28 (rdb (p := 32) (i := 11) ch_cX7_cellFrom_32 rfl)
theorem dX7_cellFrom_44 : decode cX7_cellFrom 44 = .ok (.getstatic 39, 3) := do_178 (rdb (p := 32) (i := 12) ch_cX7_cellFrom_32 rfl) (rdb (p := 32) (i := 13) ch_cX7_cellFrom_32 rfl) (rdb (p := 32) (i := 14) ch_cX7_cellFrom_32 rfl) rfl
theorem dX7_cellFrom_47 : decode cX7_cellFrom 47 = .ok (.iload_n 1, 1) := do_27 (rdb (p := 32) (i := 15) ch_cX7_cellFrom_32 rfl)
theorem dX7_cellFrom_48 : decode cX7_cellFrom 48 = .ok (.iaload, 1) := do_46 (rdb (p := 32) (i := 16) ch_cX7_cellFrom_32 rfl)
theorem dX7_cellFrom_49 : decode cX7_cellFrom 49 = .ok (.imul, 1) := do_104 (rdb (p := 32) (i := 17) ch_cX7_cellFrom_32 rfl)
theorem dX7_cellFrom_50 : decode cX7_cellFrom 50 = .ok (.iadd, 1) := do_96 (rdb (p := 32) (i := 18) ch_cX7_cellFrom_32 rfl)
theorem dX7_cellFrom_51 : decode cX7_cellFrom 51 = .ok (.istore 4, 2) := do_54 (rdb (p := 32) (i := 19) ch_cX7_cellFrom_32 rfl) (rdb (p := 32) (i := 20) ch_cX7_cellFrom_32 rfl)
theorem dX7_cellFrom_53 : decode cX7_cellFrom 53 = .ok (.iload_n 3, 1) := do_29 (rdb (p := 32) (i := 21) ch_cX7_cellFrom_32 rfl)
theorem dX7_cellFrom_54 : decode cX7_cellFrom 54 = .ok (.ifCond .lt 21, 3) := do_155 (rdb (p := 32) (i := 22) ch_cX7_cellFrom_32 rfl) (rdb (p := 32) (i := 23) ch_cX7_cellFrom_32 rfl) (rdb (p := 32) (i := 24) ch_cX7_cellFrom_32 rfl) (by decide +kernel)
theorem dX7_cellFrom_57 : decode cX7_cellFrom 57 = .ok (.iload_n 3, 1) := do_29 (rdb (p := 32) (i := 25) ch_cX7_cellFrom_32 rfl)
theorem dX7_cellFrom_58 : decode cX7_cellFrom 58 = .ok (.bipush 16, 2) := do_16 (rdb (p := 32) (i := 26) ch_cX7_cellFrom_32 rfl) (rdb (p := 32) (i := 27) ch_cX7_cellFrom_32 rfl) (by decide +kernel)
theorem dX7_cellFrom_60 : decode cX7_cellFrom 60 = .ok (.if_icmp .ge 15, 3) := do_162 (rdb (p := 32) (i := 28) ch_cX7_cellFrom_32 rfl) (rdb (p := 32) (i := 29) ch_cX7_cellFrom_32 rfl) (rdb (p := 32) (i := 30) ch_cX7_cellFrom_32 rfl) (by decide +kernel)
theorem dX7_cellFrom_63 : decode cX7_cellFrom 63 = .ok (.iload 4, 2) := do_21 (rdb (p := 32) (i := 31) ch_cX7_cellFrom_32 rfl) (rdb (p := 32) (i := 32) ch_cX7_cellFrom_32 rfl)
theorem ch_cX7_cellFrom_64 : (cX7_cellFrom.data.toList.drop 64).take 36 = [4, 155, 0, 10, 21, 4, 16, 12, 161, 0, 7, 2, 167, 0, 10, 16, 16, 21, 4, 104, 29, 96, 172] := by decide +kernel
theorem dX7_cellFrom_65 : decode cX7_cellFrom 65 = .ok (.ifCond .lt 10, 3) := do_155 (rdb (p := 64) (i := 1) ch_cX7_cellFrom_64 rfl) (rdb (p := 64) (i := 2) ch_cX7_cellFrom_64 rfl) (rdb (p := 64) (i := 3) ch_cX7_cellFrom_64 rfl) (by decide +kernel)
theorem dX7_cellFrom_68 : decode cX7_cellFrom 68 = .ok (.iload 4, 2) := do_21 (rdb (p := 64) (i := 4) ch_cX7_cellFrom_64 rfl) (rdb (p := 64) (i := 5) ch_cX7_cellFrom_64 rfl)
theorem dX7_cellFrom_70 : decode cX7_cellFrom 70 = .ok (.bipush 12, 2) := do_16 (rdb (p := 64) (i := 6) ch_cX7_cellFrom_64 rfl) (rdb (p := 64) (i := 7) ch_cX7_cellFrom_64 rfl) (by decide +kernel)
theorem dX7_cellFrom_72 : decode cX7_cellFrom 72 = .ok (.if_icmp .lt 7, 3) := do_161 (rdb (p := 64) (i := 8) ch_cX7_cellFrom_64 rfl) (rdb (p := 64) (i := 9) ch_cX7_cellFrom_64 rfl) (rdb (p := 64) (i := 10) ch_cX7_cellFrom_64 rfl) (by decide +kernel)
theorem dX7_cellFrom_75 : decode cX7_cellFrom 75 = .ok (.iconst (-1), 1) := do_2 (rdb (p := 64) (i := 11) ch_cX7_cellFrom_64 rfl)
theorem dX7_cellFrom_76 : decode cX7_cellFrom 76 = .ok (.goto 10, 3) := do_167 (rdb (p := 64) (i := 12) ch_cX7_cellFrom_64 rfl) (rdb (p := 64) (i := 13) ch_cX7_cellFrom_64 rfl) (rdb (p := 64) (i := 14) ch_cX7_cellFrom_64 rfl) (by decide +kernel)
theorem dX7_cellFrom_79 : decode cX7_cellFrom 79 = .ok (.bipush 16, 2) := do_16 (rdb (p := 64) (i := 15) ch_cX7_cellFrom_64 rfl) (rdb (p := 64) (i := 16) ch_cX7_cellFrom_64 rfl) (by decide +kernel)
theorem dX7_cellFrom_81 : decode cX7_cellFrom 81 = .ok (.iload 4, 2) := do_21 (rdb (p := 64) (i := 17) ch_cX7_cellFrom_64 rfl) (rdb (p := 64) (i := 18) ch_cX7_cellFrom_64 rfl)
theorem dX7_cellFrom_83 : decode cX7_cellFrom 83 = .ok (.imul, 1) := do_104 (rdb (p := 64) (i := 19) ch_cX7_cellFrom_64 rfl)
theorem dX7_cellFrom_84 : decode cX7_cellFrom 84 = .ok (.iload_n 3, 1) := do_29 (rdb (p := 64) (i := 20) ch_cX7_cellFrom_64 rfl)
theorem dX7_cellFrom_85 : decode cX7_cellFrom 85 = .ok (.iadd, 1) := do_96 (rdb (p := 64) (i := 21) ch_cX7_cellFrom_64 rfl)
theorem dX7_cellFrom_86 : decode cX7_cellFrom 86 = .ok (.ireturn, 1) := do_172 (rdb (p := 64) (i := 22) ch_cX7_cellFrom_64 rfl)
theorem dX7_isCell_0 : decode cX7_isCell 0 = .ok (.iload_n 0, 1) := by decide +kernel
theorem dX7_isCell_1 : decode cX7_isCell 1 = .ok (.ifCond .lt 14, 3) := by decide +kernel
theorem dX7_isCell_4 : decode cX7_isCell 4 = .ok (.iload_n 0, 1) := by decide +kernel
theorem dX7_isCell_5 : decode cX7_isCell 5 = .ok (.sipush 192, 3) := by decide +kernel
theorem dX7_isCell_8 : decode cX7_isCell 8 = .ok (.if_icmp .ge 7, 3) := by decide +kernel
theorem dX7_isCell_11 : decode cX7_isCell 11 = .ok (.iconst 1, 1) := by decide +kernel
theorem dX7_isCell_12 : decode cX7_isCell 12 = .ok (.goto 4, 3) := by decide +kernel
theorem dX7_isCell_15 : decode cX7_isCell 15 = .ok (.iconst 0, 1) := by decide +kernel
theorem dX7_isCell_16 : decode cX7_isCell 16 = .ok (.ireturn, 1) := by decide +kernel
theorem dX7_isSide_0 : decode cX7_isSide 0 = .ok (.iload_n 0, 1) := by decide +kernel
theorem dX7_isSide_1 : decode cX7_isSide 1 = .ok (.ifCond .lt 13, 3) := by decide +kernel
theorem dX7_isSide_4 : decode cX7_isSide 4 = .ok (.iload_n 0, 1) := by decide +kernel
theorem dX7_isSide_5 : decode cX7_isSide 5 = .ok (.bipush 8, 2) := by decide +kernel
theorem dX7_isSide_7 : decode cX7_isSide 7 = .ok (.if_icmp .ge 7, 3) := by decide +kernel
theorem dX7_isSide_10 : decode cX7_isSide 10 = .ok (.iconst 1, 1) := by decide +kernel
theorem dX7_isSide_11 : decode cX7_isSide 11 = .ok (.goto 4, 3) := by decide +kernel
theorem dX7_isSide_14 : decode cX7_isSide 14 = .ok (.iconst 0, 1) := by decide +kernel
theorem dX7_isSide_15 : decode cX7_isSide 15 = .ok (.ireturn, 1) := by decide +kernel
theorem dX9_kindAbove_0 : decode cX9_kindAbove 0 = .ok (.iload_n 0, 1) := by decide +kernel
theorem dX9_kindAbove_1 : decode cX9_kindAbove 1 = .ok (.ifCond .lt 17, 3) := by decide +kernel
theorem dX9_kindAbove_4 : decode cX9_kindAbove 4 = .ok (.iload_n 0, 1) := by decide +kernel
theorem dX9_kindAbove_5 : decode cX9_kindAbove 5 = .ok (.bipush 8, 2) := by decide +kernel
theorem dX9_kindAbove_7 : decode cX9_kindAbove 7 = .ok (.if_icmp .ge 11, 3) := by decide +kernel
theorem dX9_kindAbove_10 : decode cX9_kindAbove 10 = .ok (.getstatic 47, 3) := by decide +kernel
theorem dX9_kindAbove_13 : decode cX9_kindAbove 13 = .ok (.iload_n 0, 1) := by decide +kernel
theorem dX9_kindAbove_14 : decode cX9_kindAbove 14 = .ok (.iaload, 1) := by decide +kernel
theorem dX9_kindAbove_15 : decode cX9_kindAbove 15 = .ok (.goto 4, 3) := by decide +kernel
theorem dX9_kindAbove_18 : decode cX9_kindAbove 18 = .ok (.iconst (-1), 1) := by decide +kernel
theorem dX9_kindAbove_19 : decode cX9_kindAbove 19 = .ok (.ireturn, 1) := by decide +kernel
end
section
def SP_X11_within (v : Int32) (lo : Int32) (hi : Int32) (Mz : mM) (r_ : Int32) : Prop := (((v.toInt < lo.toInt) ∧ r_ = 0) ∨ ((lo.toInt ≤ v.toInt) ∧ (((hi.toInt < v.toInt) ∧ r_ = 0) ∨ ((v.toInt ≤ hi.toInt) ∧ r_ = 1))))
theorem lf_c_X11_within_0  (v : Int32) (lo : Int32) (hi : Int32) (h1_ : v.toInt < lo.toInt) : ¬ (lo.toInt ≤ v.toInt ∧ v.toInt ≤ hi.toInt) := by have r_v := rngI v; have r_lo := rngI lo; have r_hi := rngI hi; omega
theorem lf_c_X11_within_1  (v : Int32) (lo : Int32) (hi : Int32) (h1_ : lo.toInt ≤ v.toInt) (h2_ : hi.toInt < v.toInt) : ¬ (lo.toInt ≤ v.toInt ∧ v.toInt ≤ hi.toInt) := by have r_v := rngI v; have r_lo := rngI lo; have r_hi := rngI hi; omega
theorem lf_c_X11_within_2  (v : Int32) (lo : Int32) (hi : Int32) (h1_ : lo.toInt ≤ v.toInt) (h2_ : v.toInt ≤ hi.toInt) : lo.toInt ≤ v.toInt ∧ v.toInt ≤ hi.toInt := by have r_v := rngI v; have r_lo := rngI lo; have r_hi := rngI hi; omega
set_option maxHeartbeats 4000000 in
set_option maxRecDepth 100000 in
theorem c_X11_within (l : Launch) (G : va_G) (cy : Nat → ClassId) (ad : rf → Nat) (d : Nat) (v : Int32) (lo : Int32) (hi : Int32) (Mz : mM) (hIz : Inv Mz) : WP CC l G cy ad yX11_within cX11_within 3 (some .boolean) d 0 [(0, vI v), (1, vI lo), (2, vI hi)] [] Mz (fun r M' => Mz = M' ∧ (((r = 1 ∧ lo.toInt ≤ v.toInt ∧ v.toInt ≤ hi.toInt) ∨ (r = 0 ∧ ¬ (lo.toInt ≤ v.toInt ∧ v.toInt ≤ hi.toInt)))) ∧ SP_X11_within v lo hi Mz r) := by
  refine w_iload_n dX11_within_0 rfl 0 rfl ?_
  refine w_iload_n dX11_within_1 rfl 1 rfl ?_
  refine w_icmp_lt (tgt := 14) dX11_within_2 (by decide) (rfl : v.toInt = v.toInt) (rfl : lo.toInt = lo.toInt) (fun h1_ => ?_) (fun h1_ => ?_)
  · refine w_iconst (v := 0) dX11_within_14 (by decide) ?_
    exact w_zret rfl dX11_within_15 ⟨by decide, by decide⟩ ⟨rfl, (Or.inr ⟨rfl, (lf_c_X11_within_0 v lo hi h1_)⟩), (Or.inl ⟨h1_, rfl⟩)⟩
  · refine w_iload_n dX11_within_5 rfl 0 rfl ?_
    refine w_iload_n dX11_within_6 rfl 2 rfl ?_
    refine w_icmp_gt (tgt := 14) dX11_within_7 (by decide) (rfl : v.toInt = v.toInt) (rfl : hi.toInt = hi.toInt) (fun h2_ => ?_) (fun h2_ => ?_)
    · refine w_iconst (v := 0) dX11_within_14 (by decide) ?_
      exact w_zret rfl dX11_within_15 ⟨by decide, by decide⟩ ⟨rfl, (Or.inr ⟨rfl, (lf_c_X11_within_1 v lo hi h1_ h2_)⟩), (Or.inr ⟨h1_, (Or.inl ⟨h2_, rfl⟩)⟩)⟩
    · refine w_iconst (v := 1) dX11_within_10 (by decide) ?_
      refine w_goto (tgt := 15) dX11_within_11 (by decide) ?_
      exact w_zret rfl dX11_within_15 ⟨by decide, by decide⟩ ⟨rfl, (Or.inl ⟨rfl, (lf_c_X11_within_2 v lo hi h1_ h2_)⟩), (Or.inr ⟨h1_, (Or.inr ⟨h2_, rfl⟩)⟩)⟩
def SP_X11_isThingKind (v : Int32) (Mz : mM) (r_ : Int32) : Prop := (((SP_X11_within v 0 4 Mz (1 : Int32)) ∧ (0 ≤ v.toInt ∧ v.toInt ≤ 4) ∧ r_ = 1) ∨ ((SP_X11_within v 0 4 Mz (0 : Int32)) ∧ (¬ (0 ≤ v.toInt ∧ v.toInt ≤ 4)) ∧ r_ = 0))
set_option maxHeartbeats 4000000 in
set_option maxRecDepth 100000 in
theorem c_X11_isThingKind (l : Launch) (G : va_G) (cy : Nat → ClassId) (ad : rf → Nat) (d : Nat) (v : Int32) (Mz : mM) (hIz : Inv Mz) : WP CC l G cy ad yX11_isThingKind cX11_isThingKind 1 (some .boolean) (d + 1) 0 [(0, vI v)] [] Mz (fun r M' => Mz = M' ∧ (((r = 1 ∧ 0 ≤ v.toInt ∧ v.toInt ≤ 4) ∨ (r = 0 ∧ ¬ (0 ≤ v.toInt ∧ v.toInt ≤ 4)))) ∧ SP_X11_isThingKind v Mz r) := by
  refine w_iload_n dX11_isThingKind_0 rfl 0 rfl ?_
  refine w_iconst (v := 0) dX11_isThingKind_1 (by decide) ?_
  refine w_iconst (v := 4) dX11_isThingKind_2 (by decide) ?_
  refine w_callS (as := [vI v, vI 0, vI 4]) (rest := []) (c_X11_within l G cy ad d v 0 4 Mz hIz) kS_X11_within (by decide +kernel) (Nat.le_of_ble_eq_true rfl) m_494 rfl rfl (by decide) (Nat.le_of_ble_eq_true rfl) dX11_isThingKind_3 (fun r1_ M2_ q3_ => ?_)
  obtain ⟨rfl, h4_, hs5_⟩ := q3_
  rcases h4_ with ⟨rfl, h4_⟩ | ⟨rfl, h4_⟩
  · simp only [li_0, li_4] at h4_
    exact w_zret rfl dX11_isThingKind_6 ⟨by decide, by decide⟩ ⟨rfl, (Or.inl ⟨rfl, h4_⟩), (Or.inl ⟨hs5_, h4_, rfl⟩)⟩
  · simp only [li_0, li_4] at h4_
    exact w_zret rfl dX11_isThingKind_6 ⟨by decide, by decide⟩ ⟨rfl, (Or.inr ⟨rfl, h4_⟩), (Or.inr ⟨hs5_, h4_, rfl⟩)⟩
def SP_X11_isWalkerKind (v : Int32) (Mz : mM) (r_ : Int32) : Prop := (((SP_X11_within v 0 7 Mz (1 : Int32)) ∧ (0 ≤ v.toInt ∧ v.toInt ≤ 7) ∧ r_ = 1) ∨ ((SP_X11_within v 0 7 Mz (0 : Int32)) ∧ (¬ (0 ≤ v.toInt ∧ v.toInt ≤ 7)) ∧ r_ = 0))
set_option maxHeartbeats 4000000 in
set_option maxRecDepth 100000 in
theorem c_X11_isWalkerKind (l : Launch) (G : va_G) (cy : Nat → ClassId) (ad : rf → Nat) (d : Nat) (v : Int32) (Mz : mM) (hIz : Inv Mz) : WP CC l G cy ad yX11_isWalkerKind cX11_isWalkerKind 1 (some .boolean) (d + 1) 0 [(0, vI v)] [] Mz (fun r M' => Mz = M' ∧ (((r = 1 ∧ 0 ≤ v.toInt ∧ v.toInt ≤ 7) ∨ (r = 0 ∧ ¬ (0 ≤ v.toInt ∧ v.toInt ≤ 7)))) ∧ SP_X11_isWalkerKind v Mz r) := by
  refine w_iload_n dX11_isWalkerKind_0 rfl 0 rfl ?_
  refine w_iconst (v := 0) dX11_isWalkerKind_1 (by decide) ?_
  refine w_bipush (v := 7) dX11_isWalkerKind_2 (by decide) ?_
  refine w_callS (as := [vI v, vI 0, vI 7]) (rest := []) (c_X11_within l G cy ad d v 0 7 Mz hIz) kS_X11_within (by decide +kernel) (Nat.le_of_ble_eq_true rfl) m_494 rfl rfl (by decide) (Nat.le_of_ble_eq_true rfl) dX11_isWalkerKind_4 (fun r1_ M2_ q3_ => ?_)
  obtain ⟨rfl, h4_, hs5_⟩ := q3_
  rcases h4_ with ⟨rfl, h4_⟩ | ⟨rfl, h4_⟩
  · simp only [li_0, li_7] at h4_
    exact w_zret rfl dX11_isWalkerKind_7 ⟨by decide, by decide⟩ ⟨rfl, (Or.inl ⟨rfl, h4_⟩), (Or.inl ⟨hs5_, h4_, rfl⟩)⟩
  · simp only [li_0, li_7] at h4_
    exact w_zret rfl dX11_isWalkerKind_7 ⟨by decide, by decide⟩ ⟨rfl, (Or.inr ⟨rfl, h4_⟩), (Or.inr ⟨hs5_, h4_, rfl⟩)⟩
def SP_X11_isSheet (v : Int32) (Mz : mM) (r_ : Int32) : Prop := (((SP_X11_within v 0 3 Mz (1 : Int32)) ∧ (0 ≤ v.toInt ∧ v.toInt ≤ 3) ∧ r_ = 1) ∨ ((SP_X11_within v 0 3 Mz (0 : Int32)) ∧ (¬ (0 ≤ v.toInt ∧ v.toInt ≤ 3)) ∧ r_ = 0))
set_option maxHeartbeats 4000000 in
set_option maxRecDepth 100000 in
theorem c_X11_isSheet (l : Launch) (G : va_G) (cy : Nat → ClassId) (ad : rf → Nat) (d : Nat) (v : Int32) (Mz : mM) (hIz : Inv Mz) : WP CC l G cy ad yX11_isSheet cX11_isSheet 1 (some .boolean) (d + 1) 0 [(0, vI v)] [] Mz (fun r M' => Mz = M' ∧ (((r = 1 ∧ 0 ≤ v.toInt ∧ v.toInt ≤ 3) ∨ (r = 0 ∧ ¬ (0 ≤ v.toInt ∧ v.toInt ≤ 3)))) ∧ SP_X11_isSheet v Mz r) := by
  refine w_iload_n dX11_isSheet_0 rfl 0 rfl ?_
  refine w_iconst (v := 0) dX11_isSheet_1 (by decide) ?_
  refine w_iconst (v := 3) dX11_isSheet_2 (by decide) ?_
  refine w_callS (as := [vI v, vI 0, vI 3]) (rest := []) (c_X11_within l G cy ad d v 0 3 Mz hIz) kS_X11_within (by decide +kernel) (Nat.le_of_ble_eq_true rfl) m_494 rfl rfl (by decide) (Nat.le_of_ble_eq_true rfl) dX11_isSheet_3 (fun r1_ M2_ q3_ => ?_)
  obtain ⟨rfl, h4_, hs5_⟩ := q3_
  rcases h4_ with ⟨rfl, h4_⟩ | ⟨rfl, h4_⟩
  · simp only [li_0, li_3] at h4_
    exact w_zret rfl dX11_isSheet_6 ⟨by decide, by decide⟩ ⟨rfl, (Or.inl ⟨rfl, h4_⟩), (Or.inl ⟨hs5_, h4_, rfl⟩)⟩
  · simp only [li_0, li_3] at h4_
    exact w_zret rfl dX11_isSheet_6 ⟨by decide, by decide⟩ ⟨rfl, (Or.inr ⟨rfl, h4_⟩), (Or.inr ⟨hs5_, h4_, rfl⟩)⟩
def SP_X11_isBits (v : Int32) (Mz : mM) (r_ : Int32) : Prop := (((SP_X11_within v 0 31 Mz (1 : Int32)) ∧ (0 ≤ v.toInt ∧ v.toInt ≤ 31) ∧ r_ = 1) ∨ ((SP_X11_within v 0 31 Mz (0 : Int32)) ∧ (¬ (0 ≤ v.toInt ∧ v.toInt ≤ 31)) ∧ r_ = 0))
set_option maxHeartbeats 4000000 in
set_option maxRecDepth 100000 in
theorem c_X11_isBits (l : Launch) (G : va_G) (cy : Nat → ClassId) (ad : rf → Nat) (d : Nat) (v : Int32) (Mz : mM) (hIz : Inv Mz) : WP CC l G cy ad yX11_isBits cX11_isBits 1 (some .boolean) (d + 1) 0 [(0, vI v)] [] Mz (fun r M' => Mz = M' ∧ (((r = 1 ∧ 0 ≤ v.toInt ∧ v.toInt ≤ 31) ∨ (r = 0 ∧ ¬ (0 ≤ v.toInt ∧ v.toInt ≤ 31)))) ∧ SP_X11_isBits v Mz r) := by
  refine w_iload_n dX11_isBits_0 rfl 0 rfl ?_
  refine w_iconst (v := 0) dX11_isBits_1 (by decide) ?_
  refine w_bipush (v := 31) dX11_isBits_2 (by decide) ?_
  refine w_callS (as := [vI v, vI 0, vI 31]) (rest := []) (c_X11_within l G cy ad d v 0 31 Mz hIz) kS_X11_within (by decide +kernel) (Nat.le_of_ble_eq_true rfl) m_494 rfl rfl (by decide) (Nat.le_of_ble_eq_true rfl) dX11_isBits_4 (fun r1_ M2_ q3_ => ?_)
  obtain ⟨rfl, h4_, hs5_⟩ := q3_
  rcases h4_ with ⟨rfl, h4_⟩ | ⟨rfl, h4_⟩
  · simp only [li_0, li_31] at h4_
    exact w_zret rfl dX11_isBits_7 ⟨by decide, by decide⟩ ⟨rfl, (Or.inl ⟨rfl, h4_⟩), (Or.inl ⟨hs5_, h4_, rfl⟩)⟩
  · simp only [li_0, li_31] at h4_
    exact w_zret rfl dX11_isBits_7 ⟨by decide, by decide⟩ ⟨rfl, (Or.inr ⟨rfl, h4_⟩), (Or.inr ⟨hs5_, h4_, rfl⟩)⟩
def SP_X7_isCell (v : Int32) (Mz : mM) (r_ : Int32) : Prop := (((v.toInt < 0) ∧ r_ = 0) ∨ ((0 ≤ v.toInt) ∧ (((192 ≤ v.toInt) ∧ r_ = 0) ∨ ((v.toInt < 192) ∧ r_ = 1))))
theorem lf_c_X7_isCell_0  (v : Int32) (h1_ : v.toInt < 0) : ¬ (0 ≤ v.toInt ∧ v.toInt ≤ 191) := by have r_v := rngI v; omega
theorem lf_c_X7_isCell_1  (v : Int32) (h1_ : 0 ≤ v.toInt) (h2_ : 192 ≤ v.toInt) : ¬ (0 ≤ v.toInt ∧ v.toInt ≤ 191) := by have r_v := rngI v; omega
theorem lf_c_X7_isCell_2  (v : Int32) (h1_ : 0 ≤ v.toInt) (h2_ : v.toInt < 192) : 0 ≤ v.toInt ∧ v.toInt ≤ 191 := by have r_v := rngI v; omega
set_option maxHeartbeats 4000000 in
set_option maxRecDepth 100000 in
theorem c_X7_isCell (l : Launch) (G : va_G) (cy : Nat → ClassId) (ad : rf → Nat) (d : Nat) (v : Int32) (Mz : mM) (hIz : Inv Mz) : WP CC l G cy ad yX7_isCell cX7_isCell 1 (some .boolean) d 0 [(0, vI v)] [] Mz (fun r M' => Mz = M' ∧ (((r = 1 ∧ 0 ≤ v.toInt ∧ v.toInt ≤ 191) ∨ (r = 0 ∧ ¬ (0 ≤ v.toInt ∧ v.toInt ≤ 191)))) ∧ SP_X7_isCell v Mz r) := by
  refine w_iload_n dX7_isCell_0 rfl 0 rfl ?_
  refine w_if_lt (tgt := 15) dX7_isCell_1 (by decide) (rfl : v.toInt = v.toInt) (fun h1_ => ?_) (fun h1_ => ?_)
  · refine w_iconst (v := 0) dX7_isCell_15 (by decide) ?_
    exact w_zret rfl dX7_isCell_16 ⟨by decide, by decide⟩ ⟨rfl, (Or.inr ⟨rfl, (lf_c_X7_isCell_0 v h1_)⟩), (Or.inl ⟨h1_, rfl⟩)⟩
  · refine w_iload_n dX7_isCell_4 rfl 0 rfl ?_
    refine w_sipush (v := 192) dX7_isCell_5 (by decide) ?_
    refine w_icmp_ge (tgt := 15) dX7_isCell_8 (by decide) (rfl : v.toInt = v.toInt) li_192 (fun h2_ => ?_) (fun h2_ => ?_)
    · refine w_iconst (v := 0) dX7_isCell_15 (by decide) ?_
      exact w_zret rfl dX7_isCell_16 ⟨by decide, by decide⟩ ⟨rfl, (Or.inr ⟨rfl, (lf_c_X7_isCell_1 v h1_ h2_)⟩), (Or.inr ⟨h1_, (Or.inl ⟨h2_, rfl⟩)⟩)⟩
    · refine w_iconst (v := 1) dX7_isCell_11 (by decide) ?_
      refine w_goto (tgt := 16) dX7_isCell_12 (by decide) ?_
      exact w_zret rfl dX7_isCell_16 ⟨by decide, by decide⟩ ⟨rfl, (Or.inl ⟨rfl, (lf_c_X7_isCell_2 v h1_ h2_)⟩), (Or.inr ⟨h1_, (Or.inr ⟨h2_, rfl⟩)⟩)⟩
def SP_X7_isSide (v : Int32) (Mz : mM) (r_ : Int32) : Prop := (((v.toInt < 0) ∧ r_ = 0) ∨ ((0 ≤ v.toInt) ∧ (((8 ≤ v.toInt) ∧ r_ = 0) ∨ ((v.toInt < 8) ∧ r_ = 1))))
theorem lf_c_X7_isSide_0  (v : Int32) (h1_ : v.toInt < 0) : ¬ (0 ≤ v.toInt ∧ v.toInt ≤ 7) := by have r_v := rngI v; omega
theorem lf_c_X7_isSide_1  (v : Int32) (h1_ : 0 ≤ v.toInt) (h2_ : 8 ≤ v.toInt) : ¬ (0 ≤ v.toInt ∧ v.toInt ≤ 7) := by have r_v := rngI v; omega
theorem lf_c_X7_isSide_2  (v : Int32) (h1_ : 0 ≤ v.toInt) (h2_ : v.toInt < 8) : 0 ≤ v.toInt ∧ v.toInt ≤ 7 := by have r_v := rngI v; omega
set_option maxHeartbeats 4000000 in
set_option maxRecDepth 100000 in
theorem c_X7_isSide (l : Launch) (G : va_G) (cy : Nat → ClassId) (ad : rf → Nat) (d : Nat) (v : Int32) (Mz : mM) (hIz : Inv Mz) : WP CC l G cy ad yX7_isSide cX7_isSide 1 (some .boolean) d 0 [(0, vI v)] [] Mz (fun r M' => Mz = M' ∧ (((r = 1 ∧ 0 ≤ v.toInt ∧ v.toInt ≤ 7) ∨ (r = 0 ∧ ¬ (0 ≤ v.toInt ∧ v.toInt ≤ 7)))) ∧ SP_X7_isSide v Mz r) := by
  refine w_iload_n dX7_isSide_0 rfl 0 rfl ?_
  refine w_if_lt (tgt := 14) dX7_isSide_1 (by decide) (rfl : v.toInt = v.toInt) (fun h1_ => ?_) (fun h1_ => ?_)
  · refine w_iconst (v := 0) dX7_isSide_14 (by decide) ?_
    exact w_zret rfl dX7_isSide_15 ⟨by decide, by decide⟩ ⟨rfl, (Or.inr ⟨rfl, (lf_c_X7_isSide_0 v h1_)⟩), (Or.inl ⟨h1_, rfl⟩)⟩
  · refine w_iload_n dX7_isSide_4 rfl 0 rfl ?_
    refine w_bipush (v := 8) dX7_isSide_5 (by decide) ?_
    refine w_icmp_ge (tgt := 14) dX7_isSide_7 (by decide) (rfl : v.toInt = v.toInt) li_8 (fun h2_ => ?_) (fun h2_ => ?_)
    · refine w_iconst (v := 0) dX7_isSide_14 (by decide) ?_
      exact w_zret rfl dX7_isSide_15 ⟨by decide, by decide⟩ ⟨rfl, (Or.inr ⟨rfl, (lf_c_X7_isSide_1 v h1_ h2_)⟩), (Or.inr ⟨h1_, (Or.inl ⟨h2_, rfl⟩)⟩)⟩
    · refine w_iconst (v := 1) dX7_isSide_10 (by decide) ?_
      refine w_goto (tgt := 15) dX7_isSide_11 (by decide) ?_
      exact w_zret rfl dX7_isSide_15 ⟨by decide, by decide⟩ ⟨rfl, (Or.inl ⟨rfl, (lf_c_X7_isSide_2 v h1_ h2_)⟩), (Or.inr ⟨h1_, (Or.inr ⟨h2_, rfl⟩)⟩)⟩
def SP_X7_cellFrom (v : Int32) (sd : Int32) (yd : Int32) (Mz : mM) (r_ : Int32) : Prop := (((SP_X7_isCell v Mz (1 : Int32)) ∧ (0 ≤ v.toInt ∧ v.toInt ≤ 191) ∧ (((SP_X7_isSide sd Mz (1 : Int32)) ∧ (0 ≤ sd.toInt ∧ sd.toInt ≤ 7) ∧ (((yd.toInt < 0) ∧ r_ = (-1)) ∨ ((0 ≤ yd.toInt) ∧ (((yd.toInt ≤ 16) ∧ ∃ z15_ : Int32, (z15_.toInt = v.toInt % 16) ∧ ∃ j19_ : Nat, ((j19_ : Int) = sd.toInt) ∧ ∃ z17_ : Int32, (z17_ = ([0, 1, 1, 1, 0, -1, -1, -1] : List Int32).getD j19_ 0) ∧ ∃ z21_ : Int32, (z21_ = yd * z17_) ∧ ∃ z23_ : Int32, (z23_ = z15_ + z21_) ∧ ∃ z25_ : Int32, (z25_.toInt = v.toInt / 16) ∧ ∃ j29_ : Nat, ((j29_ : Int) = sd.toInt) ∧ ∃ z27_ : Int32, (z27_ = ([-1, -1, 0, 1, 1, 1, 0, -1] : List Int32).getD j29_ 0) ∧ ∃ z31_ : Int32, (z31_ = yd * z27_) ∧ ∃ z33_ : Int32, (z33_ = z25_ + z31_) ∧ (((z23_.toInt < 0) ∧ r_ = (-1)) ∨ ((0 ≤ z23_.toInt) ∧ (((16 ≤ z23_.toInt) ∧ r_ = (-1)) ∨ ((z23_.toInt < 16) ∧ (((z33_.toInt < 0) ∧ r_ = (-1)) ∨ ((0 ≤ z33_.toInt) ∧ (((z33_.toInt < 12) ∧ ∃ z39_ : Int32, (z39_.toInt = 16 * z33_.toInt) ∧ ∃ z41_ : Int32, (z41_.toInt = z39_.toInt + z23_.toInt) ∧ r_ = z41_) ∨ ((12 ≤ z33_.toInt) ∧ r_ = (-1)))))))))) ∨ ((16 < yd.toInt) ∧ r_ = (-1)))))) ∨ ((SP_X7_isSide sd Mz (0 : Int32)) ∧ (¬ (0 ≤ sd.toInt ∧ sd.toInt ≤ 7)) ∧ r_ = (-1)))) ∨ ((SP_X7_isCell v Mz (0 : Int32)) ∧ (¬ (0 ≤ v.toInt ∧ v.toInt ≤ 191)) ∧ r_ = (-1)))
theorem lf_c_X7_cellFrom_0    : -1 ≤ ((-1) : Int32).toInt ∧ ((-1) : Int32).toInt ≤ 191 := by have r9 := li_m1; omega
theorem lf_c_X7_cellFrom_1  (v : Int32) (h4_ : 0 ≤ v.toInt ∧ v.toInt ≤ 191) : 0 ≤ v.toInt := by have r_v := rngI v; omega
theorem lf_c_X7_cellFrom_2  (sd : Int32) (h10_ : 0 ≤ sd.toInt ∧ sd.toInt ≤ 7) : 0 ≤ sd.toInt ∧ sd.toInt < ((8 : Nat) : Int) := by have r_sd := rngI sd; omega
theorem lf_c_X7_cellFrom_3  (v : Int32) (z15_ : Int32) (h4_ : 0 ≤ v.toInt ∧ v.toInt ≤ 191) (h16_ : z15_.toInt = v.toInt % 16) : 0 ≤ v.toInt := by have r_v := rngI v; have r_z15_ := rngI z15_; omega
theorem lf_c_X7_cellFrom_4  (sd : Int32) (j19_ : Nat) (h10_ : 0 ≤ sd.toInt ∧ sd.toInt ≤ 7) (h20_ : (j19_ : Int) = sd.toInt) : 0 ≤ sd.toInt ∧ sd.toInt < ((8 : Nat) : Int) := by have r_sd := rngI sd; omega
theorem lf_c_X7_cellFrom_5    : -1 ≤ ((-1) : Int32).toInt ∧ ((-1) : Int32).toInt ≤ 191 := by have r9 := li_m1; omega
theorem lf_c_X7_cellFrom_6    : -1 ≤ ((-1) : Int32).toInt ∧ ((-1) : Int32).toInt ≤ 191 := by have r9 := li_m1; omega
theorem lf_c_X7_cellFrom_7    : -1 ≤ ((-1) : Int32).toInt ∧ ((-1) : Int32).toInt ≤ 191 := by have r9 := li_m1; omega
theorem lf_c_X7_cellFrom_8  (z33_ : Int32) (h37_ : 0 ≤ z33_.toInt) (h38_ : z33_.toInt < 12) : -2147483648 ≤ 16 * z33_.toInt ∧ 16 * z33_.toInt < 2147483648 := by have r_z33_ := rngI z33_; omega
theorem lf_c_X7_cellFrom_9  (z23_ : Int32) (z33_ : Int32) (z39_ : Int32) (h35_ : 0 ≤ z23_.toInt) (h36_ : z23_.toInt < 16) (h37_ : 0 ≤ z33_.toInt) (h38_ : z33_.toInt < 12) (h40_ : z39_.toInt = 16 * z33_.toInt) : -2147483648 ≤ z39_.toInt + z23_.toInt ∧ z39_.toInt + z23_.toInt < 2147483648 := by have r_z23_ := rngI z23_; have r_z33_ := rngI z33_; have r_z39_ := rngI z39_; omega
theorem lf_c_X7_cellFrom_10  (z23_ : Int32) (z33_ : Int32) (z39_ : Int32) (z41_ : Int32) (h35_ : 0 ≤ z23_.toInt) (h36_ : z23_.toInt < 16) (h37_ : 0 ≤ z33_.toInt) (h38_ : z33_.toInt < 12) (h40_ : z39_.toInt = 16 * z33_.toInt) (h42_ : z41_.toInt = z39_.toInt + z23_.toInt) : -1 ≤ z41_.toInt ∧ z41_.toInt ≤ 191 := by have r_z23_ := rngI z23_; have r_z33_ := rngI z33_; have r_z39_ := rngI z39_; have r_z41_ := rngI z41_; omega
theorem lf_c_X7_cellFrom_11    : -1 ≤ ((-1) : Int32).toInt ∧ ((-1) : Int32).toInt ≤ 191 := by have r9 := li_m1; omega
theorem lf_c_X7_cellFrom_12    : -1 ≤ ((-1) : Int32).toInt ∧ ((-1) : Int32).toInt ≤ 191 := by have r9 := li_m1; omega
theorem lf_c_X7_cellFrom_13    : -1 ≤ ((-1) : Int32).toInt ∧ ((-1) : Int32).toInt ≤ 191 := by have r9 := li_m1; omega
theorem lf_c_X7_cellFrom_14    : -1 ≤ ((-1) : Int32).toInt ∧ ((-1) : Int32).toInt ≤ 191 := by have r9 := li_m1; omega
set_option maxHeartbeats 4000000 in
set_option maxRecDepth 100000 in
theorem c_X7_cellFrom (l : Launch) (G : va_G) (cy : Nat → ClassId) (ad : rf → Nat) (d : Nat) (v : Int32) (sd : Int32) (yd : Int32) (Mz : mM) (hIz : Inv Mz) : WP CC l G cy ad yX7_cellFrom cX7_cellFrom 5 (some .int) (d + 1) 0 [(0, vI v), (1, vI sd), (2, vI yd)] [] Mz (fun r M' => Mz = M' ∧ (-1 ≤ r.toInt ∧ r.toInt ≤ 191) ∧ SP_X7_cellFrom v sd yd Mz r) := by
  refine w_iload_n dX7_cellFrom_0 rfl 0 rfl ?_
  refine w_callS (as := [vI v]) (rest := []) (c_X7_isCell l G cy ad d v Mz hIz) kS_X7_isCell (by decide +kernel) (Nat.le_of_ble_eq_true rfl) m_509 rfl rfl (by decide) (Nat.le_of_ble_eq_true rfl) dX7_cellFrom_1 (fun r1_ M2_ q3_ => ?_)
  obtain ⟨rfl, h4_, hs5_⟩ := q3_
  rcases h4_ with ⟨rfl, h4_⟩ | ⟨rfl, h4_⟩
  · refine w_if_eq (tgt := 24) dX7_cellFrom_4 (by decide) li_1 (fun h9 => (absurd h9 (by decide))) (fun h6_ => ?_)
    refine w_iload_n dX7_cellFrom_7 rfl 1 rfl ?_
    refine w_callS (as := [vI sd]) (rest := []) (c_X7_isSide l G cy ad d sd Mz hIz) kS_X7_isSide (by decide +kernel) (Nat.le_of_ble_eq_true rfl) m_852 rfl rfl (by decide) (Nat.le_of_ble_eq_true rfl) dX7_cellFrom_8 (fun r7_ M8_ q9_ => ?_)
    obtain ⟨rfl, h10_, hs11_⟩ := q9_
    rcases h10_ with ⟨rfl, h10_⟩ | ⟨rfl, h10_⟩
    · refine w_if_eq (tgt := 24) dX7_cellFrom_11 (by decide) li_1 (fun h9 => (absurd h9 (by decide))) (fun h12_ => ?_)
      refine w_iload_n dX7_cellFrom_14 rfl 2 rfl ?_
      refine w_if_lt (tgt := 24) dX7_cellFrom_15 (by decide) (rfl : yd.toInt = yd.toInt) (fun h13_ => ?_) (fun h13_ => ?_)
      · refine w_iconst (v := (-1)) dX7_cellFrom_24 (by decide) ?_
        exact w_iret rfl dX7_cellFrom_25 ⟨rfl, (lf_c_X7_cellFrom_0 ), (Or.inl ⟨hs5_, h4_, (Or.inl ⟨hs11_, h10_, (Or.inl ⟨h13_, rfl⟩)⟩)⟩)⟩
      · refine w_iload_n dX7_cellFrom_18 rfl 2 rfl ?_
        refine w_bipush (v := 16) dX7_cellFrom_19 (by decide) ?_
        refine w_icmp_le (tgt := 26) dX7_cellFrom_21 (by decide) (rfl : yd.toInt = yd.toInt) li_16 (fun h14_ => ?_) (fun h14_ => ?_)
        · refine w_iload_n dX7_cellFrom_26 rfl 0 rfl ?_
          refine w_bipush (v := 16) dX7_cellFrom_27 (by decide) ?_
          refine w_iremB dX7_cellFrom_29 (by decide) (rfl : v.toInt = v.toInt) li_16 (lf_c_X7_cellFrom_1 v h4_) (by decide) (fun z15_ h16_ => ?_)
          refine w_iload_n dX7_cellFrom_30 rfl 2 rfl ?_
          refine w_gets (k := 4) rfl m_853 dX7_cellFrom_31 ?_
          refine w_iload_n dX7_cellFrom_34 rfl 1 rfl ?_
          refine w_iaT (k := 4) rfl (rfl : sd.toInt = sd.toInt) (lf_c_X7_cellFrom_2 sd h10_) dX7_cellFrom_35 (fun j19_ h20_ z17_ e18_ => ?_)
          refine w_imul dX7_cellFrom_36 (fun z21_ h22_ => ?_)
          refine w_iadd dX7_cellFrom_37 (fun z23_ h24_ => ?_)
          refine w_istore_n (ls' := [(3, vI z23_), (0, vI v), (1, vI sd), (2, vI yd)]) dX7_cellFrom_38 rfl (by decide) rfl ?_
          refine w_iload_n dX7_cellFrom_39 rfl 1 rfl ?_
          refine w_bipush (v := 16) dX7_cellFrom_40 (by decide) ?_
          refine w_idivB dX7_cellFrom_42 (by decide) (rfl : v.toInt = v.toInt) li_16 (lf_c_X7_cellFrom_3 v z15_ h4_ h16_) (by decide) (fun z25_ h26_ => ?_)
          refine w_iload_n dX7_cellFrom_43 rfl 3 rfl ?_
          refine w_gets (k := 5) rfl m_855 dX7_cellFrom_44 ?_
          refine w_iload_n dX7_cellFrom_47 rfl 2 rfl ?_
          refine w_iaT (k := 5) rfl (rfl : sd.toInt = sd.toInt) (lf_c_X7_cellFrom_4 sd j19_ h10_ h20_) dX7_cellFrom_48 (fun j29_ h30_ z27_ e28_ => ?_)
          refine w_imul dX7_cellFrom_49 (fun z31_ h32_ => ?_)
          refine w_iadd dX7_cellFrom_50 (fun z33_ h34_ => ?_)
          refine w_istore (ls' := [(4, vI z33_), (3, vI z23_), (0, vI v), (1, vI sd), (2, vI yd)]) dX7_cellFrom_51 (by decide) rfl ?_
          refine w_iload_n dX7_cellFrom_53 rfl 1 rfl ?_
          refine w_if_lt (tgt := 75) dX7_cellFrom_54 (by decide) (rfl : z23_.toInt = z23_.toInt) (fun h35_ => ?_) (fun h35_ => ?_)
          · refine w_iconst (v := (-1)) dX7_cellFrom_75 (by decide) ?_
            refine w_goto (tgt := 86) dX7_cellFrom_76 (by decide) ?_
            exact w_iret rfl dX7_cellFrom_86 ⟨rfl, (lf_c_X7_cellFrom_5 ), (Or.inl ⟨hs5_, h4_, (Or.inl ⟨hs11_, h10_, (Or.inr ⟨h13_, (Or.inl ⟨h14_, z15_, h16_, j19_, h20_, z17_, e18_, z21_, h22_, z23_, h24_, z25_, h26_, j29_, h30_, z27_, e28_, z31_, h32_, z33_, h34_, (Or.inl ⟨h35_, rfl⟩)⟩)⟩)⟩)⟩)⟩
          · refine w_iload_n dX7_cellFrom_57 rfl 1 rfl ?_
            refine w_bipush (v := 16) dX7_cellFrom_58 (by decide) ?_
            refine w_icmp_ge (tgt := 75) dX7_cellFrom_60 (by decide) (rfl : z23_.toInt = z23_.toInt) li_16 (fun h36_ => ?_) (fun h36_ => ?_)
            · refine w_iconst (v := (-1)) dX7_cellFrom_75 (by decide) ?_
              refine w_goto (tgt := 86) dX7_cellFrom_76 (by decide) ?_
              exact w_iret rfl dX7_cellFrom_86 ⟨rfl, (lf_c_X7_cellFrom_6 ), (Or.inl ⟨hs5_, h4_, (Or.inl ⟨hs11_, h10_, (Or.inr ⟨h13_, (Or.inl ⟨h14_, z15_, h16_, j19_, h20_, z17_, e18_, z21_, h22_, z23_, h24_, z25_, h26_, j29_, h30_, z27_, e28_, z31_, h32_, z33_, h34_, (Or.inr ⟨h35_, (Or.inl ⟨h36_, rfl⟩)⟩)⟩)⟩)⟩)⟩)⟩
            · refine w_iload dX7_cellFrom_63 0 rfl ?_
              refine w_if_lt (tgt := 75) dX7_cellFrom_65 (by decide) (rfl : z33_.toInt = z33_.toInt) (fun h37_ => ?_) (fun h37_ => ?_)
              · refine w_iconst (v := (-1)) dX7_cellFrom_75 (by decide) ?_
                refine w_goto (tgt := 86) dX7_cellFrom_76 (by decide) ?_
                exact w_iret rfl dX7_cellFrom_86 ⟨rfl, (lf_c_X7_cellFrom_7 ), (Or.inl ⟨hs5_, h4_, (Or.inl ⟨hs11_, h10_, (Or.inr ⟨h13_, (Or.inl ⟨h14_, z15_, h16_, j19_, h20_, z17_, e18_, z21_, h22_, z23_, h24_, z25_, h26_, j29_, h30_, z27_, e28_, z31_, h32_, z33_, h34_, (Or.inr ⟨h35_, (Or.inr ⟨h36_, (Or.inl ⟨h37_, rfl⟩)⟩)⟩)⟩)⟩)⟩)⟩)⟩
              · refine w_iload dX7_cellFrom_68 0 rfl ?_
                refine w_bipush (v := 12) dX7_cellFrom_70 (by decide) ?_
                refine w_icmp_lt (tgt := 79) dX7_cellFrom_72 (by decide) (rfl : z33_.toInt = z33_.toInt) li_12 (fun h38_ => ?_) (fun h38_ => ?_)
                · refine w_bipush (v := 16) dX7_cellFrom_79 (by decide) ?_
                  refine w_iload dX7_cellFrom_81 0 rfl ?_
                  refine w_imulB dX7_cellFrom_83 li_16 (rfl : z33_.toInt = z33_.toInt) (lf_c_X7_cellFrom_8 z33_ h37_ h38_) (fun z39_ h40_ => ?_)
                  refine w_iload_n dX7_cellFrom_84 rfl 1 rfl ?_
                  refine w_iaddB dX7_cellFrom_85 (rfl : z39_.toInt = z39_.toInt) (rfl : z23_.toInt = z23_.toInt) (lf_c_X7_cellFrom_9 z23_ z33_ z39_ h35_ h36_ h37_ h38_ h40_) (fun z41_ h42_ => ?_)
                  exact w_iret rfl dX7_cellFrom_86 ⟨rfl, (lf_c_X7_cellFrom_10 z23_ z33_ z39_ z41_ h35_ h36_ h37_ h38_ h40_ h42_), (Or.inl ⟨hs5_, h4_, (Or.inl ⟨hs11_, h10_, (Or.inr ⟨h13_, (Or.inl ⟨h14_, z15_, h16_, j19_, h20_, z17_, e18_, z21_, h22_, z23_, h24_, z25_, h26_, j29_, h30_, z27_, e28_, z31_, h32_, z33_, h34_, (Or.inr ⟨h35_, (Or.inr ⟨h36_, (Or.inr ⟨h37_, (Or.inl ⟨h38_, z39_, h40_, z41_, h42_, rfl⟩)⟩)⟩)⟩)⟩)⟩)⟩)⟩)⟩
                · refine w_iconst (v := (-1)) dX7_cellFrom_75 (by decide) ?_
                  refine w_goto (tgt := 86) dX7_cellFrom_76 (by decide) ?_
                  exact w_iret rfl dX7_cellFrom_86 ⟨rfl, (lf_c_X7_cellFrom_11 ), (Or.inl ⟨hs5_, h4_, (Or.inl ⟨hs11_, h10_, (Or.inr ⟨h13_, (Or.inl ⟨h14_, z15_, h16_, j19_, h20_, z17_, e18_, z21_, h22_, z23_, h24_, z25_, h26_, j29_, h30_, z27_, e28_, z31_, h32_, z33_, h34_, (Or.inr ⟨h35_, (Or.inr ⟨h36_, (Or.inr ⟨h37_, (Or.inr ⟨h38_, rfl⟩)⟩)⟩)⟩)⟩)⟩)⟩)⟩)⟩
        · refine w_iconst (v := (-1)) dX7_cellFrom_24 (by decide) ?_
          exact w_iret rfl dX7_cellFrom_25 ⟨rfl, (lf_c_X7_cellFrom_12 ), (Or.inl ⟨hs5_, h4_, (Or.inl ⟨hs11_, h10_, (Or.inr ⟨h13_, (Or.inr ⟨h14_, rfl⟩)⟩)⟩)⟩)⟩
    · refine w_if_eq (tgt := 24) dX7_cellFrom_11 (by decide) li_0 (fun h43_ => ?_) (fun h9 => (absurd h9 (by decide)))
      refine w_iconst (v := (-1)) dX7_cellFrom_24 (by decide) ?_
      exact w_iret rfl dX7_cellFrom_25 ⟨rfl, (lf_c_X7_cellFrom_13 ), (Or.inl ⟨hs5_, h4_, (Or.inr ⟨hs11_, h10_, rfl⟩)⟩)⟩
  · refine w_if_eq (tgt := 24) dX7_cellFrom_4 (by decide) li_0 (fun h44_ => ?_) (fun h9 => (absurd h9 (by decide)))
    refine w_iconst (v := (-1)) dX7_cellFrom_24 (by decide) ?_
    exact w_iret rfl dX7_cellFrom_25 ⟨rfl, (lf_c_X7_cellFrom_14 ), (Or.inr ⟨hs5_, h4_, rfl⟩)⟩
def SP_X9_kindAbove (v : Int32) (Mz : mM) (r_ : Int32) : Prop := (((v.toInt < 0) ∧ r_ = (-1)) ∨ ((0 ≤ v.toInt) ∧ (((8 ≤ v.toInt) ∧ r_ = (-1)) ∨ ((v.toInt < 8) ∧ ∃ j5_ : Nat, ((j5_ : Int) = v.toInt) ∧ ∃ z3_ : Int32, (z3_ = ([-1, 0, 0, 0, 0, 1, 3, 1] : List Int32).getD j5_ 0) ∧ r_ = z3_))))
theorem lf_c_X9_kindAbove_0  (v : Int32) (h1_ : 0 ≤ v.toInt) (h2_ : v.toInt < 8) : 0 ≤ v.toInt ∧ v.toInt < ((8 : Nat) : Int) := by have r_v := rngI v; omega
set_option maxHeartbeats 4000000 in
set_option maxRecDepth 100000 in
theorem c_X9_kindAbove (l : Launch) (G : va_G) (cy : Nat → ClassId) (ad : rf → Nat) (d : Nat) (v : Int32) (Mz : mM) (hIz : Inv Mz) : WP CC l G cy ad yX9_kindAbove cX9_kindAbove 1 (some .int) d 0 [(0, vI v)] [] Mz (fun r M' => Mz = M' ∧ (True) ∧ SP_X9_kindAbove v Mz r) := by
  refine w_iload_n dX9_kindAbove_0 rfl 0 rfl ?_
  refine w_if_lt (tgt := 18) dX9_kindAbove_1 (by decide) (rfl : v.toInt = v.toInt) (fun h1_ => ?_) (fun h1_ => ?_)
  · refine w_iconst (v := (-1)) dX9_kindAbove_18 (by decide) ?_
    exact w_iret rfl dX9_kindAbove_19 ⟨rfl, trivial, (Or.inl ⟨h1_, rfl⟩)⟩
  · refine w_iload_n dX9_kindAbove_4 rfl 0 rfl ?_
    refine w_bipush (v := 8) dX9_kindAbove_5 (by decide) ?_
    refine w_icmp_ge (tgt := 18) dX9_kindAbove_7 (by decide) (rfl : v.toInt = v.toInt) li_8 (fun h2_ => ?_) (fun h2_ => ?_)
    · refine w_iconst (v := (-1)) dX9_kindAbove_18 (by decide) ?_
      exact w_iret rfl dX9_kindAbove_19 ⟨rfl, trivial, (Or.inr ⟨h1_, (Or.inl ⟨h2_, rfl⟩)⟩)⟩
    · refine w_gets (k := 3) rfl m_646 dX9_kindAbove_10 ?_
      refine w_iload_n dX9_kindAbove_13 rfl 0 rfl ?_
      refine w_iaT (k := 3) rfl (rfl : v.toInt = v.toInt) (lf_c_X9_kindAbove_0 v h1_ h2_) dX9_kindAbove_14 (fun j5_ h6_ z3_ e4_ => ?_)
      refine w_goto (tgt := 19) dX9_kindAbove_15 (by decide) ?_
      exact w_iret rfl dX9_kindAbove_19 ⟨rfl, trivial, (Or.inr ⟨h1_, (Or.inr ⟨h2_, j5_, h6_, z3_, e4_, rfl⟩)⟩)⟩
end
section
/-! words of the tables that are used, by their places; decode rows; fields -/
theorem li_m2 : ((-2) : Int32).toInt = -2 := by decide
theorem li_2 : (2 : Int32).toInt = 2 := by decide
theorem li_5 : (5 : Int32).toInt = 5 := by decide
theorem li_48 : (48 : Int32).toInt = 48 := by decide
theorem li_2000 : (2000 : Int32).toInt = 2000 := by decide
theorem li_2063 : (2063 : Int32).toInt = 2063 := by decide
theorem li_2126 : (2126 : Int32).toInt = 2126 := by decide
set_option maxRecDepth 20000 in
theorem m_85 : Cond.initialized RX5 ∈ BASE := bmT1 7 rfl rfl
set_option maxRecDepth 20000 in
theorem m_86 : Cond.initialized "java/lang/Math" ∈ BASE := bmT1 8 rfl rfl
set_option maxRecDepth 20000 in
theorem m_98 : Cond.initialized "java/lang/System" ∈ BASE := bmT1 20 rfl rfl
set_option maxRecDepth 20000 in
theorem m_160 : Cond.fieldLink RX1 9 "ClickStreet$Formula" "codes" "[I" ∈ BASE := bmT1 82 rfl rfl
set_option maxRecDepth 20000 in
theorem m_161 : Cond.fieldLink RX1 13 "ClickStreet$Formula" "stack" "[I" ∈ BASE := bmT1 83 rfl rfl
set_option maxRecDepth 20000 in
theorem m_162 : Cond.fieldLink RX1 16 "ClickStreet$Formula" "size" "I" ∈ BASE := bmT1 84 rfl rfl
set_option maxRecDepth 20000 in
theorem m_208 : Cond.fieldLink RX5 19 "ClickStreet$Row" "numbers" "[I" ∈ BASE := bmT1 130 rfl rfl
set_option maxRecDepth 20000 in
theorem m_209 : Cond.fieldLink RX5 7 "ClickStreet$Row" "size" "I" ∈ BASE := bmT1 131 rfl rfl
set_option maxRecDepth 20000 in
theorem m_713 : Cond.instanceMethod yX5_get ∈ BASE := bmT3 155 rfl rfl
set_option maxRecDepth 20000 in
theorem m_714 : Cond.selects yX5_get.cls yX5_get yX5_get ∈ BASE := bmT3 156 rfl rfl
set_option maxRecDepth 20000 in
theorem m_715 : Cond.code yX5_get cX5_get 2 (some .int) ∈ BASE := bmT3 157 rfl rfl
set_option maxRecDepth 20000 in
theorem m_770 : Cond.static Lib.Math.min.name ∈ BASE := bmT3 212 rfl rfl
set_option maxRecDepth 20000 in
theorem m_771 : Cond.code Lib.Math.min.name Lib.Math.min.code 2 (some .int) ∈ BASE := bmT3 213 rfl rfl
set_option maxRecDepth 20000 in
theorem m_828 : Cond.methodLink RX1 20 arraycopyName ∈ BASE := bmT4 30 rfl rfl
set_option maxRecDepth 20000 in
theorem m_829 : Cond.static arraycopyName ∈ BASE := bmT4 31 rfl rfl
set_option maxRecDepth 20000 in
theorem m_830 : Cond.native arraycopyName ∈ BASE := bmT4 32 rfl rfl
set_option maxRecDepth 20000 in
theorem m_1146 : Cond.methodLink RX5 23 Lib.Math.min.name ∈ BASE := bmT5 108 rfl rfl
set_option maxRecDepth 20000 in
theorem m_1147 : Cond.methodLink RX5 26 yX5_get ∈ BASE := bmT5 109 rfl rfl
theorem kV_X5_get : KV yX5_get cX5_get 2 (some .int) 1 := ⟨m_713, m_714, m_85, m_715, nhM_2, nhV_2, pdn_2⟩
theorem inB1 : ∀ w ∈ u_ws RX1 TX1 3, w ∈ BASE := bmems (u_ws RX1 TX1 3) [163, 165, 167] (by decide +kernel) (by decide +kernel)
theorem inB5 : ∀ w ∈ u_ws RX5 TX5 2, w ∈ BASE := bmems (u_ws RX5 TX5 2) [213, 215] (by decide +kernel) (by decide +kernel)
theorem fl_RX1_13 : FLK RX1 13 1 1 (.array .int) true := ⟨RX1, TX1, 3, tyX1, rfl, inB1, tyX1_ok, nmX1, by decide, rfl, rfl, Or.inl m_161⟩
theorem fl_RX1_16 : FLK RX1 16 1 2 .int false := ⟨RX1, TX1, 3, tyX1, rfl, inB1, tyX1_ok, nmX1, by decide, rfl, rfl, Or.inl m_162⟩
theorem fl_RX1_9 : FLK RX1 9 1 0 (.array .int) true := ⟨RX1, TX1, 3, tyX1, rfl, inB1, tyX1_ok, nmX1, by decide, rfl, rfl, Or.inl m_160⟩
theorem fl_RX5_19 : FLK RX5 19 5 0 (.array .int) true := ⟨RX5, TX5, 2, tyX5, rfl, inB5, tyX5_ok, nmX5, by decide, rfl, rfl, Or.inl m_208⟩
theorem fl_RX5_7 : FLK RX5 7 5 1 .int false := ⟨RX5, TX5, 2, tyX5, rfl, inB5, tyX5_ok, nmX5, by decide, rfl, rfl, Or.inl m_209⟩
theorem dX1_add_0 : decode cX1_add 0 = .ok (.aload_n 0, 1) := by decide +kernel
theorem dX1_add_1 : decode cX1_add 1 = .ok (.getfield 16, 3) := by decide +kernel
theorem dX1_add_4 : decode cX1_add 4 = .ok (.ifCond .lt 32, 3) := by decide +kernel
theorem dX1_add_7 : decode cX1_add 7 = .ok (.aload_n 0, 1) := by decide +kernel
theorem dX1_add_8 : decode cX1_add 8 = .ok (.getfield 16, 3) := by decide +kernel
theorem dX1_add_11 : decode cX1_add 11 = .ok (.bipush 48, 2) := by decide +kernel
theorem dX1_add_13 : decode cX1_add 13 = .ok (.if_icmp .ge 23, 3) := by decide +kernel
theorem dX1_add_16 : decode cX1_add 16 = .ok (.aload_n 0, 1) := by decide +kernel
theorem dX1_add_17 : decode cX1_add 17 = .ok (.getfield 9, 3) := by decide +kernel
theorem dX1_add_20 : decode cX1_add 20 = .ok (.aload_n 0, 1) := by decide +kernel
theorem dX1_add_21 : decode cX1_add 21 = .ok (.getfield 16, 3) := by decide +kernel
theorem dX1_add_24 : decode cX1_add 24 = .ok (.iload_n 1, 1) := by decide +kernel
theorem dX1_add_25 : decode cX1_add 25 = .ok (.iastore, 1) := by decide +kernel
theorem dX1_add_26 : decode cX1_add 26 = .ok (.aload_n 0, 1) := by decide +kernel
theorem dX1_add_27 : decode cX1_add 27 = .ok (.dup, 1) := by decide +kernel
theorem dX1_add_28 : decode cX1_add 28 = .ok (.getfield 16, 3) := by decide +kernel
theorem dX1_add_31 : decode cX1_add 31 = .ok (.iconst 1, 1) := by decide +kernel
theorem dX1_add_32 : decode cX1_add 32 = .ok (.iadd, 1) := by decide +kernel
theorem dX1_add_33 : decode cX1_add 33 = .ok (.putfield 16, 3) := by decide +kernel
theorem dX1_add_36 : decode cX1_add 36 = .ok (.return_, 1) := by decide +kernel
theorem dX1_clear_0 : decode cX1_clear 0 = .ok (.aload_n 0, 1) := by decide +kernel
theorem dX1_clear_1 : decode cX1_clear 1 = .ok (.iconst 0, 1) := by decide +kernel
theorem dX1_clear_2 : decode cX1_clear 2 = .ok (.putfield 16, 3) := by decide +kernel
theorem dX1_clear_5 : decode cX1_clear 5 = .ok (.return_, 1) := by decide +kernel
theorem dX1_isGiven_0 : decode cX1_isGiven 0 = .ok (.aload_n 0, 1) := by decide +kernel
theorem dX1_isGiven_1 : decode cX1_isGiven 1 = .ok (.getfield 16, 3) := by decide +kernel
theorem dX1_isGiven_4 : decode cX1_isGiven 4 = .ok (.ifCond .le 7, 3) := by decide +kernel
theorem dX1_isGiven_7 : decode cX1_isGiven 7 = .ok (.iconst 1, 1) := by decide +kernel
theorem dX1_isGiven_8 : decode cX1_isGiven 8 = .ok (.goto 4, 3) := by decide +kernel
theorem dX1_isGiven_11 : decode cX1_isGiven 11 = .ok (.iconst 0, 1) := by decide +kernel
theorem dX1_isGiven_12 : decode cX1_isGiven 12 = .ok (.ireturn, 1) := by decide +kernel
theorem dX1_takeFrom_0 : decode cX1_takeFrom 0 = .ok (.aload_n 0, 1) := by decide +kernel
theorem dX1_takeFrom_1 : decode cX1_takeFrom 1 = .ok (.aload_n 1, 1) := by decide +kernel
theorem dX1_takeFrom_2 : decode cX1_takeFrom 2 = .ok (.getfield 16, 3) := by decide +kernel
theorem dX1_takeFrom_5 : decode cX1_takeFrom 5 = .ok (.putfield 16, 3) := by decide +kernel
theorem dX1_takeFrom_8 : decode cX1_takeFrom 8 = .ok (.aload_n 1, 1) := by decide +kernel
theorem dX1_takeFrom_9 : decode cX1_takeFrom 9 = .ok (.getfield 9, 3) := by decide +kernel
theorem dX1_takeFrom_12 : decode cX1_takeFrom 12 = .ok (.iconst 0, 1) := by decide +kernel
theorem dX1_takeFrom_13 : decode cX1_takeFrom 13 = .ok (.aload_n 0, 1) := by decide +kernel
theorem dX1_takeFrom_14 : decode cX1_takeFrom 14 = .ok (.getfield 9, 3) := by decide +kernel
theorem dX1_takeFrom_17 : decode cX1_takeFrom 17 = .ok (.iconst 0, 1) := by decide +kernel
theorem dX1_takeFrom_18 : decode cX1_takeFrom 18 = .ok (.bipush 48, 2) := by decide +kernel
theorem dX1_takeFrom_20 : decode cX1_takeFrom 20 = .ok (.invokestatic 20, 3) := by decide +kernel
theorem dX1_takeFrom_23 : decode cX1_takeFrom 23 = .ok (.return_, 1) := by decide +kernel
theorem ch_cX1_work_0 : (cX1_work.data.toList.drop 0).take 36 = [3, 61, 3, 62, 29, 42, 180, 0, 16, 162, 1, 175, 29, 16, 48, 162, 1, 169, 42, 180, 0, 9, 29, 46, 54, 4, 21, 4, 17, 3, 232, 100, 54, 5, 21, 4] := by decide +kernel
theorem dX1_work_0 : decode cX1_work 0 = .ok (.iconst 0, 1) := do_3 (rdb (p := 0) (i := 0) ch_cX1_work_0 rfl)
theorem dX1_work_1 : decode cX1_work 1 = .ok (.istore_n 2, 1) := do_61 (rdb (p := 0) (i := 1) ch_cX1_work_0 rfl)
theorem dX1_work_2 : decode cX1_work 2 = .ok (.iconst 0, 1) := do_3 (rdb (p := 0) (i := 2) ch_cX1_work_0 rfl)
theorem dX1_work_3 : decode cX1_work 3 = .ok (.istore_n 3, 1) := do_62 (rdb (p := 0) (i := 3) ch_cX1_work_0 rfl)
theorem dX1_work_4 : decode cX1_work 4 = .ok (.iload_n 3, 1) := do_29 (rdb (p := 0) (i := 4) ch_cX1_work_0 rfl)
theorem dX1_work_5 : decode cX1_work 5 = .ok (.aload_n 0, 1) := do_42 (rdb (p := 0) (i := 5) ch_cX1_work_0 rfl)
theorem dX1_work_6 : decode cX1_work 6 = .ok (.getfield 16, 3) := do_180 (rdb (p := 0) (i := 6) ch_cX1_work_0 rfl) (rdb (p := 0) (i := 7) ch_cX1_work_0 rfl) (rdb (p := 0) (i := 8) ch_cX1_work_0 rfl) rfl
theorem dX1_work_9 : decode cX1_work 9 = .ok (.if_icmp .ge 431, 3) := do_162 (rdb (p := 0) (i := 9) ch_cX1_work_0 rfl) (rdb (p := 0) (i := 10) ch_cX1_work_0 rfl) (rdb (p := 0) (i := 11) ch_cX1_work_0 rfl) (by decide +kernel)
theorem dX1_work_12 : decode cX1_work 12 = .ok (.iload_n 3, 1) := do_29 (rdb (p := 0) (i := 12) ch_cX1_work_0 rfl)
theorem dX1_work_13 : decode cX1_work 13 = .ok (.bipush 48, 2) := do_16 (rdb (p := 0) (i := 13) ch_cX1_work_0 rfl) (rdb (p := 0) (i := 14) ch_cX1_work_0 rfl) (by decide +kernel)
theorem dX1_work_15 : decode cX1_work 15 = .ok (.if_icmp .ge 425, 3) := do_162 (rdb (p := 0) (i := 15) ch_cX1_work_0 rfl) (rdb (p := 0) (i := 16) ch_cX1_work_0 rfl) (rdb (p := 0) (i := 17) ch_cX1_work_0 rfl) (by decide +kernel)
theorem dX1_work_18 : decode cX1_work 18 = .ok (.aload_n 0, 1) := do_42 (rdb (p := 0) (i := 18) ch_cX1_work_0 rfl)
theorem dX1_work_19 : decode cX1_work 19 = .ok (.getfield 9, 3) := do_180 (rdb (p := 0) (i := 19) ch_cX1_work_0 rfl) (rdb (p := 0) (i := 20) ch_cX1_work_0 rfl) (rdb (p := 0) (i := 21) ch_cX1_work_0 rfl) rfl
theorem dX1_work_22 : decode cX1_work 22 = .ok (.iload_n 3, 1) := do_29 (rdb (p := 0) (i := 22) ch_cX1_work_0 rfl)
theorem dX1_work_23 : decode cX1_work 23 = .ok (.iaload, 1) := do_46 (rdb (p := 0) (i := 23) ch_cX1_work_0 rfl)
theorem dX1_work_24 : decode cX1_work 24 = .ok (.istore 4, 2) := do_54 (rdb (p := 0) (i := 24) ch_cX1_work_0 rfl) (rdb (p := 0) (i := 25) ch_cX1_work_0 rfl)
theorem dX1_work_26 : decode cX1_work 26 = .ok (.iload 4, 2) := do_21 (rdb (p := 0) (i := 26) ch_cX1_work_0 rfl) (rdb (p := 0) (i := 27) ch_cX1_work_0 rfl)
theorem dX1_work_28 : decode cX1_work 28 = .ok (.sipush 1000, 3) := do_17 (rdb (p := 0) (i := 28) ch_cX1_work_0 rfl) (rdb (p := 0) (i := 29) ch_cX1_work_0 rfl) (rdb (p := 0) (i := 30) ch_cX1_work_0 rfl) (by decide +kernel)
theorem dX1_work_31 : decode cX1_work 31 = .ok (.isub, 1) := do_100 (rdb (p := 0) (i := 31) ch_cX1_work_0 rfl)
theorem ch_cX1_work_32 : (cX1_work.data.toList.drop 32).take 36 = [54, 5, 21, 4, 17, 7, 208, 162, 0, 46, 28, 16, 48, 162, 0, 40, 42, 180, 0, 13, 28, 21, 5, 156, 0, 8, 21, 4, 167, 0, 18, 21, 5, 43, 190, 162] := by decide +kernel
theorem dX1_work_32 : decode cX1_work 32 = .ok (.istore 5, 2) := do_54 (rdb (p := 32) (i := 0) ch_cX1_work_32 rfl) (rdb (p := 32) (i := 1) ch_cX1_work_32 rfl)
theorem dX1_work_34 : decode cX1_work 34 = .ok (.iload 4, 2) := do_21 (rdb (p := 32) (i := 2) ch_cX1_work_32 rfl) (rdb (p := 32) (i := 3) ch_cX1_work_32 rfl)
theorem dX1_work_36 : decode cX1_work 36 = .ok (.sipush 2000, 3) := do_17 (rdb (p := 32) (i := 4) ch_cX1_work_32 rfl) (rdb (p := 32) (i := 5) ch_cX1_work_32 rfl) (rdb (p := 32) (i := 6) ch_cX1_work_32 rfl) (by decide +kernel)
theorem dX1_work_39 : decode cX1_work 39 = .ok (.if_icmp .ge 46, 3) := do_162 (rdb (p := 32) (i := 7) ch_cX1_work_32 rfl) (rdb (p := 32) (i := 8) ch_cX1_work_32 rfl) (rdb (p := 32) (i := 9) ch_cX1_work_32 rfl) (by decide +kernel)
theorem dX1_work_42 : decode cX1_work 42 = .ok (.iload_n 2, 1) := do_28 (rdb (p := 32) (i := 10) ch_cX1_work_32 rfl)
theorem dX1_work_43 : decode cX1_work 43 = .ok (.bipush 48, 2) := do_16 (rdb (p := 32) (i := 11) ch_cX1_work_32 rfl) (rdb (p := 32) (i := 12) ch_cX1_work_32 rfl) (by decide +kernel)
theorem dX1_work_45 : decode cX1_work 45 = .ok (.if_icmp .ge 40, 3) := do_162 (rdb (p := 32) (i := 13) ch_cX1_work_32 rfl) (rdb (p := 32) (i := 14) ch_cX1_work_32 rfl) (rdb (p := 32) (i := 15) ch_cX1_work_32 rfl) (by decide +kernel)
theorem dX1_work_48 : decode cX1_work 48 = .ok (.aload_n 0, 1) := do_42 (rdb (p := 32) (i := 16) ch_cX1_work_32 rfl)
theorem dX1_work_49 : decode cX1_work 49 = .ok (.getfield 13, 3) := do_180 (rdb (p := 32) (i := 17) ch_cX1_work_32 rfl) (rdb (p := 32) (i := 18) ch_cX1_work_32 rfl) (rdb (p := 32) (i := 19) ch_cX1_work_32 rfl) rfl
theorem dX1_work_52 : decode cX1_work 52 = .ok (.iload_n 2, 1) := do_28 (rdb (p := 32) (i := 20) ch_cX1_work_32 rfl)
theorem dX1_work_53 : decode cX1_work 53 = .ok (.iload 5, 2) := do_21 (rdb (p := 32) (i := 21) ch_cX1_work_32 rfl) (rdb (p := 32) (i := 22) ch_cX1_work_32 rfl)
theorem dX1_work_55 : decode cX1_work 55 = .ok (.ifCond .ge 8, 3) := do_156 (rdb (p := 32) (i := 23) ch_cX1_work_32 rfl) (rdb (p := 32) (i := 24) ch_cX1_work_32 rfl) (rdb (p := 32) (i := 25) ch_cX1_work_32 rfl) (by decide +kernel)
theorem dX1_work_58 : decode cX1_work 58 = .ok (.iload 4, 2) := do_21 (rdb (p := 32) (i := 26) ch_cX1_work_32 rfl) (rdb (p := 32) (i := 27) ch_cX1_work_32 rfl)
theorem dX1_work_60 : decode cX1_work 60 = .ok (.goto 18, 3) := do_167 (rdb (p := 32) (i := 28) ch_cX1_work_32 rfl) (rdb (p := 32) (i := 29) ch_cX1_work_32 rfl) (rdb (p := 32) (i := 30) ch_cX1_work_32 rfl) (by decide +kernel)
theorem dX1_work_63 : decode cX1_work 63 = .ok (.iload 5, 2) := do_21 (rdb (p := 32) (i := 31) ch_cX1_work_32 rfl) (rdb (p := 32) (i := 32) ch_cX1_work_32 rfl)
theorem ch_cX1_work_64 : (cX1_work.data.toList.drop 64).take 36 = [5, 43, 190, 162, 0, 10, 43, 21, 5, 46, 167, 0, 4, 3, 79, 132, 2, 1, 167, 1, 96, 21, 4, 17, 8, 78, 160, 0, 28, 28, 4, 161, 0, 23, 42, 180] := by decide +kernel
theorem dX1_work_65 : decode cX1_work 65 = .ok (.aload_n 1, 1) := do_43 (rdb (p := 64) (i := 1) ch_cX1_work_64 rfl)
theorem dX1_work_66 : decode cX1_work 66 = .ok (.arraylength, 1) := do_190 (rdb (p := 64) (i := 2) ch_cX1_work_64 rfl)
theorem dX1_work_67 : decode cX1_work 67 = .ok (.if_icmp .ge 10, 3) := do_162 (rdb (p := 64) (i := 3) ch_cX1_work_64 rfl) (rdb (p := 64) (i := 4) ch_cX1_work_64 rfl) (rdb (p := 64) (i := 5) ch_cX1_work_64 rfl) (by decide +kernel)
theorem dX1_work_70 : decode cX1_work 70 = .ok (.aload_n 1, 1) := do_43 (rdb (p := 64) (i := 6) ch_cX1_work_64 rfl)
theorem dX1_work_71 : decode cX1_work 71 = .ok (.iload 5, 2) := do_21 (rdb (p := 64) (i := 7) ch_cX1_work_64 rfl) (rdb (p := 64) (i := 8) ch_cX1_work_64 rfl)
theorem dX1_work_73 : decode cX1_work 73 = .ok (.iaload, 1) := do_46 (rdb (p := 64) (i := 9) ch_cX1_work_64 rfl)
theorem dX1_work_74 : decode cX1_work 74 = .ok (.goto 4, 3) := do_167 (rdb (p := 64) (i := 10) ch_cX1_work_64 rfl) (rdb (p := 64) (i := 11) ch_cX1_work_64 rfl) (rdb (p := 64) (i := 12) ch_cX1_work_64 rfl) (by decide +kernel)
theorem dX1_work_77 : decode cX1_work 77 = .ok (.iconst 0, 1) := do_3 (rdb (p := 64) (i := 13) ch_cX1_work_64 rfl)
theorem dX1_work_78 : decode cX1_work 78 = .ok (.iastore, 1) := do_79 (rdb (p := 64) (i := 14) ch_cX1_work_64 rfl)
theorem dX1_work_79 : decode cX1_work 79 = .ok (.iinc 2 1, 3) := do_132 (rdb (p := 64) (i := 15) ch_cX1_work_64 rfl) (rdb (p := 64) (i := 16) ch_cX1_work_64 rfl) (rdb (p := 64) (i := 17) ch_cX1_work_64 rfl) (by decide +kernel)
theorem dX1_work_82 : decode cX1_work 82 = .ok (.goto 352, 3) := do_167 (rdb (p := 64) (i := 18) ch_cX1_work_64 rfl) (rdb (p := 64) (i := 19) ch_cX1_work_64 rfl) (rdb (p := 64) (i := 20) ch_cX1_work_64 rfl) (by decide +kernel)
theorem dX1_work_85 : decode cX1_work 85 = .ok (.iload 4, 2) := do_21 (rdb (p := 64) (i := 21) ch_cX1_work_64 rfl) (rdb (p := 64) (i := 22) ch_cX1_work_64 rfl)
theorem dX1_work_87 : decode cX1_work 87 = .ok (.sipush 2126, 3) := do_17 (rdb (p := 64) (i := 23) ch_cX1_work_64 rfl) (rdb (p := 64) (i := 24) ch_cX1_work_64 rfl) (rdb (p := 64) (i := 25) ch_cX1_work_64 rfl) (by decide +kernel)
theorem dX1_work_90 : decode cX1_work 90 = .ok (.if_icmp .ne 28, 3) := do_160 (rdb (p := 64) (i := 26) ch_cX1_work_64 rfl) (rdb (p := 64) (i := 27) ch_cX1_work_64 rfl) (rdb (p := 64) (i := 28) ch_cX1_work_64 rfl) (by decide +kernel)
theorem dX1_work_93 : decode cX1_work 93 = .ok (.iload_n 2, 1) := do_28 (rdb (p := 64) (i := 29) ch_cX1_work_64 rfl)
theorem dX1_work_94 : decode cX1_work 94 = .ok (.iconst 1, 1) := do_4 (rdb (p := 64) (i := 30) ch_cX1_work_64 rfl)
theorem dX1_work_95 : decode cX1_work 95 = .ok (.if_icmp .lt 23, 3) := do_161 (rdb (p := 64) (i := 31) ch_cX1_work_64 rfl) (rdb (p := 64) (i := 32) ch_cX1_work_64 rfl) (rdb (p := 64) (i := 33) ch_cX1_work_64 rfl) (by decide +kernel)
theorem ch_cX1_work_96 : (cX1_work.data.toList.drop 96).take 36 = [0, 23, 42, 180, 0, 13, 28, 4, 100, 42, 180, 0, 13, 28, 4, 100, 46, 116, 79, 167, 1, 63, 21, 4, 17, 8, 15, 160, 0, 50, 28, 6, 161, 0, 45, 132] := by decide +kernel
theorem dX1_work_98 : decode cX1_work 98 = .ok (.aload_n 0, 1) := do_42 (rdb (p := 96) (i := 2) ch_cX1_work_96 rfl)
theorem dX1_work_99 : decode cX1_work 99 = .ok (.getfield 13, 3) := do_180 (rdb (p := 96) (i := 3) ch_cX1_work_96 rfl) (rdb (p := 96) (i := 4) ch_cX1_work_96 rfl) (rdb (p := 96) (i := 5) ch_cX1_work_96 rfl) rfl
theorem dX1_work_102 : decode cX1_work 102 = .ok (.iload_n 2, 1) := do_28 (rdb (p := 96) (i := 6) ch_cX1_work_96 rfl)
theorem dX1_work_103 : decode cX1_work 103 = .ok (.iconst 1, 1) := do_4 (rdb (p := 96) (i := 7) ch_cX1_work_96 rfl)
theorem dX1_work_104 : decode cX1_work 104 = .ok (.isub, 1) := do_100 (rdb (p := 96) (i := 8) ch_cX1_work_96 rfl)
theorem dX1_work_105 : decode cX1_work 105 = .ok (.aload_n 0, 1) := do_42 (rdb (p := 96) (i := 9) ch_cX1_work_96 rfl)
theorem dX1_work_106 : decode cX1_work 106 = .ok (.getfield 13, 3) := do_180 (rdb (p := 96) (i := 10) ch_cX1_work_96 rfl) (rdb (p := 96) (i := 11) ch_cX1_work_96 rfl) (rdb (p := 96) (i := 12) ch_cX1_work_96 rfl) rfl
theorem dX1_work_109 : decode cX1_work 109 = .ok (.iload_n 2, 1) := do_28 (rdb (p := 96) (i := 13) ch_cX1_work_96 rfl)
theorem dX1_work_110 : decode cX1_work 110 = .ok (.iconst 1, 1) := do_4 (rdb (p := 96) (i := 14) ch_cX1_work_96 rfl)
theorem dX1_work_111 : decode cX1_work 111 = .ok (.isub, 1) := do_100 (rdb (p := 96) (i := 15) ch_cX1_work_96 rfl)
theorem dX1_work_112 : decode cX1_work 112 = .ok (.iaload, 1) := do_46 (rdb (p := 96) (i := 16) ch_cX1_work_96 rfl)
theorem dX1_work_113 : decode cX1_work 113 = .ok (.ineg, 1) := do_116 (rdb (p := 96) (i := 17) ch_cX1_work_96 rfl)
theorem dX1_work_114 : decode cX1_work 114 = .ok (.iastore, 1) := do_79 (rdb (p := 96) (i := 18) ch_cX1_work_96 rfl)
theorem dX1_work_115 : decode cX1_work 115 = .ok (.goto 319, 3) := do_167 (rdb (p := 96) (i := 19) ch_cX1_work_96 rfl) (rdb (p := 96) (i := 20) ch_cX1_work_96 rfl) (rdb (p := 96) (i := 21) ch_cX1_work_96 rfl) (by decide +kernel)
theorem dX1_work_118 : decode cX1_work 118 = .ok (.iload 4, 2) := do_21 (rdb (p := 96) (i := 22) ch_cX1_work_96 rfl) (rdb (p := 96) (i := 23) ch_cX1_work_96 rfl)
theorem dX1_work_120 : decode cX1_work 120 = .ok (.sipush 2063, 3) := do_17 (rdb (p := 96) (i := 24) ch_cX1_work_96 rfl) (rdb (p := 96) (i := 25) ch_cX1_work_96 rfl) (rdb (p := 96) (i := 26) ch_cX1_work_96 rfl) (by decide +kernel)
theorem dX1_work_123 : decode cX1_work 123 = .ok (.if_icmp .ne 50, 3) := do_160 (rdb (p := 96) (i := 27) ch_cX1_work_96 rfl) (rdb (p := 96) (i := 28) ch_cX1_work_96 rfl) (rdb (p := 96) (i := 29) ch_cX1_work_96 rfl) (by decide +kernel)
theorem dX1_work_126 : decode cX1_work 126 = .ok (.iload_n 2, 1) := do_28 (rdb (p := 96) (i := 30) ch_cX1_work_96 rfl)
theorem dX1_work_127 : decode cX1_work 127 = .ok (.iconst 3, 1) := do_6 (rdb (p := 96) (i := 31) ch_cX1_work_96 rfl)
theorem ch_cX1_work_128 : (cX1_work.data.toList.drop 128).take 36 = [161, 0, 45, 132, 2, 254, 42, 180, 0, 13, 28, 4, 100, 42, 180, 0, 13, 28, 4, 100, 46, 153, 0, 12, 42, 180, 0, 13, 28, 46, 167, 0, 11, 42, 180, 0] := by decide +kernel
theorem dX1_work_128 : decode cX1_work 128 = .ok (.if_icmp .lt 45, 3) := do_161 (rdb (p := 128) (i := 0) ch_cX1_work_128 rfl) (rdb (p := 128) (i := 1) ch_cX1_work_128 rfl) (rdb (p := 128) (i := 2) ch_cX1_work_128 rfl) (by decide +kernel)
theorem dX1_work_131 : decode cX1_work 131 = .ok (.iinc 2 (-2), 3) := do_132 (rdb (p := 128) (i := 3) ch_cX1_work_128 rfl) (rdb (p := 128) (i := 4) ch_cX1_work_128 rfl) (rdb (p := 128) (i := 5) ch_cX1_work_128 rfl) (by decide +kernel)
theorem dX1_work_134 : decode cX1_work 134 = .ok (.aload_n 0, 1) := do_42 (rdb (p := 128) (i := 6) ch_cX1_work_128 rfl)
theorem dX1_work_135 : decode cX1_work 135 = .ok (.getfield 13, 3) := do_180 (rdb (p := 128) (i := 7) ch_cX1_work_128 rfl) (rdb (p := 128) (i := 8) ch_cX1_work_128 rfl) (rdb (p := 128) (i := 9) ch_cX1_work_128 rfl) rfl
theorem dX1_work_138 : decode cX1_work 138 = .ok (.iload_n 2, 1) := do_28 (rdb (p := 128) (i := 10) ch_cX1_work_128 rfl)
theorem dX1_work_139 : decode cX1_work 139 = .ok (.iconst 1, 1) := do_4 (rdb (p := 128) (i := 11) ch_cX1_work_128 rfl)
theorem dX1_work_140 : decode cX1_work 140 = .ok (.isub, 1) := do_100 (rdb (p := 128) (i := 12) ch_cX1_work_128 rfl)
theorem dX1_work_141 : decode cX1_work 141 = .ok (.aload_n 0, 1) := do_42 (rdb (p := 128) (i := 13) ch_cX1_work_128 rfl)
theorem dX1_work_142 : decode cX1_work 142 = .ok (.getfield 13, 3) := do_180 (rdb (p := 128) (i := 14) ch_cX1_work_128 rfl) (rdb (p := 128) (i := 15) ch_cX1_work_128 rfl) (rdb (p := 128) (i := 16) ch_cX1_work_128 rfl) rfl
theorem dX1_work_145 : decode cX1_work 145 = .ok (.iload_n 2, 1) := do_28 (rdb (p := 128) (i := 17) ch_cX1_work_128 rfl)
theorem dX1_work_146 : decode cX1_work 146 = .ok (.iconst 1, 1) := do_4 (rdb (p := 128) (i := 18) ch_cX1_work_128 rfl)
theorem dX1_work_147 : decode cX1_work 147 = .ok (.isub, 1) := do_100 (rdb (p := 128) (i := 19) ch_cX1_work_128 rfl)
theorem dX1_work_148 : decode cX1_work 148 = .ok (.iaload, 1) := do_46 (rdb (p := 128) (i := 20) ch_cX1_work_128 rfl)
theorem dX1_work_149 : decode cX1_work 149 = .ok (.ifCond .eq 12, 3) := do_153 (rdb (p := 128) (i := 21) ch_cX1_work_128 rfl) (rdb (p := 128) (i := 22) ch_cX1_work_128 rfl) (rdb (p := 128) (i := 23) ch_cX1_work_128 rfl) (by decide +kernel)
theorem dX1_work_152 : decode cX1_work 152 = .ok (.aload_n 0, 1) := do_42 (rdb (p := 128) (i := 24) ch_cX1_work_128 rfl)
theorem dX1_work_153 : decode cX1_work 153 = .ok (.getfield 13, 3) := do_180 (rdb (p := 128) (i := 25) ch_cX1_work_128 rfl) (rdb (p := 128) (i := 26) ch_cX1_work_128 rfl) (rdb (p := 128) (i := 27) ch_cX1_work_128 rfl) rfl
theorem dX1_work_156 : decode cX1_work 156 = .ok (.iload_n 2, 1) := do_28 (rdb (p := 128) (i := 28) ch_cX1_work_128 rfl)
theorem dX1_work_157 : decode cX1_work 157 = .ok (.iaload, 1) := do_46 (rdb (p := 128) (i := 29) ch_cX1_work_128 rfl)
theorem dX1_work_158 : decode cX1_work 158 = .ok (.goto 11, 3) := do_167 (rdb (p := 128) (i := 30) ch_cX1_work_128 rfl) (rdb (p := 128) (i := 31) ch_cX1_work_128 rfl) (rdb (p := 128) (i := 32) ch_cX1_work_128 rfl) (by decide +kernel)
theorem ch_cX1_work_160 : (cX1_work.data.toList.drop 160).take 36 = [11, 42, 180, 0, 13, 28, 4, 96, 46, 79, 167, 1, 8, 28, 5, 161, 1, 3, 132, 2, 255, 42, 180, 0, 13, 28, 4, 100, 46, 54, 6, 42, 180, 0, 13, 28] := by decide +kernel
theorem dX1_work_161 : decode cX1_work 161 = .ok (.aload_n 0, 1) := do_42 (rdb (p := 160) (i := 1) ch_cX1_work_160 rfl)
theorem dX1_work_162 : decode cX1_work 162 = .ok (.getfield 13, 3) := do_180 (rdb (p := 160) (i := 2) ch_cX1_work_160 rfl) (rdb (p := 160) (i := 3) ch_cX1_work_160 rfl) (rdb (p := 160) (i := 4) ch_cX1_work_160 rfl) rfl
theorem dX1_work_165 : decode cX1_work 165 = .ok (.iload_n 2, 1) := do_28 (rdb (p := 160) (i := 5) ch_cX1_work_160 rfl)
theorem dX1_work_166 : decode cX1_work 166 = .ok (.iconst 1, 1) := do_4 (rdb (p := 160) (i := 6) ch_cX1_work_160 rfl)
theorem dX1_work_167 : decode cX1_work 167 = .ok (.iadd, 1) := do_96 (rdb (p := 160) (i := 7) ch_cX1_work_160 rfl)
theorem dX1_work_168 : decode cX1_work 168 = .ok (.iaload, 1) := do_46 (rdb (p := 160) (i := 8) ch_cX1_work_160 rfl)
theorem dX1_work_169 : decode cX1_work 169 = .ok (.iastore, 1) := do_79 (rdb (p := 160) (i := 9) ch_cX1_work_160 rfl)
theorem dX1_work_170 : decode cX1_work 170 = .ok (.goto 264, 3) := do_167 (rdb (p := 160) (i := 10) ch_cX1_work_160 rfl) (rdb (p := 160) (i := 11) ch_cX1_work_160 rfl) (rdb (p := 160) (i := 12) ch_cX1_work_160 rfl) (by decide +kernel)
theorem dX1_work_173 : decode cX1_work 173 = .ok (.iload_n 2, 1) := do_28 (rdb (p := 160) (i := 13) ch_cX1_work_160 rfl)
theorem dX1_work_174 : decode cX1_work 174 = .ok (.iconst 2, 1) := do_5 (rdb (p := 160) (i := 14) ch_cX1_work_160 rfl)
theorem dX1_work_175 : decode cX1_work 175 = .ok (.if_icmp .lt 259, 3) := do_161 (rdb (p := 160) (i := 15) ch_cX1_work_160 rfl) (rdb (p := 160) (i := 16) ch_cX1_work_160 rfl) (rdb (p := 160) (i := 17) ch_cX1_work_160 rfl) (by decide +kernel)
theorem dX1_work_178 : decode cX1_work 178 = .ok (.iinc 2 (-1), 3) := do_132 (rdb (p := 160) (i := 18) ch_cX1_work_160 rfl) (rdb (p := 160) (i := 19) ch_cX1_work_160 rfl) (rdb (p := 160) (i := 20) ch_cX1_work_160 rfl) (by decide +kernel)
theorem dX1_work_181 : decode cX1_work 181 = .ok (.aload_n 0, 1) := do_42 (rdb (p := 160) (i := 21) ch_cX1_work_160 rfl)
theorem dX1_work_182 : decode cX1_work 182 = .ok (.getfield 13, 3) := do_180 (rdb (p := 160) (i := 22) ch_cX1_work_160 rfl) (rdb (p := 160) (i := 23) ch_cX1_work_160 rfl) (rdb (p := 160) (i := 24) ch_cX1_work_160 rfl) rfl
theorem dX1_work_185 : decode cX1_work 185 = .ok (.iload_n 2, 1) := do_28 (rdb (p := 160) (i := 25) ch_cX1_work_160 rfl)
theorem dX1_work_186 : decode cX1_work 186 = .ok (.iconst 1, 1) := do_4 (rdb (p := 160) (i := 26) ch_cX1_work_160 rfl)
theorem dX1_work_187 : decode cX1_work 187 = .ok (.isub, 1) := do_100 (rdb (p := 160) (i := 27) ch_cX1_work_160 rfl)
theorem dX1_work_188 : decode cX1_work 188 = .ok (.iaload, 1) := do_46 (rdb (p := 160) (i := 28) ch_cX1_work_160 rfl)
theorem dX1_work_189 : decode cX1_work 189 = .ok (.istore 6, 2) := do_54 (rdb (p := 160) (i := 29) ch_cX1_work_160 rfl) (rdb (p := 160) (i := 30) ch_cX1_work_160 rfl)
theorem dX1_work_191 : decode cX1_work 191 = .ok (.aload_n 0, 1) := do_42 (rdb (p := 160) (i := 31) ch_cX1_work_160 rfl)
theorem ch_cX1_work_192 : (cX1_work.data.toList.drop 192).take 36 = [180, 0, 13, 28, 46, 54, 7, 3, 54, 8, 21, 4, 17, 7, 208, 100, 170, 0, 0, 0, 0, 0, 0, 200, 0, 0, 0, 42, 0, 0, 0, 62, 0, 0, 0, 171] := by decide +kernel
theorem dX1_work_192 : decode cX1_work 192 = .ok (.getfield 13, 3) := do_180 (rdb (p := 192) (i := 0) ch_cX1_work_192 rfl) (rdb (p := 192) (i := 1) ch_cX1_work_192 rfl) (rdb (p := 192) (i := 2) ch_cX1_work_192 rfl) rfl
theorem dX1_work_195 : decode cX1_work 195 = .ok (.iload_n 2, 1) := do_28 (rdb (p := 192) (i := 3) ch_cX1_work_192 rfl)
theorem dX1_work_196 : decode cX1_work 196 = .ok (.iaload, 1) := do_46 (rdb (p := 192) (i := 4) ch_cX1_work_192 rfl)
theorem dX1_work_197 : decode cX1_work 197 = .ok (.istore 7, 2) := do_54 (rdb (p := 192) (i := 5) ch_cX1_work_192 rfl) (rdb (p := 192) (i := 6) ch_cX1_work_192 rfl)
theorem dX1_work_199 : decode cX1_work 199 = .ok (.iconst 0, 1) := do_3 (rdb (p := 192) (i := 7) ch_cX1_work_192 rfl)
theorem dX1_work_200 : decode cX1_work 200 = .ok (.istore 8, 2) := do_54 (rdb (p := 192) (i := 8) ch_cX1_work_192 rfl) (rdb (p := 192) (i := 9) ch_cX1_work_192 rfl)
theorem dX1_work_202 : decode cX1_work 202 = .ok (.iload 4, 2) := do_21 (rdb (p := 192) (i := 10) ch_cX1_work_192 rfl) (rdb (p := 192) (i := 11) ch_cX1_work_192 rfl)
theorem dX1_work_204 : decode cX1_work 204 = .ok (.sipush 2000, 3) := do_17 (rdb (p := 192) (i := 12) ch_cX1_work_192 rfl) (rdb (p := 192) (i := 13) ch_cX1_work_192 rfl) (rdb (p := 192) (i := 14) ch_cX1_work_192 rfl) (by decide +kernel)
theorem dX1_work_207 : decode cX1_work 207 = .ok (.isub, 1) := do_100 (rdb (p := 192) (i := 15) ch_cX1_work_192 rfl)
theorem dX1_work_208 : decode cX1_work 208 = .ok (.tableswitch 200 42 62 #[171, 151, 200, 161, 200, 181, 200, 200, 200, 200, 200, 200, 200, 200, 200, 200, 200, 200, 100, 117, 134], 100) := by decide +kernel
theorem ch_cX1_work_288 : (cX1_work.data.toList.drop 288).take 36 = [0, 0, 0, 200, 0, 0, 0, 200, 0, 0, 0, 100, 0, 0, 0, 117, 0, 0, 0, 134, 21, 6, 21, 7, 162, 0, 7, 4, 167, 0, 4, 3, 54, 8, 167, 0] := by decide +kernel
theorem dX1_work_308 : decode cX1_work 308 = .ok (.iload 6, 2) := do_21 (rdb (p := 288) (i := 20) ch_cX1_work_288 rfl) (rdb (p := 288) (i := 21) ch_cX1_work_288 rfl)
theorem dX1_work_310 : decode cX1_work 310 = .ok (.iload 7, 2) := do_21 (rdb (p := 288) (i := 22) ch_cX1_work_288 rfl) (rdb (p := 288) (i := 23) ch_cX1_work_288 rfl)
theorem dX1_work_312 : decode cX1_work 312 = .ok (.if_icmp .ge 7, 3) := do_162 (rdb (p := 288) (i := 24) ch_cX1_work_288 rfl) (rdb (p := 288) (i := 25) ch_cX1_work_288 rfl) (rdb (p := 288) (i := 26) ch_cX1_work_288 rfl) (by decide +kernel)
theorem dX1_work_315 : decode cX1_work 315 = .ok (.iconst 1, 1) := do_4 (rdb (p := 288) (i := 27) ch_cX1_work_288 rfl)
theorem dX1_work_316 : decode cX1_work 316 = .ok (.goto 4, 3) := do_167 (rdb (p := 288) (i := 28) ch_cX1_work_288 rfl) (rdb (p := 288) (i := 29) ch_cX1_work_288 rfl) (rdb (p := 288) (i := 30) ch_cX1_work_288 rfl) (by decide +kernel)
theorem dX1_work_319 : decode cX1_work 319 = .ok (.iconst 0, 1) := do_3 (rdb (p := 288) (i := 31) ch_cX1_work_288 rfl)
theorem ch_cX1_work_320 : (cX1_work.data.toList.drop 320).take 36 = [54, 8, 167, 0, 102, 21, 6, 21, 7, 160, 0, 7, 4, 167, 0, 4, 3, 54, 8, 167, 0, 85, 21, 6, 21, 7, 164, 0, 7, 4, 167, 0, 4, 3, 54, 8] := by decide +kernel
theorem dX1_work_320 : decode cX1_work 320 = .ok (.istore 8, 2) := do_54 (rdb (p := 320) (i := 0) ch_cX1_work_320 rfl) (rdb (p := 320) (i := 1) ch_cX1_work_320 rfl)
theorem dX1_work_322 : decode cX1_work 322 = .ok (.goto 102, 3) := do_167 (rdb (p := 320) (i := 2) ch_cX1_work_320 rfl) (rdb (p := 320) (i := 3) ch_cX1_work_320 rfl) (rdb (p := 320) (i := 4) ch_cX1_work_320 rfl) (by decide +kernel)
theorem dX1_work_325 : decode cX1_work 325 = .ok (.iload 6, 2) := do_21 (rdb (p := 320) (i := 5) ch_cX1_work_320 rfl) (rdb (p := 320) (i := 6) ch_cX1_work_320 rfl)
theorem dX1_work_327 : decode cX1_work 327 = .ok (.iload 7, 2) := do_21 (rdb (p := 320) (i := 7) ch_cX1_work_320 rfl) (rdb (p := 320) (i := 8) ch_cX1_work_320 rfl)
theorem dX1_work_329 : decode cX1_work 329 = .ok (.if_icmp .ne 7, 3) := do_160 (rdb (p := 320) (i := 9) ch_cX1_work_320 rfl) (rdb (p := 320) (i := 10) ch_cX1_work_320 rfl) (rdb (p := 320) (i := 11) ch_cX1_work_320 rfl) (by decide +kernel)
theorem dX1_work_332 : decode cX1_work 332 = .ok (.iconst 1, 1) := do_4 (rdb (p := 320) (i := 12) ch_cX1_work_320 rfl)
theorem dX1_work_333 : decode cX1_work 333 = .ok (.goto 4, 3) := do_167 (rdb (p := 320) (i := 13) ch_cX1_work_320 rfl) (rdb (p := 320) (i := 14) ch_cX1_work_320 rfl) (rdb (p := 320) (i := 15) ch_cX1_work_320 rfl) (by decide +kernel)
theorem dX1_work_336 : decode cX1_work 336 = .ok (.iconst 0, 1) := do_3 (rdb (p := 320) (i := 16) ch_cX1_work_320 rfl)
theorem dX1_work_337 : decode cX1_work 337 = .ok (.istore 8, 2) := do_54 (rdb (p := 320) (i := 17) ch_cX1_work_320 rfl) (rdb (p := 320) (i := 18) ch_cX1_work_320 rfl)
theorem dX1_work_339 : decode cX1_work 339 = .ok (.goto 85, 3) := do_167 (rdb (p := 320) (i := 19) ch_cX1_work_320 rfl) (rdb (p := 320) (i := 20) ch_cX1_work_320 rfl) (rdb (p := 320) (i := 21) ch_cX1_work_320 rfl) (by decide +kernel)
theorem dX1_work_342 : decode cX1_work 342 = .ok (.iload 6, 2) := do_21 (rdb (p := 320) (i := 22) ch_cX1_work_320 rfl) (rdb (p := 320) (i := 23) ch_cX1_work_320 rfl)
theorem dX1_work_344 : decode cX1_work 344 = .ok (.iload 7, 2) := do_21 (rdb (p := 320) (i := 24) ch_cX1_work_320 rfl) (rdb (p := 320) (i := 25) ch_cX1_work_320 rfl)
theorem dX1_work_346 : decode cX1_work 346 = .ok (.if_icmp .le 7, 3) := do_164 (rdb (p := 320) (i := 26) ch_cX1_work_320 rfl) (rdb (p := 320) (i := 27) ch_cX1_work_320 rfl) (rdb (p := 320) (i := 28) ch_cX1_work_320 rfl) (by decide +kernel)
theorem dX1_work_349 : decode cX1_work 349 = .ok (.iconst 1, 1) := do_4 (rdb (p := 320) (i := 29) ch_cX1_work_320 rfl)
theorem dX1_work_350 : decode cX1_work 350 = .ok (.goto 4, 3) := do_167 (rdb (p := 320) (i := 30) ch_cX1_work_320 rfl) (rdb (p := 320) (i := 31) ch_cX1_work_320 rfl) (rdb (p := 320) (i := 32) ch_cX1_work_320 rfl) (by decide +kernel)
theorem ch_cX1_work_352 : (cX1_work.data.toList.drop 352).take 36 = [4, 3, 54, 8, 167, 0, 68, 21, 6, 21, 7, 96, 54, 8, 167, 0, 58, 21, 6, 21, 7, 100, 54, 8, 167, 0, 48, 21, 6, 21, 7, 104, 54, 8, 167, 0] := by decide +kernel
theorem dX1_work_353 : decode cX1_work 353 = .ok (.iconst 0, 1) := do_3 (rdb (p := 352) (i := 1) ch_cX1_work_352 rfl)
theorem dX1_work_354 : decode cX1_work 354 = .ok (.istore 8, 2) := do_54 (rdb (p := 352) (i := 2) ch_cX1_work_352 rfl) (rdb (p := 352) (i := 3) ch_cX1_work_352 rfl)
theorem dX1_work_356 : decode cX1_work 356 = .ok (.goto 68, 3) := do_167 (rdb (p := 352) (i := 4) ch_cX1_work_352 rfl) (rdb (p := 352) (i := 5) ch_cX1_work_352 rfl) (rdb (p := 352) (i := 6) ch_cX1_work_352 rfl) (by decide +kernel)
theorem dX1_work_359 : decode cX1_work 359 = .ok (.iload 6, 2) := do_21 (rdb (p := 352) (i := 7) ch_cX1_work_352 rfl) (rdb (p := 352) (i := 8) ch_cX1_work_352 rfl)
theorem dX1_work_361 : decode cX1_work 361 = .ok (.iload 7, 2) := do_21 (rdb (p := 352) (i := 9) ch_cX1_work_352 rfl) (rdb (p := 352) (i := 10) ch_cX1_work_352 rfl)
theorem dX1_work_363 : decode cX1_work 363 = .ok (.iadd, 1) := do_96 (rdb (p := 352) (i := 11) ch_cX1_work_352 rfl)
theorem dX1_work_364 : decode cX1_work 364 = .ok (.istore 8, 2) := do_54 (rdb (p := 352) (i := 12) ch_cX1_work_352 rfl) (rdb (p := 352) (i := 13) ch_cX1_work_352 rfl)
theorem dX1_work_366 : decode cX1_work 366 = .ok (.goto 58, 3) := do_167 (rdb (p := 352) (i := 14) ch_cX1_work_352 rfl) (rdb (p := 352) (i := 15) ch_cX1_work_352 rfl) (rdb (p := 352) (i := 16) ch_cX1_work_352 rfl) (by decide +kernel)
theorem dX1_work_369 : decode cX1_work 369 = .ok (.iload 6, 2) := do_21 (rdb (p := 352) (i := 17) ch_cX1_work_352 rfl) (rdb (p := 352) (i := 18) ch_cX1_work_352 rfl)
theorem dX1_work_371 : decode cX1_work 371 = .ok (.iload 7, 2) := do_21 (rdb (p := 352) (i := 19) ch_cX1_work_352 rfl) (rdb (p := 352) (i := 20) ch_cX1_work_352 rfl)
theorem dX1_work_373 : decode cX1_work 373 = .ok (.isub, 1) := do_100 (rdb (p := 352) (i := 21) ch_cX1_work_352 rfl)
theorem dX1_work_374 : decode cX1_work 374 = .ok (.istore 8, 2) := do_54 (rdb (p := 352) (i := 22) ch_cX1_work_352 rfl) (rdb (p := 352) (i := 23) ch_cX1_work_352 rfl)
theorem dX1_work_376 : decode cX1_work 376 = .ok (.goto 48, 3) := do_167 (rdb (p := 352) (i := 24) ch_cX1_work_352 rfl) (rdb (p := 352) (i := 25) ch_cX1_work_352 rfl) (rdb (p := 352) (i := 26) ch_cX1_work_352 rfl) (by decide +kernel)
theorem dX1_work_379 : decode cX1_work 379 = .ok (.iload 6, 2) := do_21 (rdb (p := 352) (i := 27) ch_cX1_work_352 rfl) (rdb (p := 352) (i := 28) ch_cX1_work_352 rfl)
theorem dX1_work_381 : decode cX1_work 381 = .ok (.iload 7, 2) := do_21 (rdb (p := 352) (i := 29) ch_cX1_work_352 rfl) (rdb (p := 352) (i := 30) ch_cX1_work_352 rfl)
theorem dX1_work_383 : decode cX1_work 383 = .ok (.imul, 1) := do_104 (rdb (p := 352) (i := 31) ch_cX1_work_352 rfl)
theorem ch_cX1_work_384 : (cX1_work.data.toList.drop 384).take 36 = [54, 8, 167, 0, 38, 21, 7, 154, 0, 7, 3, 167, 0, 8, 21, 6, 21, 7, 108, 54, 8, 167, 0, 19, 21, 7, 154, 0, 7, 3, 167, 0, 8, 21, 6, 21] := by decide +kernel
theorem dX1_work_384 : decode cX1_work 384 = .ok (.istore 8, 2) := do_54 (rdb (p := 384) (i := 0) ch_cX1_work_384 rfl) (rdb (p := 384) (i := 1) ch_cX1_work_384 rfl)
theorem dX1_work_386 : decode cX1_work 386 = .ok (.goto 38, 3) := do_167 (rdb (p := 384) (i := 2) ch_cX1_work_384 rfl) (rdb (p := 384) (i := 3) ch_cX1_work_384 rfl) (rdb (p := 384) (i := 4) ch_cX1_work_384 rfl) (by decide +kernel)
theorem dX1_work_389 : decode cX1_work 389 = .ok (.iload 7, 2) := do_21 (rdb (p := 384) (i := 5) ch_cX1_work_384 rfl) (rdb (p := 384) (i := 6) ch_cX1_work_384 rfl)
theorem dX1_work_391 : decode cX1_work 391 = .ok (.ifCond .ne 7, 3) := do_154 (rdb (p := 384) (i := 7) ch_cX1_work_384 rfl) (rdb (p := 384) (i := 8) ch_cX1_work_384 rfl) (rdb (p := 384) (i := 9) ch_cX1_work_384 rfl) (by decide +kernel)
theorem dX1_work_394 : decode cX1_work 394 = .ok (.iconst 0, 1) := do_3 (rdb (p := 384) (i := 10) ch_cX1_work_384 rfl)
theorem dX1_work_395 : decode cX1_work 395 = .ok (.goto 8, 3) := do_167 (rdb (p := 384) (i := 11) ch_cX1_work_384 rfl) (rdb (p := 384) (i := 12) ch_cX1_work_384 rfl) (rdb (p := 384) (i := 13) ch_cX1_work_384 rfl) (by decide +kernel)
theorem dX1_work_398 : decode cX1_work 398 = .ok (.iload 6, 2) := do_21 (rdb (p := 384) (i := 14) ch_cX1_work_384 rfl) (rdb (p := 384) (i := 15) ch_cX1_work_384 rfl)
theorem dX1_work_400 : decode cX1_work 400 = .ok (.iload 7, 2) := do_21 (rdb (p := 384) (i := 16) ch_cX1_work_384 rfl) (rdb (p := 384) (i := 17) ch_cX1_work_384 rfl)
theorem dX1_work_402 : decode cX1_work 402 = .ok (.idiv, 1) := do_108 (rdb (p := 384) (i := 18) ch_cX1_work_384 rfl)
theorem dX1_work_403 : decode cX1_work 403 = .ok (.istore 8, 2) := do_54 (rdb (p := 384) (i := 19) ch_cX1_work_384 rfl) (rdb (p := 384) (i := 20) ch_cX1_work_384 rfl)
theorem dX1_work_405 : decode cX1_work 405 = .ok (.goto 19, 3) := do_167 (rdb (p := 384) (i := 21) ch_cX1_work_384 rfl) (rdb (p := 384) (i := 22) ch_cX1_work_384 rfl) (rdb (p := 384) (i := 23) ch_cX1_work_384 rfl) (by decide +kernel)
theorem dX1_work_408 : decode cX1_work 408 = .ok (.iload 7, 2) := do_21 (rdb (p := 384) (i := 24) ch_cX1_work_384 rfl) (rdb (p := 384) (i := 25) ch_cX1_work_384 rfl)
theorem dX1_work_410 : decode cX1_work 410 = .ok (.ifCond .ne 7, 3) := do_154 (rdb (p := 384) (i := 26) ch_cX1_work_384 rfl) (rdb (p := 384) (i := 27) ch_cX1_work_384 rfl) (rdb (p := 384) (i := 28) ch_cX1_work_384 rfl) (by decide +kernel)
theorem dX1_work_413 : decode cX1_work 413 = .ok (.iconst 0, 1) := do_3 (rdb (p := 384) (i := 29) ch_cX1_work_384 rfl)
theorem dX1_work_414 : decode cX1_work 414 = .ok (.goto 8, 3) := do_167 (rdb (p := 384) (i := 30) ch_cX1_work_384 rfl) (rdb (p := 384) (i := 31) ch_cX1_work_384 rfl) (rdb (p := 384) (i := 32) ch_cX1_work_384 rfl) (by decide +kernel)
theorem ch_cX1_work_416 : (cX1_work.data.toList.drop 416).take 36 = [8, 21, 6, 21, 7, 112, 54, 8, 42, 180, 0, 13, 28, 4, 100, 21, 8, 79, 132, 3, 1, 167, 254, 79, 28, 158, 0, 12, 42, 180, 0, 13, 3, 46, 167, 0] := by decide +kernel
theorem dX1_work_417 : decode cX1_work 417 = .ok (.iload 6, 2) := do_21 (rdb (p := 416) (i := 1) ch_cX1_work_416 rfl) (rdb (p := 416) (i := 2) ch_cX1_work_416 rfl)
theorem dX1_work_419 : decode cX1_work 419 = .ok (.iload 7, 2) := do_21 (rdb (p := 416) (i := 3) ch_cX1_work_416 rfl) (rdb (p := 416) (i := 4) ch_cX1_work_416 rfl)
theorem dX1_work_421 : decode cX1_work 421 = .ok (.irem, 1) := do_112 (rdb (p := 416) (i := 5) ch_cX1_work_416 rfl)
theorem dX1_work_422 : decode cX1_work 422 = .ok (.istore 8, 2) := do_54 (rdb (p := 416) (i := 6) ch_cX1_work_416 rfl) (rdb (p := 416) (i := 7) ch_cX1_work_416 rfl)
theorem dX1_work_424 : decode cX1_work 424 = .ok (.aload_n 0, 1) := do_42 (rdb (p := 416) (i := 8) ch_cX1_work_416 rfl)
theorem dX1_work_425 : decode cX1_work 425 = .ok (.getfield 13, 3) := do_180 (rdb (p := 416) (i := 9) ch_cX1_work_416 rfl) (rdb (p := 416) (i := 10) ch_cX1_work_416 rfl) (rdb (p := 416) (i := 11) ch_cX1_work_416 rfl) rfl
theorem dX1_work_428 : decode cX1_work 428 = .ok (.iload_n 2, 1) := do_28 (rdb (p := 416) (i := 12) ch_cX1_work_416 rfl)
theorem dX1_work_429 : decode cX1_work 429 = .ok (.iconst 1, 1) := do_4 (rdb (p := 416) (i := 13) ch_cX1_work_416 rfl)
theorem dX1_work_430 : decode cX1_work 430 = .ok (.isub, 1) := do_100 (rdb (p := 416) (i := 14) ch_cX1_work_416 rfl)
theorem dX1_work_431 : decode cX1_work 431 = .ok (.iload 8, 2) := do_21 (rdb (p := 416) (i := 15) ch_cX1_work_416 rfl) (rdb (p := 416) (i := 16) ch_cX1_work_416 rfl)
theorem dX1_work_433 : decode cX1_work 433 = .ok (.iastore, 1) := do_79 (rdb (p := 416) (i := 17) ch_cX1_work_416 rfl)
theorem dX1_work_434 : decode cX1_work 434 = .ok (.iinc 3 1, 3) := do_132 (rdb (p := 416) (i := 18) ch_cX1_work_416 rfl) (rdb (p := 416) (i := 19) ch_cX1_work_416 rfl) (rdb (p := 416) (i := 20) ch_cX1_work_416 rfl) (by decide +kernel)
theorem dX1_work_437 : decode cX1_work 437 = .ok (.goto (-433), 3) := do_167 (rdb (p := 416) (i := 21) ch_cX1_work_416 rfl) (rdb (p := 416) (i := 22) ch_cX1_work_416 rfl) (rdb (p := 416) (i := 23) ch_cX1_work_416 rfl) (by decide +kernel)
theorem dX1_work_440 : decode cX1_work 440 = .ok (.iload_n 2, 1) := do_28 (rdb (p := 416) (i := 24) ch_cX1_work_416 rfl)
theorem dX1_work_441 : decode cX1_work 441 = .ok (.ifCond .le 12, 3) := do_158 (rdb (p := 416) (i := 25) ch_cX1_work_416 rfl) (rdb (p := 416) (i := 26) ch_cX1_work_416 rfl) (rdb (p := 416) (i := 27) ch_cX1_work_416 rfl) (by decide +kernel)
theorem dX1_work_444 : decode cX1_work 444 = .ok (.aload_n 0, 1) := do_42 (rdb (p := 416) (i := 28) ch_cX1_work_416 rfl)
theorem dX1_work_445 : decode cX1_work 445 = .ok (.getfield 13, 3) := do_180 (rdb (p := 416) (i := 29) ch_cX1_work_416 rfl) (rdb (p := 416) (i := 30) ch_cX1_work_416 rfl) (rdb (p := 416) (i := 31) ch_cX1_work_416 rfl) rfl
theorem ch_cX1_work_448 : (cX1_work.data.toList.drop 448).take 36 = [3, 46, 167, 0, 4, 3, 172] := by decide +kernel
theorem dX1_work_448 : decode cX1_work 448 = .ok (.iconst 0, 1) := do_3 (rdb (p := 448) (i := 0) ch_cX1_work_448 rfl)
theorem dX1_work_449 : decode cX1_work 449 = .ok (.iaload, 1) := do_46 (rdb (p := 448) (i := 1) ch_cX1_work_448 rfl)
theorem dX1_work_450 : decode cX1_work 450 = .ok (.goto 4, 3) := do_167 (rdb (p := 448) (i := 2) ch_cX1_work_448 rfl) (rdb (p := 448) (i := 3) ch_cX1_work_448 rfl) (rdb (p := 448) (i := 4) ch_cX1_work_448 rfl) (by decide +kernel)
theorem dX1_work_453 : decode cX1_work 453 = .ok (.iconst 0, 1) := do_3 (rdb (p := 448) (i := 5) ch_cX1_work_448 rfl)
theorem dX1_work_454 : decode cX1_work 454 = .ok (.ireturn, 1) := do_172 (rdb (p := 448) (i := 6) ch_cX1_work_448 rfl)
theorem dX5_add_0 : decode cX5_add 0 = .ok (.aload_n 0, 1) := by decide +kernel
theorem dX5_add_1 : decode cX5_add 1 = .ok (.getfield 7, 3) := by decide +kernel
theorem dX5_add_4 : decode cX5_add 4 = .ok (.ifCond .lt 35, 3) := by decide +kernel
theorem dX5_add_7 : decode cX5_add 7 = .ok (.aload_n 0, 1) := by decide +kernel
theorem dX5_add_8 : decode cX5_add 8 = .ok (.getfield 7, 3) := by decide +kernel
theorem dX5_add_11 : decode cX5_add 11 = .ok (.aload_n 0, 1) := by decide +kernel
theorem dX5_add_12 : decode cX5_add 12 = .ok (.getfield 19, 3) := by decide +kernel
theorem dX5_add_15 : decode cX5_add 15 = .ok (.arraylength, 1) := by decide +kernel
theorem dX5_add_16 : decode cX5_add 16 = .ok (.if_icmp .ge 23, 3) := by decide +kernel
theorem dX5_add_19 : decode cX5_add 19 = .ok (.aload_n 0, 1) := by decide +kernel
theorem dX5_add_20 : decode cX5_add 20 = .ok (.getfield 19, 3) := by decide +kernel
theorem dX5_add_23 : decode cX5_add 23 = .ok (.aload_n 0, 1) := by decide +kernel
theorem dX5_add_24 : decode cX5_add 24 = .ok (.getfield 7, 3) := by decide +kernel
theorem dX5_add_27 : decode cX5_add 27 = .ok (.iload_n 1, 1) := by decide +kernel
theorem dX5_add_28 : decode cX5_add 28 = .ok (.iastore, 1) := by decide +kernel
theorem dX5_add_29 : decode cX5_add 29 = .ok (.aload_n 0, 1) := by decide +kernel
theorem dX5_add_30 : decode cX5_add 30 = .ok (.dup, 1) := by decide +kernel
theorem dX5_add_31 : decode cX5_add 31 = .ok (.getfield 7, 3) := by decide +kernel
theorem dX5_add_34 : decode cX5_add 34 = .ok (.iconst 1, 1) := by decide +kernel
theorem dX5_add_35 : decode cX5_add 35 = .ok (.iadd, 1) := by decide +kernel
theorem dX5_add_36 : decode cX5_add 36 = .ok (.putfield 7, 3) := by decide +kernel
theorem dX5_add_39 : decode cX5_add 39 = .ok (.return_, 1) := by decide +kernel
theorem dX5_clear_0 : decode cX5_clear 0 = .ok (.aload_n 0, 1) := by decide +kernel
theorem dX5_clear_1 : decode cX5_clear 1 = .ok (.iconst 0, 1) := by decide +kernel
theorem dX5_clear_2 : decode cX5_clear 2 = .ok (.putfield 7, 3) := by decide +kernel
theorem dX5_clear_5 : decode cX5_clear 5 = .ok (.return_, 1) := by decide +kernel
theorem dX5_dropLast_0 : decode cX5_dropLast 0 = .ok (.aload_n 0, 1) := by decide +kernel
theorem dX5_dropLast_1 : decode cX5_dropLast 1 = .ok (.getfield 7, 3) := by decide +kernel
theorem dX5_dropLast_4 : decode cX5_dropLast 4 = .ok (.ifCond .le 13, 3) := by decide +kernel
theorem dX5_dropLast_7 : decode cX5_dropLast 7 = .ok (.aload_n 0, 1) := by decide +kernel
theorem dX5_dropLast_8 : decode cX5_dropLast 8 = .ok (.dup, 1) := by decide +kernel
theorem dX5_dropLast_9 : decode cX5_dropLast 9 = .ok (.getfield 7, 3) := by decide +kernel
theorem dX5_dropLast_12 : decode cX5_dropLast 12 = .ok (.iconst 1, 1) := by decide +kernel
theorem dX5_dropLast_13 : decode cX5_dropLast 13 = .ok (.isub, 1) := by decide +kernel
theorem dX5_dropLast_14 : decode cX5_dropLast 14 = .ok (.putfield 7, 3) := by decide +kernel
theorem dX5_dropLast_17 : decode cX5_dropLast 17 = .ok (.return_, 1) := by decide +kernel
theorem dX5_get_0 : decode cX5_get 0 = .ok (.iload_n 1, 1) := by decide +kernel
theorem dX5_get_1 : decode cX5_get 1 = .ok (.ifCond .lt 29, 3) := by decide +kernel
theorem dX5_get_4 : decode cX5_get 4 = .ok (.iload_n 1, 1) := by decide +kernel
theorem dX5_get_5 : decode cX5_get 5 = .ok (.aload_n 0, 1) := by decide +kernel
theorem dX5_get_6 : decode cX5_get 6 = .ok (.getfield 7, 3) := by decide +kernel
theorem dX5_get_9 : decode cX5_get 9 = .ok (.if_icmp .ge 21, 3) := by decide +kernel
theorem dX5_get_12 : decode cX5_get 12 = .ok (.iload_n 1, 1) := by decide +kernel
theorem dX5_get_13 : decode cX5_get 13 = .ok (.aload_n 0, 1) := by decide +kernel
theorem dX5_get_14 : decode cX5_get 14 = .ok (.getfield 19, 3) := by decide +kernel
theorem dX5_get_17 : decode cX5_get 17 = .ok (.arraylength, 1) := by decide +kernel
theorem dX5_get_18 : decode cX5_get 18 = .ok (.if_icmp .ge 12, 3) := by decide +kernel
theorem dX5_get_21 : decode cX5_get 21 = .ok (.aload_n 0, 1) := by decide +kernel
theorem dX5_get_22 : decode cX5_get 22 = .ok (.getfield 19, 3) := by decide +kernel
theorem dX5_get_25 : decode cX5_get 25 = .ok (.iload_n 1, 1) := by decide +kernel
theorem dX5_get_26 : decode cX5_get 26 = .ok (.iaload, 1) := by decide +kernel
theorem dX5_get_27 : decode cX5_get 27 = .ok (.goto 4, 3) := by decide +kernel
theorem dX5_get_30 : decode cX5_get 30 = .ok (.iconst 0, 1) := by decide +kernel
theorem dX5_get_31 : decode cX5_get 31 = .ok (.ireturn, 1) := by decide +kernel
theorem dX5_has_0 : decode cX5_has 0 = .ok (.iload_n 1, 1) := by decide +kernel
theorem dX5_has_1 : decode cX5_has 1 = .ok (.ifCond .lt 15, 3) := by decide +kernel
theorem dX5_has_4 : decode cX5_has 4 = .ok (.iload_n 1, 1) := by decide +kernel
theorem dX5_has_5 : decode cX5_has 5 = .ok (.aload_n 0, 1) := by decide +kernel
theorem dX5_has_6 : decode cX5_has 6 = .ok (.getfield 7, 3) := by decide +kernel
theorem dX5_has_9 : decode cX5_has 9 = .ok (.if_icmp .ge 7, 3) := by decide +kernel
theorem dX5_has_12 : decode cX5_has 12 = .ok (.iconst 1, 1) := by decide +kernel
theorem dX5_has_13 : decode cX5_has 13 = .ok (.goto 4, 3) := by decide +kernel
theorem dX5_has_16 : decode cX5_has 16 = .ok (.iconst 0, 1) := by decide +kernel
theorem dX5_has_17 : decode cX5_has 17 = .ok (.ireturn, 1) := by decide +kernel
theorem dX5_room_0 : decode cX5_room 0 = .ok (.aload_n 0, 1) := by decide +kernel
theorem dX5_room_1 : decode cX5_room 1 = .ok (.getfield 19, 3) := by decide +kernel
theorem dX5_room_4 : decode cX5_room 4 = .ok (.arraylength, 1) := by decide +kernel
theorem dX5_room_5 : decode cX5_room 5 = .ok (.aload_n 0, 1) := by decide +kernel
theorem dX5_room_6 : decode cX5_room 6 = .ok (.getfield 7, 3) := by decide +kernel
theorem dX5_room_9 : decode cX5_room 9 = .ok (.isub, 1) := by decide +kernel
theorem dX5_room_10 : decode cX5_room 10 = .ok (.ireturn, 1) := by decide +kernel
theorem ch_cX5_takeFrom_0 : (cX5_takeFrom.data.toList.drop 0).take 36 = [42, 43, 180, 0, 7, 42, 180, 0, 19, 190, 184, 0, 23, 181, 0, 7, 3, 61, 28, 42, 180, 0, 7, 162, 0, 20, 42, 180, 0, 19, 28, 43, 28, 182, 0, 26] := by decide +kernel
theorem dX5_takeFrom_0 : decode cX5_takeFrom 0 = .ok (.aload_n 0, 1) := do_42 (rdb (p := 0) (i := 0) ch_cX5_takeFrom_0 rfl)
theorem dX5_takeFrom_1 : decode cX5_takeFrom 1 = .ok (.aload_n 1, 1) := do_43 (rdb (p := 0) (i := 1) ch_cX5_takeFrom_0 rfl)
theorem dX5_takeFrom_2 : decode cX5_takeFrom 2 = .ok (.getfield 7, 3) := do_180 (rdb (p := 0) (i := 2) ch_cX5_takeFrom_0 rfl) (rdb (p := 0) (i := 3) ch_cX5_takeFrom_0 rfl) (rdb (p := 0) (i := 4) ch_cX5_takeFrom_0 rfl) rfl
theorem dX5_takeFrom_5 : decode cX5_takeFrom 5 = .ok (.aload_n 0, 1) := do_42 (rdb (p := 0) (i := 5) ch_cX5_takeFrom_0 rfl)
theorem dX5_takeFrom_6 : decode cX5_takeFrom 6 = .ok (.getfield 19, 3) := do_180 (rdb (p := 0) (i := 6) ch_cX5_takeFrom_0 rfl) (rdb (p := 0) (i := 7) ch_cX5_takeFrom_0 rfl) (rdb (p := 0) (i := 8) ch_cX5_takeFrom_0 rfl) rfl
theorem dX5_takeFrom_9 : decode cX5_takeFrom 9 = .ok (.arraylength, 1) := do_190 (rdb (p := 0) (i := 9) ch_cX5_takeFrom_0 rfl)
theorem dX5_takeFrom_10 : decode cX5_takeFrom 10 = .ok (.invokestatic 23, 3) := do_184 (rdb (p := 0) (i := 10) ch_cX5_takeFrom_0 rfl) (rdb (p := 0) (i := 11) ch_cX5_takeFrom_0 rfl) (rdb (p := 0) (i := 12) ch_cX5_takeFrom_0 rfl) rfl
theorem dX5_takeFrom_13 : decode cX5_takeFrom 13 = .ok (.putfield 7, 3) := do_181 (rdb (p := 0) (i := 13) ch_cX5_takeFrom_0 rfl) (rdb (p := 0) (i := 14) ch_cX5_takeFrom_0 rfl) (rdb (p := 0) (i := 15) ch_cX5_takeFrom_0 rfl) rfl
theorem dX5_takeFrom_16 : decode cX5_takeFrom 16 = .ok (.iconst 0, 1) := do_3 (rdb (p := 0) (i := 16) ch_cX5_takeFrom_0 rfl)
theorem dX5_takeFrom_17 : decode cX5_takeFrom 17 = .ok (.istore_n 2, 1) := do_61 (rdb (p := 0) (i := 17) ch_cX5_takeFrom_0 rfl)
theorem dX5_takeFrom_18 : decode cX5_takeFrom 18 = .ok (.iload_n 2, 1) := do_28 (rdb (p := 0) (i := 18) ch_cX5_takeFrom_0 rfl)
theorem dX5_takeFrom_19 : decode cX5_takeFrom 19 = .ok (.aload_n 0, 1) := do_42 (rdb (p := 0) (i := 19) ch_cX5_takeFrom_0 rfl)
theorem dX5_takeFrom_20 : decode cX5_takeFrom 20 = .ok (.getfield 7, 3) := do_180 (rdb (p := 0) (i := 20) ch_cX5_takeFrom_0 rfl) (rdb (p := 0) (i := 21) ch_cX5_takeFrom_0 rfl) (rdb (p := 0) (i := 22) ch_cX5_takeFrom_0 rfl) rfl
theorem dX5_takeFrom_23 : decode cX5_takeFrom 23 = .ok (.if_icmp .ge 20, 3) := do_162 (rdb (p := 0) (i := 23) ch_cX5_takeFrom_0 rfl) (rdb (p := 0) (i := 24) ch_cX5_takeFrom_0 rfl) (rdb (p := 0) (i := 25) ch_cX5_takeFrom_0 rfl) (by decide +kernel)
theorem dX5_takeFrom_26 : decode cX5_takeFrom 26 = .ok (.aload_n 0, 1) := do_42 (rdb (p := 0) (i := 26) ch_cX5_takeFrom_0 rfl)
theorem dX5_takeFrom_27 : decode cX5_takeFrom 27 = .ok (.getfield 19, 3) := do_180 (rdb (p := 0) (i := 27) ch_cX5_takeFrom_0 rfl) (rdb (p := 0) (i := 28) ch_cX5_takeFrom_0 rfl) (rdb (p := 0) (i := 29) ch_cX5_takeFrom_0 rfl) rfl
theorem dX5_takeFrom_30 : decode cX5_takeFrom 30 = .ok (.iload_n 2, 1) := do_28 (rdb (p := 0) (i := 30) ch_cX5_takeFrom_0 rfl)
theorem dX5_takeFrom_31 : decode cX5_takeFrom 31 = .ok (.aload_n 1, 1) := do_43 (rdb (p := 0) (i := 31) ch_cX5_takeFrom_0 rfl)
theorem ch_cX5_takeFrom_32 : (cX5_takeFrom.data.toList.drop 32).take 36 = [28, 182, 0, 26, 79, 132, 2, 1, 167, 255, 234, 177] := by decide +kernel
theorem dX5_takeFrom_32 : decode cX5_takeFrom 32 = .ok (.iload_n 2, 1) := do_28 (rdb (p := 32) (i := 0) ch_cX5_takeFrom_32 rfl)
theorem dX5_takeFrom_33 : decode cX5_takeFrom 33 = .ok (.invokevirtual 26, 3) := do_182 (rdb (p := 32) (i := 1) ch_cX5_takeFrom_32 rfl) (rdb (p := 32) (i := 2) ch_cX5_takeFrom_32 rfl) (rdb (p := 32) (i := 3) ch_cX5_takeFrom_32 rfl) rfl
theorem dX5_takeFrom_36 : decode cX5_takeFrom 36 = .ok (.iastore, 1) := do_79 (rdb (p := 32) (i := 4) ch_cX5_takeFrom_32 rfl)
theorem dX5_takeFrom_37 : decode cX5_takeFrom 37 = .ok (.iinc 2 1, 3) := do_132 (rdb (p := 32) (i := 5) ch_cX5_takeFrom_32 rfl) (rdb (p := 32) (i := 6) ch_cX5_takeFrom_32 rfl) (rdb (p := 32) (i := 7) ch_cX5_takeFrom_32 rfl) (by decide +kernel)
theorem dX5_takeFrom_40 : decode cX5_takeFrom 40 = .ok (.goto (-22), 3) := do_167 (rdb (p := 32) (i := 8) ch_cX5_takeFrom_32 rfl) (rdb (p := 32) (i := 9) ch_cX5_takeFrom_32 rfl) (rdb (p := 32) (i := 10) ch_cX5_takeFrom_32 rfl) (by decide +kernel)
theorem dX5_takeFrom_43 : decode cX5_takeFrom 43 = .ok (.return_, 1) := do_177 (rdb (p := 32) (i := 11) ch_cX5_takeFrom_32 rfl)
end
