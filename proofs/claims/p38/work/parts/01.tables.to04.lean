section
-- ===== PART A: goes FIRST, ahead of the names: the tables' words, and 'selects' of the private methods out of them =====
/-- a private method of a class that the tables say can be made, by its rows of tables_1 -/
def lw_okq (q : MethodName × Nat) : Prop := (q.1.cls ≠ "java/lang/invoke/MethodHandle" ∧ q.1.cls ≠ "java/lang/invoke/VarHandle") ∧ Cond.instantiable q.1.cls q.2 ∈ tables_1 ∧ Cond.privateMethod q.1 ∈ tables_1 ∧ Cond.instanceMethod q.1 ∈ tables_1
theorem tbM1 {w : Cond} (i : Nat) (h : tables_1_1[i]? = some w) : w ∈ tables_1 := List.mem_append_left _ (List.mem_of_getElem? h)
theorem tbM2 {w : Cond} (i : Nat) (h : tables_1_2[i]? = some w) : w ∈ tables_1 := List.mem_append_right _ (List.mem_append_left _ (List.mem_of_getElem? h))
theorem tbM3 {w : Cond} (i : Nat) (h : tables_1_3[i]? = some w) : w ∈ tables_1 := List.mem_append_right _ (List.mem_append_right _ (List.mem_append_left _ (List.mem_of_getElem? h)))
theorem tbM4 {w : Cond} (i : Nat) (h : tables_1_4[i]? = some w) : w ∈ tables_1 := List.mem_append_right _ (List.mem_append_right _ (List.mem_append_right _ (List.mem_append_left _ (List.mem_of_getElem? h))))
theorem tbM5 {w : Cond} (i : Nat) (h : tables_1_5[i]? = some w) : w ∈ tables_1 := List.mem_append_right _ (List.mem_append_right _ (List.mem_append_right _ (List.mem_append_right _ (List.mem_append_left _ (List.mem_of_getElem? h)))))
theorem tbM6 {w : Cond} (i : Nat) (h : tables_1_6[i]? = some w) : w ∈ tables_1 := List.mem_append_right _ (List.mem_append_right _ (List.mem_append_right _ (List.mem_append_right _ (List.mem_append_right _ (List.mem_append_left _ (List.mem_of_getElem? h))))))
theorem tbM7 {w : Cond} (i : Nat) (h : tables_1_7[i]? = some w) : w ∈ tables_1 := List.mem_append_right _ (List.mem_append_right _ (List.mem_append_right _ (List.mem_append_right _ (List.mem_append_right _ (List.mem_append_right _ (List.mem_append_left _ (List.mem_of_getElem? h)))))))
theorem tbM8 {w : Cond} (i : Nat) (h : tables_1_8[i]? = some w) : w ∈ tables_1 := List.mem_append_right _ (List.mem_append_right _ (List.mem_append_right _ (List.mem_append_right _ (List.mem_append_right _ (List.mem_append_right _ (List.mem_append_right _ (List.mem_of_getElem? h)))))))
theorem nhS0 : "ClickStreet" ≠ "java/lang/invoke/MethodHandle" ∧ "ClickStreet" ≠ "java/lang/invoke/VarHandle" := ⟨by decide +kernel, by decide +kernel⟩
theorem nhS1 : "ClickStreet$Finder" ≠ "java/lang/invoke/MethodHandle" ∧ "ClickStreet$Finder" ≠ "java/lang/invoke/VarHandle" := ⟨by decide +kernel, by decide +kernel⟩
theorem nhS2 : "ClickStreet$Lessons" ≠ "java/lang/invoke/MethodHandle" ∧ "ClickStreet$Lessons" ≠ "java/lang/invoke/VarHandle" := ⟨by decide +kernel, by decide +kernel⟩
theorem nhS3 : "ClickStreet$Reader" ≠ "java/lang/invoke/MethodHandle" ∧ "ClickStreet$Reader" ≠ "java/lang/invoke/VarHandle" := ⟨by decide +kernel, by decide +kernel⟩
theorem nhS4 : "ClickStreet$Street" ≠ "java/lang/invoke/MethodHandle" ∧ "ClickStreet$Street" ≠ "java/lang/invoke/VarHandle" := ⟨by decide +kernel, by decide +kernel⟩
theorem nhS5 : "ClickStreet$Voices" ≠ "java/lang/invoke/MethodHandle" ∧ "ClickStreet$Voices" ≠ "java/lang/invoke/VarHandle" := ⟨by decide +kernel, by decide +kernel⟩
theorem nhS6 : "ClickStreet$World" ≠ "java/lang/invoke/MethodHandle" ∧ "ClickStreet$World" ≠ "java/lang/invoke/VarHandle" := ⟨by decide +kernel, by decide +kernel⟩
theorem nhS7 : "ClickStreetModel" ≠ "java/lang/invoke/MethodHandle" ∧ "ClickStreetModel" ≠ "java/lang/invoke/VarHandle" := ⟨by decide +kernel, by decide +kernel⟩
set_option maxRecDepth 20000 in
theorem lw_p0 : lw_okq (⟨"ClickStreet", "error", "(I)I"⟩, 9) := ⟨nhS0, tbM1 24 rfl, tbM2 183 rfl, tbM2 184 rfl⟩
set_option maxRecDepth 20000 in
theorem lw_p1 : lw_okq (⟨"ClickStreet$Reader", "readComparisons", "()V"⟩, 7) := ⟨nhS3, tbM2 30 rfl, tbM3 135 rfl, tbM3 136 rfl⟩
set_option maxRecDepth 20000 in
theorem lw_p2 : lw_okq (⟨"ClickStreet$Reader", "readSum", "()V"⟩, 7) := ⟨nhS3, tbM2 30 rfl, tbM3 139 rfl, tbM3 140 rfl⟩
set_option maxRecDepth 20000 in
theorem lw_p3 : lw_okq (⟨"ClickStreet$Reader", "readTerm", "()V"⟩, 7) := ⟨nhS3, tbM2 30 rfl, tbM3 143 rfl, tbM3 144 rfl⟩
set_option maxRecDepth 20000 in
theorem lw_p4 : lw_okq (⟨"ClickStreet$Reader", "readOne", "()V"⟩, 7) := ⟨nhS3, tbM2 30 rfl, tbM3 147 rfl, tbM3 148 rfl⟩
set_option maxRecDepth 20000 in
theorem lw_p5 : lw_okq (⟨"ClickStreet$Reader", "next", "()I"⟩, 7) := ⟨nhS3, tbM2 30 rfl, tbM3 151 rfl, tbM3 152 rfl⟩
set_option maxRecDepth 20000 in
theorem lw_p6 : lw_okq (⟨"ClickStreet$Reader", "readNumber", "()V"⟩, 7) := ⟨nhS3, tbM2 30 rfl, tbM3 159 rfl, tbM3 160 rfl⟩
set_option maxRecDepth 20000 in
theorem lw_p7 : lw_okq (⟨"ClickStreet$Reader", "readOpened", "(I)V"⟩, 7) := ⟨nhS3, tbM2 30 rfl, tbM3 167 rfl, tbM3 168 rfl⟩
set_option maxRecDepth 20000 in
theorem lw_p8 : lw_okq (⟨"ClickStreet$Reader", "fail", "()V"⟩, 7) := ⟨nhS3, tbM2 30 rfl, tbM3 171 rfl, tbM3 172 rfl⟩
set_option maxRecDepth 20000 in
theorem lw_p9 : lw_okq (⟨"ClickStreet$Reader", "expect", "(I)V"⟩, 7) := ⟨nhS3, tbM2 30 rfl, tbM3 175 rfl, tbM3 176 rfl⟩
set_option maxRecDepth 20000 in
theorem lw_p10 : lw_okq (⟨"ClickStreet$Reader", "readName", "(I)V"⟩, 7) := ⟨nhS3, tbM2 30 rfl, tbM3 179 rfl, tbM3 180 rfl⟩
set_option maxRecDepth 20000 in
theorem lw_p11 : lw_okq (⟨"ClickStreet$Finder", "noteLearned", "(LClickStreet$World;III)V"⟩, 6) := ⟨nhS1, tbM2 65 rfl, tbM4 197 rfl, tbM4 198 rfl⟩
set_option maxRecDepth 20000 in
theorem lw_p12 : lw_okq (⟨"ClickStreet$Finder", "countLearned", "(I)I"⟩, 6) := ⟨nhS1, tbM2 65 rfl, tbM4 214 rfl, tbM4 215 rfl⟩
set_option maxRecDepth 20000 in
theorem lw_p13 : lw_okq (⟨"ClickStreet$Street", "letThingGo", "(I)V"⟩, 6) := ⟨nhS4, tbM1 38 rfl, tbM4 236 rfl, tbM4 237 rfl⟩
set_option maxRecDepth 20000 in
theorem lw_p14 : lw_okq (⟨"ClickStreet$World", "letWalkerGo", "(I)V"⟩, 8) := ⟨nhS6, tbM1 32 rfl, tbM5 2 rfl, tbM5 3 rfl⟩
set_option maxRecDepth 20000 in
theorem lw_p15 : lw_okq (⟨"ClickStreet$World", "goOn", "(I)V"⟩, 8) := ⟨nhS6, tbM1 32 rfl, tbM5 20 rfl, tbM5 21 rfl⟩
def lw_privs_1 : List (MethodName × Nat) := [(⟨"ClickStreet", "error", "(I)I"⟩, 9), (⟨"ClickStreet$Reader", "readComparisons", "()V"⟩, 7), (⟨"ClickStreet$Reader", "readSum", "()V"⟩, 7), (⟨"ClickStreet$Reader", "readTerm", "()V"⟩, 7), (⟨"ClickStreet$Reader", "readOne", "()V"⟩, 7), (⟨"ClickStreet$Reader", "next", "()I"⟩, 7), (⟨"ClickStreet$Reader", "readNumber", "()V"⟩, 7), (⟨"ClickStreet$Reader", "readOpened", "(I)V"⟩, 7), (⟨"ClickStreet$Reader", "fail", "()V"⟩, 7), (⟨"ClickStreet$Reader", "expect", "(I)V"⟩, 7), (⟨"ClickStreet$Reader", "readName", "(I)V"⟩, 7), (⟨"ClickStreet$Finder", "noteLearned", "(LClickStreet$World;III)V"⟩, 6), (⟨"ClickStreet$Finder", "countLearned", "(I)I"⟩, 6), (⟨"ClickStreet$Street", "letThingGo", "(I)V"⟩, 6), (⟨"ClickStreet$World", "letWalkerGo", "(I)V"⟩, 8), (⟨"ClickStreet$World", "goOn", "(I)V"⟩, 8)]
theorem lw_r1 : ∀ q ∈ lw_privs_1, lw_okq q := List.forall_mem_cons.mpr ⟨lw_p0, List.forall_mem_cons.mpr ⟨lw_p1, List.forall_mem_cons.mpr ⟨lw_p2, List.forall_mem_cons.mpr ⟨lw_p3, List.forall_mem_cons.mpr ⟨lw_p4, List.forall_mem_cons.mpr ⟨lw_p5, List.forall_mem_cons.mpr ⟨lw_p6, List.forall_mem_cons.mpr ⟨lw_p7, List.forall_mem_cons.mpr ⟨lw_p8, List.forall_mem_cons.mpr ⟨lw_p9, List.forall_mem_cons.mpr ⟨lw_p10, List.forall_mem_cons.mpr ⟨lw_p11, List.forall_mem_cons.mpr ⟨lw_p12, List.forall_mem_cons.mpr ⟨lw_p13, List.forall_mem_cons.mpr ⟨lw_p14, List.forall_mem_cons.mpr ⟨lw_p15, fun _ h => absurd h List.not_mem_nil⟩⟩⟩⟩⟩⟩⟩⟩⟩⟩⟩⟩⟩⟩⟩⟩
set_option maxRecDepth 20000 in
theorem lw_p16 : lw_okq (⟨"ClickStreet$Finder", "nearestOpen", "()I"⟩, 6) := ⟨nhS1, tbM2 65 rfl, tbM5 40 rfl, tbM5 41 rfl⟩
set_option maxRecDepth 20000 in
theorem lw_p17 : lw_okq (⟨"ClickStreet$Finder", "firstStep", "(LClickStreet$Walker;I)I"⟩, 6) := ⟨nhS1, tbM2 65 rfl, tbM5 56 rfl, tbM5 57 rfl⟩
set_option maxRecDepth 20000 in
theorem lw_p18 : lw_okq (⟨"ClickStreet$Lessons", "tryRows", "(III)V"⟩, 9) := ⟨nhS2, tbM1 116 rfl, tbM5 97 rfl, tbM5 98 rfl⟩
set_option maxRecDepth 20000 in
theorem lw_p19 : lw_okq (⟨"ClickStreet$Lessons", "isBetter", "(I)Z"⟩, 9) := ⟨nhS2, tbM1 116 rfl, tbM5 101 rfl, tbM5 102 rfl⟩
set_option maxRecDepth 20000 in
theorem lw_p20 : lw_okq (⟨"ClickStreet$Finder", "servesAll", "(II)Z"⟩, 6) := ⟨nhS1, tbM2 65 rfl, tbM5 134 rfl, tbM5 135 rfl⟩
set_option maxRecDepth 20000 in
theorem lw_p21 : lw_okq (⟨"ClickStreet$Voices", "say", "(IIII)I"⟩, 6) := ⟨nhS5, tbM2 94 rfl, tbM5 148 rfl, tbM5 149 rfl⟩
set_option maxRecDepth 20000 in
theorem lw_p22 : lw_okq (⟨"ClickStreet$Voices", "run", "(III)I"⟩, 6) := ⟨nhS5, tbM2 94 rfl, tbM5 154 rfl, tbM5 155 rfl⟩
set_option maxRecDepth 20000 in
theorem lw_p23 : lw_okq (⟨"ClickStreet$Voices", "own", "(III)I"⟩, 6) := ⟨nhS5, tbM2 94 rfl, tbM5 160 rfl, tbM5 161 rfl⟩
set_option maxRecDepth 20000 in
theorem lw_p24 : lw_okq (⟨"ClickStreet$Voices", "parted", "(I)I"⟩, 6) := ⟨nhS5, tbM2 94 rfl, tbM5 164 rfl, tbM5 165 rfl⟩
set_option maxRecDepth 20000 in
theorem lw_p25 : lw_okq (⟨"ClickStreetModel", "finding", "(I)I"⟩, 33) := ⟨nhS7, tbM6 35 rfl, tbM6 157 rfl, tbM6 158 rfl⟩
set_option maxRecDepth 20000 in
theorem lw_p26 : lw_okq (⟨"ClickStreetModel", "isFree", "(I)Z"⟩, 33) := ⟨nhS7, tbM6 35 rfl, tbM6 162 rfl, tbM6 163 rfl⟩
set_option maxRecDepth 20000 in
theorem lw_p27 : lw_okq (⟨"ClickStreetModel", "in", "(I)I"⟩, 33) := ⟨nhS7, tbM6 35 rfl, tbM6 166 rfl, tbM6 167 rfl⟩
set_option maxRecDepth 20000 in
theorem lw_p28 : lw_okq (⟨"ClickStreetModel", "thing", "(I)I"⟩, 33) := ⟨nhS7, tbM6 35 rfl, tbM6 170 rfl, tbM6 171 rfl⟩
set_option maxRecDepth 20000 in
theorem lw_p29 : lw_okq (⟨"ClickStreetModel", "goer", "(I)I"⟩, 33) := ⟨nhS7, tbM6 35 rfl, tbM6 174 rfl, tbM6 175 rfl⟩
set_option maxRecDepth 20000 in
theorem lw_p30 : lw_okq (⟨"ClickStreetModel", "comes", "(II)I"⟩, 33) := ⟨nhS7, tbM6 35 rfl, tbM6 180 rfl, tbM6 181 rfl⟩
set_option maxRecDepth 20000 in
theorem lw_p31 : lw_okq (⟨"ClickStreetModel", "is", "(II)Z"⟩, 33) := ⟨nhS7, tbM6 35 rfl, tbM6 188 rfl, tbM6 189 rfl⟩
def lw_privs_2 : List (MethodName × Nat) := [(⟨"ClickStreet$Finder", "nearestOpen", "()I"⟩, 6), (⟨"ClickStreet$Finder", "firstStep", "(LClickStreet$Walker;I)I"⟩, 6), (⟨"ClickStreet$Lessons", "tryRows", "(III)V"⟩, 9), (⟨"ClickStreet$Lessons", "isBetter", "(I)Z"⟩, 9), (⟨"ClickStreet$Finder", "servesAll", "(II)Z"⟩, 6), (⟨"ClickStreet$Voices", "say", "(IIII)I"⟩, 6), (⟨"ClickStreet$Voices", "run", "(III)I"⟩, 6), (⟨"ClickStreet$Voices", "own", "(III)I"⟩, 6), (⟨"ClickStreet$Voices", "parted", "(I)I"⟩, 6), (⟨"ClickStreetModel", "finding", "(I)I"⟩, 33), (⟨"ClickStreetModel", "isFree", "(I)Z"⟩, 33), (⟨"ClickStreetModel", "in", "(I)I"⟩, 33), (⟨"ClickStreetModel", "thing", "(I)I"⟩, 33), (⟨"ClickStreetModel", "goer", "(I)I"⟩, 33), (⟨"ClickStreetModel", "comes", "(II)I"⟩, 33), (⟨"ClickStreetModel", "is", "(II)Z"⟩, 33)]
theorem lw_r2 : ∀ q ∈ lw_privs_2, lw_okq q := List.forall_mem_cons.mpr ⟨lw_p16, List.forall_mem_cons.mpr ⟨lw_p17, List.forall_mem_cons.mpr ⟨lw_p18, List.forall_mem_cons.mpr ⟨lw_p19, List.forall_mem_cons.mpr ⟨lw_p20, List.forall_mem_cons.mpr ⟨lw_p21, List.forall_mem_cons.mpr ⟨lw_p22, List.forall_mem_cons.mpr ⟨lw_p23, List.forall_mem_cons.mpr ⟨lw_p24, List.forall_mem_cons.mpr ⟨lw_p25, List.forall_mem_cons.mpr ⟨lw_p26, List.forall_mem_cons.mpr ⟨lw_p27, List.forall_mem_cons.mpr ⟨lw_p28, List.forall_mem_cons.mpr ⟨lw_p29, List.forall_mem_cons.mpr ⟨lw_p30, List.forall_mem_cons.mpr ⟨lw_p31, fun _ h => absurd h List.not_mem_nil⟩⟩⟩⟩⟩⟩⟩⟩⟩⟩⟩⟩⟩⟩⟩⟩
set_option maxRecDepth 20000 in
theorem lw_p32 : lw_okq (⟨"ClickStreetModel", "become", "(II)I"⟩, 33) := ⟨nhS7, tbM6 35 rfl, tbM6 204 rfl, tbM6 205 rfl⟩
set_option maxRecDepth 20000 in
theorem lw_p33 : lw_okq (⟨"ClickStreetModel", "reach", "(I)I"⟩, 33) := ⟨nhS7, tbM6 35 rfl, tbM6 236 rfl, tbM6 237 rfl⟩
set_option maxRecDepth 20000 in
theorem lw_p34 : lw_okq (⟨"ClickStreetModel", "kindOf", "(I)I"⟩, 33) := ⟨nhS7, tbM6 35 rfl, tbM7 0 rfl, tbM7 1 rfl⟩
set_option maxRecDepth 20000 in
theorem lw_p35 : lw_okq (⟨"ClickStreetModel", "ears", "(I)I"⟩, 33) := ⟨nhS7, tbM6 35 rfl, tbM7 7 rfl, tbM7 8 rfl⟩
set_option maxRecDepth 20000 in
theorem lw_p36 : lw_okq (⟨"ClickStreetModel", "text", "()V"⟩, 33) := ⟨nhS7, tbM6 35 rfl, tbM7 42 rfl, tbM7 43 rfl⟩
set_option maxRecDepth 20000 in
theorem lw_p37 : lw_okq (⟨"ClickStreetModel", "sum", "()V"⟩, 33) := ⟨nhS7, tbM6 35 rfl, tbM7 46 rfl, tbM7 47 rfl⟩
set_option maxRecDepth 20000 in
theorem lw_p38 : lw_okq (⟨"ClickStreetModel", "term", "()V"⟩, 33) := ⟨nhS7, tbM6 35 rfl, tbM7 50 rfl, tbM7 51 rfl⟩
set_option maxRecDepth 20000 in
theorem lw_p39 : lw_okq (⟨"ClickStreetModel", "one", "()V"⟩, 33) := ⟨nhS7, tbM6 35 rfl, tbM7 54 rfl, tbM7 55 rfl⟩
set_option maxRecDepth 20000 in
theorem lw_p40 : lw_okq (⟨"ClickStreetModel", "here", "()I"⟩, 33) := ⟨nhS7, tbM6 35 rfl, tbM7 58 rfl, tbM7 59 rfl⟩
set_option maxRecDepth 20000 in
theorem lw_p41 : lw_okq (⟨"ClickStreetModel", "opens", "(I)V"⟩, 33) := ⟨nhS7, tbM6 35 rfl, tbM7 62 rfl, tbM7 63 rfl⟩
set_option maxRecDepth 20000 in
theorem lw_p42 : lw_okq (⟨"ClickStreetModel", "codes", "(I)V"⟩, 33) := ⟨nhS7, tbM6 35 rfl, tbM7 66 rfl, tbM7 67 rfl⟩
set_option maxRecDepth 20000 in
theorem lw_p43 : lw_okq (⟨"ClickStreetModel", "must", "(I)V"⟩, 33) := ⟨nhS7, tbM6 35 rfl, tbM7 70 rfl, tbM7 71 rfl⟩
set_option maxRecDepth 20000 in
theorem lw_p44 : lw_okq (⟨"ClickStreetModel", "takes", "(I)Z"⟩, 33) := ⟨nhS7, tbM6 35 rfl, tbM7 74 rfl, tbM7 75 rfl⟩
set_option maxRecDepth 20000 in
theorem lw_p45 : lw_okq (⟨"ClickStreetModel", "nameOf", "(I)I"⟩, 33) := ⟨nhS7, tbM6 35 rfl, tbM7 78 rfl, tbM7 79 rfl⟩
set_option maxRecDepth 20000 in
theorem lw_p46 : lw_okq (⟨"ClickStreetModel", "isClick", "(I)Z"⟩, 33) := ⟨nhS7, tbM6 35 rfl, tbM7 107 rfl, tbM7 108 rfl⟩
set_option maxRecDepth 20000 in
theorem lw_p47 : lw_okq (⟨"ClickStreetModel", "echoFrom", "(III)I"⟩, 33) := ⟨nhS7, tbM6 35 rfl, tbM7 111 rfl, tbM7 112 rfl⟩
def lw_privs_3 : List (MethodName × Nat) := [(⟨"ClickStreetModel", "become", "(II)I"⟩, 33), (⟨"ClickStreetModel", "reach", "(I)I"⟩, 33), (⟨"ClickStreetModel", "kindOf", "(I)I"⟩, 33), (⟨"ClickStreetModel", "ears", "(I)I"⟩, 33), (⟨"ClickStreetModel", "text", "()V"⟩, 33), (⟨"ClickStreetModel", "sum", "()V"⟩, 33), (⟨"ClickStreetModel", "term", "()V"⟩, 33), (⟨"ClickStreetModel", "one", "()V"⟩, 33), (⟨"ClickStreetModel", "here", "()I"⟩, 33), (⟨"ClickStreetModel", "opens", "(I)V"⟩, 33), (⟨"ClickStreetModel", "codes", "(I)V"⟩, 33), (⟨"ClickStreetModel", "must", "(I)V"⟩, 33), (⟨"ClickStreetModel", "takes", "(I)Z"⟩, 33), (⟨"ClickStreetModel", "nameOf", "(I)I"⟩, 33), (⟨"ClickStreetModel", "isClick", "(I)Z"⟩, 33), (⟨"ClickStreetModel", "echoFrom", "(III)I"⟩, 33)]
theorem lw_r3 : ∀ q ∈ lw_privs_3, lw_okq q := List.forall_mem_cons.mpr ⟨lw_p32, List.forall_mem_cons.mpr ⟨lw_p33, List.forall_mem_cons.mpr ⟨lw_p34, List.forall_mem_cons.mpr ⟨lw_p35, List.forall_mem_cons.mpr ⟨lw_p36, List.forall_mem_cons.mpr ⟨lw_p37, List.forall_mem_cons.mpr ⟨lw_p38, List.forall_mem_cons.mpr ⟨lw_p39, List.forall_mem_cons.mpr ⟨lw_p40, List.forall_mem_cons.mpr ⟨lw_p41, List.forall_mem_cons.mpr ⟨lw_p42, List.forall_mem_cons.mpr ⟨lw_p43, List.forall_mem_cons.mpr ⟨lw_p44, List.forall_mem_cons.mpr ⟨lw_p45, List.forall_mem_cons.mpr ⟨lw_p46, List.forall_mem_cons.mpr ⟨lw_p47, fun _ h => absurd h List.not_mem_nil⟩⟩⟩⟩⟩⟩⟩⟩⟩⟩⟩⟩⟩⟩⟩⟩
set_option maxRecDepth 20000 in
theorem lw_p48 : lw_okq (⟨"ClickStreetModel", "on", "(III)I"⟩, 33) := ⟨nhS7, tbM6 35 rfl, tbM7 115 rfl, tbM7 116 rfl⟩
set_option maxRecDepth 20000 in
theorem lw_p49 : lw_okq (⟨"ClickStreetModel", "kindIn", "(I)I"⟩, 33) := ⟨nhS7, tbM6 35 rfl, tbM7 119 rfl, tbM7 120 rfl⟩
set_option maxRecDepth 20000 in
theorem lw_p50 : lw_okq (⟨"ClickStreetModel", "strength", "(IIII)I"⟩, 33) := ⟨nhS7, tbM6 35 rfl, tbM7 123 rfl, tbM7 124 rfl⟩
set_option maxRecDepth 20000 in
theorem lw_p51 : lw_okq (⟨"ClickStreetModel", "hasText", "(I)Z"⟩, 33) := ⟨nhS7, tbM6 35 rfl, tbM7 127 rfl, tbM7 128 rfl⟩
set_option maxRecDepth 20000 in
theorem lw_p52 : lw_okq (⟨"ClickStreetModel", "given", "(I)I"⟩, 33) := ⟨nhS7, tbM6 35 rfl, tbM7 131 rfl, tbM7 132 rfl⟩
set_option maxRecDepth 20000 in
theorem lw_p53 : lw_okq (⟨"ClickStreetModel", "isHeard", "(IIIIII)Z"⟩, 33) := ⟨nhS7, tbM6 35 rfl, tbM7 146 rfl, tbM7 147 rfl⟩
set_option maxRecDepth 20000 in
theorem lw_p54 : lw_okq (⟨"ClickStreetModel", "clicks", "(I)I"⟩, 33) := ⟨nhS7, tbM6 35 rfl, tbM7 154 rfl, tbM7 155 rfl⟩
set_option maxRecDepth 20000 in
theorem lw_p55 : lw_okq (⟨"ClickStreetModel", "heardFrom", "(III)I"⟩, 33) := ⟨nhS7, tbM6 35 rfl, tbM7 158 rfl, tbM7 159 rfl⟩
set_option maxRecDepth 20000 in
theorem lw_p56 : lw_okq (⟨"ClickStreetModel", "no", "(II)I"⟩, 33) := ⟨nhS7, tbM6 35 rfl, tbM7 162 rfl, tbM7 163 rfl⟩
set_option maxRecDepth 20000 in
theorem lw_p57 : lw_okq (⟨"ClickStreetModel", "yes", "(II)I"⟩, 33) := ⟨nhS7, tbM6 35 rfl, tbM7 166 rfl, tbM7 167 rfl⟩
set_option maxRecDepth 20000 in
theorem lw_p58 : lw_okq (⟨"ClickStreetModel", "more", "(II)V"⟩, 33) := ⟨nhS7, tbM6 35 rfl, tbM7 170 rfl, tbM7 171 rfl⟩
set_option maxRecDepth 20000 in
theorem lw_p59 : lw_okq (⟨"ClickStreetModel", "held", "(II)I"⟩, 33) := ⟨nhS7, tbM6 35 rfl, tbM7 178 rfl, tbM7 179 rfl⟩
set_option maxRecDepth 20000 in
theorem lw_p60 : lw_okq (⟨"ClickStreetModel", "areCells", "(IZ)Z"⟩, 33) := ⟨nhS7, tbM6 35 rfl, tbM7 202 rfl, tbM7 203 rfl⟩
set_option maxRecDepth 20000 in
theorem lw_p61 : lw_okq (⟨"ClickStreetModel", "findTold", "(III)V"⟩, 33) := ⟨nhS7, tbM6 35 rfl, tbM7 206 rfl, tbM7 207 rfl⟩
set_option maxRecDepth 20000 in
theorem lw_p62 : lw_okq (⟨"ClickStreetModel", "toldBy", "(I)I"⟩, 33) := ⟨nhS7, tbM6 35 rfl, tbM7 213 rfl, tbM7 214 rfl⟩
set_option maxRecDepth 20000 in
theorem lw_p63 : lw_okq (⟨"ClickStreetModel", "tenth", "()V"⟩, 33) := ⟨nhS7, tbM6 35 rfl, tbM7 221 rfl, tbM7 222 rfl⟩
def lw_privs_4 : List (MethodName × Nat) := [(⟨"ClickStreetModel", "on", "(III)I"⟩, 33), (⟨"ClickStreetModel", "kindIn", "(I)I"⟩, 33), (⟨"ClickStreetModel", "strength", "(IIII)I"⟩, 33), (⟨"ClickStreetModel", "hasText", "(I)Z"⟩, 33), (⟨"ClickStreetModel", "given", "(I)I"⟩, 33), (⟨"ClickStreetModel", "isHeard", "(IIIIII)Z"⟩, 33), (⟨"ClickStreetModel", "clicks", "(I)I"⟩, 33), (⟨"ClickStreetModel", "heardFrom", "(III)I"⟩, 33), (⟨"ClickStreetModel", "no", "(II)I"⟩, 33), (⟨"ClickStreetModel", "yes", "(II)I"⟩, 33), (⟨"ClickStreetModel", "more", "(II)V"⟩, 33), (⟨"ClickStreetModel", "held", "(II)I"⟩, 33), (⟨"ClickStreetModel", "areCells", "(IZ)Z"⟩, 33), (⟨"ClickStreetModel", "findTold", "(III)V"⟩, 33), (⟨"ClickStreetModel", "toldBy", "(I)I"⟩, 33), (⟨"ClickStreetModel", "tenth", "()V"⟩, 33)]
theorem lw_r4 : ∀ q ∈ lw_privs_4, lw_okq q := List.forall_mem_cons.mpr ⟨lw_p48, List.forall_mem_cons.mpr ⟨lw_p49, List.forall_mem_cons.mpr ⟨lw_p50, List.forall_mem_cons.mpr ⟨lw_p51, List.forall_mem_cons.mpr ⟨lw_p52, List.forall_mem_cons.mpr ⟨lw_p53, List.forall_mem_cons.mpr ⟨lw_p54, List.forall_mem_cons.mpr ⟨lw_p55, List.forall_mem_cons.mpr ⟨lw_p56, List.forall_mem_cons.mpr ⟨lw_p57, List.forall_mem_cons.mpr ⟨lw_p58, List.forall_mem_cons.mpr ⟨lw_p59, List.forall_mem_cons.mpr ⟨lw_p60, List.forall_mem_cons.mpr ⟨lw_p61, List.forall_mem_cons.mpr ⟨lw_p62, List.forall_mem_cons.mpr ⟨lw_p63, fun _ h => absurd h List.not_mem_nil⟩⟩⟩⟩⟩⟩⟩⟩⟩⟩⟩⟩⟩⟩⟩⟩
set_option maxRecDepth 20000 in
theorem lw_p64 : lw_okq (⟨"ClickStreetModel", "thingGoes", "(I)V"⟩, 33) := ⟨nhS7, tbM6 35 rfl, tbM7 225 rfl, tbM7 226 rfl⟩
set_option maxRecDepth 20000 in
theorem lw_p65 : lw_okq (⟨"ClickStreetModel", "walkerGoes", "(I)V"⟩, 33) := ⟨nhS7, tbM6 35 rfl, tbM7 229 rfl, tbM7 230 rfl⟩
set_option maxRecDepth 20000 in
theorem lw_p66 : lw_okq (⟨"ClickStreetModel", "habitOf", "(I)I"⟩, 33) := ⟨nhS7, tbM6 35 rfl, tbM7 233 rfl, tbM7 234 rfl⟩
set_option maxRecDepth 20000 in
theorem lw_p67 : lw_okq (⟨"ClickStreetModel", "fullAhead", "(II)I"⟩, 33) := ⟨nhS7, tbM6 35 rfl, tbM7 237 rfl, tbM7 238 rfl⟩
set_option maxRecDepth 20000 in
theorem lw_p68 : lw_okq (⟨"ClickStreetModel", "goesOn", "(I)V"⟩, 33) := ⟨nhS7, tbM6 35 rfl, tbM8 1 rfl, tbM8 2 rfl⟩
set_option maxRecDepth 20000 in
theorem lw_p69 : lw_okq (⟨"ClickStreetModel", "findFar", "(II)V"⟩, 33) := ⟨nhS7, tbM6 35 rfl, tbM8 9 rfl, tbM8 10 rfl⟩
set_option maxRecDepth 20000 in
theorem lw_p70 : lw_okq (⟨"ClickStreetModel", "cost", "(II)I"⟩, 33) := ⟨nhS7, tbM6 35 rfl, tbM8 14 rfl, tbM8 15 rfl⟩
set_option maxRecDepth 20000 in
theorem lw_p71 : lw_okq (⟨"ClickStreetModel", "tryRows", "(IIIII)V"⟩, 33) := ⟨nhS7, tbM6 35 rfl, tbM8 30 rfl, tbM8 31 rfl⟩
set_option maxRecDepth 20000 in
theorem lw_p72 : lw_okq (⟨"ClickStreetModel", "isPost", "(III)Z"⟩, 33) := ⟨nhS7, tbM6 35 rfl, tbM8 38 rfl, tbM8 39 rfl⟩
set_option maxRecDepth 20000 in
theorem lw_p73 : lw_okq (⟨"ClickStreetModel", "voiced", "(II)I"⟩, 33) := ⟨nhS7, tbM6 35 rfl, tbM8 46 rfl, tbM8 47 rfl⟩
set_option maxRecDepth 20000 in
theorem lw_p74 : lw_okq (⟨"ClickStreetModel", "bodyFrom", "(III)I"⟩, 33) := ⟨nhS7, tbM6 35 rfl, tbM8 50 rfl, tbM8 51 rfl⟩
set_option maxRecDepth 20000 in
theorem lw_p75 : lw_okq (⟨"ClickStreetModel", "body", "(III)I"⟩, 33) := ⟨nhS7, tbM6 35 rfl, tbM8 57 rfl, tbM8 58 rfl⟩
set_option maxRecDepth 20000 in
theorem lw_p76 : lw_okq (⟨"ClickStreetModel", "began", "(I)V"⟩, 33) := ⟨nhS7, tbM6 35 rfl, tbM8 61 rfl, tbM8 62 rfl⟩
set_option maxRecDepth 20000 in
theorem lw_p77 : lw_okq (⟨"ClickStreetModel", "sumOf", "(I)I"⟩, 33) := ⟨nhS7, tbM6 35 rfl, tbM8 105 rfl, tbM8 106 rfl⟩
def lw_privs_5 : List (MethodName × Nat) := [(⟨"ClickStreetModel", "thingGoes", "(I)V"⟩, 33), (⟨"ClickStreetModel", "walkerGoes", "(I)V"⟩, 33), (⟨"ClickStreetModel", "habitOf", "(I)I"⟩, 33), (⟨"ClickStreetModel", "fullAhead", "(II)I"⟩, 33), (⟨"ClickStreetModel", "goesOn", "(I)V"⟩, 33), (⟨"ClickStreetModel", "findFar", "(II)V"⟩, 33), (⟨"ClickStreetModel", "cost", "(II)I"⟩, 33), (⟨"ClickStreetModel", "tryRows", "(IIIII)V"⟩, 33), (⟨"ClickStreetModel", "isPost", "(III)Z"⟩, 33), (⟨"ClickStreetModel", "voiced", "(II)I"⟩, 33), (⟨"ClickStreetModel", "bodyFrom", "(III)I"⟩, 33), (⟨"ClickStreetModel", "body", "(III)I"⟩, 33), (⟨"ClickStreetModel", "began", "(I)V"⟩, 33), (⟨"ClickStreetModel", "sumOf", "(I)I"⟩, 33)]
theorem lw_r5 : ∀ q ∈ lw_privs_5, lw_okq q := List.forall_mem_cons.mpr ⟨lw_p64, List.forall_mem_cons.mpr ⟨lw_p65, List.forall_mem_cons.mpr ⟨lw_p66, List.forall_mem_cons.mpr ⟨lw_p67, List.forall_mem_cons.mpr ⟨lw_p68, List.forall_mem_cons.mpr ⟨lw_p69, List.forall_mem_cons.mpr ⟨lw_p70, List.forall_mem_cons.mpr ⟨lw_p71, List.forall_mem_cons.mpr ⟨lw_p72, List.forall_mem_cons.mpr ⟨lw_p73, List.forall_mem_cons.mpr ⟨lw_p74, List.forall_mem_cons.mpr ⟨lw_p75, List.forall_mem_cons.mpr ⟨lw_p76, List.forall_mem_cons.mpr ⟨lw_p77, fun _ h => absurd h List.not_mem_nil⟩⟩⟩⟩⟩⟩⟩⟩⟩⟩⟩⟩⟩⟩
def lw_privs : List (MethodName × Nat) := lw_privs_1 ++ (lw_privs_2 ++ (lw_privs_3 ++ (lw_privs_4 ++ (lw_privs_5))))
def lw_tbl : List Cond := k2_sels lw_privs ++ tables_1
theorem lw_privs_ok : ∀ q ∈ lw_privs, lw_okq q := by
  show ∀ q ∈ lw_privs_1 ++ (lw_privs_2 ++ (lw_privs_3 ++ (lw_privs_4 ++ (lw_privs_5)))), lw_okq q
  exact List.forall_mem_append.mpr ⟨lw_r1, List.forall_mem_append.mpr ⟨lw_r2, List.forall_mem_append.mpr ⟨lw_r3, List.forall_mem_append.mpr ⟨lw_r4, lw_r5⟩⟩⟩⟩
-- ===== end of PART A =====
end
section
/-! names, printed out of the claim's own names: classes, fields, methods; one list of words; environment lists -/
def RX0 : String := "ClickStreet$Finder"
def TX0 : u_T := fun k => match k with
  | 0 => ("ClickStreet$Finder", "costs", "[I", true)
  | 1 => ("ClickStreet$Finder", "isDone", "[Z", true)
  | 2 => ("ClickStreet$Finder", "learned", "[J", true)
  | 3 => ("ClickStreet$Finder", "heardPosts", "[I", true)
  | 4 => ("ClickStreet$Finder", "most", "I", false)
  | _ => ("ClickStreet$Finder", "places", "I", false)
def tyX0 : Nat → FieldType := fun k => match k with
  | 0 => .array .int
  | 1 => .array .boolean
  | 2 => .array .long
  | 3 => .array .int
  | 4 => .int
  | _ => .int
theorem nmX0 : ∀ a, a < 6 → ∀ b, b < 6 → a ≠ b → (TX0 a).2.1 ≠ (TX0 b).2.1 := by decide +kernel
theorem tyX0_ok : ∀ k, k < 6 → parseFieldDescriptor (TX0 k).2.2.1 = some (tyX0 k) := by decide +kernel
abbrev cX0_init : ByteArray := prog_2_method_1_code
def yX0_init : MethodName := ⟨RX0, "<init>", "()V"⟩
abbrev cX0_measure : ByteArray := prog_2_method_2_code
def yX0_measure : MethodName := ⟨RX0, "measure", "(LClickStreet$Walker;I)V"⟩
abbrev cX0_nearestOpen : ByteArray := prog_2_method_3_code
def yX0_nearestOpen : MethodName := ⟨RX0, "nearestOpen", "()I"⟩
abbrev cX0_costInto : ByteArray := prog_2_method_4_code
def yX0_costInto : MethodName := ⟨RX0, "costInto", "(LClickStreet$Walker;I)I"⟩
abbrev cX0_costFrom : ByteArray := prog_2_method_5_code
def yX0_costFrom : MethodName := ⟨RX0, "costFrom", "(I)I"⟩
abbrev cX0_cellAfter : ByteArray := prog_2_method_6_code
def yX0_cellAfter : MethodName := ⟨RX0, "cellAfter", "(LClickStreet$Walker;II)I"⟩
abbrev cX0_firstStep : ByteArray := prog_2_method_7_code
def yX0_firstStep : MethodName := ⟨RX0, "firstStep", "(LClickStreet$Walker;I)I"⟩
abbrev cX0_chooseSpots : ByteArray := prog_2_method_8_code
def yX0_chooseSpots : MethodName := ⟨RX0, "chooseSpots", "(LClickStreet$World;ILClickStreet$Sheet;I)Z"⟩
abbrev cX0_noteLearned : ByteArray := prog_2_method_9_code
def yX0_noteLearned : MethodName := ⟨RX0, "noteLearned", "(LClickStreet$World;III)V"⟩
abbrev cX0_countLearned : ByteArray := prog_2_method_10_code
def yX0_countLearned : MethodName := ⟨RX0, "countLearned", "(I)I"⟩
abbrev cX0_choosePosts : ByteArray := prog_2_method_11_code
def yX0_choosePosts : MethodName := ⟨RX0, "choosePosts", "(LClickStreet$World;ILClickStreet$Sheet;LClickStreet$Sheet;)Z"⟩
abbrev cX0_servesAll : ByteArray := prog_2_method_12_code
def yX0_servesAll : MethodName := ⟨RX0, "servesAll", "(II)Z"⟩
abbrev cX0_wouldHear : ByteArray := prog_2_method_13_code
def yX0_wouldHear : MethodName := ⟨RX0, "wouldHear", "(LClickStreet$World;III)Z"⟩
def RX1 : String := "ClickStreet$Formula"
def TX1 : u_T := fun k => match k with
  | 0 => ("ClickStreet$Formula", "codes", "[I", true)
  | 1 => ("ClickStreet$Formula", "stack", "[I", true)
  | _ => ("ClickStreet$Formula", "size", "I", false)
def tyX1 : Nat → FieldType := fun k => match k with
  | 0 => .array .int
  | 1 => .array .int
  | _ => .int
theorem nmX1 : ∀ a, a < 3 → ∀ b, b < 3 → a ≠ b → (TX1 a).2.1 ≠ (TX1 b).2.1 := by decide +kernel
theorem tyX1_ok : ∀ k, k < 3 → parseFieldDescriptor (TX1 k).2.2.1 = some (tyX1 k) := by decide +kernel
abbrev cX1_init : ByteArray := prog_3_method_1_code
def yX1_init : MethodName := ⟨RX1, "<init>", "()V"⟩
abbrev cX1_isGiven : ByteArray := prog_3_method_2_code
def yX1_isGiven : MethodName := ⟨RX1, "isGiven", "()Z"⟩
abbrev cX1_clear : ByteArray := prog_3_method_3_code
def yX1_clear : MethodName := ⟨RX1, "clear", "()V"⟩
abbrev cX1_add : ByteArray := prog_3_method_4_code
def yX1_add : MethodName := ⟨RX1, "add", "(I)V"⟩
abbrev cX1_work : ByteArray := prog_3_method_5_code
def yX1_work : MethodName := ⟨RX1, "work", "([I)I"⟩
abbrev cX1_takeFrom : ByteArray := prog_3_method_6_code
def yX1_takeFrom : MethodName := ⟨RX1, "takeFrom", "(LClickStreet$Formula;)V"⟩
def RX2 : String := "ClickStreet$Laws"
def TX2 : u_T := fun k => match k with
  | 0 => ("ClickStreet$Laws", "noise", "I", false)
  | 1 => ("ClickStreet$Laws", "mask", "I", false)
  | 2 => ("ClickStreet$Laws", "snow", "I", false)
  | 3 => ("ClickStreet$Laws", "loud", "[I", true)
  | 4 => ("ClickStreet$Laws", "sharp", "[I", true)
  | 5 => ("ClickStreet$Laws", "texts", "[LClickStreet$Formula;", true)
  | _ => ("ClickStreet$Laws", "values", "[I", true)
def tyX2 : Nat → FieldType := fun k => match k with
  | 0 => .int
  | 1 => .int
  | 2 => .int
  | 3 => .array .int
  | 4 => .array .int
  | 5 => .array (.object "ClickStreet$Formula")
  | _ => .array .int
theorem nmX2 : ∀ a, a < 7 → ∀ b, b < 7 → a ≠ b → (TX2 a).2.1 ≠ (TX2 b).2.1 := by decide +kernel
theorem tyX2_ok : ∀ k, k < 7 → parseFieldDescriptor (TX2 k).2.2.1 = some (tyX2 k) := by decide +kernel
abbrev cX2_init : ByteArray := prog_4_method_1_code
def yX2_init : MethodName := ⟨RX2, "<init>", "()V"⟩
abbrev cX2_isClick : ByteArray := prog_4_method_2_code
def yX2_isClick : MethodName := ⟨RX2, "isClick", "(II)Z"⟩
abbrev cX2_isClick_ : ByteArray := prog_4_method_3_code
def yX2_isClick_ : MethodName := ⟨RX2, "isClick", "(I)Z"⟩
abbrev cX2_late : ByteArray := prog_4_method_4_code
def yX2_late : MethodName := ⟨RX2, "late", "(II)I"⟩
abbrev cX2_changeKind : ByteArray := prog_4_method_5_code
def yX2_changeKind : MethodName := ⟨RX2, "changeKind", "(III)I"⟩
abbrev cX2_changeAir : ByteArray := prog_4_method_6_code
def yX2_changeAir : MethodName := ⟨RX2, "changeAir", "(II)I"⟩
abbrev cX2_strength : ByteArray := prog_4_method_7_code
def yX2_strength : MethodName := ⟨RX2, "strength", "(III)I"⟩
abbrev cX2_isHeard : ByteArray := prog_4_method_8_code
def yX2_isHeard : MethodName := ⟨RX2, "isHeard", "(IIII)Z"⟩
abbrev cX2_hears : ByteArray := prog_4_method_9_code
def yX2_hears : MethodName := ⟨RX2, "hears", "(IIIII)Z"⟩
abbrev cX2_habitValue : ByteArray := prog_4_method_10_code
def yX2_habitValue : MethodName := ⟨RX2, "habitValue", "(IIIII)I"⟩
abbrev cX2_kindsAlike : ByteArray := prog_4_method_11_code
def yX2_kindsAlike : MethodName := ⟨RX2, "kindsAlike", "(IIIII)I"⟩
abbrev cX2_leastPitch : ByteArray := prog_4_method_12_code
def yX2_leastPitch : MethodName := ⟨RX2, "leastPitch", "(III)I"⟩
abbrev cX2_leastLoudness : ByteArray := prog_4_method_13_code
def yX2_leastLoudness : MethodName := ⟨RX2, "leastLoudness", "(III)I"⟩
abbrev cX2_takeFrom : ByteArray := prog_4_method_14_code
def yX2_takeFrom : MethodName := ⟨RX2, "takeFrom", "(LClickStreet$Laws;)V"⟩
def RX3 : String := "ClickStreet$Lessons"
def TX3 : u_T := fun k => match k with
  | 0 => ("ClickStreet$Lessons", "tells", "[I", true)
  | 1 => ("ClickStreet$Lessons", "needs", "[I", true)
  | 2 => ("ClickStreet$Lessons", "minutes", "[I", true)
  | 3 => ("ClickStreet$Lessons", "size", "I", false)
  | 4 => ("ClickStreet$Lessons", "tried", "LClickStreet$Row;", true)
  | 5 => ("ClickStreet$Lessons", "best", "LClickStreet$Row;", true)
  | 6 => ("ClickStreet$Lessons", "wantedBits", "I", false)
  | 7 => ("ClickStreet$Lessons", "fewestMinutes", "I", false)
  | _ => ("ClickStreet$Lessons", "isFound", "Z", false)
def tyX3 : Nat → FieldType := fun k => match k with
  | 0 => .array .int
  | 1 => .array .int
  | 2 => .array .int
  | 3 => .int
  | 4 => .object "ClickStreet$Row"
  | 5 => .object "ClickStreet$Row"
  | 6 => .int
  | 7 => .int
  | _ => .boolean
theorem nmX3 : ∀ a, a < 9 → ∀ b, b < 9 → a ≠ b → (TX3 a).2.1 ≠ (TX3 b).2.1 := by decide +kernel
theorem tyX3_ok : ∀ k, k < 9 → parseFieldDescriptor (TX3 k).2.2.1 = some (tyX3 k) := by decide +kernel
abbrev cX3_init : ByteArray := prog_5_method_1_code
def yX3_init : MethodName := ⟨RX3, "<init>", "()V"⟩
abbrev cX3_hasRoom : ByteArray := prog_5_method_2_code
def yX3_hasRoom : MethodName := ⟨RX3, "hasRoom", "()Z"⟩
abbrev cX3_add : ByteArray := prog_5_method_3_code
def yX3_add : MethodName := ⟨RX3, "add", "(III)I"⟩
abbrev cX3_findRow : ByteArray := prog_5_method_4_code
def yX3_findRow : MethodName := ⟨RX3, "findRow", "(II)Z"⟩
abbrev cX3_tryRows : ByteArray := prog_5_method_5_code
def yX3_tryRows : MethodName := ⟨RX3, "tryRows", "(III)V"⟩
abbrev cX3_isBetter : ByteArray := prog_5_method_6_code
def yX3_isBetter : MethodName := ⟨RX3, "isBetter", "(I)Z"⟩
abbrev cX3_takeFrom : ByteArray := prog_5_method_7_code
def yX3_takeFrom : MethodName := ⟨RX3, "takeFrom", "(LClickStreet$Lessons;)V"⟩
def RX4 : String := "ClickStreet$Reader"
def TX4 : u_T := fun k => match k with
  | 0 => ("ClickStreet$Reader", "draft", "LClickStreet$Formula;", true)
  | 1 => ("ClickStreet$Reader", "tape", "LClickStreet$Row;", false)
  | 2 => ("ClickStreet$Reader", "names", "Ljava/lang/String;", false)
  | 3 => ("ClickStreet$Reader", "place", "I", false)
  | 4 => ("ClickStreet$Reader", "fault", "I", false)
  | 5 => ("ClickStreet$Reader", "open", "I", false)
  | _ => ("ClickStreet$Reader", "parts", "I", false)
def tyX4 : Nat → FieldType := fun k => match k with
  | 0 => .object "ClickStreet$Formula"
  | 1 => .object "ClickStreet$Row"
  | 2 => .object "java/lang/String"
  | 3 => .int
  | 4 => .int
  | 5 => .int
  | _ => .int
theorem nmX4 : ∀ a, a < 7 → ∀ b, b < 7 → a ≠ b → (TX4 a).2.1 ≠ (TX4 b).2.1 := by decide +kernel
theorem tyX4_ok : ∀ k, k < 7 → parseFieldDescriptor (TX4 k).2.2.1 = some (tyX4 k) := by decide +kernel
abbrev cX4_init : ByteArray := prog_6_method_1_code
def yX4_init : MethodName := ⟨RX4, "<init>", "()V"⟩
abbrev cX4_read : ByteArray := prog_6_method_2_code
def yX4_read : MethodName := ⟨RX4, "read", "(LClickStreet$Row;I)I"⟩
abbrev cX4_next : ByteArray := prog_6_method_3_code
def yX4_next : MethodName := ⟨RX4, "next", "()I"⟩
abbrev cX4_fail : ByteArray := prog_6_method_4_code
def yX4_fail : MethodName := ⟨RX4, "fail", "()V"⟩
abbrev cX4_expect : ByteArray := prog_6_method_5_code
def yX4_expect : MethodName := ⟨RX4, "expect", "(I)V"⟩
abbrev cX4_readComparisons : ByteArray := prog_6_method_6_code
def yX4_readComparisons : MethodName := ⟨RX4, "readComparisons", "()V"⟩
abbrev cX4_readSum : ByteArray := prog_6_method_7_code
def yX4_readSum : MethodName := ⟨RX4, "readSum", "()V"⟩
abbrev cX4_readTerm : ByteArray := prog_6_method_8_code
def yX4_readTerm : MethodName := ⟨RX4, "readTerm", "()V"⟩
abbrev cX4_readOne : ByteArray := prog_6_method_9_code
def yX4_readOne : MethodName := ⟨RX4, "readOne", "()V"⟩
abbrev cX4_readNumber : ByteArray := prog_6_method_10_code
def yX4_readNumber : MethodName := ⟨RX4, "readNumber", "()V"⟩
abbrev cX4_readName : ByteArray := prog_6_method_11_code
def yX4_readName : MethodName := ⟨RX4, "readName", "(I)V"⟩
abbrev cX4_readOpened : ByteArray := prog_6_method_12_code
def yX4_readOpened : MethodName := ⟨RX4, "readOpened", "(I)V"⟩
def RX5 : String := "ClickStreet$Row"
def TX5 : u_T := fun k => match k with
  | 0 => ("ClickStreet$Row", "numbers", "[I", true)
  | _ => ("ClickStreet$Row", "size", "I", false)
def tyX5 : Nat → FieldType := fun k => match k with
  | 0 => .array .int
  | _ => .int
theorem nmX5 : ∀ a, a < 2 → ∀ b, b < 2 → a ≠ b → (TX5 a).2.1 ≠ (TX5 b).2.1 := by decide +kernel
theorem tyX5_ok : ∀ k, k < 2 → parseFieldDescriptor (TX5 k).2.2.1 = some (tyX5 k) := by decide +kernel
abbrev cX5_init : ByteArray := prog_7_method_1_code
def yX5_init : MethodName := ⟨RX5, "<init>", "(I)V"⟩
abbrev cX5_room : ByteArray := prog_7_method_2_code
def yX5_room : MethodName := ⟨RX5, "room", "()I"⟩
abbrev cX5_has : ByteArray := prog_7_method_3_code
def yX5_has : MethodName := ⟨RX5, "has", "(I)Z"⟩
abbrev cX5_get : ByteArray := prog_7_method_4_code
def yX5_get : MethodName := ⟨RX5, "get", "(I)I"⟩
abbrev cX5_add : ByteArray := prog_7_method_5_code
def yX5_add : MethodName := ⟨RX5, "add", "(I)V"⟩
abbrev cX5_dropLast : ByteArray := prog_7_method_6_code
def yX5_dropLast : MethodName := ⟨RX5, "dropLast", "()V"⟩
abbrev cX5_clear : ByteArray := prog_7_method_7_code
def yX5_clear : MethodName := ⟨RX5, "clear", "()V"⟩
abbrev cX5_takeFrom : ByteArray := prog_7_method_8_code
def yX5_takeFrom : MethodName := ⟨RX5, "takeFrom", "(LClickStreet$Row;)V"⟩
def RX6 : String := "ClickStreet$Sheet"
def TX6 : u_T := fun k => match k with
  | 0 => ("ClickStreet$Sheet", "bits", "I", false)
  | 1 => ("ClickStreet$Sheet", "size", "I", false)
  | _ => ("ClickStreet$Sheet", "numbers", "[I", true)
def tyX6 : Nat → FieldType := fun k => match k with
  | 0 => .int
  | 1 => .int
  | _ => .array .int
theorem nmX6 : ∀ a, a < 3 → ∀ b, b < 3 → a ≠ b → (TX6 a).2.1 ≠ (TX6 b).2.1 := by decide +kernel
theorem tyX6_ok : ∀ k, k < 3 → parseFieldDescriptor (TX6 k).2.2.1 = some (tyX6 k) := by decide +kernel
abbrev cX6_init : ByteArray := prog_8_method_1_code
def yX6_init : MethodName := ⟨RX6, "<init>", "()V"⟩
abbrev cX6_isMissing : ByteArray := prog_8_method_2_code
def yX6_isMissing : MethodName := ⟨RX6, "isMissing", "()Z"⟩
abbrev cX6_drop : ByteArray := prog_8_method_3_code
def yX6_drop : MethodName := ⟨RX6, "drop", "()V"⟩
abbrev cX6_begin : ByteArray := prog_8_method_4_code
def yX6_begin : MethodName := ⟨RX6, "begin", "(II)V"⟩
abbrev cX6_has : ByteArray := prog_8_method_5_code
def yX6_has : MethodName := ⟨RX6, "has", "(I)Z"⟩
abbrev cX6_numberAt : ByteArray := prog_8_method_6_code
def yX6_numberAt : MethodName := ⟨RX6, "numberAt", "(I)I"⟩
abbrev cX6_store : ByteArray := prog_8_method_7_code
def yX6_store : MethodName := ⟨RX6, "store", "(II)V"⟩
abbrev cX6_hasRun : ByteArray := prog_8_method_8_code
def yX6_hasRun : MethodName := ⟨RX6, "hasRun", "(II)Z"⟩
abbrev cX6_holdsFewCells : ByteArray := prog_8_method_9_code
def yX6_holdsFewCells : MethodName := ⟨RX6, "holdsFewCells", "()Z"⟩
abbrev cX6_hasTwoAlike : ByteArray := prog_8_method_10_code
def yX6_hasTwoAlike : MethodName := ⟨RX6, "hasTwoAlike", "()Z"⟩
def RX7 : String := "ClickStreet$Street"
def TX7 : u_T := fun k => match k with
  | 0 => ("ClickStreet$Street", "occupants", "[I", true)
  | 1 => ("ClickStreet$Street", "kinds", "[I", true)
  | 2 => ("ClickStreet$Street", "cells", "[I", true)
  | 3 => ("ClickStreet$Street", "sides", "[I", true)
  | 4 => ("ClickStreet$Street", "steps", "[I", true)
  | _ => ("ClickStreet$Street", "things", "I", false)
def tyX7 : Nat → FieldType := fun k => match k with
  | 0 => .array .int
  | 1 => .array .int
  | 2 => .array .int
  | 3 => .array .int
  | 4 => .array .int
  | _ => .int
theorem nmX7 : ∀ a, a < 6 → ∀ b, b < 6 → a ≠ b → (TX7 a).2.1 ≠ (TX7 b).2.1 := by decide +kernel
theorem tyX7_ok : ∀ k, k < 6 → parseFieldDescriptor (TX7 k).2.2.1 = some (tyX7 k) := by decide +kernel
abbrev cX7_init : ByteArray := prog_9_method_1_code
def yX7_init : MethodName := ⟨RX7, "<init>", "()V"⟩
abbrev cX7_isCell : ByteArray := prog_9_method_2_code
def yX7_isCell : MethodName := ⟨RX7, "isCell", "(I)Z"⟩
abbrev cX7_isSide : ByteArray := prog_9_method_3_code
def yX7_isSide : MethodName := ⟨RX7, "isSide", "(I)Z"⟩
abbrev cX7_cellFrom : ByteArray := prog_9_method_4_code
def yX7_cellFrom : MethodName := ⟨RX7, "cellFrom", "(III)I"⟩
abbrev cX7_isFree : ByteArray := prog_9_method_5_code
def yX7_isFree : MethodName := ⟨RX7, "isFree", "(I)Z"⟩
abbrev cX7_settle : ByteArray := prog_9_method_6_code
def yX7_settle : MethodName := ⟨RX7, "settle", "(II)V"⟩
abbrev cX7_hasRoom : ByteArray := prog_9_method_7_code
def yX7_hasRoom : MethodName := ⟨RX7, "hasRoom", "()Z"⟩
abbrev cX7_hasThing : ByteArray := prog_9_method_8_code
def yX7_hasThing : MethodName := ⟨RX7, "hasThing", "(I)Z"⟩
abbrev cX7_addThing : ByteArray := prog_9_method_9_code
def yX7_addThing : MethodName := ⟨RX7, "addThing", "(II)I"⟩
abbrev cX7_factOf : ByteArray := prog_9_method_10_code
def yX7_factOf : MethodName := ⟨RX7, "factOf", "(II)I"⟩
abbrev cX7_takeAway : ByteArray := prog_9_method_11_code
def yX7_takeAway : MethodName := ⟨RX7, "takeAway", "(I)I"⟩
abbrev cX7_countThings : ByteArray := prog_9_method_12_code
def yX7_countThings : MethodName := ⟨RX7, "countThings", "()I"⟩
abbrev cX7_kindIn : ByteArray := prog_9_method_13_code
def yX7_kindIn : MethodName := ⟨RX7, "kindIn", "(I)I"⟩
abbrev cX7_letThingsGo : ByteArray := prog_9_method_14_code
def yX7_letThingsGo : MethodName := ⟨RX7, "letThingsGo", "(I)V"⟩
abbrev cX7_letThingGo : ByteArray := prog_9_method_15_code
def yX7_letThingGo : MethodName := ⟨RX7, "letThingGo", "(I)V"⟩
abbrev cX7_takeFrom : ByteArray := prog_9_method_16_code
def yX7_takeFrom : MethodName := ⟨RX7, "takeFrom", "(LClickStreet$Street;)V"⟩
def RX8 : String := "ClickStreet$Voices"
def TX8 : u_T := fun k => match k with
  | 0 => ("ClickStreet$Voices", "begun", "LClickStreet$Row;", true)
  | 1 => ("ClickStreet$Voices", "trace", "LClickStreet$Row;", true)
  | 2 => ("ClickStreet$Voices", "kind", "I", false)
  | 3 => ("ClickStreet$Voices", "number", "I", false)
  | 4 => ("ClickStreet$Voices", "pitch", "I", false)
  | _ => ("ClickStreet$Voices", "isParted", "Z", false)
def tyX8 : Nat → FieldType := fun k => match k with
  | 0 => .object "ClickStreet$Row"
  | 1 => .object "ClickStreet$Row"
  | 2 => .int
  | 3 => .int
  | 4 => .int
  | _ => .boolean
theorem nmX8 : ∀ a, a < 6 → ∀ b, b < 6 → a ≠ b → (TX8 a).2.1 ≠ (TX8 b).2.1 := by decide +kernel
theorem tyX8_ok : ∀ k, k < 6 → parseFieldDescriptor (TX8 k).2.2.1 = some (tyX8 k) := by decide +kernel
abbrev cX8_init : ByteArray := prog_10_method_1_code
def yX8_init : MethodName := ⟨RX8, "<init>", "()V"⟩
abbrev cX8_speak : ByteArray := prog_10_method_2_code
def yX8_speak : MethodName := ⟨RX8, "speak", "(LClickStreet$Walker;III)I"⟩
abbrev cX8_keepTrace : ByteArray := prog_10_method_3_code
def yX8_keepTrace : MethodName := ⟨RX8, "keepTrace", "()V"⟩
abbrev cX8_say : ByteArray := prog_10_method_4_code
def yX8_say : MethodName := ⟨RX8, "say", "(IIII)I"⟩
abbrev cX8_own : ByteArray := prog_10_method_5_code
def yX8_own : MethodName := ⟨RX8, "own", "(III)I"⟩
abbrev cX8_run : ByteArray := prog_10_method_6_code
def yX8_run : MethodName := ⟨RX8, "run", "(III)I"⟩
abbrev cX8_parted : ByteArray := prog_10_method_7_code
def yX8_parted : MethodName := ⟨RX8, "parted", "(I)I"⟩
def RX9 : String := "ClickStreet$Walker"
def TX9 : u_T := fun k => match k with
  | 0 => ("ClickStreet$Walker", "kind", "I", false)
  | 1 => ("ClickStreet$Walker", "cell", "I", false)
  | 2 => ("ClickStreet$Walker", "side", "I", false)
  | 3 => ("ClickStreet$Walker", "pitch", "I", false)
  | 4 => ("ClickStreet$Walker", "loudness", "I", false)
  | 5 => ("ClickStreet$Walker", "every", "I", false)
  | 6 => ("ClickStreet$Walker", "isGoing", "Z", false)
  | 7 => ("ClickStreet$Walker", "bumps", "I", false)
  | 8 => ("ClickStreet$Walker", "clicks", "I", false)
  | 9 => ("ClickStreet$Walker", "yes", "[I", true)
  | _ => ("ClickStreet$Walker", "no", "[I", true)
def tyX9 : Nat → FieldType := fun k => match k with
  | 0 => .int
  | 1 => .int
  | 2 => .int
  | 3 => .int
  | 4 => .int
  | 5 => .int
  | 6 => .boolean
  | 7 => .int
  | 8 => .int
  | 9 => .array .int
  | _ => .array .int
theorem nmX9 : ∀ a, a < 11 → ∀ b, b < 11 → a ≠ b → (TX9 a).2.1 ≠ (TX9 b).2.1 := by decide +kernel
theorem tyX9_ok : ∀ k, k < 11 → parseFieldDescriptor (TX9 k).2.2.1 = some (tyX9 k) := by decide +kernel
abbrev cX9_init : ByteArray := prog_11_method_1_code
def yX9_init : MethodName := ⟨RX9, "<init>", "()V"⟩
abbrev cX9_kindAbove : ByteArray := prog_11_method_2_code
def yX9_kindAbove : MethodName := ⟨RX9, "kindAbove", "(I)I"⟩
abbrev cX9_begin : ByteArray := prog_11_method_3_code
def yX9_begin : MethodName := ⟨RX9, "begin", "(III)V"⟩
abbrev cX9_isOf : ByteArray := prog_11_method_4_code
def yX9_isOf : MethodName := ⟨RX9, "isOf", "(I)Z"⟩
abbrev cX9_reach : ByteArray := prog_11_method_5_code
def yX9_reach : MethodName := ⟨RX9, "reach", "()I"⟩
abbrev cX9_speed : ByteArray := prog_11_method_6_code
def yX9_speed : MethodName := ⟨RX9, "speed", "()I"⟩
abbrev cX9_ears : ByteArray := prog_11_method_7_code
def yX9_ears : MethodName := ⟨RX9, "ears", "()I"⟩
abbrev cX9_ownClick : ByteArray := prog_11_method_8_code
def yX9_ownClick : MethodName := ⟨RX9, "ownClick", "()I"⟩
abbrev cX9_factOf : ByteArray := prog_11_method_9_code
def yX9_factOf : MethodName := ⟨RX9, "factOf", "(I)I"⟩
abbrev cX9_addYes : ByteArray := prog_11_method_10_code
def yX9_addYes : MethodName := ⟨RX9, "addYes", "(II)V"⟩
abbrev cX9_addNo : ByteArray := prog_11_method_11_code
def yX9_addNo : MethodName := ⟨RX9, "addNo", "(I)V"⟩
abbrev cX9_held : ByteArray := prog_11_method_12_code
def yX9_held : MethodName := ⟨RX9, "held", "(I)I"⟩
abbrev cX9_canLearn : ByteArray := prog_11_method_13_code
def yX9_canLearn : MethodName := ⟨RX9, "canLearn", "(I)Z"⟩
abbrev cX9_countHeld : ByteArray := prog_11_method_14_code
def yX9_countHeld : MethodName := ⟨RX9, "countHeld", "(I)I"⟩
abbrev cX9_yardsToFull : ByteArray := prog_11_method_15_code
def yX9_yardsToFull : MethodName := ⟨RX9, "yardsToFull", "(I)I"⟩
abbrev cX9_yardsHeldFree : ByteArray := prog_11_method_16_code
def yX9_yardsHeldFree : MethodName := ⟨RX9, "yardsHeldFree", "()I"⟩
abbrev cX9_turn : ByteArray := prog_11_method_17_code
def yX9_turn : MethodName := ⟨RX9, "turn", "(I)V"⟩
abbrev cX9_takeFrom : ByteArray := prog_11_method_18_code
def yX9_takeFrom : MethodName := ⟨RX9, "takeFrom", "(LClickStreet$Walker;)V"⟩
def RX10 : String := "ClickStreet$World"
def TX10 : u_T := fun k => match k with
  | 0 => ("ClickStreet$World", "street", "LClickStreet$Street;", true)
  | 1 => ("ClickStreet$World", "laws", "LClickStreet$Laws;", true)
  | 2 => ("ClickStreet$World", "lessons", "LClickStreet$Lessons;", true)
  | 3 => ("ClickStreet$World", "tape", "LClickStreet$Row;", true)
  | 4 => ("ClickStreet$World", "waiting", "LClickStreet$Row;", true)
  | 5 => ("ClickStreet$World", "walkers", "[LClickStreet$Walker;", true)
  | 6 => ("ClickStreet$World", "walkerCount", "I", false)
  | _ => ("ClickStreet$World", "now", "I", false)
def tyX10 : Nat → FieldType := fun k => match k with
  | 0 => .object "ClickStreet$Street"
  | 1 => .object "ClickStreet$Laws"
  | 2 => .object "ClickStreet$Lessons"
  | 3 => .object "ClickStreet$Row"
  | 4 => .object "ClickStreet$Row"
  | 5 => .array (.object "ClickStreet$Walker")
  | 6 => .int
  | _ => .int
theorem nmX10 : ∀ a, a < 8 → ∀ b, b < 8 → a ≠ b → (TX10 a).2.1 ≠ (TX10 b).2.1 := by decide +kernel
theorem tyX10_ok : ∀ k, k < 8 → parseFieldDescriptor (TX10 k).2.2.1 = some (tyX10 k) := by decide +kernel
abbrev cX10_init : ByteArray := prog_12_method_1_code
def yX10_init : MethodName := ⟨RX10, "<init>", "()V"⟩
abbrev cX10_hasWalker : ByteArray := prog_12_method_2_code
def yX10_hasWalker : MethodName := ⟨RX10, "hasWalker", "(I)Z"⟩
abbrev cX10_addWalker : ByteArray := prog_12_method_3_code
def yX10_addWalker : MethodName := ⟨RX10, "addWalker", "(III)I"⟩
abbrev cX10_countBumps : ByteArray := prog_12_method_4_code
def yX10_countBumps : MethodName := ⟨RX10, "countBumps", "()I"⟩
abbrev cX10_countClicks : ByteArray := prog_12_method_5_code
def yX10_countClicks : MethodName := ⟨RX10, "countClicks", "()I"⟩
abbrev cX10_isFreeBut : ByteArray := prog_12_method_6_code
def yX10_isFreeBut : MethodName := ⟨RX10, "isFreeBut", "(II)Z"⟩
abbrev cX10_echoYards : ByteArray := prog_12_method_7_code
def yX10_echoYards : MethodName := ⟨RX10, "echoYards", "(III)I"⟩
abbrev cX10_heardYards : ByteArray := prog_12_method_8_code
def yX10_heardYards : MethodName := ⟨RX10, "heardYards", "(III)I"⟩
abbrev cX10_echoFact : ByteArray := prog_12_method_9_code
def yX10_echoFact : MethodName := ⟨RX10, "echoFact", "(IIII)I"⟩
abbrev cX10_makeClick : ByteArray := prog_12_method_10_code
def yX10_makeClick : MethodName := ⟨RX10, "makeClick", "(I)I"⟩
abbrev cX10_countWrong : ByteArray := prog_12_method_11_code
def yX10_countWrong : MethodName := ⟨RX10, "countWrong", "(I)I"⟩
abbrev cX10_sureYards : ByteArray := prog_12_method_12_code
def yX10_sureYards : MethodName := ⟨RX10, "sureYards", "(I)I"⟩
abbrev cX10_passTenth : ByteArray := prog_12_method_13_code
def yX10_passTenth : MethodName := ⟨RX10, "passTenth", "()V"⟩
abbrev cX10_letWalkerGo : ByteArray := prog_12_method_14_code
def yX10_letWalkerGo : MethodName := ⟨RX10, "letWalkerGo", "(I)V"⟩
abbrev cX10_goOn : ByteArray := prog_12_method_15_code
def yX10_goOn : MethodName := ⟨RX10, "goOn", "(I)V"⟩
abbrev cX10_takeFrom : ByteArray := prog_12_method_16_code
def yX10_takeFrom : MethodName := ⟨RX10, "takeFrom", "(LClickStreet$World;)V"⟩
def RX11 : String := "ClickStreet"
def TX11 : u_T := fun k => match k with
  | 0 => ("ClickStreet", "live", "LClickStreet$World;", true)
  | 1 => ("ClickStreet", "kept", "LClickStreet$World;", true)
  | 2 => ("ClickStreet", "trial", "LClickStreet$World;", true)
  | 3 => ("ClickStreet", "sheets", "[LClickStreet$Sheet;", true)
  | 4 => ("ClickStreet", "errors", "[I", true)
  | 5 => ("ClickStreet", "reader", "LClickStreet$Reader;", true)
  | 6 => ("ClickStreet", "finder", "LClickStreet$Finder;", true)
  | 7 => ("ClickStreet", "voices", "LClickStreet$Voices;", true)
  | _ => ("ClickStreet", "images", "I", false)
def tyX11 : Nat → FieldType := fun k => match k with
  | 0 => .object "ClickStreet$World"
  | 1 => .object "ClickStreet$World"
  | 2 => .object "ClickStreet$World"
  | 3 => .array (.object "ClickStreet$Sheet")
  | 4 => .array .int
  | 5 => .object "ClickStreet$Reader"
  | 6 => .object "ClickStreet$Finder"
  | 7 => .object "ClickStreet$Voices"
  | _ => .int
theorem nmX11 : ∀ a, a < 9 → ∀ b, b < 9 → a ≠ b → (TX11 a).2.1 ≠ (TX11 b).2.1 := by decide +kernel
theorem tyX11_ok : ∀ k, k < 9 → parseFieldDescriptor (TX11 k).2.2.1 = some (tyX11 k) := by decide +kernel
abbrev cX11_init : ByteArray := prog_1_method_1_code
def yX11_init : MethodName := ⟨RX11, "<init>", "()V"⟩
abbrev cX11_thing : ByteArray := prog_1_method_2_code
def yX11_thing : MethodName := ⟨RX11, "thing", "(II)I"⟩
abbrev cX11_thingIs : ByteArray := prog_1_method_3_code
def yX11_thingIs : MethodName := ⟨RX11, "thingIs", "(II)I"⟩
abbrev cX11_moves : ByteArray := prog_1_method_4_code
def yX11_moves : MethodName := ⟨RX11, "moves", "(III)I"⟩
abbrev cX11_away : ByteArray := prog_1_method_5_code
def yX11_away : MethodName := ⟨RX11, "away", "(I)I"⟩
abbrev cX11_kind : ByteArray := prog_1_method_6_code
def yX11_kind : MethodName := ⟨RX11, "kind", "(III)I"⟩
abbrev cX11_at : ByteArray := prog_1_method_7_code
def yX11_at : MethodName := ⟨RX11, "at", "(I)I"⟩
abbrev cX11_lays : ByteArray := prog_1_method_8_code
def yX11_lays : MethodName := ⟨RX11, "lays", "(II)I"⟩
abbrev cX11_air : ByteArray := prog_1_method_9_code
def yX11_air : MethodName := ⟨RX11, "air", "(II)I"⟩
abbrev cX11_walker : ByteArray := prog_1_method_10_code
def yX11_walker : MethodName := ⟨RX11, "walker", "(III)I"⟩
abbrev cX11_walkerIs : ByteArray := prog_1_method_11_code
def yX11_walkerIs : MethodName := ⟨RX11, "walkerIs", "(II)I"⟩
abbrev cX11_as : ByteArray := prog_1_method_12_code
def yX11_as : MethodName := ⟨RX11, "as", "(II)I"⟩
abbrev cX11_habit : ByteArray := prog_1_method_13_code
def yX11_habit : MethodName := ⟨RX11, "habit", "(IIII)I"⟩
abbrev cX11_face : ByteArray := prog_1_method_14_code
def yX11_face : MethodName := ⟨RX11, "face", "(II)I"⟩
abbrev cX11_goes : ByteArray := prog_1_method_15_code
def yX11_goes : MethodName := ⟨RX11, "goes", "(IZ)I"⟩
abbrev cX11_feed : ByteArray := prog_1_method_16_code
def yX11_feed : MethodName := ⟨RX11, "feed", "(JI)I"⟩
abbrev cX11_text : ByteArray := prog_1_method_17_code
def yX11_text : MethodName := ⟨RX11, "text", "(I)I"⟩
abbrev cX11_echo : ByteArray := prog_1_method_18_code
def yX11_echo : MethodName := ⟨RX11, "echo", "(IIII)I"⟩
abbrev cX11_click : ByteArray := prog_1_method_19_code
def yX11_click : MethodName := ⟨RX11, "click", "(I)I"⟩
abbrev cX11_head : ByteArray := prog_1_method_20_code
def yX11_head : MethodName := ⟨RX11, "head", "(III)I"⟩
abbrev cX11_heads : ByteArray := prog_1_method_21_code
def yX11_heads : MethodName := ⟨RX11, "heads", "(II)I"⟩
abbrev cX11_alike : ByteArray := prog_1_method_22_code
def yX11_alike : MethodName := ⟨RX11, "alike", "(IIIII)I"⟩
abbrev cX11_least : ByteArray := prog_1_method_23_code
def yX11_least : MethodName := ⟨RX11, "least", "(IIII)I"⟩
abbrev cX11_farthest : ByteArray := prog_1_method_24_code
def yX11_farthest : MethodName := ⟨RX11, "farthest", "(III)I"⟩
abbrev cX11_spots : ByteArray := prog_1_method_25_code
def yX11_spots : MethodName := ⟨RX11, "spots", "(IIII)I"⟩
abbrev cX11_tenths : ByteArray := prog_1_method_26_code
def yX11_tenths : MethodName := ⟨RX11, "tenths", "(I)I"⟩
abbrev cX11_way : ByteArray := prog_1_method_27_code
def yX11_way : MethodName := ⟨RX11, "way", "(III)I"⟩
abbrev cX11_safe : ByteArray := prog_1_method_28_code
def yX11_safe : MethodName := ⟨RX11, "safe", "(I)I"⟩
abbrev cX11_lesson : ByteArray := prog_1_method_29_code
def yX11_lesson : MethodName := ⟨RX11, "lesson", "(III)I"⟩
abbrev cX11_learn : ByteArray := prog_1_method_30_code
def yX11_learn : MethodName := ⟨RX11, "learn", "(III)I"⟩
abbrev cX11_posts : ByteArray := prog_1_method_31_code
def yX11_posts : MethodName := ⟨RX11, "posts", "(IIII)I"⟩
abbrev cX11_voice : ByteArray := prog_1_method_32_code
def yX11_voice : MethodName := ⟨RX11, "voice", "(III)I"⟩
abbrev cX11_trace : ByteArray := prog_1_method_33_code
def yX11_trace : MethodName := ⟨RX11, "trace", "(I)I"⟩
abbrev cX11_sheet : ByteArray := prog_1_method_34_code
def yX11_sheet : MethodName := ⟨RX11, "sheet", "(III)I"⟩
abbrev cX11_put : ByteArray := prog_1_method_35_code
def yX11_put : MethodName := ⟨RX11, "put", "(III)I"⟩
abbrev cX11_move : ByteArray := prog_1_method_36_code
def yX11_move : MethodName := ⟨RX11, "move", "(IIIII)I"⟩
abbrev cX11_image : ByteArray := prog_1_method_37_code
def yX11_image : MethodName := ⟨RX11, "image", "()I"⟩
abbrev cX11_restore : ByteArray := prog_1_method_38_code
def yX11_restore : MethodName := ⟨RX11, "restore", "()I"⟩
abbrev cX11_tell : ByteArray := prog_1_method_39_code
def yX11_tell : MethodName := ⟨RX11, "tell", "(I)I"⟩
abbrev cX11_check : ByteArray := prog_1_method_40_code
def yX11_check : MethodName := ⟨RX11, "check", "(I)I"⟩
abbrev cX11_count : ByteArray := prog_1_method_41_code
def yX11_count : MethodName := ⟨RX11, "count", "(I)I"⟩
abbrev cX11_told : ByteArray := prog_1_method_42_code
def yX11_told : MethodName := ⟨RX11, "told", "(I)I"⟩
abbrev cX11_error : ByteArray := prog_1_method_43_code
def yX11_error : MethodName := ⟨RX11, "error", "(I)I"⟩
abbrev cX11_within : ByteArray := prog_1_method_44_code
def yX11_within : MethodName := ⟨RX11, "within", "(III)Z"⟩
abbrev cX11_isThingKind : ByteArray := prog_1_method_45_code
def yX11_isThingKind : MethodName := ⟨RX11, "isThingKind", "(I)Z"⟩
abbrev cX11_isWalkerKind : ByteArray := prog_1_method_46_code
def yX11_isWalkerKind : MethodName := ⟨RX11, "isWalkerKind", "(I)Z"⟩
abbrev cX11_isSheet : ByteArray := prog_1_method_47_code
def yX11_isSheet : MethodName := ⟨RX11, "isSheet", "(I)Z"⟩
abbrev cX11_isBits : ByteArray := prog_1_method_48_code
def yX11_isBits : MethodName := ⟨RX11, "isBits", "(I)Z"⟩
def RX12 : String := "ClickStreetModel"
def TX12 : u_T := fun k => match k with
  | 0 => ("ClickStreetModel", "now", "[I", true)
  | 1 => ("ClickStreetModel", "kept", "[I", true)
  | 2 => ("ClickStreetModel", "aside", "[I", true)
  | 3 => ("ClickStreetModel", "images", "I", false)
  | 4 => ("ClickStreetModel", "found", "[I", true)
  | 5 => ("ClickStreetModel", "EAST", "[I", true)
  | 6 => ("ClickStreetModel", "SOUTH", "[I", true)
  | 7 => ("ClickStreetModel", "unseen", "I", false)
  | 8 => ("ClickStreetModel", "NAMED", "[Ljava/lang/String;", true)
  | 9 => ("ClickStreetModel", "at", "I", false)
  | 10 => ("ClickStreetModel", "use", "I", false)
  | 11 => ("ClickStreetModel", "open", "I", false)
  | 12 => ("ClickStreetModel", "told", "I", false)
  | 13 => ("ClickStreetModel", "isWrong", "Z", false)
  | 14 => ("ClickStreetModel", "coded", "I", false)
  | 15 => ("ClickStreetModel", "code", "[I", true)
  | 16 => ("ClickStreetModel", "named", "[I", true)
  | 17 => ("ClickStreetModel", "pile", "[I", true)
  | 18 => ("ClickStreetModel", "tells", "[Z", true)
  | 19 => ("ClickStreetModel", "far", "[I", true)
  | 20 => ("ClickStreetModel", "row", "[I", true)
  | 21 => ("ClickStreetModel", "bestRow", "[I", true)
  | 22 => ("ClickStreetModel", "bestMany", "I", false)
  | 23 => ("ClickStreetModel", "bestMinutes", "I", false)
  | 24 => ("ClickStreetModel", "posted", "[I", true)
  | 25 => ("ClickStreetModel", "trace", "[I", true)
  | 26 => ("ClickStreetModel", "traced", "I", false)
  | 27 => ("ClickStreetModel", "speaker", "I", false)
  | 28 => ("ClickStreetModel", "isParted", "Z", false)
  | 29 => ("ClickStreetModel", "widths", "[I", true)
  | 30 => ("ClickStreetModel", "sizes", "[I", true)
  | 31 => ("ClickStreetModel", "numbers", "[I", true)
  | _ => ("ClickStreetModel", "carried", "[I", true)
def tyX12 : Nat → FieldType := fun k => match k with
  | 0 => .array .int
  | 1 => .array .int
  | 2 => .array .int
  | 3 => .int
  | 4 => .array .int
  | 5 => .array .int
  | 6 => .array .int
  | 7 => .int
  | 8 => .array (.object "java/lang/String")
  | 9 => .int
  | 10 => .int
  | 11 => .int
  | 12 => .int
  | 13 => .boolean
  | 14 => .int
  | 15 => .array .int
  | 16 => .array .int
  | 17 => .array .int
  | 18 => .array .boolean
  | 19 => .array .int
  | 20 => .array .int
  | 21 => .array .int
  | 22 => .int
  | 23 => .int
  | 24 => .array .int
  | 25 => .array .int
  | 26 => .int
  | 27 => .int
  | 28 => .boolean
  | 29 => .array .int
  | 30 => .array .int
  | 31 => .array .int
  | _ => .array .int
theorem nmX12 : ∀ a, a < 33 → ∀ b, b < 33 → a ≠ b → (TX12 a).2.1 ≠ (TX12 b).2.1 := by decide +kernel
theorem tyX12_ok : ∀ k, k < 33 → parseFieldDescriptor (TX12 k).2.2.1 = some (tyX12 k) := by decide +kernel
abbrev cX12_init : ByteArray := prog_14_method_1_code
def yX12_init : MethodName := ⟨RX12, "<init>", "()V"⟩
abbrev cX12_finding : ByteArray := prog_14_method_2_code
def yX12_finding : MethodName := ⟨RX12, "finding", "(I)I"⟩
abbrev cX12_within : ByteArray := prog_14_method_3_code
def yX12_within : MethodName := ⟨RX12, "within", "(III)Z"⟩
abbrev cX12_is : ByteArray := prog_14_method_4_code
def yX12_is : MethodName := ⟨RX12, "is", "(II)Z"⟩
abbrev cX12_isCell : ByteArray := prog_14_method_5_code
def yX12_isCell : MethodName := ⟨RX12, "isCell", "(I)Z"⟩
abbrev cX12_isSide : ByteArray := prog_14_method_6_code
def yX12_isSide : MethodName := ⟨RX12, "isSide", "(I)Z"⟩
abbrev cX12_become : ByteArray := prog_14_method_7_code
def yX12_become : MethodName := ⟨RX12, "become", "(II)I"⟩
abbrev cX12_thing : ByteArray := prog_14_method_8_code
def yX12_thing : MethodName := ⟨RX12, "thing", "(I)I"⟩
abbrev cX12_goer : ByteArray := prog_14_method_9_code
def yX12_goer : MethodName := ⟨RX12, "goer", "(I)I"⟩
abbrev cX12_on : ByteArray := prog_14_method_10_code
def yX12_on : MethodName := ⟨RX12, "on", "(III)I"⟩
abbrev cX12_in : ByteArray := prog_14_method_11_code
def yX12_in : MethodName := ⟨RX12, "in", "(I)I"⟩
abbrev cX12_isFree : ByteArray := prog_14_method_12_code
def yX12_isFree : MethodName := ⟨RX12, "isFree", "(I)Z"⟩
abbrev cX12_thing_ : ByteArray := prog_14_method_13_code
def yX12_thing_ : MethodName := ⟨RX12, "thing", "(II)I"⟩
abbrev cX12_comes : ByteArray := prog_14_method_14_code
def yX12_comes : MethodName := ⟨RX12, "comes", "(II)I"⟩
abbrev cX12_thingIs : ByteArray := prog_14_method_15_code
def yX12_thingIs : MethodName := ⟨RX12, "thingIs", "(II)I"⟩
abbrev cX12_moves : ByteArray := prog_14_method_16_code
def yX12_moves : MethodName := ⟨RX12, "moves", "(III)I"⟩
abbrev cX12_away : ByteArray := prog_14_method_17_code
def yX12_away : MethodName := ⟨RX12, "away", "(I)I"⟩
abbrev cX12_kind : ByteArray := prog_14_method_18_code
def yX12_kind : MethodName := ⟨RX12, "kind", "(III)I"⟩
abbrev cX12_at : ByteArray := prog_14_method_19_code
def yX12_at : MethodName := ⟨RX12, "at", "(I)I"⟩
abbrev cX12_lays : ByteArray := prog_14_method_20_code
def yX12_lays : MethodName := ⟨RX12, "lays", "(II)I"⟩
abbrev cX12_air : ByteArray := prog_14_method_21_code
def yX12_air : MethodName := ⟨RX12, "air", "(II)I"⟩
abbrev cX12_walker : ByteArray := prog_14_method_22_code
def yX12_walker : MethodName := ⟨RX12, "walker", "(III)I"⟩
abbrev cX12_above : ByteArray := prog_14_method_23_code
def yX12_above : MethodName := ⟨RX12, "above", "(I)I"⟩
abbrev cX12_isUnder : ByteArray := prog_14_method_24_code
def yX12_isUnder : MethodName := ⟨RX12, "isUnder", "(II)Z"⟩
abbrev cX12_reachOf : ByteArray := prog_14_method_25_code
def yX12_reachOf : MethodName := ⟨RX12, "reachOf", "(I)I"⟩
abbrev cX12_kindOf : ByteArray := prog_14_method_26_code
def yX12_kindOf : MethodName := ⟨RX12, "kindOf", "(I)I"⟩
abbrev cX12_reach : ByteArray := prog_14_method_27_code
def yX12_reach : MethodName := ⟨RX12, "reach", "(I)I"⟩
abbrev cX12_ears : ByteArray := prog_14_method_28_code
def yX12_ears : MethodName := ⟨RX12, "ears", "(I)I"⟩
abbrev cX12_walkerIs : ByteArray := prog_14_method_29_code
def yX12_walkerIs : MethodName := ⟨RX12, "walkerIs", "(II)I"⟩
abbrev cX12_as : ByteArray := prog_14_method_30_code
def yX12_as : MethodName := ⟨RX12, "as", "(II)I"⟩
abbrev cX12_habit : ByteArray := prog_14_method_31_code
def yX12_habit : MethodName := ⟨RX12, "habit", "(IIII)I"⟩
abbrev cX12_face : ByteArray := prog_14_method_32_code
def yX12_face : MethodName := ⟨RX12, "face", "(II)I"⟩
abbrev cX12_goes : ByteArray := prog_14_method_33_code
def yX12_goes : MethodName := ⟨RX12, "goes", "(IZ)I"⟩
abbrev cX12_feed : ByteArray := prog_14_method_34_code
def yX12_feed : MethodName := ⟨RX12, "feed", "(JI)I"⟩
abbrev cX12_here : ByteArray := prog_14_method_35_code
def yX12_here : MethodName := ⟨RX12, "here", "()I"⟩
abbrev cX12_takes : ByteArray := prog_14_method_36_code
def yX12_takes : MethodName := ⟨RX12, "takes", "(I)Z"⟩
abbrev cX12_codes : ByteArray := prog_14_method_37_code
def yX12_codes : MethodName := ⟨RX12, "codes", "(I)V"⟩
abbrev cX12_must : ByteArray := prog_14_method_38_code
def yX12_must : MethodName := ⟨RX12, "must", "(I)V"⟩
abbrev cX12_text : ByteArray := prog_14_method_39_code
def yX12_text : MethodName := ⟨RX12, "text", "()V"⟩
abbrev cX12_sum : ByteArray := prog_14_method_40_code
def yX12_sum : MethodName := ⟨RX12, "sum", "()V"⟩
abbrev cX12_term : ByteArray := prog_14_method_41_code
def yX12_term : MethodName := ⟨RX12, "term", "()V"⟩
abbrev cX12_nameOf : ByteArray := prog_14_method_42_code
def yX12_nameOf : MethodName := ⟨RX12, "nameOf", "(I)I"⟩
abbrev cX12_opens : ByteArray := prog_14_method_43_code
def yX12_opens : MethodName := ⟨RX12, "opens", "(I)V"⟩
abbrev cX12_one : ByteArray := prog_14_method_44_code
def yX12_one : MethodName := ⟨RX12, "one", "()V"⟩
abbrev cX12_text_ : ByteArray := prog_14_method_45_code
def yX12_text_ : MethodName := ⟨RX12, "text", "(I)I"⟩
abbrev cX12_done : ByteArray := prog_14_method_46_code
def yX12_done : MethodName := ⟨RX12, "done", "(III)I"⟩
abbrev cX12_hasText : ByteArray := prog_14_method_47_code
def yX12_hasText : MethodName := ⟨RX12, "hasText", "(I)Z"⟩
abbrev cX12_given : ByteArray := prog_14_method_48_code
def yX12_given : MethodName := ⟨RX12, "given", "(I)I"⟩
abbrev cX12_late : ByteArray := prog_14_method_49_code
def yX12_late : MethodName := ⟨RX12, "late", "(II)I"⟩
abbrev cX12_strength : ByteArray := prog_14_method_50_code
def yX12_strength : MethodName := ⟨RX12, "strength", "(IIII)I"⟩
abbrev cX12_isHeard : ByteArray := prog_14_method_51_code
def yX12_isHeard : MethodName := ⟨RX12, "isHeard", "(IIIIII)Z"⟩
abbrev cX12_echoFrom : ByteArray := prog_14_method_52_code
def yX12_echoFrom : MethodName := ⟨RX12, "echoFrom", "(III)I"⟩
abbrev cX12_kindIn : ByteArray := prog_14_method_53_code
def yX12_kindIn : MethodName := ⟨RX12, "kindIn", "(I)I"⟩
abbrev cX12_isClick : ByteArray := prog_14_method_54_code
def yX12_isClick : MethodName := ⟨RX12, "isClick", "(I)Z"⟩
abbrev cX12_ear : ByteArray := prog_14_method_55_code
def yX12_ear : MethodName := ⟨RX12, "ear", "(IIII)I"⟩
abbrev cX12_echo : ByteArray := prog_14_method_56_code
def yX12_echo : MethodName := ⟨RX12, "echo", "(IIII)I"⟩
abbrev cX12_yes : ByteArray := prog_14_method_57_code
def yX12_yes : MethodName := ⟨RX12, "yes", "(II)I"⟩
abbrev cX12_no : ByteArray := prog_14_method_58_code
def yX12_no : MethodName := ⟨RX12, "no", "(II)I"⟩
abbrev cX12_more : ByteArray := prog_14_method_59_code
def yX12_more : MethodName := ⟨RX12, "more", "(II)V"⟩
abbrev cX12_heardFrom : ByteArray := prog_14_method_60_code
def yX12_heardFrom : MethodName := ⟨RX12, "heardFrom", "(III)I"⟩
abbrev cX12_clicks : ByteArray := prog_14_method_61_code
def yX12_clicks : MethodName := ⟨RX12, "clicks", "(I)I"⟩
abbrev cX12_click : ByteArray := prog_14_method_62_code
def yX12_click : MethodName := ⟨RX12, "click", "(I)I"⟩
abbrev cX12_held : ByteArray := prog_14_method_63_code
def yX12_held : MethodName := ⟨RX12, "held", "(II)I"⟩
abbrev cX12_head : ByteArray := prog_14_method_64_code
def yX12_head : MethodName := ⟨RX12, "head", "(III)I"⟩
abbrev cX12_heads : ByteArray := prog_14_method_65_code
def yX12_heads : MethodName := ⟨RX12, "heads", "(II)I"⟩
abbrev cX12_alike : ByteArray := prog_14_method_66_code
def yX12_alike : MethodName := ⟨RX12, "alike", "(IIIII)I"⟩
abbrev cX12_least : ByteArray := prog_14_method_67_code
def yX12_least : MethodName := ⟨RX12, "least", "(IIII)I"⟩
abbrev cX12_farthest : ByteArray := prog_14_method_68_code
def yX12_farthest : MethodName := ⟨RX12, "farthest", "(III)I"⟩
abbrev cX12_findTold : ByteArray := prog_14_method_69_code
def yX12_findTold : MethodName := ⟨RX12, "findTold", "(III)V"⟩
abbrev cX12_bits : ByteArray := prog_14_method_70_code
def yX12_bits : MethodName := ⟨RX12, "bits", "(I)I"⟩
abbrev cX12_toldBy : ByteArray := prog_14_method_71_code
def yX12_toldBy : MethodName := ⟨RX12, "toldBy", "(I)I"⟩
abbrev cX12_areCells : ByteArray := prog_14_method_72_code
def yX12_areCells : MethodName := ⟨RX12, "areCells", "(IZ)Z"⟩
abbrev cX12_spots : ByteArray := prog_14_method_73_code
def yX12_spots : MethodName := ⟨RX12, "spots", "(IIII)I"⟩
abbrev cX12_thingGoes : ByteArray := prog_14_method_74_code
def yX12_thingGoes : MethodName := ⟨RX12, "thingGoes", "(I)V"⟩
abbrev cX12_fullAhead : ByteArray := prog_14_method_75_code
def yX12_fullAhead : MethodName := ⟨RX12, "fullAhead", "(II)I"⟩
abbrev cX12_habitOf : ByteArray := prog_14_method_76_code
def yX12_habitOf : MethodName := ⟨RX12, "habitOf", "(I)I"⟩
abbrev cX12_goesOn : ByteArray := prog_14_method_77_code
def yX12_goesOn : MethodName := ⟨RX12, "goesOn", "(I)V"⟩
abbrev cX12_walkerGoes : ByteArray := prog_14_method_78_code
def yX12_walkerGoes : MethodName := ⟨RX12, "walkerGoes", "(I)V"⟩
abbrev cX12_tenth : ByteArray := prog_14_method_79_code
def yX12_tenth : MethodName := ⟨RX12, "tenth", "()V"⟩
abbrev cX12_tenths : ByteArray := prog_14_method_80_code
def yX12_tenths : MethodName := ⟨RX12, "tenths", "(I)I"⟩
abbrev cX12_cost : ByteArray := prog_14_method_81_code
def yX12_cost : MethodName := ⟨RX12, "cost", "(II)I"⟩
abbrev cX12_findFar : ByteArray := prog_14_method_82_code
def yX12_findFar : MethodName := ⟨RX12, "findFar", "(II)V"⟩
abbrev cX12_way : ByteArray := prog_14_method_83_code
def yX12_way : MethodName := ⟨RX12, "way", "(III)I"⟩
abbrev cX12_safe : ByteArray := prog_14_method_84_code
def yX12_safe : MethodName := ⟨RX12, "safe", "(I)I"⟩
abbrev cX12_lesson : ByteArray := prog_14_method_85_code
def yX12_lesson : MethodName := ⟨RX12, "lesson", "(III)I"⟩
abbrev cX12_tryRows : ByteArray := prog_14_method_86_code
def yX12_tryRows : MethodName := ⟨RX12, "tryRows", "(IIIII)V"⟩
abbrev cX12_learn : ByteArray := prog_14_method_87_code
def yX12_learn : MethodName := ⟨RX12, "learn", "(III)I"⟩
abbrev cX12_isPost : ByteArray := prog_14_method_88_code
def yX12_isPost : MethodName := ⟨RX12, "isPost", "(III)Z"⟩
abbrev cX12_posts : ByteArray := prog_14_method_89_code
def yX12_posts : MethodName := ⟨RX12, "posts", "(IIII)I"⟩
abbrev cX12_began : ByteArray := prog_14_method_90_code
def yX12_began : MethodName := ⟨RX12, "began", "(I)V"⟩
abbrev cX12_hasOwn : ByteArray := prog_14_method_91_code
def yX12_hasOwn : MethodName := ⟨RX12, "hasOwn", "(II)Z"⟩
abbrev cX12_voiced : ByteArray := prog_14_method_92_code
def yX12_voiced : MethodName := ⟨RX12, "voiced", "(II)I"⟩
abbrev cX12_bodyFrom : ByteArray := prog_14_method_93_code
def yX12_bodyFrom : MethodName := ⟨RX12, "bodyFrom", "(III)I"⟩
abbrev cX12_body : ByteArray := prog_14_method_94_code
def yX12_body : MethodName := ⟨RX12, "body", "(III)I"⟩
abbrev cX12_voice : ByteArray := prog_14_method_95_code
def yX12_voice : MethodName := ⟨RX12, "voice", "(III)I"⟩
abbrev cX12_trace : ByteArray := prog_14_method_96_code
def yX12_trace : MethodName := ⟨RX12, "trace", "(I)I"⟩
abbrev cX12_isSheet : ByteArray := prog_14_method_97_code
def yX12_isSheet : MethodName := ⟨RX12, "isSheet", "(I)Z"⟩
abbrev cX12_sheet : ByteArray := prog_14_method_98_code
def yX12_sheet : MethodName := ⟨RX12, "sheet", "(III)I"⟩
abbrev cX12_put : ByteArray := prog_14_method_99_code
def yX12_put : MethodName := ⟨RX12, "put", "(III)I"⟩
abbrev cX12_move : ByteArray := prog_14_method_100_code
def yX12_move : MethodName := ⟨RX12, "move", "(IIIII)I"⟩
abbrev cX12_copy : ByteArray := prog_14_method_101_code
def yX12_copy : MethodName := ⟨RX12, "copy", "([I[I)V"⟩
abbrev cX12_image : ByteArray := prog_14_method_102_code
def yX12_image : MethodName := ⟨RX12, "image", "()I"⟩
abbrev cX12_restore : ByteArray := prog_14_method_103_code
def yX12_restore : MethodName := ⟨RX12, "restore", "()I"⟩
abbrev cX12_tell : ByteArray := prog_14_method_104_code
def yX12_tell : MethodName := ⟨RX12, "tell", "(I)I"⟩
abbrev cX12_check : ByteArray := prog_14_method_105_code
def yX12_check : MethodName := ⟨RX12, "check", "(I)I"⟩
abbrev cX12_sumOf : ByteArray := prog_14_method_106_code
def yX12_sumOf : MethodName := ⟨RX12, "sumOf", "(I)I"⟩
abbrev cX12_count : ByteArray := prog_14_method_107_code
def yX12_count : MethodName := ⟨RX12, "count", "(I)I"⟩
abbrev cX12_told : ByteArray := prog_14_method_108_code
def yX12_told : MethodName := ⟨RX12, "told", "(I)I"⟩
def RL : String := "ClickStreetLaw"
def BASE : List Cond := lw_tbl.filter goodWord
def wsO (y : MethodName) (b : ByteArray) (n : Nat) (r : Option FieldType) : List Cond := .code y b n r :: BASE
abbrev classes : List vw_C := [(RX0, TX0, 6), (RX1, TX1, 3), (RX2, TX2, 7), (RX3, TX3, 9), (RX4, TX4, 7), (RX5, TX5, 2), (RX6, TX6, 3), (RX7, TX7, 6), (RX8, TX8, 6), (RX9, TX9, 11), (RX10, TX10, 8), (RX11, TX11, 9), (RX12, TX12, 33)]
def NFs : List (String × Nat × String × String × String × String) := [(RX10, 72, "ClickStreet$Street", "occupants", "[I", "ClickStreet"), (RX11, 124, "ClickStreet$Street", "occupants", "[I", "ClickStreet"), (RX11, 99, "ClickStreet$Street", "kinds", "[I", "ClickStreet"), (RX11, 102, "ClickStreet$Street", "cells", "[I", "ClickStreet"), (RX11, 105, "ClickStreet$Street", "sides", "[I", "ClickStreet"), (RX11, 108, "ClickStreet$Street", "steps", "[I", "ClickStreet"), (RX11, 210, "ClickStreet$Laws", "texts", "[LClickStreet$Formula;", "ClickStreet"), (RX4, 65, "ClickStreet$Row", "size", "I", "ClickStreet"), (RX3, 70, "ClickStreet$Row", "size", "I", "ClickStreet"), (RX11, 205, "ClickStreet$Row", "size", "I", "ClickStreet"), (RX11, 391, "ClickStreet$Lessons", "size", "I", "ClickStreet"), (RX11, 328, "ClickStreet$Lessons", "best", "LClickStreet$Row;", "ClickStreet"), (RX11, 325, "ClickStreet$Lessons", "fewestMinutes", "I", "ClickStreet"), (RX8, 38, "ClickStreet$Walker", "kind", "I", "ClickStreet"), (RX0, 56, "ClickStreet$Walker", "cell", "I", "ClickStreet"), (RX10, 109, "ClickStreet$Walker", "cell", "I", "ClickStreet"), (RX11, 229, "ClickStreet$Walker", "cell", "I", "ClickStreet"), (RX10, 119, "ClickStreet$Walker", "side", "I", "ClickStreet"), (RX11, 185, "ClickStreet$Walker", "side", "I", "ClickStreet"), (RX8, 41, "ClickStreet$Walker", "pitch", "I", "ClickStreet"), (RX11, 176, "ClickStreet$Walker", "pitch", "I", "ClickStreet"), (RX11, 179, "ClickStreet$Walker", "loudness", "I", "ClickStreet"), (RX11, 182, "ClickStreet$Walker", "every", "I", "ClickStreet"), (RX10, 151, "ClickStreet$Walker", "every", "I", "ClickStreet"), (RX10, 144, "ClickStreet$Walker", "isGoing", "Z", "ClickStreet"), (RX11, 188, "ClickStreet$Walker", "isGoing", "Z", "ClickStreet"), (RX10, 66, "ClickStreet$Walker", "bumps", "I", "ClickStreet"), (RX10, 69, "ClickStreet$Walker", "clicks", "I", "ClickStreet"), (RX11, 242, "ClickStreet$Walker", "yes", "[I", "ClickStreet"), (RX11, 245, "ClickStreet$Walker", "no", "[I", "ClickStreet"), (RX11, 71, "ClickStreet$World", "street", "LClickStreet$Street;", "ClickStreet"), (RX0, 70, "ClickStreet$World", "street", "LClickStreet$Street;", "ClickStreet"), (RX11, 114, "ClickStreet$World", "laws", "LClickStreet$Laws;", "ClickStreet"), (RX0, 126, "ClickStreet$World", "laws", "LClickStreet$Laws;", "ClickStreet"), (RX11, 313, "ClickStreet$World", "lessons", "LClickStreet$Lessons;", "ClickStreet"), (RX11, 192, "ClickStreet$World", "tape", "LClickStreet$Row;", "ClickStreet"), (RX11, 385, "ClickStreet$World", "waiting", "LClickStreet$Row;", "ClickStreet"), (RX0, 97, "ClickStreet$World", "walkers", "[LClickStreet$Walker;", "ClickStreet"), (RX11, 157, "ClickStreet$World", "walkers", "[LClickStreet$Walker;", "ClickStreet"), (RX11, 148, "ClickStreet$World", "walkerCount", "I", "ClickStreet"), (RX11, 290, "ClickStreet$World", "now", "I", "ClickStreet"), (RX11, 214, "ClickStreet$Reader", "draft", "LClickStreet$Formula;", "ClickStreet"), (RX11, 284, "ClickStreet$Finder", "most", "I", "ClickStreet"), (RX11, 287, "ClickStreet$Finder", "places", "I", "ClickStreet"), (RX11, 353, "ClickStreet$Voices", "trace", "LClickStreet$Row;", "ClickStreet"), (RX11, 347, "ClickStreet$Voices", "isParted", "Z", "ClickStreet"), (RX11, 133, "ClickStreet$Sheet", "bits", "I", "ClickStreet"), (RX0, 65, "ClickStreet$Sheet", "size", "I", "ClickStreet"), (RX11, 136, "ClickStreet$Sheet", "size", "I", "ClickStreet"), (RX11, 373, "ClickStreet$Sheet", "numbers", "[I", "ClickStreet")]
def NMs : List (String × Nat × MethodName × String) := [(RX2, 37, yX1_init, "ClickStreet"), (RX10, 25, yX3_init, "ClickStreet"), (RX10, 57, yX9_init, "ClickStreet"), (RX11, 34, yX4_init, "ClickStreet"), (RX4, 9, yX1_init, "ClickStreet"), (RX11, 41, yX0_init, "ClickStreet"), (RX11, 48, yX8_init, "ClickStreet"), (RX11, 57, yX6_init, "ClickStreet"), (RX2, 38, yX11_within, "ClickStreet")]
def NSs : List (String × Nat × String) := [(RX4, 25, ""), (RX4, 44, "loyp"), (RX4, 48, "snt"), (RX4, 50, "flrbt"), (RX12, 34, "loyp"), (RX12, 36, "snt"), (RX12, 38, "flrbt")]
def AOs : List String := ["ClickStreet$Formula", "ClickStreet$Walker", "ClickStreet$Sheet", "java/lang/String"]
abbrev TYS (cy : Nat → ClassId) : List (ClassId × FieldType) := [(cy 0, .int), (cy 1, .boolean), (cy 2, .long), (cy 3, .object "ClickStreet$Formula"), (cy 4, .object "ClickStreet$Walker"), (cy 5, .object "ClickStreet$Sheet"), (cy 6, .object "java/lang/String")]
end
section
/-! the base: one word list for every method, the environment that every contract carries, starts and calls in one row each -/
theorem bmem {w : Cond} (i : Nat) (h : lw_tbl[i]? = some w) (g : goodWord w = true) : w ∈ BASE := List.mem_filter.mpr ⟨List.mem_of_getElem? h, g⟩
theorem bmT1 {w : Cond} (i : Nat) (h : tables_1_1[i]? = some w) (g : goodWord w = true) : w ∈ BASE := List.mem_filter.mpr ⟨List.mem_append_right _ (tbM1 i h), g⟩
theorem bmT2 {w : Cond} (i : Nat) (h : tables_1_2[i]? = some w) (g : goodWord w = true) : w ∈ BASE := List.mem_filter.mpr ⟨List.mem_append_right _ (tbM2 i h), g⟩
theorem bmT3 {w : Cond} (i : Nat) (h : tables_1_3[i]? = some w) (g : goodWord w = true) : w ∈ BASE := List.mem_filter.mpr ⟨List.mem_append_right _ (tbM3 i h), g⟩
theorem bmT4 {w : Cond} (i : Nat) (h : tables_1_4[i]? = some w) (g : goodWord w = true) : w ∈ BASE := List.mem_filter.mpr ⟨List.mem_append_right _ (tbM4 i h), g⟩
theorem bmT5 {w : Cond} (i : Nat) (h : tables_1_5[i]? = some w) (g : goodWord w = true) : w ∈ BASE := List.mem_filter.mpr ⟨List.mem_append_right _ (tbM5 i h), g⟩
theorem bmT6 {w : Cond} (i : Nat) (h : tables_1_6[i]? = some w) (g : goodWord w = true) : w ∈ BASE := List.mem_filter.mpr ⟨List.mem_append_right _ (tbM6 i h), g⟩
theorem bmT7 {w : Cond} (i : Nat) (h : tables_1_7[i]? = some w) (g : goodWord w = true) : w ∈ BASE := List.mem_filter.mpr ⟨List.mem_append_right _ (tbM7 i h), g⟩
theorem bmT8 {w : Cond} (i : Nat) (h : tables_1_8[i]? = some w) (g : goodWord w = true) : w ∈ BASE := List.mem_filter.mpr ⟨List.mem_append_right _ (tbM8 i h), g⟩
theorem b_in {L : List Cond} (h : ∀ w ∈ L, w ∈ BASE) : GoodIn BASE L := fun w hw => ⟨h w hw, good_of_word (List.mem_filter.mp (h w hw)).2⟩
def KS (y : MethodName) (b : ByteArray) (n : Nat) (r : Option FieldType) (k : Nat) : Prop := Cond.static y ∈ BASE ∧ Cond.initialized y.cls ∈ BASE ∧ Cond.code y b n r ∈ BASE ∧ y.cls ≠ "java/lang/invoke/MethodHandle" ∧ y.cls ≠ "java/lang/invoke/VarHandle" ∧ (parseMethodDescriptor y.desc).map (fun d => d.parameters.length) = some k
def KV (y : MethodName) (b : ByteArray) (n : Nat) (r : Option FieldType) (k : Nat) : Prop := Cond.instanceMethod y ∈ BASE ∧ Cond.selects y.cls y y ∈ BASE ∧ Cond.initialized y.cls ∈ BASE ∧ Cond.code y b n r ∈ BASE ∧ y.cls ≠ "java/lang/invoke/MethodHandle" ∧ y.cls ≠ "java/lang/invoke/VarHandle" ∧ (parseMethodDescriptor y.desc).map (fun d => d.parameters.length) = some k
def KI (y : MethodName) (b : ByteArray) (n : Nat) (k : Nat) : Prop := Cond.instanceMethod y ∈ BASE ∧ y.name = "<init>" ∧ Cond.initialized y.cls ∈ BASE ∧ Cond.code y b n none ∈ BASE ∧ y.cls ≠ "java/lang/invoke/MethodHandle" ∧ y.cls ≠ "java/lang/invoke/VarHandle" ∧ (parseMethodDescriptor y.desc).map (fun d => d.parameters.length) = some k
theorem nhM_0 : RX11 ≠ "java/lang/invoke/MethodHandle" := by decide +kernel
theorem nhV_0 : RX11 ≠ "java/lang/invoke/VarHandle" := by decide +kernel
theorem nhM_1 : RX7 ≠ "java/lang/invoke/MethodHandle" := by decide +kernel
theorem nhV_1 : RX7 ≠ "java/lang/invoke/VarHandle" := by decide +kernel
theorem nhM_2 : RX5 ≠ "java/lang/invoke/MethodHandle" := by decide +kernel
theorem nhV_2 : RX5 ≠ "java/lang/invoke/VarHandle" := by decide +kernel
theorem nhM_3 : RX9 ≠ "java/lang/invoke/MethodHandle" := by decide +kernel
theorem nhV_3 : RX9 ≠ "java/lang/invoke/VarHandle" := by decide +kernel
theorem nhM_4 : RX6 ≠ "java/lang/invoke/MethodHandle" := by decide +kernel
theorem nhV_4 : RX6 ≠ "java/lang/invoke/VarHandle" := by decide +kernel
theorem nhM_5 : RX2 ≠ "java/lang/invoke/MethodHandle" := by decide +kernel
theorem nhV_5 : RX2 ≠ "java/lang/invoke/VarHandle" := by decide +kernel
theorem nhM_6 : RX1 ≠ "java/lang/invoke/MethodHandle" := by decide +kernel
theorem nhV_6 : RX1 ≠ "java/lang/invoke/VarHandle" := by decide +kernel
theorem nhM_7 : RX10 ≠ "java/lang/invoke/MethodHandle" := by decide +kernel
theorem nhV_7 : RX10 ≠ "java/lang/invoke/VarHandle" := by decide +kernel
theorem nhM_8 : RX3 ≠ "java/lang/invoke/MethodHandle" := by decide +kernel
theorem nhV_8 : RX3 ≠ "java/lang/invoke/VarHandle" := by decide +kernel
theorem nhM_9 : "java/lang/Integer" ≠ "java/lang/invoke/MethodHandle" := by decide +kernel
theorem nhV_9 : "java/lang/Integer" ≠ "java/lang/invoke/VarHandle" := by decide +kernel
theorem nhM_10 : "java/lang/Long" ≠ "java/lang/invoke/MethodHandle" := by decide +kernel
theorem nhV_10 : "java/lang/Long" ≠ "java/lang/invoke/VarHandle" := by decide +kernel
theorem nhM_11 : RX0 ≠ "java/lang/invoke/MethodHandle" := by decide +kernel
theorem nhV_11 : RX0 ≠ "java/lang/invoke/VarHandle" := by decide +kernel
theorem nhM_12 : RX8 ≠ "java/lang/invoke/MethodHandle" := by decide +kernel
theorem nhV_12 : RX8 ≠ "java/lang/invoke/VarHandle" := by decide +kernel
theorem nhM_13 : "jdk/internal/util/Preconditions" ≠ "java/lang/invoke/MethodHandle" := by decide +kernel
theorem nhV_13 : "jdk/internal/util/Preconditions" ≠ "java/lang/invoke/VarHandle" := by decide +kernel
theorem nhM_14 : "java/lang/StringLatin1" ≠ "java/lang/invoke/MethodHandle" := by decide +kernel
theorem nhV_14 : "java/lang/StringLatin1" ≠ "java/lang/invoke/VarHandle" := by decide +kernel
theorem nhM_15 : "java/lang/String" ≠ "java/lang/invoke/MethodHandle" := by decide +kernel
theorem nhV_15 : "java/lang/String" ≠ "java/lang/invoke/VarHandle" := by decide +kernel
theorem nhM_16 : RX4 ≠ "java/lang/invoke/MethodHandle" := by decide +kernel
theorem nhV_16 : RX4 ≠ "java/lang/invoke/VarHandle" := by decide +kernel
theorem nhM_17 : RX12 ≠ "java/lang/invoke/MethodHandle" := by decide +kernel
theorem nhV_17 : RX12 ≠ "java/lang/invoke/VarHandle" := by decide +kernel
theorem pnn_0 : plainName RX11 = true := by decide +kernel
theorem pnn_1 : plainName RX7 = true := by decide +kernel
theorem pnn_2 : plainName RX5 = true := by decide +kernel
theorem pnn_3 : plainName RX9 = true := by decide +kernel
theorem pnn_4 : plainName RX6 = true := by decide +kernel
theorem pnn_5 : plainName RX2 = true := by decide +kernel
theorem pnn_6 : plainName RX1 = true := by decide +kernel
theorem pnn_7 : plainName RX10 = true := by decide +kernel
theorem pnn_8 : plainName RX3 = true := by decide +kernel
theorem pnn_9 : plainName "java/lang/Integer" = true := by decide +kernel
theorem pnn_10 : plainName "java/lang/Long" = true := by decide +kernel
theorem pnn_11 : plainName RX0 = true := by decide +kernel
theorem pnn_12 : plainName RX8 = true := by decide +kernel
theorem pnn_13 : plainName "jdk/internal/util/Preconditions" = true := by decide +kernel
theorem pnn_14 : plainName "java/lang/StringLatin1" = true := by decide +kernel
theorem pnn_15 : plainName "java/lang/String" = true := by decide +kernel
theorem pnn_16 : plainName RX4 = true := by decide +kernel
theorem pnn_17 : plainName RX12 = true := by decide +kernel
theorem pdn_0 : (parseMethodDescriptor "(III)Z").map (fun d => d.parameters.length) = some 3 := by decide +kernel
theorem pdn_1 : (parseMethodDescriptor "(I)Z").map (fun d => d.parameters.length) = some 1 := by decide +kernel
theorem pdn_2 : (parseMethodDescriptor "(I)I").map (fun d => d.parameters.length) = some 1 := by decide +kernel
theorem pdn_3 : (parseMethodDescriptor "(III)I").map (fun d => d.parameters.length) = some 3 := by decide +kernel
theorem pdn_4 : (parseMethodDescriptor "(I)V").map (fun d => d.parameters.length) = some 1 := by decide +kernel
theorem pdn_5 : (parseMethodDescriptor "(II)V").map (fun d => d.parameters.length) = some 2 := by decide +kernel
theorem pdn_6 : (parseMethodDescriptor "()I").map (fun d => d.parameters.length) = some 0 := by decide +kernel
theorem pdn_7 : (parseMethodDescriptor "(II)Z").map (fun d => d.parameters.length) = some 2 := by decide +kernel
theorem pdn_8 : (parseMethodDescriptor "(II)I").map (fun d => d.parameters.length) = some 2 := by decide +kernel
theorem pdn_9 : (parseMethodDescriptor "()Z").map (fun d => d.parameters.length) = some 0 := by decide +kernel
theorem pdn_10 : (parseMethodDescriptor "(LClickStreet$Formula;)V").map (fun d => d.parameters.length) = some 1 := by decide +kernel
theorem pdn_11 : (parseMethodDescriptor "([I)I").map (fun d => d.parameters.length) = some 1 := by decide +kernel
theorem pdn_12 : (parseMethodDescriptor "(IIIII)Z").map (fun d => d.parameters.length) = some 5 := by decide +kernel
theorem pdn_13 : (parseMethodDescriptor "(IIII)Z").map (fun d => d.parameters.length) = some 4 := by decide +kernel
theorem pdn_14 : (parseMethodDescriptor "(IIIII)I").map (fun d => d.parameters.length) = some 5 := by decide +kernel
theorem pdn_15 : (parseMethodDescriptor "(LClickStreet$Laws;)V").map (fun d => d.parameters.length) = some 1 := by decide +kernel
theorem pdn_16 : (parseMethodDescriptor "(LClickStreet$Lessons;)V").map (fun d => d.parameters.length) = some 1 := by decide +kernel
theorem pdn_17 : (parseMethodDescriptor "(LClickStreet$Row;)V").map (fun d => d.parameters.length) = some 1 := by decide +kernel
theorem pdn_18 : (parseMethodDescriptor "(LClickStreet$Street;)V").map (fun d => d.parameters.length) = some 1 := by decide +kernel
theorem pdn_19 : (parseMethodDescriptor "(III)V").map (fun d => d.parameters.length) = some 3 := by decide +kernel
theorem pdn_20 : (parseMethodDescriptor "(LClickStreet$Walker;)V").map (fun d => d.parameters.length) = some 1 := by decide +kernel
theorem pdn_21 : (parseMethodDescriptor "(J)I").map (fun d => d.parameters.length) = some 1 := by decide +kernel
theorem pdn_22 : (parseMethodDescriptor "(LClickStreet$Walker;I)I").map (fun d => d.parameters.length) = some 2 := by decide +kernel
theorem pdn_23 : (parseMethodDescriptor "(LClickStreet$World;III)Z").map (fun d => d.parameters.length) = some 4 := by decide +kernel
theorem pdn_24 : (parseMethodDescriptor "(LClickStreet$World;III)V").map (fun d => d.parameters.length) = some 4 := by decide +kernel
theorem pdn_25 : (parseMethodDescriptor "(IIII)I").map (fun d => d.parameters.length) = some 4 := by decide +kernel
theorem pdn_26 : (parseMethodDescriptor "(LClickStreet$Walker;II)I").map (fun d => d.parameters.length) = some 3 := by decide +kernel
theorem pdn_27 : (parseMethodDescriptor "(LClickStreet$World;ILClickStreet$Sheet;LClickStreet$Sheet;)Z").map (fun d => d.parameters.length) = some 4 := by decide +kernel
theorem pdn_28 : (parseMethodDescriptor "(LClickStreet$World;ILClickStreet$Sheet;I)Z").map (fun d => d.parameters.length) = some 4 := by decide +kernel
theorem pdn_29 : (parseMethodDescriptor "(LClickStreet$Walker;I)V").map (fun d => d.parameters.length) = some 2 := by decide +kernel
theorem pdn_30 : (parseMethodDescriptor "()V").map (fun d => d.parameters.length) = some 0 := by decide +kernel
theorem pdn_31 : (parseMethodDescriptor "(LClickStreet$World;)V").map (fun d => d.parameters.length) = some 1 := by decide +kernel
theorem pdn_32 : (parseMethodDescriptor "(LClickStreet$Walker;III)I").map (fun d => d.parameters.length) = some 4 := by decide +kernel
theorem pdn_33 : (parseMethodDescriptor "(IILjava/util/function/BiFunction;)I").map (fun d => d.parameters.length) = some 3 := by decide +kernel
theorem pdn_34 : (parseMethodDescriptor "([BI)C").map (fun d => d.parameters.length) = some 2 := by decide +kernel
theorem pdn_35 : (parseMethodDescriptor "([BIII)I").map (fun d => d.parameters.length) = some 4 := by decide +kernel
theorem pdn_36 : (parseMethodDescriptor "()B").map (fun d => d.parameters.length) = some 0 := by decide +kernel
theorem pdn_37 : (parseMethodDescriptor "(LClickStreet$Row;I)I").map (fun d => d.parameters.length) = some 2 := by decide +kernel
theorem pdn_38 : (parseMethodDescriptor "(IIIIII)Z").map (fun d => d.parameters.length) = some 6 := by decide +kernel
theorem pdn_39 : (parseMethodDescriptor "(IZ)Z").map (fun d => d.parameters.length) = some 2 := by decide +kernel
theorem pdn_40 : (parseMethodDescriptor "([I[I)V").map (fun d => d.parameters.length) = some 2 := by decide +kernel
theorem pdn_41 : (parseMethodDescriptor "(IIIII)V").map (fun d => d.parameters.length) = some 5 := by decide +kernel
theorem pdn_42 : (parseMethodDescriptor "(I)C").map (fun d => d.parameters.length) = some 1 := by decide +kernel
theorem pdn_43 : (parseMethodDescriptor "(JI)I").map (fun d => d.parameters.length) = some 2 := by decide +kernel
theorem pdn_44 : (parseMethodDescriptor "(IZ)I").map (fun d => d.parameters.length) = some 2 := by decide +kernel
theorem wsO_in {y : MethodName} {b : ByteArray} {n : Nat} {r : Option FieldType} (h : Cond.code y b n r ∈ BASE) : ∀ w ∈ wsO y b n r, w ∈ BASE := fun w hw => (List.mem_cons.mp hw).elim (fun e => e ▸ h) id
theorem gS {own : String} {idx : Nat} {y : MethodName} {b : ByteArray} {n : Nat} {r : Option FieldType} {k : Nat} (h : KS y b n r k) (hl : Cond.methodLink own idx y ∈ BASE) : GoodIn BASE (va_wsS own idx y (wsO y b n r)) := b_in fun w hw => by
  rcases List.mem_append.mp hw with q | q
  · simp only [List.mem_cons, List.not_mem_nil, or_false] at q
    rcases q with rfl | rfl | rfl
    · exact hl
    · exact h.1
    · exact h.2.1
  · exact wsO_in h.2.2.1 w q
theorem gV {own : String} {idx : Nat} {y : MethodName} {b : ByteArray} {n : Nat} {r : Option FieldType} {k : Nat} (h : KV y b n r k) (hl : Cond.methodLink own idx y ∈ BASE) : GoodIn BASE (wsV own idx y.cls y (wsO y b n r)) := b_in fun w hw => by
  rcases List.mem_append.mp hw with q | q
  · simp only [List.mem_cons, List.not_mem_nil, or_false] at q
    rcases q with rfl | rfl | rfl | rfl
    · exact hl
    · exact h.1
    · exact h.2.1
    · exact h.2.2.1
  · exact wsO_in h.2.2.2.1 w q
/-- what holds of the machine's tables all the way -/
def EN (G : va_G) (cy : Nat → ClassId) (sk : Nat → Nat) (U : State) : Prop :=
  va_K G classes (TYS cy) U ∧ (∀ q ∈ NFs, va_Nw (.fieldLinkNest q.1 q.2.1 q.2.2.1 q.2.2.2.1 q.2.2.2.2.1 q.2.2.2.2.2) U) ∧ (∀ q ∈ NMs, va_Nw (.methodLinkNest q.1 q.2.1 q.2.2.1 q.2.2.2) U) ∧ (∀ (k : Nat) (q : String × Nat × String), NSs[k]? = some q → vk_R q.1 q.2.1 q.2.2 (sk k) U) ∧ ∀ C ∈ AOs, va_AO C U
theorem EN.same {G : va_G} {cy : Nat → ClassId} {sk : Nat → Nat} {u U : State} (hv : U.vm = u.vm) (h : EN G cy sk u) : EN G cy sk U := by
  have hA : u.vm.Alike U.vm := by rw [hv]; exact Vm.Alike.refl _
  exact ⟨va_K.moved hA h.1, fun q hq => va_Nw.same rfl hv.symm (h.2.1 q hq), fun q hq => va_Nw.same rfl hv.symm (h.2.2.1 q hq), fun k q hq => vk_R.same hv (h.2.2.2.1 k q hq), fun C hC => va_AO.moved hA (h.2.2.2.2 C hC)⟩
theorem EN.warm {G : va_G} {cy : Nat → ClassId} {sk : Nat → Nat} {s U : State} (hW : s.WarmedH U.vm) (h : EN G cy sk s) : EN G cy sk U :=
  ⟨va_K.moved hW.alike h.1, fun q hq => va_Nw.warmF hW (h.2.1 q hq), fun q hq => va_Nw.warmM hW (h.2.2.1 q hq), fun k q hq => vk_R.warm hW (h.2.2.2.1 k q hq), fun C hC => va_AO.moved hW.alike (h.2.2.2.2 C hC)⟩
def PR (G : va_G) (cy : Nat → ClassId) (sk : Nat → Nat) (sz : Nat) (ws : va_W) (U : State) : Prop := U.heap.size = sz ∧ va_P G classes ws U.heap ∧ EN G cy sk U ∧ va_D (fun _ => True) ws
theorem PR_blind {av : List Value} {G : va_G} {cy : Nat → ClassId} {sk : Nat → Nat} {sz : Nat} {ws : va_W} : FrameBlind (va_Pc av (PR G cy sk sz ws)) := fun a U g mk h => ⟨h.1, h.2.1, h.2.2.1, EN.same (u := U) (U := U.calling g mk a) rfl h.2.2.2.1, h.2.2.2.2⟩
theorem PR_of {av : List Value} {G : va_G} {cy : Nat → ClassId} {sk : Nat → Nat} {H : Heap} {ws : va_W} {A : Nat → Prop} {s : State} (hP : va_P G classes ws H) (hD : va_D A ws) (hE : EN G cy sk s) : ∀ U : State, U.heap = H → s.WarmedH U.vm → va_Pc av (PR G cy sk H.size ws) av.toArray U :=
  fun U hU hW => ⟨rfl, by rw [hU], by rw [hU]; exact hP, hE.warm hW, hD.weaken (fun _ _ _ _ => trivial)⟩
theorem P_cut {G : va_G} {cl : List vw_C} {ws wc : va_W} {H : Heap} (h : va_P G cl ws H) (is : List Nat) (hC : is.map (fun i => ws[i]?) = wc.map some) : va_P G cl wc H := fun k q hk => by
  have h1 : (is.map (fun i => ws[i]?))[k]? = some (some q) := by rw [hC, List.getElem?_map, hk]; rfl
  rw [List.getElem?_map] at h1
  cases hi : is[k]? with
  | none => rw [hi] at h1; cases h1
  | some i => rw [hi] at h1; exact h i q (Option.some.inj h1)
theorem P_nil {G : va_G} {cl : List vw_C} {H : Heap} : va_P G cl [] H := fun k q h => by simp at h
theorem D_nil {A : Nat → Prop} : va_D A [] := ⟨fun i j p q h => by simp at h, fun k q h => by simp at h⟩
/-- the start of every contract's proof -/
theorem mt {l : Launch} {y : MethodName} {b : ByteArray} {n : Nat} {r : Option FieldType} {rm : Room} {G : va_G} {cy : Nat → ClassId} {sk : Nat → Nat} {sz : Nat} {WS : va_W} {av : List Value} {Qc : Array Value → State → Outcome → State → Prop} {mc ms : Nat} {free : Addr → Prop} (hy : plainName y.cls = true) (hn : (lg_sl av).length ≤ n)
    (body : ∀ (p : Program) (e : Env) (s : State) (m : MethodId) (below : List Frame) (meth : Method) (c : Code) (ls : Array Slot), p.tables.exec = Jvm.exec → c.code = b → meth.sig.returnType = r → c.maxLocals = n → (∀ w ∈ BASE, w.before av.toArray s = true) → s.vm.findClass y.cls = some m.cls → meth.locks = false → meth.name = y.name → s.heap.size = sz → va_P G classes WS s.heap → EN G cy sk s → va_D (fun _ => True) WS → lv_has ls n (lv_args 0 av) →
      W p l e (headSpec (wsO y b n r) rm).room s m av.toArray below meth c s.heap [] 0 0 (MQ below Qc av.toArray s mc ms free) (F0 m 0 ls [])) : Met l y (wsO y b n r) rm (va_Pc av (PR G cy sk sz WS)) Qc mc ms free := by
  refine Met.ofW (cc := b) (maxL := n) (ret := r) (ws' := BASE) hy rfl ?_
  intro p e s m args below meth c s₁ B hml hv
  obtain ⟨rfl, hsz, hP, hE, hD⟩ := hv
  have hts := atoms_spec (ws := wsO y b n r) B.pre
  rw [lg_entry_eq]
  exact body p e s m below meth c _ B.exec B.bytes B.returns hml (fun w hw => hts w (List.mem_cons_of_mem _ hw)) (findClass_of_methodNamed B.named) B.notSynchronized (name_of_methodNamed B.named B.method).1 hsz hP hE hD (lv_entry av hn)
section BASECALLS
variable {p : Program} {l : Launch} {e : Env} {R : Room} {s : State} {m : MethodId} {args : Array Value} {below : List Frame} {meth : Method} {c : Code} {H H0 : Heap} {locs : List Loc} {cells slots : Nat} {Q : State → Prop}
variable {cc : ByteArray} {pc : Nat} {ls : Array Slot} {rest st As : List Value} {G : va_G} {cy : Nat → ClassId} {sk : Nat → Nat} {ws wc wr : va_W} {A : Nat → Prop} {own : String} {idx mc ms nL n k : Nat} {y : MethodName} {b : ByteArray} {r : Option FieldType} {rm : Room} {a ci : Nat} {fs : List Value} {host : String}
theorem tp {x v : Int32} (h : x = v) (kk : W p l e R s m args below meth c H locs cells slots Q (F0 m pc ls (.int v :: rest))) : W p l e R s m args below meth c H locs cells slots Q (F0 m pc ls (.int x :: rest)) := h ▸ kk
theorem tpl {x v : Int64} (h : x = v) (kk : W p l e R s m args below meth c H locs cells slots Q (F0 m pc ls (.long v :: rest))) : W p l e R s m args below meth c H locs cells slots Q (F0 m pc ls (.long x :: rest)) := h ▸ kk
theorem recv0 (hE : EN G cy sk s) (hP : va_P G classes ws H) (q0 : Nat) (he : ws[q0]? = some (a, .inr (ci, fs))) {q : vw_C} (hc : classes[ci]? = some q) (hq : q.1 = y.cls) : ∃ cell : Cell, H[a]? = some cell ∧ cell.vm.isStatics = false ∧ s.vm.findClass y.cls = some cell.cls := hq ▸ va_recv hE.1 hP hc he
/-- a reader is called: int, static -/
theorem rS {post : Int32 → Prop} (hx : p.tables.exec = Jvm.exec) (hb : c.code = cc) (hml : c.maxLocals = nL) (hown : s.vm.findClass own = some m.cls) (hts : ∀ w ∈ BASE, w.before args s = true) (hE : EN G cy sk s) (hM : Met l y (wsO y b n r) rm (va_Pc As (PR G cy sk H.size wc)) (vp_Si post) 0 0 (fun _ => False)) (hy : KS y b n r k) (hl : Cond.methodLink own idx y ∈ BASE)
    (hrc : rm.cells = 0) (hrs : rm.slots = 0) (hR : rm.frames + 1 ≤ R.frames ∧ 8 + (n + 11) + rm.locals ≤ R.locals) (hP : va_P G classes ws H) (hD : va_D A ws) (is : List Nat) (hnd : va_nd is = true) (hC : is.map (fun i => ws[i]?) = wc.map some) (hst : st = As.reverse ++ rest) (hn : As.length = k) (hls : ls.size = nL) (hW : (rest.map fun v => v.category).sum ≤ 8) (hdg : decode cc pc = .ok (.invokestatic idx, 3)) (hf : cells ≤ R.cells ∧ slots ≤ R.slots)
    (kk : ∀ r : Int32, post r → W p l e R s m args below meth c H locs cells slots Q (F0 m (pc + 3) ls (.int r :: rest))) : W p l e R s m args below meth c H locs cells slots Q (F0 m pc ls st) :=
  vp_callSi (W.runS ⟨hx, hb, hml, hown, hts⟩ hM (va_cwS k hts (gS hy hl) rfl hrc hrs hy.2.2.2 hR) ⟨PR_blind, PR_of (P_cut hP is hC) (hD.sub is hnd hC) hE⟩ rfl hn hls hst (lv_room hW) hdg hf) kk
/-- a reader is called: int, virtual -/
theorem rV {post : Int32 → Prop} (hx : p.tables.exec = Jvm.exec) (hb : c.code = cc) (hml : c.maxLocals = nL) (hown : s.vm.findClass own = some m.cls) (hts : ∀ w ∈ BASE, w.before args s = true) (hE : EN G cy sk s) (hM : Met l y (wsO y b n r) rm (va_Pc (.ref a :: As) (PR G cy sk H.size wc)) (vp_Si post) 0 0 (fun _ => False)) (hy : KV y b n r k) (hl : Cond.methodLink own idx y ∈ BASE)
    (hrc : rm.cells = 0) (hrs : rm.slots = 0) (hR : rm.frames + 1 ≤ R.frames ∧ 8 + (n + 11) + rm.locals ≤ R.locals) (hP : va_P G classes ws H) (hD : va_D A ws) (q0 : Nat) (he : ws[q0]? = some (a, .inr (ci, fs))) {q : vw_C} (hc : classes[ci]? = some q) (hq : q.1 = y.cls) (is : List Nat) (hnd : va_nd is = true) (hC : is.map (fun i => ws[i]?) = wc.map some) (hst : st = As.reverse ++ .ref a :: rest) (hn : As.length = k) (hls : ls.size = nL) (hW : (rest.map fun v => v.category).sum ≤ 8) (hdg : decode cc pc = .ok (.invokevirtual idx, 3)) (hf : cells ≤ R.cells ∧ slots ≤ R.slots)
    (kk : ∀ r : Int32, post r → W p l e R s m args below meth c H locs cells slots Q (F0 m (pc + 3) ls (.int r :: rest))) : W p l e R s m args below meth c H locs cells slots Q (F0 m pc ls st) :=
  vp_callSi (W.runV ⟨hx, hb, hml, hown, hts⟩ hM (cwV k hts (gV hy hl) rfl hrc hrs ⟨rfl, hy.2.2.2.2⟩ hR) ⟨PR_blind, recv0 hE hP q0 he hc hq, PR_of (P_cut hP is hC) (hD.sub is hnd hC) hE⟩ rfl hn hls hst (lv_room hW) hdg hf) kk
/-- a reader is called: void, virtual -/
theorem rVv {post : Unit → Prop} (hx : p.tables.exec = Jvm.exec) (hb : c.code = cc) (hml : c.maxLocals = nL) (hown : s.vm.findClass own = some m.cls) (hts : ∀ w ∈ BASE, w.before args s = true) (hE : EN G cy sk s) (hM : Met l y (wsO y b n r) rm (va_Pc (.ref a :: As) (PR G cy sk H.size wc)) (va_Sv post) 0 0 (fun _ => False)) (hy : KV y b n r k) (hl : Cond.methodLink own idx y ∈ BASE)
    (hrc : rm.cells = 0) (hrs : rm.slots = 0) (hR : rm.frames + 1 ≤ R.frames ∧ 8 + (n + 11) + rm.locals ≤ R.locals) (hP : va_P G classes ws H) (hD : va_D A ws) (q0 : Nat) (he : ws[q0]? = some (a, .inr (ci, fs))) {q : vw_C} (hc : classes[ci]? = some q) (hq : q.1 = y.cls) (is : List Nat) (hnd : va_nd is = true) (hC : is.map (fun i => ws[i]?) = wc.map some) (hst : st = As.reverse ++ .ref a :: rest) (hn : As.length = k) (hls : ls.size = nL) (hW : (rest.map fun v => v.category).sum ≤ 8) (hdg : decode cc pc = .ok (.invokevirtual idx, 3)) (hf : cells ≤ R.cells ∧ slots ≤ R.slots)
    (kk : post () → W p l e R s m args below meth c H locs cells slots Q (F0 m (pc + 3) ls rest)) : W p l e R s m args below meth c H locs cells slots Q (F0 m pc ls st) :=
  va_csv (W.runV ⟨hx, hb, hml, hown, hts⟩ hM (cwV k hts (gV hy hl) rfl hrc hrs ⟨rfl, hy.2.2.2.2⟩ hR) ⟨PR_blind, recv0 hE hP q0 he hc hq, PR_of (P_cut hP is hC) (hD.sub is hnd hC) hE⟩ rfl hn hls hst (lv_room hW) hdg hf) kk
/-- what stands behind a writer's call: the rest is unchanged, what the callee gives back is joined -/
def AFT (G : va_G) (A : Nat → Prop) (wr : va_W) (B : Heap → Prop) (wc : va_W) (z : Nat) (H1 : Heap) : Prop := B H1 ∧ (∀ w1 : va_W, va_P G classes w1 H1 → va_D (va_A wc z) w1 → va_P G classes (wr ++ w1) H1 ∧ va_D A (wr ++ w1)) ∧ va_P G classes wr H1 ∧ va_D A wr
theorem aft (hP : va_P G classes ws H) (hD : va_D A ws) (is ir : List Nat) (hC : is.map (fun i => ws[i]?) = wc.map some) (hR : ir.map (fun i => ws[i]?) = wr.map some) (hnr : va_nd ir = true) (hdis : ∀ i ∈ ir, i ∉ is) (hF : ∀ q, va_A wc H.size q → A q) {B : Heap → Prop} {H1 : Heap} (hB : B H1) (hk : ∀ q : Nat, q < H.size → ¬ va_A wc H.size q → H1[q]? = H[q]?) : AFT G A wr B wc H.size H1 := by
  refine ⟨hB, fun w1 h1 h2 => va_join hP hD is ir hC hR hnr hdis hk hF h1 h2, ?_⟩
  have := va_join hP hD is ir hC hR hnr hdis hk hF (w1 := []) P_nil D_nil
  rw [List.append_nil] at this
  exact this
/-- a writer is called: int, virtual -/
theorem wV {post : Int32 → Prop} {B : Heap → Prop} (hx : p.tables.exec = Jvm.exec) (hb : c.code = cc) (hml : c.maxLocals = nL) (hown : s.vm.findClass own = some m.cls) (hts : ∀ w ∈ BASE, w.before args s = true) (hE : EN G cy sk s) (hM : Met l y (wsO y b n r) rm (va_Pc (.ref a :: As) (PR G cy sk H.size wc)) (va_Qi (fun r (_ : Unit) => post r) (fun _ t => B t.heap) (va_A wc H.size)) mc ms (va_A wc H.size)) (hy : KV y b n r k) (hl : Cond.methodLink own idx y ∈ BASE)
    (hrc : rm.cells = mc) (hrs : rm.slots = ms) (hR : rm.frames + 1 ≤ R.frames ∧ 8 + (n + 11) + rm.locals ≤ R.locals) (hP : va_P G classes ws H) (hD : va_D A ws) (hS : va_S A H0 H locs) (hA : ∀ q, H0.size ≤ q → A q) (q0 : Nat) (he : ws[q0]? = some (a, .inr (ci, fs))) {q : vw_C} (hc : classes[ci]? = some q) (hq : q.1 = y.cls) (is ir : List Nat) (hnd : va_nd is = true) (hC : is.map (fun i => ws[i]?) = wc.map some) (hRr : ir.map (fun i => ws[i]?) = wr.map some) (hnr : va_nd ir = true) (hdis : ∀ i ∈ ir, i ∉ is) (hst : st = As.reverse ++ .ref a :: rest) (hn : As.length = k) (hls : ls.size = nL) (hW : (rest.map fun v => v.category).sum ≤ 8) (hdg : decode cc pc = .ok (.invokevirtual idx, 3)) (hf : cells + mc ≤ R.cells ∧ slots + ms ≤ R.slots)
    (kk : ∀ (r : Int32) (H1 : Heap) (locs1 : List Loc), post r → AFT G A wr B wc H.size H1 → va_S A H0 H1 locs1 → W p l e R s m args below meth c H1 locs1 (cells + mc) (slots + ms) Q (F0 m (pc + 3) ls (.int r :: rest))) : W p l e R s m args below meth c H locs cells slots Q (F0 m pc ls st) := by
  have hF := va_free (wc := wc) hD hS hA is hC
  refine va_calli (va_runV ⟨hx, hb, hml, hown, hts⟩ hM (cwV k hts (gV hy hl) rfl hrc hrs ⟨rfl, hy.2.2.2.2⟩ hR) ⟨PR_blind, recv0 hE hP q0 he hc hq, PR_of (P_cut hP is hC) (hD.sub is hnd hC) hE⟩ rfl hn hls hst (lv_room hW) hdg hf) hS (fun q _ h => hF q h) hF (fun r u t H1 locs1 ht hvm hp hB hz hk hS1 => ?_)
  subst ht
  exact kk r _ locs1 hp (aft hP hD is ir hC hRr hnr hdis hF hB hk) hS1
/-- a writer is called: void, virtual -/
theorem wVv {B : Heap → Prop} (hx : p.tables.exec = Jvm.exec) (hb : c.code = cc) (hml : c.maxLocals = nL) (hown : s.vm.findClass own = some m.cls) (hts : ∀ w ∈ BASE, w.before args s = true) (hE : EN G cy sk s) (hM : Met l y (wsO y b n r) rm (va_Pc (.ref a :: As) (PR G cy sk H.size wc)) (va_Qv (fun (_ : Unit) => True) (fun _ t => B t.heap) (va_A wc H.size)) mc ms (va_A wc H.size)) (hy : KV y b n r k) (hl : Cond.methodLink own idx y ∈ BASE)
    (hrc : rm.cells = mc) (hrs : rm.slots = ms) (hR : rm.frames + 1 ≤ R.frames ∧ 8 + (n + 11) + rm.locals ≤ R.locals) (hP : va_P G classes ws H) (hD : va_D A ws) (hS : va_S A H0 H locs) (hA : ∀ q, H0.size ≤ q → A q) (q0 : Nat) (he : ws[q0]? = some (a, .inr (ci, fs))) {q : vw_C} (hc : classes[ci]? = some q) (hq : q.1 = y.cls) (is ir : List Nat) (hnd : va_nd is = true) (hC : is.map (fun i => ws[i]?) = wc.map some) (hRr : ir.map (fun i => ws[i]?) = wr.map some) (hnr : va_nd ir = true) (hdis : ∀ i ∈ ir, i ∉ is) (hst : st = As.reverse ++ .ref a :: rest) (hn : As.length = k) (hls : ls.size = nL) (hW : (rest.map fun v => v.category).sum ≤ 8) (hdg : decode cc pc = .ok (.invokevirtual idx, 3)) (hf : cells + mc ≤ R.cells ∧ slots + ms ≤ R.slots)
    (kk : ∀ (H1 : Heap) (locs1 : List Loc), AFT G A wr B wc H.size H1 → va_S A H0 H1 locs1 → W p l e R s m args below meth c H1 locs1 (cells + mc) (slots + ms) Q (F0 m (pc + 3) ls rest)) : W p l e R s m args below meth c H locs cells slots Q (F0 m pc ls st) := by
  have hF := va_free (wc := wc) hD hS hA is hC
  refine va_callv (va_runV ⟨hx, hb, hml, hown, hts⟩ hM (cwV k hts (gV hy hl) rfl hrc hrs ⟨rfl, hy.2.2.2.2⟩ hR) ⟨PR_blind, recv0 hE hP q0 he hc hq, PR_of (P_cut hP is hC) (hD.sub is hnd hC) hE⟩ rfl hn hls hst (lv_room hW) hdg hf) hS (fun q _ h => hF q h) hF (fun u t H1 locs1 ht hvm hp hB hz hk hS1 => ?_)
  subst ht
  exact kk _ locs1 (aft hP hD is ir hC hRr hnr hdis hF hB hk) hS1
/-- a writer is called: void, static -/
theorem wSv {B : Heap → Prop} (hx : p.tables.exec = Jvm.exec) (hb : c.code = cc) (hml : c.maxLocals = nL) (hown : s.vm.findClass own = some m.cls) (hts : ∀ w ∈ BASE, w.before args s = true) (hE : EN G cy sk s) (hM : Met l y (wsO y b n r) rm (va_Pc As (PR G cy sk H.size wc)) (va_Qv (fun (_ : Unit) => True) (fun _ t => B t.heap) (va_A wc H.size)) mc ms (va_A wc H.size)) (hy : KS y b n r k) (hl : Cond.methodLink own idx y ∈ BASE)
    (hrc : rm.cells = mc) (hrs : rm.slots = ms) (hR : rm.frames + 1 ≤ R.frames ∧ 8 + (n + 11) + rm.locals ≤ R.locals) (hP : va_P G classes ws H) (hD : va_D A ws) (hS : va_S A H0 H locs) (hA : ∀ q, H0.size ≤ q → A q) (is ir : List Nat) (hnd : va_nd is = true) (hC : is.map (fun i => ws[i]?) = wc.map some) (hRr : ir.map (fun i => ws[i]?) = wr.map some) (hnr : va_nd ir = true) (hdis : ∀ i ∈ ir, i ∉ is) (hst : st = As.reverse ++ rest) (hn : As.length = k) (hls : ls.size = nL) (hW : (rest.map fun v => v.category).sum ≤ 8) (hdg : decode cc pc = .ok (.invokestatic idx, 3)) (hf : cells + mc ≤ R.cells ∧ slots + ms ≤ R.slots)
    (kk : ∀ (H1 : Heap) (locs1 : List Loc), AFT G A wr B wc H.size H1 → va_S A H0 H1 locs1 → W p l e R s m args below meth c H1 locs1 (cells + mc) (slots + ms) Q (F0 m (pc + 3) ls rest)) : W p l e R s m args below meth c H locs cells slots Q (F0 m pc ls st) := by
  have hF := va_free (wc := wc) hD hS hA is hC
  refine va_callv (va_runS ⟨hx, hb, hml, hown, hts⟩ hM (va_cwS k hts (gS hy hl) rfl hrc hrs hy.2.2.2 hR) ⟨PR_blind, PR_of (P_cut hP is hC) (hD.sub is hnd hC) hE⟩ rfl hn hls hst (lv_room hW) hdg hf) hS (fun q _ h => hF q h) hF (fun u t H1 locs1 ht hvm hp hB hz hk hS1 => ?_)
  subst ht
  exact kk _ locs1 (aft hP hD is ir hC hRr hnr hdis hF hB hk) hS1
/-- a constructor is called -/
theorem wI {B : Heap → Prop} (hx : p.tables.exec = Jvm.exec) (hb : c.code = cc) (hml : c.maxLocals = nL) (hown : s.vm.findClass own = some m.cls) (hts : ∀ w ∈ BASE, w.before args s = true) (hE : EN G cy sk s) (hM : Met l y (wsO y b n none) rm (va_Pc (.ref a :: As) (PR G cy sk H.size wc)) (va_Qv (fun (_ : Unit) => True) (fun _ t => B t.heap) (va_A wc H.size)) mc ms (va_A wc H.size)) (hy : KI y b n k) (hl : Cond.methodLink own idx y ∈ BASE)
    (hrc : rm.cells = mc) (hrs : rm.slots = ms) (hR : rm.frames + 1 ≤ R.frames ∧ 8 + (n + 11) + rm.locals ≤ R.locals) (hP : va_P G classes ws H) (hD : va_D A ws) (hS : va_S A H0 H locs) (hA : ∀ q, H0.size ≤ q → A q) (is ir : List Nat) (hnd : va_nd is = true) (hC : is.map (fun i => ws[i]?) = wc.map some) (hRr : ir.map (fun i => ws[i]?) = wr.map some) (hnr : va_nd ir = true) (hdis : ∀ i ∈ ir, i ∉ is) (hst : st = As.reverse ++ .ref a :: rest) (hn : As.length = k) (hls : ls.size = nL) (hW : (rest.map fun v => v.category).sum ≤ 8) (hdg : decode cc pc = .ok (.invokespecial idx, 3)) (hf : cells + mc ≤ R.cells ∧ slots + ms ≤ R.slots)
    (kk : ∀ (H1 : Heap) (locs1 : List Loc), AFT G A wr B wc H.size H1 → va_S A H0 H1 locs1 → W p l e R s m args below meth c H1 locs1 (cells + mc) (slots + ms) Q (F0 m (pc + 3) ls rest)) : W p l e R s m args below meth c H locs cells slots Q (F0 m pc ls st) := by
  have hF := va_free (wc := wc) hD hS hA is hC
  refine va_callv (va_runI ⟨hx, hb, hml, hown, hts⟩ hM (cwI k hts (b_in (wsO_in hy.2.2.2.1)) rfl hrc hrs (hts _ hy.2.2.1) (hts _ hl) (hts _ hy.1) hy.2.1 hy.2.2.2.2 hR) ⟨PR_blind, PR_of (P_cut hP is hC) (hD.sub is hnd hC) hE⟩ rfl hn hls hst (lv_room hW) hdg hf) hS (fun q _ h => hF q h) hF (fun u t H1 locs1 ht hvm hp hB hz hk hS1 => ?_)
  subst ht
  exact kk _ locs1 (aft hP hD is ir hC hRr hnr hdis hF hB hk) hS1
/-- a constructor of a nest mate's, private, is called -/
theorem wIN {B : Heap → Prop} (hx : p.tables.exec = Jvm.exec) (hb : c.code = cc) (hml : c.maxLocals = nL) (hown : s.vm.findClass own = some m.cls) (hts : ∀ w ∈ BASE, w.before args s = true) (hE : EN G cy sk s) (hM : Met l y (wsO y b n none) rm (va_Pc (.ref a :: As) (PR G cy sk H.size wc)) (va_Qv (fun (_ : Unit) => True) (fun _ t => B t.heap) (va_A wc H.size)) mc ms (va_A wc H.size)) (hy : KI y b n k) (hl : (own, idx, y, host) ∈ NMs)
    (hrc : rm.cells = mc) (hrs : rm.slots = ms) (hR : rm.frames + 1 ≤ R.frames ∧ 8 + (n + 11) + rm.locals ≤ R.locals) (hP : va_P G classes ws H) (hD : va_D A ws) (hS : va_S A H0 H locs) (hA : ∀ q, H0.size ≤ q → A q) (is ir : List Nat) (hnd : va_nd is = true) (hC : is.map (fun i => ws[i]?) = wc.map some) (hRr : ir.map (fun i => ws[i]?) = wr.map some) (hnr : va_nd ir = true) (hdis : ∀ i ∈ ir, i ∉ is) (hst : st = As.reverse ++ .ref a :: rest) (hn : As.length = k) (hls : ls.size = nL) (hW : (rest.map fun v => v.category).sum ≤ 8) (hdg : decode cc pc = .ok (.invokespecial idx, 3)) (hf : cells + mc ≤ R.cells ∧ slots + ms ≤ R.slots)
    (kk : ∀ (H1 : Heap) (locs1 : List Loc), AFT G A wr B wc H.size H1 → va_S A H0 H1 locs1 → W p l e R s m args below meth c H1 locs1 (cells + mc) (slots + ms) Q (F0 m (pc + 3) ls rest)) : W p l e R s m args below meth c H locs cells slots Q (F0 m pc ls st) := by
  have hF := va_free (wc := wc) hD hS hA is hC
  refine va_callv (va_runIN ⟨hx, hb, hml, hown, hts⟩ hM ⟨va_cnB k hts (b_in (wsO_in hy.2.2.2.1)) rfl hrc hrs (hE.2.2.1 _ hl) (hts _ hy.2.2.1) hy.2.2.2.2 hR, hy.2.1, hts _ hy.1⟩ ⟨PR_blind, PR_of (P_cut hP is hC) (hD.sub is hnd hC) hE⟩ rfl hn hls hst (lv_room hW) hdg hf) hS (fun q _ h => hF q h) hF (fun u t H1 locs1 ht hvm hp hB hz hk hS1 => ?_)
  subst ht
  exact kk _ locs1 (aft hP hD is ir hC hRr hnr hdis hF hB hk) hS1
end BASECALLS
section BASEARR
variable {p : Program} {l : Launch} {e : Env} {R : Room} {s : State} {m : MethodId} {args : Array Value} {below : List Frame} {meth : Method} {c : Code} {H H0 : Heap} {locs : List Loc} {cells slots : Nat} {Q : State → Prop}
variable {cc : ByteArray} {pc : Nat} {ls : Array Slot} {rest : List Value} {G : va_G} {cy : Nat → ClassId} {sk : Nat → Nat} {ws : va_W} {A : Nat → Prop} {own : String} {idx : Nat}
/-- a new int array -/
theorem nwI (hx : p.tables.exec = Jvm.exec) (hb : c.code = cc) (hts : ∀ w ∈ BASE, w.before args s = true) (hw : Cond.arrayClass .int ∈ BASE) (hE : EN G cy sk s) (hP : va_P G classes ws H) (hD : va_D A ws) (hS : va_S A H0 H locs) (hA : ∀ q, H0.size ≤ q → A q) {n : Int32} {N : Nat} (hn : ¬ n < 0) (hN : n.toNatClampNeg = N) (hbytes : N * 4 ≤ 536870912) (hcells : cells + 1 ≤ R.cells) (hslots : slots + N ≤ R.slots) (hdg : decode cc pc = .ok (.newarray .int, 2))
    (kk : ∀ (q : Nat) (H1 : Heap), va_P G classes (ws ++ [(q, .inl (cy 0, N, .inl (fun _ => 0)))]) H1 → va_D A (ws ++ [(q, .inl (cy 0, N, .inl (fun _ => 0)))]) → va_S A H0 H1 locs → W p l e R s m args below meth c H1 locs (cells + 1) (slots + N) Q (F0 m (pc + 2) ls (.ref q :: rest))) : W p l e R s m args below meth c H locs cells slots Q (F0 m pc ls (.int n :: rest)) := by
  refine va_newa (atype := .int) (ty := .int) (a0 := (N, .inl (fun _ => 0))) hx hb (hts _ hw) rfl hE.1 hP hD hS hA (fun _ => rfl) hn hN hbytes hcells hslots hdg (fun q cA H1 hK hP hD hS => ?_)
  have e1 := va_nm_int (hK.2 (TYS cy).length (cA, .int) (by simp)).2
  have e2 := va_nm_int (hE.1.2 0 (cy 0, .int) rfl).2
  have e3 : cA = cy 0 := Option.some.inj (e1.symm.trans e2)
  subst e3
  exact kk q H1 hP hD hS
theorem nwZ (hx : p.tables.exec = Jvm.exec) (hb : c.code = cc) (hts : ∀ w ∈ BASE, w.before args s = true) (hw : Cond.arrayClass .boolean ∈ BASE) (hE : EN G cy sk s) (hP : va_P G classes ws H) (hD : va_D A ws) (hS : va_S A H0 H locs) (hA : ∀ q, H0.size ≤ q → A q) {n : Int32} {N : Nat} (hn : ¬ n < 0) (hN : n.toNatClampNeg = N) (hbytes : N * 1 ≤ 536870912) (hcells : cells + 1 ≤ R.cells) (hslots : slots + N ≤ R.slots) (hdg : decode cc pc = .ok (.newarray .boolean, 2))
    (kk : ∀ (q : Nat) (H1 : Heap), va_P G classes (ws ++ [(q, .inl (cy 1, N, .inl (fun _ => 0)))]) H1 → va_D A (ws ++ [(q, .inl (cy 1, N, .inl (fun _ => 0)))]) → va_S A H0 H1 locs → W p l e R s m args below meth c H1 locs (cells + 1) (slots + N) Q (F0 m (pc + 2) ls (.ref q :: rest))) : W p l e R s m args below meth c H locs cells slots Q (F0 m pc ls (.int n :: rest)) := by
  refine va_newa (atype := .boolean) (ty := .boolean) (a0 := (N, .inl (fun _ => 0))) hx hb (hts _ hw) rfl hE.1 hP hD hS hA (fun _ => rfl) hn hN hbytes hcells hslots hdg (fun q cA H1 hK hP hD hS => ?_)
  have e1 := va_nm_boolean (hK.2 (TYS cy).length (cA, .boolean) (by simp)).2
  have e2 := va_nm_boolean (hE.1.2 1 (cy 1, .boolean) rfl).2
  have e3 : cA = cy 1 := Option.some.inj (e1.symm.trans e2)
  subst e3
  exact kk q H1 hP hD hS
theorem nwJ (hx : p.tables.exec = Jvm.exec) (hb : c.code = cc) (hts : ∀ w ∈ BASE, w.before args s = true) (hw : Cond.arrayClass .long ∈ BASE) (hE : EN G cy sk s) (hP : va_P G classes ws H) (hD : va_D A ws) (hS : va_S A H0 H locs) (hA : ∀ q, H0.size ≤ q → A q) {n : Int32} {N : Nat} (hn : ¬ n < 0) (hN : n.toNatClampNeg = N) (hbytes : N * 8 ≤ 536870912) (hcells : cells + 1 ≤ R.cells) (hslots : slots + N ≤ R.slots) (hdg : decode cc pc = .ok (.newarray .long, 2))
    (kk : ∀ (q : Nat) (H1 : Heap), va_P G classes (ws ++ [(q, .inl (cy 2, N, .inr (.inl (fun _ => 0))))]) H1 → va_D A (ws ++ [(q, .inl (cy 2, N, .inr (.inl (fun _ => 0))))]) → va_S A H0 H1 locs → W p l e R s m args below meth c H1 locs (cells + 1) (slots + N) Q (F0 m (pc + 2) ls (.ref q :: rest))) : W p l e R s m args below meth c H locs cells slots Q (F0 m pc ls (.int n :: rest)) := by
  refine va_newa (atype := .long) (ty := .long) (a0 := (N, .inr (.inl (fun _ => 0)))) hx hb (hts _ hw) rfl hE.1 hP hD hS hA (fun _ => rfl) hn hN hbytes hcells hslots hdg (fun q cA H1 hK hP hD hS => ?_)
  have e1 := va_nm_long (hK.2 (TYS cy).length (cA, .long) (by simp)).2
  have e2 := va_nm_long (hE.1.2 2 (cy 2, .long) rfl).2
  have e3 : cA = cy 2 := Option.some.inj (e1.symm.trans e2)
  subst e3
  exact kk q H1 hP hD hS
/-- a new array of references; t0 is the place of its type in TYS -/
theorem nwQ (hx : p.tables.exec = Jvm.exec) (hb : c.code = cc) (hown : s.vm.findClass own = some m.cls) (hts : ∀ w ∈ BASE, w.before args s = true) {C : String} (hw : Cond.classLink own idx C ∈ BASE) (hC : C ∈ AOs) (hE : EN G cy sk s) (hP : va_P G classes ws H) (hD : va_D A ws) (hS : va_S A H0 H locs) (hA : ∀ q, H0.size ≤ q → A q) {t0 : Nat} {cA0 : ClassId} (ht : (TYS cy)[t0]? = some (cA0, .object C)) {n : Int32} {N : Nat} (hn : ¬ n < 0) (hN : n.toNatClampNeg = N) (hbytes : N * 4 ≤ 536870912) (hcells : cells + 1 ≤ R.cells) (hslots : slots + N ≤ R.slots) (hdg : decode cc pc = .ok (.anewarray idx, 3))
    (kk : ∀ (q : Nat) (H1 : Heap), va_P G classes (ws ++ [(q, .inl (cA0, N, .inr (.inr (.inr (.inr (fun _ => none))))))]) H1 → va_D A (ws ++ [(q, .inl (cA0, N, .inr (.inr (.inr (.inr (fun _ => none))))))]) → va_S A H0 H1 locs → W p l e R s m args below meth c H1 locs (cells + 1) (slots + N) Q (F0 m (pc + 3) ls (.ref q :: rest))) : W p l e R s m args below meth c H locs cells slots Q (F0 m pc ls (.int n :: rest)) := by
  refine va_newq hx hb hown (hts _ hw) (hE.2.2.2.2 C hC) hE.1 hP hD hS hA hn hN hbytes hcells hslots hdg (fun q cA H1 hK hP hD hS => ?_)
  obtain ⟨-, -, -, -, -, e1⟩ := (hK.2 (TYS cy).length (cA, .object C) (by simp)).2
  obtain ⟨-, -, -, -, -, e2⟩ := (hE.1.2 t0 _ ht).2
  have e3 : cA = cA0 := Option.some.inj (e1.symm.trans e2)
  subst e3
  exact kk q H1 hP hD hS
end BASEARR
def inR (v lo hi : Int32) : Prop := lo ≤ v ∧ v ≤ hi
theorem vinL {i : Int32} {n : Nat} (h : (decide (i < 0) || decide (n ≤ i.toNatClampNeg)) = false) : vp_in i n := by
  unfold vp_in
  rcases Bool.or_eq_false_iff.mp h with ⟨h1, h2⟩
  exact fun q => q.elim (of_decide_eq_false h1) (of_decide_eq_false h2)
theorem vinB {i lo hi : Int32} {n : Nat} (h : inR i lo hi) (hl : 0 ≤ lo.toInt) (hh : hi.toInt < n) : vp_in i n := vp_in_iff.mpr ⟨Int.le_trans hl (Int32.le_iff_toInt_le.mp h.1), Int.lt_of_le_of_lt (Int32.le_iff_toInt_le.mp h.2) hh⟩
theorem vinB_nat {i lo hi : Int32} {n : Nat} (h : inR i lo hi) (hl : 0 ≤ lo.toInt) (hh : hi.toInt < n) : i.toNatClampNeg < n := by
  have := vinB h hl hh
  exact Nat.not_le.mp fun q => this (Or.inr q)
theorem bmems (ws : List Cond) (ps : List Nat) (hp : ws = ps.filterMap (fun i => lw_tbl[i]?)) (h : ws.all goodWord = true) : ∀ w ∈ ws, w ∈ BASE := by
  intro w hw
  have h1 := List.all_eq_true.mp h w hw
  rw [hp] at hw
  obtain ⟨i, -, hi⟩ := List.mem_filterMap.mp hw
  exact bmem i hi h1
section MISCV
variable {p : Program} {l : Launch} {e : Env} {R : Room} {s : State} {m : MethodId} {args : Array Value} {below : List Frame} {meth : Method} {c : Code} {H : Heap} {locs : List Loc} {cells slots : Nat} {Q : State → Prop}
theorem tpv {pc : Nat} {ls : Array Slot} {rest : List Value} {x v : Value} (h : x = v) (kk : W p l e R s m args below meth c H locs cells slots Q (F0 m pc ls (v :: rest))) : W p l e R s m args below meth c H locs cells slots Q (F0 m pc ls (x :: rest)) := h ▸ kk
end MISCV
theorem in4 {v : Int32} (h : inR v 0 3) : v = 0 ∨ v = 1 ∨ v = 2 ∨ v = 3 := by
  have h1 := Int32.le_iff_toInt_le.mp h.1
  have h2 := Int32.le_iff_toInt_le.mp h.2
  have e : v.toInt = 0 ∨ v.toInt = 1 ∨ v.toInt = 2 ∨ v.toInt = 3 := by
    have a : (0 : Int32).toInt = 0 := rfl
    have b : (3 : Int32).toInt = 3 := rfl
    omega
  rcases e with e | e | e | e
  · exact Or.inl (Int32.toInt_inj.mp e)
  · exact Or.inr (Or.inl (Int32.toInt_inj.mp e))
  · exact Or.inr (Or.inr (Or.inl (Int32.toInt_inj.mp e)))
  · exact Or.inr (Or.inr (Or.inr (Int32.toInt_inj.mp e)))
theorem upd_all {f : Nat → Int32} {i : Nat} {v : Int32} (hi : i < 2 ^ 31) (h : ∀ j, j < i → f j = v) : ∀ j, j < i + 1 → upd f (nI i).toNatClampNeg v j = v := by
  intro j hj
  rw [nI_clamp hi]
  unfold upd
  by_cases e : j = i
  · rw [if_pos e]
  · rw [if_neg e]; exact h j (by omega)
theorem mx0 {n : Nat} (h : n < 2 ^ 31) : (if (0 : Int32) < nI n then nI n else 0) = nI n := by
  rcases Nat.eq_zero_or_pos n with e | e
  · subst e; rfl
  · rw [if_pos (show (0 : Int32) < nI n from nI_lt (a := 0) (b := n) e h)]
theorem mn0 {n : Nat} (h : n < 2 ^ 31) : (if nI n < (0 : Int32) then nI n else 0) = 0 := by
  rw [if_neg (nI_pos h)]
end
section
/-! what stands in a code, byte by byte, out of pieces of it; a row an opcode -/
theorem rdb {t : ByteArray} {p m i k : Nat} {L : List UInt8} (h : (t.data.toList.drop p).take m = L) (hi : (L[i]?).map UInt8.toNat = some k) : (Reader.u1 : Decoder Nat) t (p + i) = .ok (k, p + i + 1) := by
  have h1 : ∃ x : UInt8, t.data.toList[p + i]? = some x ∧ x.toNat = k := by
    rw [← h, List.getElem?_take] at hi
    split at hi
    · rw [List.getElem?_drop] at hi
      exact Option.map_eq_some_iff.mp hi
    · cases hi
  obtain ⟨x, h2, h3⟩ := h1
  obtain ⟨hl, he⟩ := List.getElem?_eq_some_iff.mp h2
  have hs : p + i < t.size := hl
  have h4 : t[p + i].toNat = k := by rw [← h3, ← he]; rfl
  show (dite (p + i < t.size) _ _ : Decoder Nat) t (p + i) = _
  rw [dif_pos hs]
  show Except.ok (t[p + i].toNat, p + i + 1) = _
  rw [h4]
theorem dnx {t : ByteArray} {pc n k : Nat} {op : Instr} (e : (Decoder.instr pc) t pc = .ok (op, n)) (hk : n - pc = k) : decode t pc = .ok (op, k) := by
  show Except.bind ((Decoder.instr pc) t pc) _ = _
  rw [e]
  show Except.ok (op, n - pc) = _
  rw [hk]
theorem do_188_10 {t : ByteArray} {pc : Nat} (h0 : (Reader.u1 : Decoder Nat) t pc = .ok (188, pc + 1)) (h1 : (Reader.u1 : Decoder Nat) t (pc + 1) = .ok (10, pc + 2)) : decode t pc = .ok (.newarray .int, 2) := by
  refine dnx (n := pc + 2) ?_ (by omega)
  show Except.bind ((Reader.u1 : Decoder Nat) t pc) _ = _
  rw [h0]
  show Except.bind ((Reader.u1 : Decoder Nat) t (pc + 1)) _ = _
  rw [h1]
  rfl
theorem do_188_11 {t : ByteArray} {pc : Nat} (h0 : (Reader.u1 : Decoder Nat) t pc = .ok (188, pc + 1)) (h1 : (Reader.u1 : Decoder Nat) t (pc + 1) = .ok (11, pc + 2)) : decode t pc = .ok (.newarray .long, 2) := by
  refine dnx (n := pc + 2) ?_ (by omega)
  show Except.bind ((Reader.u1 : Decoder Nat) t pc) _ = _
  rw [h0]
  show Except.bind ((Reader.u1 : Decoder Nat) t (pc + 1)) _ = _
  rw [h1]
  rfl
theorem do_188_4 {t : ByteArray} {pc : Nat} (h0 : (Reader.u1 : Decoder Nat) t pc = .ok (188, pc + 1)) (h1 : (Reader.u1 : Decoder Nat) t (pc + 1) = .ok (4, pc + 2)) : decode t pc = .ok (.newarray .boolean, 2) := by
  refine dnx (n := pc + 2) ?_ (by omega)
  show Except.bind ((Reader.u1 : Decoder Nat) t pc) _ = _
  rw [h0]
  show Except.bind ((Reader.u1 : Decoder Nat) t (pc + 1)) _ = _
  rw [h1]
  rfl
theorem do_10 {t : ByteArray} {pc : Nat} (h0 : (Reader.u1 : Decoder Nat) t pc = .ok (10, pc + 1)) : decode t pc = .ok (.lconst 1, 1) := by
  refine dnx (n := pc + 1) ?_ (by omega)
  show Except.bind ((Reader.u1 : Decoder Nat) t pc) _ = _
  rw [h0]
  rfl
theorem do_100 {t : ByteArray} {pc : Nat} (h0 : (Reader.u1 : Decoder Nat) t pc = .ok (100, pc + 1)) : decode t pc = .ok (.isub, 1) := by
  refine dnx (n := pc + 1) ?_ (by omega)
  show Except.bind ((Reader.u1 : Decoder Nat) t pc) _ = _
  rw [h0]
  rfl
theorem do_104 {t : ByteArray} {pc : Nat} (h0 : (Reader.u1 : Decoder Nat) t pc = .ok (104, pc + 1)) : decode t pc = .ok (.imul, 1) := by
  refine dnx (n := pc + 1) ?_ (by omega)
  show Except.bind ((Reader.u1 : Decoder Nat) t pc) _ = _
  rw [h0]
  rfl
theorem do_108 {t : ByteArray} {pc : Nat} (h0 : (Reader.u1 : Decoder Nat) t pc = .ok (108, pc + 1)) : decode t pc = .ok (.idiv, 1) := by
  refine dnx (n := pc + 1) ?_ (by omega)
  show Except.bind ((Reader.u1 : Decoder Nat) t pc) _ = _
  rw [h0]
  rfl
theorem do_112 {t : ByteArray} {pc : Nat} (h0 : (Reader.u1 : Decoder Nat) t pc = .ok (112, pc + 1)) : decode t pc = .ok (.irem, 1) := by
  refine dnx (n := pc + 1) ?_ (by omega)
  show Except.bind ((Reader.u1 : Decoder Nat) t pc) _ = _
  rw [h0]
  rfl
theorem do_116 {t : ByteArray} {pc : Nat} (h0 : (Reader.u1 : Decoder Nat) t pc = .ok (116, pc + 1)) : decode t pc = .ok (.ineg, 1) := by
  refine dnx (n := pc + 1) ?_ (by omega)
  show Except.bind ((Reader.u1 : Decoder Nat) t pc) _ = _
  rw [h0]
  rfl
theorem do_120 {t : ByteArray} {pc : Nat} (h0 : (Reader.u1 : Decoder Nat) t pc = .ok (120, pc + 1)) : decode t pc = .ok (.ishl, 1) := by
  refine dnx (n := pc + 1) ?_ (by omega)
  show Except.bind ((Reader.u1 : Decoder Nat) t pc) _ = _
  rw [h0]
  rfl
theorem do_121 {t : ByteArray} {pc : Nat} (h0 : (Reader.u1 : Decoder Nat) t pc = .ok (121, pc + 1)) : decode t pc = .ok (.lshl, 1) := by
  refine dnx (n := pc + 1) ?_ (by omega)
  show Except.bind ((Reader.u1 : Decoder Nat) t pc) _ = _
  rw [h0]
  rfl
theorem do_122 {t : ByteArray} {pc : Nat} (h0 : (Reader.u1 : Decoder Nat) t pc = .ok (122, pc + 1)) : decode t pc = .ok (.ishr, 1) := by
  refine dnx (n := pc + 1) ?_ (by omega)
  show Except.bind ((Reader.u1 : Decoder Nat) t pc) _ = _
  rw [h0]
  rfl
theorem do_123 {t : ByteArray} {pc : Nat} (h0 : (Reader.u1 : Decoder Nat) t pc = .ok (123, pc + 1)) : decode t pc = .ok (.lshr, 1) := by
  refine dnx (n := pc + 1) ?_ (by omega)
  show Except.bind ((Reader.u1 : Decoder Nat) t pc) _ = _
  rw [h0]
  rfl
theorem do_125 {t : ByteArray} {pc : Nat} (h0 : (Reader.u1 : Decoder Nat) t pc = .ok (125, pc + 1)) : decode t pc = .ok (.lushr, 1) := by
  refine dnx (n := pc + 1) ?_ (by omega)
  show Except.bind ((Reader.u1 : Decoder Nat) t pc) _ = _
  rw [h0]
  rfl
theorem do_126 {t : ByteArray} {pc : Nat} (h0 : (Reader.u1 : Decoder Nat) t pc = .ok (126, pc + 1)) : decode t pc = .ok (.iand, 1) := by
  refine dnx (n := pc + 1) ?_ (by omega)
  show Except.bind ((Reader.u1 : Decoder Nat) t pc) _ = _
  rw [h0]
  rfl
theorem do_127 {t : ByteArray} {pc : Nat} (h0 : (Reader.u1 : Decoder Nat) t pc = .ok (127, pc + 1)) : decode t pc = .ok (.land, 1) := by
  refine dnx (n := pc + 1) ?_ (by omega)
  show Except.bind ((Reader.u1 : Decoder Nat) t pc) _ = _
  rw [h0]
  rfl
theorem do_128 {t : ByteArray} {pc : Nat} (h0 : (Reader.u1 : Decoder Nat) t pc = .ok (128, pc + 1)) : decode t pc = .ok (.ior, 1) := by
  refine dnx (n := pc + 1) ?_ (by omega)
  show Except.bind ((Reader.u1 : Decoder Nat) t pc) _ = _
  rw [h0]
  rfl
theorem do_129 {t : ByteArray} {pc : Nat} (h0 : (Reader.u1 : Decoder Nat) t pc = .ok (129, pc + 1)) : decode t pc = .ok (.lor, 1) := by
  refine dnx (n := pc + 1) ?_ (by omega)
  show Except.bind ((Reader.u1 : Decoder Nat) t pc) _ = _
  rw [h0]
  rfl
theorem do_130 {t : ByteArray} {pc : Nat} (h0 : (Reader.u1 : Decoder Nat) t pc = .ok (130, pc + 1)) : decode t pc = .ok (.ixor, 1) := by
  refine dnx (n := pc + 1) ?_ (by omega)
  show Except.bind ((Reader.u1 : Decoder Nat) t pc) _ = _
  rw [h0]
  rfl
theorem do_132 {t : ByteArray} {pc k1 k2 : Nat} {v : Int} (h0 : (Reader.u1 : Decoder Nat) t pc = .ok (132, pc + 1)) (h1 : (Reader.u1 : Decoder Nat) t (pc + 1) = .ok (k1, pc + 2)) (h2 : (Reader.u1 : Decoder Nat) t (pc + 2) = .ok (k2, pc + 3)) (hv : Reader.signed 8 k2 = v) : decode t pc = .ok (.iinc k1 v, 3) := by
  subst hv
  refine dnx (n := pc + 3) ?_ (by omega)
  show Except.bind ((Reader.u1 : Decoder Nat) t pc) _ = _
  rw [h0]
  show Except.bind ((Reader.u1 : Decoder Nat) t (pc + 1)) _ = _
  rw [h1]
  show Except.bind (Except.map _ ((Reader.u1 : Decoder Nat) t (pc + 2))) _ = _
  rw [h2]
  rfl
theorem do_133 {t : ByteArray} {pc : Nat} (h0 : (Reader.u1 : Decoder Nat) t pc = .ok (133, pc + 1)) : decode t pc = .ok (.i2l, 1) := by
  refine dnx (n := pc + 1) ?_ (by omega)
  show Except.bind ((Reader.u1 : Decoder Nat) t pc) _ = _
  rw [h0]
  rfl
theorem do_136 {t : ByteArray} {pc : Nat} (h0 : (Reader.u1 : Decoder Nat) t pc = .ok (136, pc + 1)) : decode t pc = .ok (.l2i, 1) := by
  refine dnx (n := pc + 1) ?_ (by omega)
  show Except.bind ((Reader.u1 : Decoder Nat) t pc) _ = _
  rw [h0]
  rfl
theorem do_145 {t : ByteArray} {pc : Nat} (h0 : (Reader.u1 : Decoder Nat) t pc = .ok (145, pc + 1)) : decode t pc = .ok (.i2b, 1) := by
  refine dnx (n := pc + 1) ?_ (by omega)
  show Except.bind ((Reader.u1 : Decoder Nat) t pc) _ = _
  rw [h0]
  rfl
theorem do_146 {t : ByteArray} {pc : Nat} (h0 : (Reader.u1 : Decoder Nat) t pc = .ok (146, pc + 1)) : decode t pc = .ok (.i2c, 1) := by
  refine dnx (n := pc + 1) ?_ (by omega)
  show Except.bind ((Reader.u1 : Decoder Nat) t pc) _ = _
  rw [h0]
  rfl
theorem do_147 {t : ByteArray} {pc : Nat} (h0 : (Reader.u1 : Decoder Nat) t pc = .ok (147, pc + 1)) : decode t pc = .ok (.i2s, 1) := by
  refine dnx (n := pc + 1) ?_ (by omega)
  show Except.bind ((Reader.u1 : Decoder Nat) t pc) _ = _
  rw [h0]
  rfl
theorem do_148 {t : ByteArray} {pc : Nat} (h0 : (Reader.u1 : Decoder Nat) t pc = .ok (148, pc + 1)) : decode t pc = .ok (.lcmp, 1) := by
  refine dnx (n := pc + 1) ?_ (by omega)
  show Except.bind ((Reader.u1 : Decoder Nat) t pc) _ = _
  rw [h0]
  rfl
theorem do_153 {t : ByteArray} {pc k1 k2 : Nat} {v : Int} (h0 : (Reader.u1 : Decoder Nat) t pc = .ok (153, pc + 1)) (h1 : (Reader.u1 : Decoder Nat) t (pc + 1) = .ok (k1, pc + 2)) (h2 : (Reader.u1 : Decoder Nat) t (pc + 2) = .ok (k2, pc + 3)) (hv : Reader.signed 16 (k1 * 256 + k2) = v) : decode t pc = .ok (.ifCond .eq v, 3) := by
  subst hv
  refine dnx (n := pc + 3) ?_ (by omega)
  show Except.bind ((Reader.u1 : Decoder Nat) t pc) _ = _
  rw [h0]
  show Except.bind (Except.map _ (Except.bind ((Reader.u1 : Decoder Nat) t (pc + 1)) _)) _ = _
  rw [h1]
  show Except.bind (Except.map _ (Except.bind ((Reader.u1 : Decoder Nat) t (pc + 2)) _)) _ = _
  rw [h2]
  rfl
theorem do_154 {t : ByteArray} {pc k1 k2 : Nat} {v : Int} (h0 : (Reader.u1 : Decoder Nat) t pc = .ok (154, pc + 1)) (h1 : (Reader.u1 : Decoder Nat) t (pc + 1) = .ok (k1, pc + 2)) (h2 : (Reader.u1 : Decoder Nat) t (pc + 2) = .ok (k2, pc + 3)) (hv : Reader.signed 16 (k1 * 256 + k2) = v) : decode t pc = .ok (.ifCond .ne v, 3) := by
  subst hv
  refine dnx (n := pc + 3) ?_ (by omega)
  show Except.bind ((Reader.u1 : Decoder Nat) t pc) _ = _
  rw [h0]
  show Except.bind (Except.map _ (Except.bind ((Reader.u1 : Decoder Nat) t (pc + 1)) _)) _ = _
  rw [h1]
  show Except.bind (Except.map _ (Except.bind ((Reader.u1 : Decoder Nat) t (pc + 2)) _)) _ = _
  rw [h2]
  rfl
theorem do_155 {t : ByteArray} {pc k1 k2 : Nat} {v : Int} (h0 : (Reader.u1 : Decoder Nat) t pc = .ok (155, pc + 1)) (h1 : (Reader.u1 : Decoder Nat) t (pc + 1) = .ok (k1, pc + 2)) (h2 : (Reader.u1 : Decoder Nat) t (pc + 2) = .ok (k2, pc + 3)) (hv : Reader.signed 16 (k1 * 256 + k2) = v) : decode t pc = .ok (.ifCond .lt v, 3) := by
  subst hv
  refine dnx (n := pc + 3) ?_ (by omega)
  show Except.bind ((Reader.u1 : Decoder Nat) t pc) _ = _
  rw [h0]
  show Except.bind (Except.map _ (Except.bind ((Reader.u1 : Decoder Nat) t (pc + 1)) _)) _ = _
  rw [h1]
  show Except.bind (Except.map _ (Except.bind ((Reader.u1 : Decoder Nat) t (pc + 2)) _)) _ = _
  rw [h2]
  rfl
theorem do_156 {t : ByteArray} {pc k1 k2 : Nat} {v : Int} (h0 : (Reader.u1 : Decoder Nat) t pc = .ok (156, pc + 1)) (h1 : (Reader.u1 : Decoder Nat) t (pc + 1) = .ok (k1, pc + 2)) (h2 : (Reader.u1 : Decoder Nat) t (pc + 2) = .ok (k2, pc + 3)) (hv : Reader.signed 16 (k1 * 256 + k2) = v) : decode t pc = .ok (.ifCond .ge v, 3) := by
  subst hv
  refine dnx (n := pc + 3) ?_ (by omega)
  show Except.bind ((Reader.u1 : Decoder Nat) t pc) _ = _
  rw [h0]
  show Except.bind (Except.map _ (Except.bind ((Reader.u1 : Decoder Nat) t (pc + 1)) _)) _ = _
  rw [h1]
  show Except.bind (Except.map _ (Except.bind ((Reader.u1 : Decoder Nat) t (pc + 2)) _)) _ = _
  rw [h2]
  rfl
theorem do_157 {t : ByteArray} {pc k1 k2 : Nat} {v : Int} (h0 : (Reader.u1 : Decoder Nat) t pc = .ok (157, pc + 1)) (h1 : (Reader.u1 : Decoder Nat) t (pc + 1) = .ok (k1, pc + 2)) (h2 : (Reader.u1 : Decoder Nat) t (pc + 2) = .ok (k2, pc + 3)) (hv : Reader.signed 16 (k1 * 256 + k2) = v) : decode t pc = .ok (.ifCond .gt v, 3) := by
  subst hv
  refine dnx (n := pc + 3) ?_ (by omega)
  show Except.bind ((Reader.u1 : Decoder Nat) t pc) _ = _
  rw [h0]
  show Except.bind (Except.map _ (Except.bind ((Reader.u1 : Decoder Nat) t (pc + 1)) _)) _ = _
  rw [h1]
  show Except.bind (Except.map _ (Except.bind ((Reader.u1 : Decoder Nat) t (pc + 2)) _)) _ = _
  rw [h2]
  rfl
theorem do_158 {t : ByteArray} {pc k1 k2 : Nat} {v : Int} (h0 : (Reader.u1 : Decoder Nat) t pc = .ok (158, pc + 1)) (h1 : (Reader.u1 : Decoder Nat) t (pc + 1) = .ok (k1, pc + 2)) (h2 : (Reader.u1 : Decoder Nat) t (pc + 2) = .ok (k2, pc + 3)) (hv : Reader.signed 16 (k1 * 256 + k2) = v) : decode t pc = .ok (.ifCond .le v, 3) := by
  subst hv
  refine dnx (n := pc + 3) ?_ (by omega)
  show Except.bind ((Reader.u1 : Decoder Nat) t pc) _ = _
  rw [h0]
  show Except.bind (Except.map _ (Except.bind ((Reader.u1 : Decoder Nat) t (pc + 1)) _)) _ = _
  rw [h1]
  show Except.bind (Except.map _ (Except.bind ((Reader.u1 : Decoder Nat) t (pc + 2)) _)) _ = _
  rw [h2]
  rfl
theorem do_159 {t : ByteArray} {pc k1 k2 : Nat} {v : Int} (h0 : (Reader.u1 : Decoder Nat) t pc = .ok (159, pc + 1)) (h1 : (Reader.u1 : Decoder Nat) t (pc + 1) = .ok (k1, pc + 2)) (h2 : (Reader.u1 : Decoder Nat) t (pc + 2) = .ok (k2, pc + 3)) (hv : Reader.signed 16 (k1 * 256 + k2) = v) : decode t pc = .ok (.if_icmp .eq v, 3) := by
  subst hv
  refine dnx (n := pc + 3) ?_ (by omega)
  show Except.bind ((Reader.u1 : Decoder Nat) t pc) _ = _
  rw [h0]
  show Except.bind (Except.map _ (Except.bind ((Reader.u1 : Decoder Nat) t (pc + 1)) _)) _ = _
  rw [h1]
  show Except.bind (Except.map _ (Except.bind ((Reader.u1 : Decoder Nat) t (pc + 2)) _)) _ = _
  rw [h2]
  rfl
theorem do_16 {t : ByteArray} {pc k1 : Nat} {v : Int} (h0 : (Reader.u1 : Decoder Nat) t pc = .ok (16, pc + 1)) (h1 : (Reader.u1 : Decoder Nat) t (pc + 1) = .ok (k1, pc + 2)) (hv : Reader.signed 8 k1 = v) : decode t pc = .ok (.bipush v, 2) := by
  subst hv
  refine dnx (n := pc + 2) ?_ (by omega)
  show Except.bind ((Reader.u1 : Decoder Nat) t pc) _ = _
  rw [h0]
  show Except.bind (Except.map _ ((Reader.u1 : Decoder Nat) t (pc + 1))) _ = _
  rw [h1]
  rfl
theorem do_160 {t : ByteArray} {pc k1 k2 : Nat} {v : Int} (h0 : (Reader.u1 : Decoder Nat) t pc = .ok (160, pc + 1)) (h1 : (Reader.u1 : Decoder Nat) t (pc + 1) = .ok (k1, pc + 2)) (h2 : (Reader.u1 : Decoder Nat) t (pc + 2) = .ok (k2, pc + 3)) (hv : Reader.signed 16 (k1 * 256 + k2) = v) : decode t pc = .ok (.if_icmp .ne v, 3) := by
  subst hv
  refine dnx (n := pc + 3) ?_ (by omega)
  show Except.bind ((Reader.u1 : Decoder Nat) t pc) _ = _
  rw [h0]
  show Except.bind (Except.map _ (Except.bind ((Reader.u1 : Decoder Nat) t (pc + 1)) _)) _ = _
  rw [h1]
  show Except.bind (Except.map _ (Except.bind ((Reader.u1 : Decoder Nat) t (pc + 2)) _)) _ = _
  rw [h2]
  rfl
theorem do_161 {t : ByteArray} {pc k1 k2 : Nat} {v : Int} (h0 : (Reader.u1 : Decoder Nat) t pc = .ok (161, pc + 1)) (h1 : (Reader.u1 : Decoder Nat) t (pc + 1) = .ok (k1, pc + 2)) (h2 : (Reader.u1 : Decoder Nat) t (pc + 2) = .ok (k2, pc + 3)) (hv : Reader.signed 16 (k1 * 256 + k2) = v) : decode t pc = .ok (.if_icmp .lt v, 3) := by
  subst hv
  refine dnx (n := pc + 3) ?_ (by omega)
  show Except.bind ((Reader.u1 : Decoder Nat) t pc) _ = _
  rw [h0]
  show Except.bind (Except.map _ (Except.bind ((Reader.u1 : Decoder Nat) t (pc + 1)) _)) _ = _
  rw [h1]
  show Except.bind (Except.map _ (Except.bind ((Reader.u1 : Decoder Nat) t (pc + 2)) _)) _ = _
  rw [h2]
  rfl
theorem do_162 {t : ByteArray} {pc k1 k2 : Nat} {v : Int} (h0 : (Reader.u1 : Decoder Nat) t pc = .ok (162, pc + 1)) (h1 : (Reader.u1 : Decoder Nat) t (pc + 1) = .ok (k1, pc + 2)) (h2 : (Reader.u1 : Decoder Nat) t (pc + 2) = .ok (k2, pc + 3)) (hv : Reader.signed 16 (k1 * 256 + k2) = v) : decode t pc = .ok (.if_icmp .ge v, 3) := by
  subst hv
  refine dnx (n := pc + 3) ?_ (by omega)
  show Except.bind ((Reader.u1 : Decoder Nat) t pc) _ = _
  rw [h0]
  show Except.bind (Except.map _ (Except.bind ((Reader.u1 : Decoder Nat) t (pc + 1)) _)) _ = _
  rw [h1]
  show Except.bind (Except.map _ (Except.bind ((Reader.u1 : Decoder Nat) t (pc + 2)) _)) _ = _
  rw [h2]
  rfl
theorem do_163 {t : ByteArray} {pc k1 k2 : Nat} {v : Int} (h0 : (Reader.u1 : Decoder Nat) t pc = .ok (163, pc + 1)) (h1 : (Reader.u1 : Decoder Nat) t (pc + 1) = .ok (k1, pc + 2)) (h2 : (Reader.u1 : Decoder Nat) t (pc + 2) = .ok (k2, pc + 3)) (hv : Reader.signed 16 (k1 * 256 + k2) = v) : decode t pc = .ok (.if_icmp .gt v, 3) := by
  subst hv
  refine dnx (n := pc + 3) ?_ (by omega)
  show Except.bind ((Reader.u1 : Decoder Nat) t pc) _ = _
  rw [h0]
  show Except.bind (Except.map _ (Except.bind ((Reader.u1 : Decoder Nat) t (pc + 1)) _)) _ = _
  rw [h1]
  show Except.bind (Except.map _ (Except.bind ((Reader.u1 : Decoder Nat) t (pc + 2)) _)) _ = _
  rw [h2]
  rfl
theorem do_164 {t : ByteArray} {pc k1 k2 : Nat} {v : Int} (h0 : (Reader.u1 : Decoder Nat) t pc = .ok (164, pc + 1)) (h1 : (Reader.u1 : Decoder Nat) t (pc + 1) = .ok (k1, pc + 2)) (h2 : (Reader.u1 : Decoder Nat) t (pc + 2) = .ok (k2, pc + 3)) (hv : Reader.signed 16 (k1 * 256 + k2) = v) : decode t pc = .ok (.if_icmp .le v, 3) := by
  subst hv
  refine dnx (n := pc + 3) ?_ (by omega)
  show Except.bind ((Reader.u1 : Decoder Nat) t pc) _ = _
  rw [h0]
  show Except.bind (Except.map _ (Except.bind ((Reader.u1 : Decoder Nat) t (pc + 1)) _)) _ = _
  rw [h1]
  show Except.bind (Except.map _ (Except.bind ((Reader.u1 : Decoder Nat) t (pc + 2)) _)) _ = _
  rw [h2]
  rfl
theorem do_167 {t : ByteArray} {pc k1 k2 : Nat} {v : Int} (h0 : (Reader.u1 : Decoder Nat) t pc = .ok (167, pc + 1)) (h1 : (Reader.u1 : Decoder Nat) t (pc + 1) = .ok (k1, pc + 2)) (h2 : (Reader.u1 : Decoder Nat) t (pc + 2) = .ok (k2, pc + 3)) (hv : Reader.signed 16 (k1 * 256 + k2) = v) : decode t pc = .ok (.goto v, 3) := by
  subst hv
  refine dnx (n := pc + 3) ?_ (by omega)
  show Except.bind ((Reader.u1 : Decoder Nat) t pc) _ = _
  rw [h0]
  show Except.bind (Except.map _ (Except.bind ((Reader.u1 : Decoder Nat) t (pc + 1)) _)) _ = _
  rw [h1]
  show Except.bind (Except.map _ (Except.bind ((Reader.u1 : Decoder Nat) t (pc + 2)) _)) _ = _
  rw [h2]
  rfl
theorem do_17 {t : ByteArray} {pc k1 k2 : Nat} {v : Int} (h0 : (Reader.u1 : Decoder Nat) t pc = .ok (17, pc + 1)) (h1 : (Reader.u1 : Decoder Nat) t (pc + 1) = .ok (k1, pc + 2)) (h2 : (Reader.u1 : Decoder Nat) t (pc + 2) = .ok (k2, pc + 3)) (hv : Reader.signed 16 (k1 * 256 + k2) = v) : decode t pc = .ok (.sipush v, 3) := by
  subst hv
  refine dnx (n := pc + 3) ?_ (by omega)
  show Except.bind ((Reader.u1 : Decoder Nat) t pc) _ = _
  rw [h0]
  show Except.bind (Except.map _ (Except.bind ((Reader.u1 : Decoder Nat) t (pc + 1)) _)) _ = _
  rw [h1]
  show Except.bind (Except.map _ (Except.bind ((Reader.u1 : Decoder Nat) t (pc + 2)) _)) _ = _
  rw [h2]
  rfl
theorem do_172 {t : ByteArray} {pc : Nat} (h0 : (Reader.u1 : Decoder Nat) t pc = .ok (172, pc + 1)) : decode t pc = .ok (.ireturn, 1) := by
  refine dnx (n := pc + 1) ?_ (by omega)
  show Except.bind ((Reader.u1 : Decoder Nat) t pc) _ = _
  rw [h0]
  rfl
theorem do_177 {t : ByteArray} {pc : Nat} (h0 : (Reader.u1 : Decoder Nat) t pc = .ok (177, pc + 1)) : decode t pc = .ok (.return_, 1) := by
  refine dnx (n := pc + 1) ?_ (by omega)
  show Except.bind ((Reader.u1 : Decoder Nat) t pc) _ = _
  rw [h0]
  rfl
theorem do_178 {t : ByteArray} {pc k1 k2 v : Nat} (h0 : (Reader.u1 : Decoder Nat) t pc = .ok (178, pc + 1)) (h1 : (Reader.u1 : Decoder Nat) t (pc + 1) = .ok (k1, pc + 2)) (h2 : (Reader.u1 : Decoder Nat) t (pc + 2) = .ok (k2, pc + 3)) (hv : k1 * 256 + k2 = v) : decode t pc = .ok (.getstatic v, 3) := by
  subst hv
  refine dnx (n := pc + 3) ?_ (by omega)
  show Except.bind ((Reader.u1 : Decoder Nat) t pc) _ = _
  rw [h0]
  show Except.bind (Except.bind ((Reader.u1 : Decoder Nat) t (pc + 1)) _) _ = _
  rw [h1]
  show Except.bind (Except.bind ((Reader.u1 : Decoder Nat) t (pc + 2)) _) _ = _
  rw [h2]
  rfl
theorem do_18 {t : ByteArray} {pc k1 : Nat} (h0 : (Reader.u1 : Decoder Nat) t pc = .ok (18, pc + 1)) (h1 : (Reader.u1 : Decoder Nat) t (pc + 1) = .ok (k1, pc + 2)) : decode t pc = .ok (.ldc k1, 2) := by
  refine dnx (n := pc + 2) ?_ (by omega)
  show Except.bind ((Reader.u1 : Decoder Nat) t pc) _ = _
  rw [h0]
  show Except.bind ((Reader.u1 : Decoder Nat) t (pc + 1)) _ = _
  rw [h1]
  rfl
theorem do_180 {t : ByteArray} {pc k1 k2 v : Nat} (h0 : (Reader.u1 : Decoder Nat) t pc = .ok (180, pc + 1)) (h1 : (Reader.u1 : Decoder Nat) t (pc + 1) = .ok (k1, pc + 2)) (h2 : (Reader.u1 : Decoder Nat) t (pc + 2) = .ok (k2, pc + 3)) (hv : k1 * 256 + k2 = v) : decode t pc = .ok (.getfield v, 3) := by
  subst hv
  refine dnx (n := pc + 3) ?_ (by omega)
  show Except.bind ((Reader.u1 : Decoder Nat) t pc) _ = _
  rw [h0]
  show Except.bind (Except.bind ((Reader.u1 : Decoder Nat) t (pc + 1)) _) _ = _
  rw [h1]
  show Except.bind (Except.bind ((Reader.u1 : Decoder Nat) t (pc + 2)) _) _ = _
  rw [h2]
  rfl
theorem do_181 {t : ByteArray} {pc k1 k2 v : Nat} (h0 : (Reader.u1 : Decoder Nat) t pc = .ok (181, pc + 1)) (h1 : (Reader.u1 : Decoder Nat) t (pc + 1) = .ok (k1, pc + 2)) (h2 : (Reader.u1 : Decoder Nat) t (pc + 2) = .ok (k2, pc + 3)) (hv : k1 * 256 + k2 = v) : decode t pc = .ok (.putfield v, 3) := by
  subst hv
  refine dnx (n := pc + 3) ?_ (by omega)
  show Except.bind ((Reader.u1 : Decoder Nat) t pc) _ = _
  rw [h0]
  show Except.bind (Except.bind ((Reader.u1 : Decoder Nat) t (pc + 1)) _) _ = _
  rw [h1]
  show Except.bind (Except.bind ((Reader.u1 : Decoder Nat) t (pc + 2)) _) _ = _
  rw [h2]
  rfl
theorem do_182 {t : ByteArray} {pc k1 k2 v : Nat} (h0 : (Reader.u1 : Decoder Nat) t pc = .ok (182, pc + 1)) (h1 : (Reader.u1 : Decoder Nat) t (pc + 1) = .ok (k1, pc + 2)) (h2 : (Reader.u1 : Decoder Nat) t (pc + 2) = .ok (k2, pc + 3)) (hv : k1 * 256 + k2 = v) : decode t pc = .ok (.invokevirtual v, 3) := by
  subst hv
  refine dnx (n := pc + 3) ?_ (by omega)
  show Except.bind ((Reader.u1 : Decoder Nat) t pc) _ = _
  rw [h0]
  show Except.bind (Except.bind ((Reader.u1 : Decoder Nat) t (pc + 1)) _) _ = _
  rw [h1]
  show Except.bind (Except.bind ((Reader.u1 : Decoder Nat) t (pc + 2)) _) _ = _
  rw [h2]
  rfl
theorem do_183 {t : ByteArray} {pc k1 k2 v : Nat} (h0 : (Reader.u1 : Decoder Nat) t pc = .ok (183, pc + 1)) (h1 : (Reader.u1 : Decoder Nat) t (pc + 1) = .ok (k1, pc + 2)) (h2 : (Reader.u1 : Decoder Nat) t (pc + 2) = .ok (k2, pc + 3)) (hv : k1 * 256 + k2 = v) : decode t pc = .ok (.invokespecial v, 3) := by
  subst hv
  refine dnx (n := pc + 3) ?_ (by omega)
  show Except.bind ((Reader.u1 : Decoder Nat) t pc) _ = _
  rw [h0]
  show Except.bind (Except.bind ((Reader.u1 : Decoder Nat) t (pc + 1)) _) _ = _
  rw [h1]
  show Except.bind (Except.bind ((Reader.u1 : Decoder Nat) t (pc + 2)) _) _ = _
  rw [h2]
  rfl
theorem do_184 {t : ByteArray} {pc k1 k2 v : Nat} (h0 : (Reader.u1 : Decoder Nat) t pc = .ok (184, pc + 1)) (h1 : (Reader.u1 : Decoder Nat) t (pc + 1) = .ok (k1, pc + 2)) (h2 : (Reader.u1 : Decoder Nat) t (pc + 2) = .ok (k2, pc + 3)) (hv : k1 * 256 + k2 = v) : decode t pc = .ok (.invokestatic v, 3) := by
  subst hv
  refine dnx (n := pc + 3) ?_ (by omega)
  show Except.bind ((Reader.u1 : Decoder Nat) t pc) _ = _
  rw [h0]
  show Except.bind (Except.bind ((Reader.u1 : Decoder Nat) t (pc + 1)) _) _ = _
  rw [h1]
  show Except.bind (Except.bind ((Reader.u1 : Decoder Nat) t (pc + 2)) _) _ = _
  rw [h2]
  rfl
theorem do_187 {t : ByteArray} {pc k1 k2 v : Nat} (h0 : (Reader.u1 : Decoder Nat) t pc = .ok (187, pc + 1)) (h1 : (Reader.u1 : Decoder Nat) t (pc + 1) = .ok (k1, pc + 2)) (h2 : (Reader.u1 : Decoder Nat) t (pc + 2) = .ok (k2, pc + 3)) (hv : k1 * 256 + k2 = v) : decode t pc = .ok (.new v, 3) := by
  subst hv
  refine dnx (n := pc + 3) ?_ (by omega)
  show Except.bind ((Reader.u1 : Decoder Nat) t pc) _ = _
  rw [h0]
  show Except.bind (Except.bind ((Reader.u1 : Decoder Nat) t (pc + 1)) _) _ = _
  rw [h1]
  show Except.bind (Except.bind ((Reader.u1 : Decoder Nat) t (pc + 2)) _) _ = _
  rw [h2]
  rfl
theorem do_189 {t : ByteArray} {pc k1 k2 v : Nat} (h0 : (Reader.u1 : Decoder Nat) t pc = .ok (189, pc + 1)) (h1 : (Reader.u1 : Decoder Nat) t (pc + 1) = .ok (k1, pc + 2)) (h2 : (Reader.u1 : Decoder Nat) t (pc + 2) = .ok (k2, pc + 3)) (hv : k1 * 256 + k2 = v) : decode t pc = .ok (.anewarray v, 3) := by
  subst hv
  refine dnx (n := pc + 3) ?_ (by omega)
  show Except.bind ((Reader.u1 : Decoder Nat) t pc) _ = _
  rw [h0]
  show Except.bind (Except.bind ((Reader.u1 : Decoder Nat) t (pc + 1)) _) _ = _
  rw [h1]
  show Except.bind (Except.bind ((Reader.u1 : Decoder Nat) t (pc + 2)) _) _ = _
  rw [h2]
  rfl
theorem do_19 {t : ByteArray} {pc k1 k2 v : Nat} (h0 : (Reader.u1 : Decoder Nat) t pc = .ok (19, pc + 1)) (h1 : (Reader.u1 : Decoder Nat) t (pc + 1) = .ok (k1, pc + 2)) (h2 : (Reader.u1 : Decoder Nat) t (pc + 2) = .ok (k2, pc + 3)) (hv : k1 * 256 + k2 = v) : decode t pc = .ok (.ldc_w v, 3) := by
  subst hv
  refine dnx (n := pc + 3) ?_ (by omega)
  show Except.bind ((Reader.u1 : Decoder Nat) t pc) _ = _
  rw [h0]
  show Except.bind (Except.bind ((Reader.u1 : Decoder Nat) t (pc + 1)) _) _ = _
  rw [h1]
  show Except.bind (Except.bind ((Reader.u1 : Decoder Nat) t (pc + 2)) _) _ = _
  rw [h2]
  rfl
theorem do_190 {t : ByteArray} {pc : Nat} (h0 : (Reader.u1 : Decoder Nat) t pc = .ok (190, pc + 1)) : decode t pc = .ok (.arraylength, 1) := by
  refine dnx (n := pc + 1) ?_ (by omega)
  show Except.bind ((Reader.u1 : Decoder Nat) t pc) _ = _
  rw [h0]
  rfl
theorem do_2 {t : ByteArray} {pc : Nat} (h0 : (Reader.u1 : Decoder Nat) t pc = .ok (2, pc + 1)) : decode t pc = .ok (.iconst (-1), 1) := by
  refine dnx (n := pc + 1) ?_ (by omega)
  show Except.bind ((Reader.u1 : Decoder Nat) t pc) _ = _
  rw [h0]
  rfl
theorem do_20 {t : ByteArray} {pc k1 k2 v : Nat} (h0 : (Reader.u1 : Decoder Nat) t pc = .ok (20, pc + 1)) (h1 : (Reader.u1 : Decoder Nat) t (pc + 1) = .ok (k1, pc + 2)) (h2 : (Reader.u1 : Decoder Nat) t (pc + 2) = .ok (k2, pc + 3)) (hv : k1 * 256 + k2 = v) : decode t pc = .ok (.ldc2_w v, 3) := by
  subst hv
  refine dnx (n := pc + 3) ?_ (by omega)
  show Except.bind ((Reader.u1 : Decoder Nat) t pc) _ = _
  rw [h0]
  show Except.bind (Except.bind ((Reader.u1 : Decoder Nat) t (pc + 1)) _) _ = _
  rw [h1]
  show Except.bind (Except.bind ((Reader.u1 : Decoder Nat) t (pc + 2)) _) _ = _
  rw [h2]
  rfl
theorem do_21 {t : ByteArray} {pc k1 : Nat} (h0 : (Reader.u1 : Decoder Nat) t pc = .ok (21, pc + 1)) (h1 : (Reader.u1 : Decoder Nat) t (pc + 1) = .ok (k1, pc + 2)) : decode t pc = .ok (.iload k1, 2) := by
  refine dnx (n := pc + 2) ?_ (by omega)
  show Except.bind ((Reader.u1 : Decoder Nat) t pc) _ = _
  rw [h0]
  show Except.bind ((Reader.u1 : Decoder Nat) t (pc + 1)) _ = _
  rw [h1]
  rfl
theorem do_22 {t : ByteArray} {pc k1 : Nat} (h0 : (Reader.u1 : Decoder Nat) t pc = .ok (22, pc + 1)) (h1 : (Reader.u1 : Decoder Nat) t (pc + 1) = .ok (k1, pc + 2)) : decode t pc = .ok (.lload k1, 2) := by
  refine dnx (n := pc + 2) ?_ (by omega)
  show Except.bind ((Reader.u1 : Decoder Nat) t pc) _ = _
  rw [h0]
  show Except.bind ((Reader.u1 : Decoder Nat) t (pc + 1)) _ = _
  rw [h1]
  rfl
theorem do_25 {t : ByteArray} {pc k1 : Nat} (h0 : (Reader.u1 : Decoder Nat) t pc = .ok (25, pc + 1)) (h1 : (Reader.u1 : Decoder Nat) t (pc + 1) = .ok (k1, pc + 2)) : decode t pc = .ok (.aload k1, 2) := by
  refine dnx (n := pc + 2) ?_ (by omega)
  show Except.bind ((Reader.u1 : Decoder Nat) t pc) _ = _
  rw [h0]
  show Except.bind ((Reader.u1 : Decoder Nat) t (pc + 1)) _ = _
  rw [h1]
  rfl
theorem do_26 {t : ByteArray} {pc : Nat} (h0 : (Reader.u1 : Decoder Nat) t pc = .ok (26, pc + 1)) : decode t pc = .ok (.iload_n 0, 1) := by
  refine dnx (n := pc + 1) ?_ (by omega)
  show Except.bind ((Reader.u1 : Decoder Nat) t pc) _ = _
  rw [h0]
  rfl
theorem do_27 {t : ByteArray} {pc : Nat} (h0 : (Reader.u1 : Decoder Nat) t pc = .ok (27, pc + 1)) : decode t pc = .ok (.iload_n 1, 1) := by
  refine dnx (n := pc + 1) ?_ (by omega)
  show Except.bind ((Reader.u1 : Decoder Nat) t pc) _ = _
  rw [h0]
  rfl
theorem do_28 {t : ByteArray} {pc : Nat} (h0 : (Reader.u1 : Decoder Nat) t pc = .ok (28, pc + 1)) : decode t pc = .ok (.iload_n 2, 1) := by
  refine dnx (n := pc + 1) ?_ (by omega)
  show Except.bind ((Reader.u1 : Decoder Nat) t pc) _ = _
  rw [h0]
  rfl
theorem do_29 {t : ByteArray} {pc : Nat} (h0 : (Reader.u1 : Decoder Nat) t pc = .ok (29, pc + 1)) : decode t pc = .ok (.iload_n 3, 1) := by
  refine dnx (n := pc + 1) ?_ (by omega)
  show Except.bind ((Reader.u1 : Decoder Nat) t pc) _ = _
  rw [h0]
  rfl
theorem do_3 {t : ByteArray} {pc : Nat} (h0 : (Reader.u1 : Decoder Nat) t pc = .ok (3, pc + 1)) : decode t pc = .ok (.iconst 0, 1) := by
  refine dnx (n := pc + 1) ?_ (by omega)
  show Except.bind ((Reader.u1 : Decoder Nat) t pc) _ = _
  rw [h0]
  rfl
theorem do_31 {t : ByteArray} {pc : Nat} (h0 : (Reader.u1 : Decoder Nat) t pc = .ok (31, pc + 1)) : decode t pc = .ok (.lload_n 1, 1) := by
  refine dnx (n := pc + 1) ?_ (by omega)
  show Except.bind ((Reader.u1 : Decoder Nat) t pc) _ = _
  rw [h0]
  rfl
theorem do_4 {t : ByteArray} {pc : Nat} (h0 : (Reader.u1 : Decoder Nat) t pc = .ok (4, pc + 1)) : decode t pc = .ok (.iconst 1, 1) := by
  refine dnx (n := pc + 1) ?_ (by omega)
  show Except.bind ((Reader.u1 : Decoder Nat) t pc) _ = _
  rw [h0]
  rfl
theorem do_42 {t : ByteArray} {pc : Nat} (h0 : (Reader.u1 : Decoder Nat) t pc = .ok (42, pc + 1)) : decode t pc = .ok (.aload_n 0, 1) := by
  refine dnx (n := pc + 1) ?_ (by omega)
  show Except.bind ((Reader.u1 : Decoder Nat) t pc) _ = _
  rw [h0]
  rfl
theorem do_43 {t : ByteArray} {pc : Nat} (h0 : (Reader.u1 : Decoder Nat) t pc = .ok (43, pc + 1)) : decode t pc = .ok (.aload_n 1, 1) := by
  refine dnx (n := pc + 1) ?_ (by omega)
  show Except.bind ((Reader.u1 : Decoder Nat) t pc) _ = _
  rw [h0]
  rfl
theorem do_44 {t : ByteArray} {pc : Nat} (h0 : (Reader.u1 : Decoder Nat) t pc = .ok (44, pc + 1)) : decode t pc = .ok (.aload_n 2, 1) := by
  refine dnx (n := pc + 1) ?_ (by omega)
  show Except.bind ((Reader.u1 : Decoder Nat) t pc) _ = _
  rw [h0]
  rfl
theorem do_45 {t : ByteArray} {pc : Nat} (h0 : (Reader.u1 : Decoder Nat) t pc = .ok (45, pc + 1)) : decode t pc = .ok (.aload_n 3, 1) := by
  refine dnx (n := pc + 1) ?_ (by omega)
  show Except.bind ((Reader.u1 : Decoder Nat) t pc) _ = _
  rw [h0]
  rfl
theorem do_46 {t : ByteArray} {pc : Nat} (h0 : (Reader.u1 : Decoder Nat) t pc = .ok (46, pc + 1)) : decode t pc = .ok (.iaload, 1) := by
  refine dnx (n := pc + 1) ?_ (by omega)
  show Except.bind ((Reader.u1 : Decoder Nat) t pc) _ = _
  rw [h0]
  rfl
theorem do_47 {t : ByteArray} {pc : Nat} (h0 : (Reader.u1 : Decoder Nat) t pc = .ok (47, pc + 1)) : decode t pc = .ok (.laload, 1) := by
  refine dnx (n := pc + 1) ?_ (by omega)
  show Except.bind ((Reader.u1 : Decoder Nat) t pc) _ = _
  rw [h0]
  rfl
theorem do_5 {t : ByteArray} {pc : Nat} (h0 : (Reader.u1 : Decoder Nat) t pc = .ok (5, pc + 1)) : decode t pc = .ok (.iconst 2, 1) := by
  refine dnx (n := pc + 1) ?_ (by omega)
  show Except.bind ((Reader.u1 : Decoder Nat) t pc) _ = _
  rw [h0]
  rfl
theorem do_50 {t : ByteArray} {pc : Nat} (h0 : (Reader.u1 : Decoder Nat) t pc = .ok (50, pc + 1)) : decode t pc = .ok (.aaload, 1) := by
  refine dnx (n := pc + 1) ?_ (by omega)
  show Except.bind ((Reader.u1 : Decoder Nat) t pc) _ = _
  rw [h0]
  rfl
theorem do_51 {t : ByteArray} {pc : Nat} (h0 : (Reader.u1 : Decoder Nat) t pc = .ok (51, pc + 1)) : decode t pc = .ok (.baload, 1) := by
  refine dnx (n := pc + 1) ?_ (by omega)
  show Except.bind ((Reader.u1 : Decoder Nat) t pc) _ = _
  rw [h0]
  rfl
theorem do_54 {t : ByteArray} {pc k1 : Nat} (h0 : (Reader.u1 : Decoder Nat) t pc = .ok (54, pc + 1)) (h1 : (Reader.u1 : Decoder Nat) t (pc + 1) = .ok (k1, pc + 2)) : decode t pc = .ok (.istore k1, 2) := by
  refine dnx (n := pc + 2) ?_ (by omega)
  show Except.bind ((Reader.u1 : Decoder Nat) t pc) _ = _
  rw [h0]
  show Except.bind ((Reader.u1 : Decoder Nat) t (pc + 1)) _ = _
  rw [h1]
  rfl
theorem do_55 {t : ByteArray} {pc k1 : Nat} (h0 : (Reader.u1 : Decoder Nat) t pc = .ok (55, pc + 1)) (h1 : (Reader.u1 : Decoder Nat) t (pc + 1) = .ok (k1, pc + 2)) : decode t pc = .ok (.lstore k1, 2) := by
  refine dnx (n := pc + 2) ?_ (by omega)
  show Except.bind ((Reader.u1 : Decoder Nat) t pc) _ = _
  rw [h0]
  show Except.bind ((Reader.u1 : Decoder Nat) t (pc + 1)) _ = _
  rw [h1]
  rfl
theorem do_58 {t : ByteArray} {pc k1 : Nat} (h0 : (Reader.u1 : Decoder Nat) t pc = .ok (58, pc + 1)) (h1 : (Reader.u1 : Decoder Nat) t (pc + 1) = .ok (k1, pc + 2)) : decode t pc = .ok (.astore k1, 2) := by
  refine dnx (n := pc + 2) ?_ (by omega)
  show Except.bind ((Reader.u1 : Decoder Nat) t pc) _ = _
  rw [h0]
  show Except.bind ((Reader.u1 : Decoder Nat) t (pc + 1)) _ = _
  rw [h1]
  rfl
theorem do_6 {t : ByteArray} {pc : Nat} (h0 : (Reader.u1 : Decoder Nat) t pc = .ok (6, pc + 1)) : decode t pc = .ok (.iconst 3, 1) := by
  refine dnx (n := pc + 1) ?_ (by omega)
  show Except.bind ((Reader.u1 : Decoder Nat) t pc) _ = _
  rw [h0]
  rfl
theorem do_60 {t : ByteArray} {pc : Nat} (h0 : (Reader.u1 : Decoder Nat) t pc = .ok (60, pc + 1)) : decode t pc = .ok (.istore_n 1, 1) := by
  refine dnx (n := pc + 1) ?_ (by omega)
  show Except.bind ((Reader.u1 : Decoder Nat) t pc) _ = _
  rw [h0]
  rfl
theorem do_61 {t : ByteArray} {pc : Nat} (h0 : (Reader.u1 : Decoder Nat) t pc = .ok (61, pc + 1)) : decode t pc = .ok (.istore_n 2, 1) := by
  refine dnx (n := pc + 1) ?_ (by omega)
  show Except.bind ((Reader.u1 : Decoder Nat) t pc) _ = _
  rw [h0]
  rfl
theorem do_62 {t : ByteArray} {pc : Nat} (h0 : (Reader.u1 : Decoder Nat) t pc = .ok (62, pc + 1)) : decode t pc = .ok (.istore_n 3, 1) := by
  refine dnx (n := pc + 1) ?_ (by omega)
  show Except.bind ((Reader.u1 : Decoder Nat) t pc) _ = _
  rw [h0]
  rfl
theorem do_7 {t : ByteArray} {pc : Nat} (h0 : (Reader.u1 : Decoder Nat) t pc = .ok (7, pc + 1)) : decode t pc = .ok (.iconst 4, 1) := by
  refine dnx (n := pc + 1) ?_ (by omega)
  show Except.bind ((Reader.u1 : Decoder Nat) t pc) _ = _
  rw [h0]
  rfl
theorem do_76 {t : ByteArray} {pc : Nat} (h0 : (Reader.u1 : Decoder Nat) t pc = .ok (76, pc + 1)) : decode t pc = .ok (.astore_n 1, 1) := by
  refine dnx (n := pc + 1) ?_ (by omega)
  show Except.bind ((Reader.u1 : Decoder Nat) t pc) _ = _
  rw [h0]
  rfl
theorem do_77 {t : ByteArray} {pc : Nat} (h0 : (Reader.u1 : Decoder Nat) t pc = .ok (77, pc + 1)) : decode t pc = .ok (.astore_n 2, 1) := by
  refine dnx (n := pc + 1) ?_ (by omega)
  show Except.bind ((Reader.u1 : Decoder Nat) t pc) _ = _
  rw [h0]
  rfl
theorem do_78 {t : ByteArray} {pc : Nat} (h0 : (Reader.u1 : Decoder Nat) t pc = .ok (78, pc + 1)) : decode t pc = .ok (.astore_n 3, 1) := by
  refine dnx (n := pc + 1) ?_ (by omega)
  show Except.bind ((Reader.u1 : Decoder Nat) t pc) _ = _
  rw [h0]
  rfl
theorem do_79 {t : ByteArray} {pc : Nat} (h0 : (Reader.u1 : Decoder Nat) t pc = .ok (79, pc + 1)) : decode t pc = .ok (.iastore, 1) := by
  refine dnx (n := pc + 1) ?_ (by omega)
  show Except.bind ((Reader.u1 : Decoder Nat) t pc) _ = _
  rw [h0]
  rfl
theorem do_8 {t : ByteArray} {pc : Nat} (h0 : (Reader.u1 : Decoder Nat) t pc = .ok (8, pc + 1)) : decode t pc = .ok (.iconst 5, 1) := by
  refine dnx (n := pc + 1) ?_ (by omega)
  show Except.bind ((Reader.u1 : Decoder Nat) t pc) _ = _
  rw [h0]
  rfl
theorem do_80 {t : ByteArray} {pc : Nat} (h0 : (Reader.u1 : Decoder Nat) t pc = .ok (80, pc + 1)) : decode t pc = .ok (.lastore, 1) := by
  refine dnx (n := pc + 1) ?_ (by omega)
  show Except.bind ((Reader.u1 : Decoder Nat) t pc) _ = _
  rw [h0]
  rfl
theorem do_83 {t : ByteArray} {pc : Nat} (h0 : (Reader.u1 : Decoder Nat) t pc = .ok (83, pc + 1)) : decode t pc = .ok (.aastore, 1) := by
  refine dnx (n := pc + 1) ?_ (by omega)
  show Except.bind ((Reader.u1 : Decoder Nat) t pc) _ = _
  rw [h0]
  rfl
theorem do_84 {t : ByteArray} {pc : Nat} (h0 : (Reader.u1 : Decoder Nat) t pc = .ok (84, pc + 1)) : decode t pc = .ok (.bastore, 1) := by
  refine dnx (n := pc + 1) ?_ (by omega)
  show Except.bind ((Reader.u1 : Decoder Nat) t pc) _ = _
  rw [h0]
  rfl
theorem do_87 {t : ByteArray} {pc : Nat} (h0 : (Reader.u1 : Decoder Nat) t pc = .ok (87, pc + 1)) : decode t pc = .ok (.pop, 1) := by
  refine dnx (n := pc + 1) ?_ (by omega)
  show Except.bind ((Reader.u1 : Decoder Nat) t pc) _ = _
  rw [h0]
  rfl
theorem do_89 {t : ByteArray} {pc : Nat} (h0 : (Reader.u1 : Decoder Nat) t pc = .ok (89, pc + 1)) : decode t pc = .ok (.dup, 1) := by
  refine dnx (n := pc + 1) ?_ (by omega)
  show Except.bind ((Reader.u1 : Decoder Nat) t pc) _ = _
  rw [h0]
  rfl
theorem do_9 {t : ByteArray} {pc : Nat} (h0 : (Reader.u1 : Decoder Nat) t pc = .ok (9, pc + 1)) : decode t pc = .ok (.lconst 0, 1) := by
  refine dnx (n := pc + 1) ?_ (by omega)
  show Except.bind ((Reader.u1 : Decoder Nat) t pc) _ = _
  rw [h0]
  rfl
theorem do_92 {t : ByteArray} {pc : Nat} (h0 : (Reader.u1 : Decoder Nat) t pc = .ok (92, pc + 1)) : decode t pc = .ok (.dup2, 1) := by
  refine dnx (n := pc + 1) ?_ (by omega)
  show Except.bind ((Reader.u1 : Decoder Nat) t pc) _ = _
  rw [h0]
  rfl
theorem do_96 {t : ByteArray} {pc : Nat} (h0 : (Reader.u1 : Decoder Nat) t pc = .ok (96, pc + 1)) : decode t pc = .ok (.iadd, 1) := by
  refine dnx (n := pc + 1) ?_ (by omega)
  show Except.bind ((Reader.u1 : Decoder Nat) t pc) _ = _
  rw [h0]
  rfl
theorem do_97 {t : ByteArray} {pc : Nat} (h0 : (Reader.u1 : Decoder Nat) t pc = .ok (97, pc + 1)) : decode t pc = .ok (.ladd, 1) := by
  refine dnx (n := pc + 1) ?_ (by omega)
  show Except.bind ((Reader.u1 : Decoder Nat) t pc) _ = _
  rw [h0]
  rfl
end
section
/-! the general base: statics and constant Strings are heap facts outside the world -/
abbrev STs : List (String × String × List Int32) := [(RX9, "REACHES", [3, 12, 1, 6, 0, 6, 5, 10]), (RX9, "SPEEDS", [1, 1, 1, 1, 1, 1, 1, 2]), (RX9, "HEARS_TO", [9, 9, 9, 9, 9, 9, 5, 9]), (RX9, "ABOVE", [-1, 0, 0, 0, 0, 1, 3, 1]), (RX7, "EAST", [0, 1, 1, 1, 0, -1, -1, -1]), (RX7, "SOUTH", [-1, -1, 0, 1, 1, 1, 0, -1]), (RX8, "BODIES", [10, 11, 12, 13, 20, 0, 0, 21, 0, 30, 0, 0, 40, 0, 41, 0, 0, 0, 50, 0, 0, 60, 0, 0, 0, 70, 71, 0, 0, 0, 0, 80])]
abbrev SBs : List (List Int32) := [[], [108, 111, 121, 112], [115, 110, 116], [102, 108, 114, 98, 116], [108, 111, 121, 112], [115, 110, 116], [102, 108, 114, 98, 116]]
def NW (ws : va_W) : Nat → Prop := fun q => ∃ (k : Nat) (e : va_E), ws[k]? = some (q, e)
def STAT (sa sk : Nat → Nat) (B : Nat → Prop) (U : State) (H : Heap) : Prop :=
  (∀ (k : Nat) (q : String × String × List Int32), STs[k]? = some q → va_Z q.1 q.2.1 "[I" (.ref (sa k)) B U H ∧ va_T .int (sa k) q.2.2.length (fun j => .int (q.2.2.getD j 0)) B U H) ∧ va_Z "java/lang/String" "COMPACT_STRINGS" "Z" (.int 1) B U H ∧
  (∀ (k : Nat) (l : List Int32), SBs[k]? = some l → va_O "java/lang/String" (sk k) B U H ∧ va_OF "java/lang/String" "coder" "B" (.int 0) (sk k) B U H ∧ va_OF "java/lang/String" "value" "[B" (.ref (sa (10 + k))) (sk k) B U H ∧ va_T .byte (sa (10 + k)) l.length (fun j => .int (l.getD j 0)) B U H) ∧
  va_Zq "jdk/internal/util/Preconditions" "SIOOBE_FORMATTER" "Ljava/util/function/BiFunction;" B U H
theorem STAT.moved {sa sk : Nat → Nat} {B : Nat → Prop} {u U : State} {H : Heap} (hvm : u.vm.Alike U.vm) (h : STAT sa sk B u H) : STAT sa sk B U H :=
  ⟨fun k q hq => ⟨(h.1 k q hq).1.moved hvm, (h.1 k q hq).2.moved hvm⟩, h.2.1.moved hvm, fun k l hl => ⟨(h.2.2.1 k l hl).1.moved hvm, (h.2.2.1 k l hl).2.1.moved hvm, (h.2.2.1 k l hl).2.2.1.moved hvm, (h.2.2.1 k l hl).2.2.2.moved hvm⟩, h.2.2.2.moved hvm⟩
theorem STAT.kept {sa sk : Nat → Nat} {B : Nat → Prop} {U : State} {H H1 : Heap} (h : STAT sa sk B U H) (hq : ∀ a : Nat, a < H.size → ¬ B a → H1[a]? = H[a]?) : STAT sa sk B U H1 :=
  ⟨fun k q hk => ⟨(h.1 k q hk).1.kept hq, (h.1 k q hk).2.kept hq⟩, h.2.1.kept hq, fun k l hl => ⟨(h.2.2.1 k l hl).1.kept hq, (h.2.2.1 k l hl).2.1.kept hq, (h.2.2.1 k l hl).2.2.1.kept hq, (h.2.2.1 k l hl).2.2.2.kept hq⟩, h.2.2.2.kept hq⟩
theorem STAT.narrow {sa sk : Nat → Nat} {A B : Nat → Prop} {U : State} {H : Heap} (h : STAT sa sk A U H) (hAB : ∀ q, B q → A q) : STAT sa sk B U H :=
  ⟨fun k q hk => ⟨(h.1 k q hk).1.narrow hAB, (h.1 k q hk).2.narrow hAB⟩, h.2.1.narrow hAB, fun k l hl => ⟨(h.2.2.1 k l hl).1.narrow hAB, (h.2.2.1 k l hl).2.1.narrow hAB, (h.2.2.1 k l hl).2.2.1.narrow hAB, (h.2.2.1 k l hl).2.2.2.narrow hAB⟩, h.2.2.2.narrow hAB⟩
theorem nA_up {ws : va_W} {H : Heap} {a : Nat} {cell : Cell} (h : H[a]? = some cell) (hn : ¬ NW ws a) : ¬ va_A ws H.size a := fun q => q.elim hn (fun z => absurd (Array.getElem?_eq_some_iff.mp h).1 (Nat.not_lt.mpr z))
theorem STAT.up {sa sk : Nat → Nat} {ws : va_W} {U : State} {H : Heap} (h : STAT sa sk (NW ws) U H) : STAT sa sk (va_A ws H.size) U H := by
  have hZ : ∀ {C n d : String} {v : Value}, va_Z C n d v (NW ws) U H → va_Z C n d v (va_A ws H.size) U H := fun ⟨cf, kf, fi, f, a, ce, h1, h2, h3, h4, h5, h6, h7, h8⟩ => ⟨cf, kf, fi, f, a, ce, h1, h2, h3, h4, h5, h6, h7, nA_up h5 h8⟩
  have hT : ∀ {ty : FieldType} {t N : Nat} {f : Nat → Value}, va_T ty t N f (NW ws) U H → va_T ty t N f (va_A ws H.size) U H := fun ⟨ce, h1, h2, h3, h4, h5, h6, h7⟩ => ⟨ce, h1, h2, h3, h4, h5, h6, nA_up h1 h7⟩
  have hO : ∀ {E : String} {t : Nat}, va_O E t (NW ws) U H → va_O E t (va_A ws H.size) U H := fun ⟨ce, h1, h2, h3, h4⟩ => ⟨ce, h1, h2, h3, nA_up h1 h4⟩
  have hF : ∀ {o n d : String} {v : Value} {t : Nat}, va_OF o n d v t (NW ws) U H → va_OF o n d v t (va_A ws H.size) U H := fun ⟨cf, k, i, f, ce, h1, h2, h3, h4, h5, h6⟩ => ⟨cf, k, i, f, ce, h1, h2, h3, h4, h5, nA_up h3 h6⟩
  exact ⟨fun k q hk => ⟨hZ (h.1 k q hk).1, hT (h.1 k q hk).2⟩, hZ h.2.1, fun k l hl => ⟨hO (h.2.2.1 k l hl).1, hF (h.2.2.1 k l hl).2.1, hF (h.2.2.1 k l hl).2.2.1, hT (h.2.2.1 k l hl).2.2.2⟩, h.2.2.2.elim (fun q => Or.inl (hZ q)) (fun ⟨t, q⟩ => Or.inr ⟨t, hZ q⟩)⟩
def PG (G : va_G) (cy : Nat → ClassId) (sk sa : Nat → Nat) (sz : Nat) (ws : va_W) (U : State) : Prop := PR G cy sk sz ws U ∧ STAT sa sk (NW ws) U U.heap
theorem PG_blind {av : List Value} {G : va_G} {cy : Nat → ClassId} {sk sa : Nat → Nat} {sz : Nat} {ws : va_W} : FrameBlind (va_Pc av (PG G cy sk sa sz ws)) := fun a U g mk h => ⟨h.1, ⟨h.2.1.1, h.2.1.2.1, EN.same (u := U) (U := U.calling g mk a) rfl h.2.1.2.2.1, h.2.1.2.2.2⟩, STAT.moved (u := U) (U := U.calling g mk a) (Vm.Alike.refl U.vm) h.2.2⟩
theorem PG_of {av : List Value} {G : va_G} {cy : Nat → ClassId} {sk sa : Nat → Nat} {H : Heap} {ws : va_W} {A : Nat → Prop} {s : State} {locs : List Loc} (hS : va_S A s.heap H locs) (hT : STAT sa sk A s s.heap) (hP : va_P G classes ws H) (hD : va_D A ws) (hE : EN G cy sk s) : ∀ U : State, U.heap = H → s.WarmedH U.vm → va_Pc av (PG G cy sk sa H.size ws) av.toArray U :=
  fun U hU hW => ⟨rfl, ⟨by rw [hU], by rw [hU]; exact hP, hE.warm hW, hD.weaken (fun _ _ _ _ => trivial)⟩, by rw [hU]; exact ((hT.kept hS.2.1).narrow (fun q ⟨k, e, h⟩ => hD.2 k _ h)).moved hW.alike⟩
theorem D_nw {ws : va_W} {A : Nat → Prop} (h : va_D A ws) : va_D (NW ws) ws := ⟨h.1, fun k q hk => ⟨k, q.2, hk⟩⟩
/-! references by role, world and number; values; the memory -/
abbrev rf : Type := Nat × Nat × Nat
abbrev mV : Type := Int32 ⊕ Int64 ⊕ rf
abbrev mM : Type := (rf → Nat → Int32) × (Nat → Int64)
abbrev vI (x : Int32) : mV := .inl x
abbrev vL (x : Int64) : mV := .inr (.inl x)
abbrev vR (c : rf) : mV := .inr (.inr c)
def gv (ad : rf → Nat) (v : mV) : Value := match v with
  | .inl x => .int x
  | .inr (.inl x) => .long x
  | .inr (.inr c) => .ref (ad c)
def gl (ad : rf → Nat) (l : List (Nat × mV)) : List (Nat × Value) := l.map (fun q => (q.1, gv ad q.2))
def vc2 (v : mV) : Bool := match v with
  | .inr (.inl _) => true
  | _ => false
def lset (l : List (Nat × mV)) (i : Nat) (v : mV) : List (Nat × mV) := (i, v) :: l.filter (fun q => !(q.1 == i) && !(q.1 + 1 == i && vc2 q.2))
def lset2 (l : List (Nat × mV)) (i : Nat) (v : mV) : List (Nat × mV) := (i, v) :: l.filter (fun q => !(q.1 == i) && (!(q.1 == i + 1) && !(q.1 + 1 == i && vc2 q.2)))
theorem gv_cat (ad : rf → Nat) (v : mV) : ((gv ad v).category == 2) = vc2 v := by rcases v with x | x | x <;> rfl
theorem gl_lset (ad : rf → Nat) (l : List (Nat × mV)) (i : Nat) (v : mV) : (i, gv ad v) :: (gl ad l).filter (fun q => !(q.1 == i) && !(q.1 + 1 == i && q.2.category == 2)) = gl ad (lset l i v) := by
  unfold gl lset
  rw [List.map_cons, List.filter_map]
  congr 2
  refine List.filter_congr fun q _ => ?_
  simp only [Function.comp, gv_cat]
theorem gl_lset2 (ad : rf → Nat) (l : List (Nat × mV)) (i : Nat) (v : mV) : (i, gv ad v) :: (gl ad l).filter (fun q => !(q.1 == i) && (!(q.1 == i + 1) && !(q.1 + 1 == i && q.2.category == 2))) = gl ad (lset2 l i v) := by
  unfold gl lset2
  rw [List.map_cons, List.filter_map]
  congr 2
  refine List.filter_congr fun q _ => ?_
  simp only [Function.comp, gv_cat]
theorem gl_at {ad : rf → Nat} {l : List (Nat × mV)} {k i : Nat} {v : mV} (h : l[k]? = some (i, v)) : (gl ad l)[k]? = some (i, gv ad v) := by
  unfold gl
  rw [List.getElem?_map, h]; rfl
abbrev fR : Type := Nat → Nat → Int32 → mV
def oI : fR := fun _ _ x => vI x
def oS (r : Nat) : fR := fun b w _ => vR (r, b, w)
def oW (r w : Nat) : fR := fun b _ _ => vR (r, b, w)
def oC (c : rf) : fR := fun _ _ _ => vR c
def oD (t : List rf) : fR := fun _ _ x => vR (t.getD x.toNatClampNeg (0, 0, 0))
def rl (w : Nat) : Nat := ([48, 24, 7, 7, 30, 30, 0] : List Nat).getD w 0
def OB (r : Nat) : Option (Nat × List fR) := match r with
  | 0 => some (0, [oC (20, 0, 0), oC (21, 0, 0), oC (22, 0, 0), oC (23, 0, 0), oI, oI])
  | 1 => some (1, [oS 24, oS 25, oI])
  | 2 => some (2, [oI, oI, oI, oS 26, oS 27, oS 28, oS 29])
  | 3 => some (3, [oS 30, oS 31, oS 32, oI, oW 5 2, oW 5 3, oI, oI, oI])
  | 4 => some (4, [oC (1, 3, 0), oD [(5, 3, 6), (5, 0, 0)], oD [(91, 0, 0), (91, 1, 0), (91, 2, 0), (91, 3, 0)], oI, oI, oI, oI])
  | 5 => some (5, [oS 33, oI])
  | 6 => some (6, [oI, oI, oS 34])
  | 7 => some (7, [oS 35, oS 36, oS 37, oS 38, oS 39, oI])
  | 8 => some (8, [oC (5, 3, 4), oC (5, 3, 5), oI, oI, oI, oI])
  | 9 => some (9, [oI, oI, oI, oI, oI, oI, oI, oI, oI, oS 40, oS 41])
  | 10 => some (10, [oS 7, oS 2, oS 3, oW 5 0, oW 5 1, oS 42, oI, oI])
  | 11 => some (11, [oC (10, 0, 0), oC (10, 1, 0), oC (10, 2, 0), oC (43, 0, 0), oC (44, 0, 0), oC (4, 0, 0), oC (0, 0, 0), oC (8, 0, 0), oI])
  | 12 => some (12, [oC (50, 0, 0), oC (51, 0, 0), oC (52, 0, 0), oI, oC (53, 0, 0), oC (54, 0, 0), oC (55, 0, 0), oI, oC (56, 0, 0), oI, oI, oI, oI, oI, oI, oC (57, 0, 0), oC (58, 0, 0), oC (59, 0, 0), oC (60, 0, 0), oC (61, 0, 0), oC (62, 0, 0), oC (63, 0, 0), oI, oI, oC (64, 0, 0), oC (65, 0, 0), oI, oI, oI, oC (66, 0, 0), oC (67, 0, 0), oC (68, 0, 0), oC (69, 0, 0)])
  | _ => none
def AR (r : Nat) : Option (Nat × (Nat → Nat)) := match r with
  | 20 => some (0, fun _ => 192)
  | 21 => some (1, fun _ => 192)
  | 22 => some (2, fun _ => 24)
  | 23 => some (0, fun _ => 8)
  | 24 => some (0, fun _ => 48)
  | 25 => some (0, fun _ => 48)
  | 26 => some (0, fun _ => 5)
  | 27 => some (0, fun _ => 5)
  | 29 => some (0, fun _ => 5)
  | 30 => some (0, fun _ => 7)
  | 31 => some (0, fun _ => 7)
  | 32 => some (0, fun _ => 7)
  | 33 => some (0, rl)
  | 34 => some (0, fun _ => 24)
  | 35 => some (0, fun _ => 192)
  | 36 => some (0, fun _ => 40)
  | 37 => some (0, fun _ => 40)
  | 38 => some (0, fun _ => 40)
  | 39 => some (0, fun _ => 40)
  | 40 => some (0, fun _ => 192)
  | 41 => some (0, fun _ => 192)
  | 44 => some (0, fun _ => 7)
  | 50 => some (0, fun _ => 3567)
  | 51 => some (0, fun _ => 3567)
  | 52 => some (0, fun _ => 3567)
  | 53 => some (0, fun _ => 7)
  | 54 => some (0, fun _ => 8)
  | 55 => some (0, fun _ => 8)
  | 57 => some (0, fun _ => 49)
  | 58 => some (0, fun _ => 5)
  | 59 => some (0, fun _ => 49)
  | 60 => some (1, fun _ => 1536)
  | 61 => some (0, fun _ => 192)
  | 62 => some (0, fun _ => 7)
  | 63 => some (0, fun _ => 7)
  | 64 => some (0, fun _ => 8)
  | 65 => some (0, fun _ => 30)
  | 66 => some (0, fun _ => 4)
  | 67 => some (0, fun _ => 4)
  | 68 => some (0, fun _ => 96)
  | 69 => some (0, fun _ => 24)
  | _ => none
def RA (r : Nat) : Option (Nat × Nat × (Nat → Nat → rf)) := match r with
  | 28 => some (3, 3, fun b j => (1, b, j))
  | 42 => some (4, 8, fun b j => (9, b, j))
  | 43 => some (5, 4, fun _ j => (6, 0, j))
  | 56 => some (6, 3, fun _ j => (91, 4 + j, 0))
  | _ => none
def rg (q : Nat × Nat × Nat × Nat × Nat) : List rf := (List.range q.2.2.1).flatMap (fun i => (List.range q.2.2.2.2).map (fun j => (q.1, q.2.1 + i, q.2.2.2.1 + j)))
theorem rg_mem {q : Nat × Nat × Nat × Nat × Nat} {b w : Nat} (h1 : q.2.1 ≤ b) (h2 : b < q.2.1 + q.2.2.1) (h3 : q.2.2.2.1 ≤ w) (h4 : w < q.2.2.2.1 + q.2.2.2.2) : (q.1, b, w) ∈ rg q := by
  refine List.mem_flatMap.mpr ⟨b - q.2.1, List.mem_range.mpr (by omega), List.mem_map.mpr ⟨w - q.2.2.2.1, List.mem_range.mpr (by omega), ?_⟩⟩
  rw [show q.2.1 + (b - q.2.1) = b by omega, show q.2.2.2.1 + (w - q.2.2.2.1) = w by omega]
def TCC : List (Nat × Nat × Nat × Nat × Nat) := [(0, 0, 1, 0, 1), (1, 0, 3, 0, 3), (1, 3, 1, 0, 1), (2, 0, 3, 0, 1), (3, 0, 3, 0, 1), (4, 0, 1, 0, 1), (5, 0, 3, 0, 4), (5, 3, 1, 4, 3), (6, 0, 1, 0, 4), (7, 0, 3, 0, 1), (8, 0, 1, 0, 1), (9, 0, 3, 0, 8), (10, 0, 3, 0, 1), (11, 0, 1, 0, 1), (20, 0, 1, 0, 1), (21, 0, 1, 0, 1), (22, 0, 1, 0, 1), (23, 0, 1, 0, 1), (24, 0, 3, 0, 3), (24, 3, 1, 0, 1), (25, 0, 3, 0, 3), (25, 3, 1, 0, 1), (26, 0, 3, 0, 1), (27, 0, 3, 0, 1), (28, 0, 3, 0, 1), (29, 0, 3, 0, 1), (30, 0, 3, 0, 1), (31, 0, 3, 0, 1), (32, 0, 3, 0, 1), (33, 0, 3, 0, 4), (33, 3, 1, 4, 3), (34, 0, 1, 0, 4), (35, 0, 3, 0, 1), (36, 0, 3, 0, 1), (37, 0, 3, 0, 1), (38, 0, 3, 0, 1), (39, 0, 3, 0, 1), (40, 0, 3, 0, 8), (41, 0, 3, 0, 8), (42, 0, 3, 0, 1), (43, 0, 1, 0, 1), (44, 0, 1, 0, 1)]
def CC : List rf := TCC.flatMap rg
theorem CC_in (i : Nat) {q : Nat × Nat × Nat × Nat × Nat} (hq : TCC[i]? = some q) {b w : Nat} (h1 : q.2.1 ≤ b) (h2 : b < q.2.1 + q.2.2.1) (h3 : q.2.2.2.1 ≤ w) (h4 : w < q.2.2.2.1 + q.2.2.2.2) : (q.1, b, w) ∈ CC := List.mem_flatMap.mpr ⟨q, List.mem_of_getElem? hq, rg_mem h1 h2 h3 h4⟩
theorem CC_nd : CC.Nodup := by decide +kernel
theorem CC_22 : ∀ c ∈ CC, c.1 = 22 → c = (22, 0, 0) := by decide +kernel
def TDD : List (Nat × Nat × Nat × Nat × Nat) := [(12, 0, 1, 0, 1), (50, 0, 1, 0, 1), (51, 0, 1, 0, 1), (52, 0, 1, 0, 1), (53, 0, 1, 0, 1), (54, 0, 1, 0, 1), (55, 0, 1, 0, 1), (56, 0, 1, 0, 1), (57, 0, 1, 0, 1), (58, 0, 1, 0, 1), (59, 0, 1, 0, 1), (60, 0, 1, 0, 1), (61, 0, 1, 0, 1), (62, 0, 1, 0, 1), (63, 0, 1, 0, 1), (64, 0, 1, 0, 1), (65, 0, 1, 0, 1), (66, 0, 1, 0, 1), (67, 0, 1, 0, 1), (68, 0, 1, 0, 1), (69, 0, 1, 0, 1)]
def DD : List rf := TDD.flatMap rg
theorem DD_in (i : Nat) {q : Nat × Nat × Nat × Nat × Nat} (hq : TDD[i]? = some q) {b w : Nat} (h1 : q.2.1 ≤ b) (h2 : b < q.2.1 + q.2.2.1) (h3 : q.2.2.2.1 ≤ w) (h4 : w < q.2.2.2.1 + q.2.2.2.2) : (q.1, b, w) ∈ DD := List.mem_flatMap.mpr ⟨q, List.mem_of_getElem? hq, rg_mem h1 h2 h3 h4⟩
theorem DD_nd : DD.Nodup := by decide +kernel
theorem DD_22 : ∀ c ∈ DD, c.1 = 22 → c = (22, 0, 0) := by decide +kernel
def vF (b w : Nat) : Prop := (b < 3 ∧ w < 3) ∨ (b = 3 ∧ w = 0)
def vRw (b w : Nat) : Prop := (b < 3 ∧ w < 4) ∨ (b = 3 ∧ 4 ≤ w ∧ w < 7)
theorem ic_0 : ((0, 0, 0) : rf) ∈ CC := CC_in 0 (q := (0, 0, 1, 0, 1)) rfl (by dsimp only; omega) (by dsimp only; omega) (by dsimp only; omega) (by dsimp only; omega)
theorem ic_1 {b w : Nat} (h : vF b w) : ((1, b, w) : rf) ∈ CC := h.elim (fun h => CC_in 1 (q := (1, 0, 3, 0, 3)) rfl (by dsimp only; omega) (by dsimp only; omega) (by dsimp only; omega) (by dsimp only; omega)) (fun h => CC_in 2 (q := (1, 3, 1, 0, 1)) rfl (by dsimp only; omega) (by dsimp only; omega) (by dsimp only; omega) (by dsimp only; omega))
theorem ic_2 {b : Nat} (hb : b < 3) : ((2, b, 0) : rf) ∈ CC := CC_in 3 (q := (2, 0, 3, 0, 1)) rfl (by dsimp only; omega) (by dsimp only; omega) (by dsimp only; omega) (by dsimp only; omega)
theorem ic_3 {b : Nat} (hb : b < 3) : ((3, b, 0) : rf) ∈ CC := CC_in 4 (q := (3, 0, 3, 0, 1)) rfl (by dsimp only; omega) (by dsimp only; omega) (by dsimp only; omega) (by dsimp only; omega)
theorem ic_4 : ((4, 0, 0) : rf) ∈ CC := CC_in 5 (q := (4, 0, 1, 0, 1)) rfl (by dsimp only; omega) (by dsimp only; omega) (by dsimp only; omega) (by dsimp only; omega)
theorem ic_5 {b w : Nat} (h : vRw b w) : ((5, b, w) : rf) ∈ CC := h.elim (fun h => CC_in 6 (q := (5, 0, 3, 0, 4)) rfl (by dsimp only; omega) (by dsimp only; omega) (by dsimp only; omega) (by dsimp only; omega)) (fun h => CC_in 7 (q := (5, 3, 1, 4, 3)) rfl (by dsimp only; omega) (by dsimp only; omega) (by dsimp only; omega) (by dsimp only; omega))
theorem ic_6 {w : Nat} (hw : w < 4) : ((6, 0, w) : rf) ∈ CC := CC_in 8 (q := (6, 0, 1, 0, 4)) rfl (by dsimp only; omega) (by dsimp only; omega) (by dsimp only; omega) (by dsimp only; omega)
theorem ic_7 {b : Nat} (hb : b < 3) : ((7, b, 0) : rf) ∈ CC := CC_in 9 (q := (7, 0, 3, 0, 1)) rfl (by dsimp only; omega) (by dsimp only; omega) (by dsimp only; omega) (by dsimp only; omega)
theorem ic_8 : ((8, 0, 0) : rf) ∈ CC := CC_in 10 (q := (8, 0, 1, 0, 1)) rfl (by dsimp only; omega) (by dsimp only; omega) (by dsimp only; omega) (by dsimp only; omega)
theorem ic_9 {b w : Nat} (hb : b < 3) (hw : w < 8) : ((9, b, w) : rf) ∈ CC := CC_in 11 (q := (9, 0, 3, 0, 8)) rfl (by dsimp only; omega) (by dsimp only; omega) (by dsimp only; omega) (by dsimp only; omega)
theorem ic_10 {b : Nat} (hb : b < 3) : ((10, b, 0) : rf) ∈ CC := CC_in 12 (q := (10, 0, 3, 0, 1)) rfl (by dsimp only; omega) (by dsimp only; omega) (by dsimp only; omega) (by dsimp only; omega)
theorem ic_11 : ((11, 0, 0) : rf) ∈ CC := CC_in 13 (q := (11, 0, 1, 0, 1)) rfl (by dsimp only; omega) (by dsimp only; omega) (by dsimp only; omega) (by dsimp only; omega)
theorem ic_12 : ((12, 0, 0) : rf) ∈ DD := DD_in 0 (q := (12, 0, 1, 0, 1)) rfl (by dsimp only; omega) (by dsimp only; omega) (by dsimp only; omega) (by dsimp only; omega)
theorem ic_20 : ((20, 0, 0) : rf) ∈ CC := CC_in 14 (q := (20, 0, 1, 0, 1)) rfl (by dsimp only; omega) (by dsimp only; omega) (by dsimp only; omega) (by dsimp only; omega)
theorem ic_21 : ((21, 0, 0) : rf) ∈ CC := CC_in 15 (q := (21, 0, 1, 0, 1)) rfl (by dsimp only; omega) (by dsimp only; omega) (by dsimp only; omega) (by dsimp only; omega)
theorem ic_22 : ((22, 0, 0) : rf) ∈ CC := CC_in 16 (q := (22, 0, 1, 0, 1)) rfl (by dsimp only; omega) (by dsimp only; omega) (by dsimp only; omega) (by dsimp only; omega)
theorem ic_23 : ((23, 0, 0) : rf) ∈ CC := CC_in 17 (q := (23, 0, 1, 0, 1)) rfl (by dsimp only; omega) (by dsimp only; omega) (by dsimp only; omega) (by dsimp only; omega)
theorem ic_24 {b w : Nat} (h : vF b w) : ((24, b, w) : rf) ∈ CC := h.elim (fun h => CC_in 18 (q := (24, 0, 3, 0, 3)) rfl (by dsimp only; omega) (by dsimp only; omega) (by dsimp only; omega) (by dsimp only; omega)) (fun h => CC_in 19 (q := (24, 3, 1, 0, 1)) rfl (by dsimp only; omega) (by dsimp only; omega) (by dsimp only; omega) (by dsimp only; omega))
theorem ic_25 {b w : Nat} (h : vF b w) : ((25, b, w) : rf) ∈ CC := h.elim (fun h => CC_in 20 (q := (25, 0, 3, 0, 3)) rfl (by dsimp only; omega) (by dsimp only; omega) (by dsimp only; omega) (by dsimp only; omega)) (fun h => CC_in 21 (q := (25, 3, 1, 0, 1)) rfl (by dsimp only; omega) (by dsimp only; omega) (by dsimp only; omega) (by dsimp only; omega))
theorem ic_26 {b : Nat} (hb : b < 3) : ((26, b, 0) : rf) ∈ CC := CC_in 22 (q := (26, 0, 3, 0, 1)) rfl (by dsimp only; omega) (by dsimp only; omega) (by dsimp only; omega) (by dsimp only; omega)
theorem ic_27 {b : Nat} (hb : b < 3) : ((27, b, 0) : rf) ∈ CC := CC_in 23 (q := (27, 0, 3, 0, 1)) rfl (by dsimp only; omega) (by dsimp only; omega) (by dsimp only; omega) (by dsimp only; omega)
theorem ic_28 {b : Nat} (hb : b < 3) : ((28, b, 0) : rf) ∈ CC := CC_in 24 (q := (28, 0, 3, 0, 1)) rfl (by dsimp only; omega) (by dsimp only; omega) (by dsimp only; omega) (by dsimp only; omega)
theorem ic_29 {b : Nat} (hb : b < 3) : ((29, b, 0) : rf) ∈ CC := CC_in 25 (q := (29, 0, 3, 0, 1)) rfl (by dsimp only; omega) (by dsimp only; omega) (by dsimp only; omega) (by dsimp only; omega)
theorem ic_30 {b : Nat} (hb : b < 3) : ((30, b, 0) : rf) ∈ CC := CC_in 26 (q := (30, 0, 3, 0, 1)) rfl (by dsimp only; omega) (by dsimp only; omega) (by dsimp only; omega) (by dsimp only; omega)
theorem ic_31 {b : Nat} (hb : b < 3) : ((31, b, 0) : rf) ∈ CC := CC_in 27 (q := (31, 0, 3, 0, 1)) rfl (by dsimp only; omega) (by dsimp only; omega) (by dsimp only; omega) (by dsimp only; omega)
theorem ic_32 {b : Nat} (hb : b < 3) : ((32, b, 0) : rf) ∈ CC := CC_in 28 (q := (32, 0, 3, 0, 1)) rfl (by dsimp only; omega) (by dsimp only; omega) (by dsimp only; omega) (by dsimp only; omega)
theorem ic_33 {b w : Nat} (h : vRw b w) : ((33, b, w) : rf) ∈ CC := h.elim (fun h => CC_in 29 (q := (33, 0, 3, 0, 4)) rfl (by dsimp only; omega) (by dsimp only; omega) (by dsimp only; omega) (by dsimp only; omega)) (fun h => CC_in 30 (q := (33, 3, 1, 4, 3)) rfl (by dsimp only; omega) (by dsimp only; omega) (by dsimp only; omega) (by dsimp only; omega))
theorem ic_34 {w : Nat} (hw : w < 4) : ((34, 0, w) : rf) ∈ CC := CC_in 31 (q := (34, 0, 1, 0, 4)) rfl (by dsimp only; omega) (by dsimp only; omega) (by dsimp only; omega) (by dsimp only; omega)
theorem ic_35 {b : Nat} (hb : b < 3) : ((35, b, 0) : rf) ∈ CC := CC_in 32 (q := (35, 0, 3, 0, 1)) rfl (by dsimp only; omega) (by dsimp only; omega) (by dsimp only; omega) (by dsimp only; omega)
theorem ic_36 {b : Nat} (hb : b < 3) : ((36, b, 0) : rf) ∈ CC := CC_in 33 (q := (36, 0, 3, 0, 1)) rfl (by dsimp only; omega) (by dsimp only; omega) (by dsimp only; omega) (by dsimp only; omega)
theorem ic_37 {b : Nat} (hb : b < 3) : ((37, b, 0) : rf) ∈ CC := CC_in 34 (q := (37, 0, 3, 0, 1)) rfl (by dsimp only; omega) (by dsimp only; omega) (by dsimp only; omega) (by dsimp only; omega)
theorem ic_38 {b : Nat} (hb : b < 3) : ((38, b, 0) : rf) ∈ CC := CC_in 35 (q := (38, 0, 3, 0, 1)) rfl (by dsimp only; omega) (by dsimp only; omega) (by dsimp only; omega) (by dsimp only; omega)
theorem ic_39 {b : Nat} (hb : b < 3) : ((39, b, 0) : rf) ∈ CC := CC_in 36 (q := (39, 0, 3, 0, 1)) rfl (by dsimp only; omega) (by dsimp only; omega) (by dsimp only; omega) (by dsimp only; omega)
theorem ic_40 {b w : Nat} (hb : b < 3) (hw : w < 8) : ((40, b, w) : rf) ∈ CC := CC_in 37 (q := (40, 0, 3, 0, 8)) rfl (by dsimp only; omega) (by dsimp only; omega) (by dsimp only; omega) (by dsimp only; omega)
theorem ic_41 {b w : Nat} (hb : b < 3) (hw : w < 8) : ((41, b, w) : rf) ∈ CC := CC_in 38 (q := (41, 0, 3, 0, 8)) rfl (by dsimp only; omega) (by dsimp only; omega) (by dsimp only; omega) (by dsimp only; omega)
theorem ic_42 {b : Nat} (hb : b < 3) : ((42, b, 0) : rf) ∈ CC := CC_in 39 (q := (42, 0, 3, 0, 1)) rfl (by dsimp only; omega) (by dsimp only; omega) (by dsimp only; omega) (by dsimp only; omega)
theorem ic_43 : ((43, 0, 0) : rf) ∈ CC := CC_in 40 (q := (43, 0, 1, 0, 1)) rfl (by dsimp only; omega) (by dsimp only; omega) (by dsimp only; omega) (by dsimp only; omega)
theorem ic_44 : ((44, 0, 0) : rf) ∈ CC := CC_in 41 (q := (44, 0, 1, 0, 1)) rfl (by dsimp only; omega) (by dsimp only; omega) (by dsimp only; omega) (by dsimp only; omega)
theorem ic_50 : ((50, 0, 0) : rf) ∈ DD := DD_in 1 (q := (50, 0, 1, 0, 1)) rfl (by dsimp only; omega) (by dsimp only; omega) (by dsimp only; omega) (by dsimp only; omega)
theorem ic_51 : ((51, 0, 0) : rf) ∈ DD := DD_in 2 (q := (51, 0, 1, 0, 1)) rfl (by dsimp only; omega) (by dsimp only; omega) (by dsimp only; omega) (by dsimp only; omega)
theorem ic_52 : ((52, 0, 0) : rf) ∈ DD := DD_in 3 (q := (52, 0, 1, 0, 1)) rfl (by dsimp only; omega) (by dsimp only; omega) (by dsimp only; omega) (by dsimp only; omega)
theorem ic_53 : ((53, 0, 0) : rf) ∈ DD := DD_in 4 (q := (53, 0, 1, 0, 1)) rfl (by dsimp only; omega) (by dsimp only; omega) (by dsimp only; omega) (by dsimp only; omega)
theorem ic_54 : ((54, 0, 0) : rf) ∈ DD := DD_in 5 (q := (54, 0, 1, 0, 1)) rfl (by dsimp only; omega) (by dsimp only; omega) (by dsimp only; omega) (by dsimp only; omega)
theorem ic_55 : ((55, 0, 0) : rf) ∈ DD := DD_in 6 (q := (55, 0, 1, 0, 1)) rfl (by dsimp only; omega) (by dsimp only; omega) (by dsimp only; omega) (by dsimp only; omega)
theorem ic_56 : ((56, 0, 0) : rf) ∈ DD := DD_in 7 (q := (56, 0, 1, 0, 1)) rfl (by dsimp only; omega) (by dsimp only; omega) (by dsimp only; omega) (by dsimp only; omega)
theorem ic_57 : ((57, 0, 0) : rf) ∈ DD := DD_in 8 (q := (57, 0, 1, 0, 1)) rfl (by dsimp only; omega) (by dsimp only; omega) (by dsimp only; omega) (by dsimp only; omega)
theorem ic_58 : ((58, 0, 0) : rf) ∈ DD := DD_in 9 (q := (58, 0, 1, 0, 1)) rfl (by dsimp only; omega) (by dsimp only; omega) (by dsimp only; omega) (by dsimp only; omega)
theorem ic_59 : ((59, 0, 0) : rf) ∈ DD := DD_in 10 (q := (59, 0, 1, 0, 1)) rfl (by dsimp only; omega) (by dsimp only; omega) (by dsimp only; omega) (by dsimp only; omega)
theorem ic_60 : ((60, 0, 0) : rf) ∈ DD := DD_in 11 (q := (60, 0, 1, 0, 1)) rfl (by dsimp only; omega) (by dsimp only; omega) (by dsimp only; omega) (by dsimp only; omega)
theorem ic_61 : ((61, 0, 0) : rf) ∈ DD := DD_in 12 (q := (61, 0, 1, 0, 1)) rfl (by dsimp only; omega) (by dsimp only; omega) (by dsimp only; omega) (by dsimp only; omega)
theorem ic_62 : ((62, 0, 0) : rf) ∈ DD := DD_in 13 (q := (62, 0, 1, 0, 1)) rfl (by dsimp only; omega) (by dsimp only; omega) (by dsimp only; omega) (by dsimp only; omega)
theorem ic_63 : ((63, 0, 0) : rf) ∈ DD := DD_in 14 (q := (63, 0, 1, 0, 1)) rfl (by dsimp only; omega) (by dsimp only; omega) (by dsimp only; omega) (by dsimp only; omega)
theorem ic_64 : ((64, 0, 0) : rf) ∈ DD := DD_in 15 (q := (64, 0, 1, 0, 1)) rfl (by dsimp only; omega) (by dsimp only; omega) (by dsimp only; omega) (by dsimp only; omega)
theorem ic_65 : ((65, 0, 0) : rf) ∈ DD := DD_in 16 (q := (65, 0, 1, 0, 1)) rfl (by dsimp only; omega) (by dsimp only; omega) (by dsimp only; omega) (by dsimp only; omega)
theorem ic_66 : ((66, 0, 0) : rf) ∈ DD := DD_in 17 (q := (66, 0, 1, 0, 1)) rfl (by dsimp only; omega) (by dsimp only; omega) (by dsimp only; omega) (by dsimp only; omega)
theorem ic_67 : ((67, 0, 0) : rf) ∈ DD := DD_in 18 (q := (67, 0, 1, 0, 1)) rfl (by dsimp only; omega) (by dsimp only; omega) (by dsimp only; omega) (by dsimp only; omega)
theorem ic_68 : ((68, 0, 0) : rf) ∈ DD := DD_in 19 (q := (68, 0, 1, 0, 1)) rfl (by dsimp only; omega) (by dsimp only; omega) (by dsimp only; omega) (by dsimp only; omega)
theorem ic_69 : ((69, 0, 0) : rf) ∈ DD := DD_in 20 (q := (69, 0, 1, 0, 1)) rfl (by dsimp only; omega) (by dsimp only; omega) (by dsimp only; omega) (by dsimp only; omega)
def fvs (ad : rf → Nat) (M : mM) (c : rf) : List fR → Nat → List Value
  | [], _ => []
  | f :: l, k => gv ad (f c.2.1 c.2.2 (M.1 c k)) :: fvs ad M c l (k + 1)
def arE (cy : Nat → ClassId) (k n : Nat) (f : Nat → Int32) (g : Nat → Int64) : va_E := match k with
  | 0 => .inl (cy 0, n, .inl f)
  | 1 => .inl (cy 1, n, .inl f)
  | _ => .inl (cy 2, n, .inr (.inl g))
def ent (cy : Nat → ClassId) (ad : rf → Nat) (M : mM) (c : rf) : va_E := match OB c.1 with
  | some q => .inr (q.1, fvs ad M c q.2 0)
  | none => match AR c.1 with
    | some q => arE cy q.1 (q.2 c.2.2) (M.1 c) M.2
    | none => match RA c.1 with
      | some (t, n, g) => .inl (cy t, n, .inr (.inr (.inr (.inr (fun j => some (ad (g c.2.1 j)))))))
      | none => .inr (0, [])
def WS (cls : List rf) (cy : Nat → ClassId) (ad : rf → Nat) (M : mM) : va_W := cls.map (fun c => (ad c, ent cy ad M c))
def up (M : mM) (c : rf) (k : Nat) (v : Int32) : mM := (fun c' k' => if c' = c ∧ k' = k then v else M.1 c' k', M.2)
def upL (M : mM) (k : Nat) (v : Int64) : mM := (M.1, vp_updL M.2 k v)
def cp (M : mM) (c0 c1 : rf) (sp dp n : Nat) : mM := (fun c' k' => if c' = c1 then va_cpy (M.1 c0) (M.1 c1) sp dp n k' else M.1 c' k', M.2)
theorem up_same (M : mM) (c : rf) (k : Nat) (v : Int32) : (up M c k v).1 c k = v := if_pos ⟨rfl, rfl⟩
theorem up_ne {M : mM} {c c' : rf} {k k' : Nat} {v : Int32} (h : ¬ (c' = c ∧ k' = k)) : (up M c k v).1 c' k' = M.1 c' k' := if_neg h
theorem up_row (M : mM) (c : rf) (k : Nat) (v : Int32) : (up M c k v).1 c = upd (M.1 c) k v := by
  funext j
  unfold up upd
  by_cases h : j = k
  · rw [if_pos h]; exact if_pos ⟨rfl, h⟩
  · rw [if_neg h]; exact if_neg (fun q => h q.2)
theorem up_other {M : mM} {c c' : rf} (k : Nat) (v : Int32) (h : c' ≠ c) : (up M c k v).1 c' = M.1 c' := by
  funext j
  exact if_neg (fun q => h q.1)
theorem cp_row (M : mM) (c0 c1 : rf) (sp dp n : Nat) : (cp M c0 c1 sp dp n).1 c1 = va_cpy (M.1 c0) (M.1 c1) sp dp n := by
  funext j
  exact if_pos rfl
theorem cp_other {M : mM} {c0 c1 c' : rf} (sp dp n : Nat) (h : c' ≠ c1) : (cp M c0 c1 sp dp n).1 c' = M.1 c' := by
  funext j
  exact if_neg h
theorem fvs_get (ad : rf → Nat) (M : mM) (c : rf) : ∀ (fs : List fR) (k0 k : Nat), (fvs ad M c fs k0)[k]? = (fs[k]?).map (fun f => gv ad (f c.2.1 c.2.2 (M.1 c (k0 + k))))
  | [], _, _ => rfl
  | f :: l, k0, 0 => rfl
  | f :: l, k0, k + 1 => by
    have h := fvs_get ad M c l (k0 + 1) k
    rw [show k0 + 1 + k = k0 + (k + 1) by omega] at h
    exact h
theorem fvs_cong {ad : rf → Nat} {M M' : mM} {c : rf} (h : M'.1 c = M.1 c) : ∀ (fs : List fR) (k0 : Nat), fvs ad M' c fs k0 = fvs ad M c fs k0
  | [], _ => rfl
  | f :: l, k0 => by
    show gv ad (f _ _ (M'.1 c k0)) :: _ = gv ad (f _ _ (M.1 c k0)) :: _
    rw [h, fvs_cong h l]
theorem fvs_set {ad : rf → Nat} {M : mM} {c : rf} {fs : List fR} {k : Nat} {f : fR} (hf : fs[k]? = some f) (x : Int32) : (fvs ad M c fs 0).set k (gv ad (f c.2.1 c.2.2 x)) = fvs ad (up M c k x) c fs 0 := by
  refine List.ext_getElem? fun j => ?_
  rw [List.getElem?_set, fvs_get, fvs_get, Nat.zero_add]
  by_cases h : k = j
  · subst h
    have hl : k < (fvs ad M c fs 0).length := by
      have h1 := fvs_get ad M c fs 0 k
      rw [hf] at h1
      exact (List.getElem?_eq_some_iff.mp h1).1
    rw [if_pos rfl, if_pos hl, hf, up_same]; rfl
  · rw [if_neg h, up_ne (fun q => h q.2.symm)]
theorem ent_cong {cy : Nat → ClassId} {ad : rf → Nat} {M M' : mM} {c : rf} (h : M'.1 c = M.1 c) (h3 : M'.2 = M.2) : ent cy ad M' c = ent cy ad M c := by
  unfold ent
  rw [h, h3]
  simp only [fvs_cong h]
theorem WS_mem {cls : List rf} {cy : Nat → ClassId} {ad : rf → Nat} {M : mM} {c : rf} (h : c ∈ cls) : ∃ q0 : Nat, cls[q0]? = some c ∧ (WS cls cy ad M)[q0]? = some (ad c, ent cy ad M c) := by
  obtain ⟨q0, hq⟩ := List.mem_iff_getElem?.mp h
  exact ⟨q0, hq, by unfold WS; rw [List.getElem?_map, hq]; rfl⟩
theorem WS_set {cls : List rf} (hnd : cls.Nodup) {cy : Nat → ClassId} {ad : rf → Nat} {M M' : mM} {c : rf} {q0 : Nat} (hq : cls[q0]? = some c) (h : ∀ c', c' ∈ cls → c' ≠ c → ent cy ad M' c' = ent cy ad M c') : (WS cls cy ad M).set q0 (ad c, ent cy ad M' c) = WS cls cy ad M' := by
  refine List.ext_getElem? fun j => ?_
  have hl : q0 < cls.length := (List.getElem?_eq_some_iff.mp hq).1
  rw [List.getElem?_set]
  unfold WS
  rw [List.getElem?_map, List.getElem?_map, List.length_map]
  by_cases e : q0 = j
  · subst e
    rw [if_pos rfl, if_pos hl, hq]; rfl
  · rw [if_neg e]
    cases hj : cls[j]? with
    | none => rfl
    | some c' =>
      have hne : c' ≠ c := fun q => by
        subst q
        exact e ((List.getElem?_inj hl hnd).mp (hq.trans hj.symm))
      show some (ad c', ent cy ad M c') = some (ad c', ent cy ad M' c')
      rw [h c' (List.mem_of_getElem? hj) hne]
def skA (ad : rf → Nat) : Nat → Nat := fun k => ad (91, k, 0)
def saA (ad : rf → Nat) : Nat → Nat := fun k => ad (90, k, 0)
def rmd (d : Nat) : Room := { frames := d, cells := 0, slots := 0, locals := 100 * d }
def WO (cls : List rf) (G : va_G) (cy : Nat → ClassId) (ad : rf → Nat) (A : Nat → Prop) (M : mM) (H : Heap) : Prop := va_P G classes (WS cls cy ad M) H ∧ va_D A (WS cls cy ad M)
def CX (G : va_G) (cy : Nat → ClassId) (ad : rf → Nat) (y : MethodName) (b : ByteArray) (n : Nat) (r : Option FieldType) (p : Program) (s : State) (m : MethodId) (args : Array Value) (meth : Method) (c : Code) (A : Nat → Prop) : Prop :=
  p.tables.exec = Jvm.exec ∧ c.code = b ∧ meth.sig.returnType = r ∧ c.maxLocals = n ∧ (∀ w ∈ BASE, w.before args s = true) ∧ s.vm.findClass y.cls = some m.cls ∧ meth.locks = false ∧ EN G cy (skA ad) s ∧ STAT (saA ad) (skA ad) A s s.heap ∧ ∀ q : Nat, s.heap.size ≤ q → A q
def QC (cls : List rf) (G : va_G) (cy : Nat → ClassId) (ad : rf → Nat) (r : Option FieldType) (A : Nat → Prop) (Q : Int32 → mM → Prop) : Array Value → State → Outcome → State → Prop := match r with
  | none => va_Qv (fun M' : mM => Q 0 M') (fun M' t => WO cls G cy ad A M' t.heap) A
  | some _ => va_Qi (fun r (M' : mM) => Q r M') (fun M' t => WO cls G cy ad A M' t.heap) A
/-- from here on the method comes to its end, with Q of its answer and of the memory -/
def WP (cls : List rf) (l : Launch) (G : va_G) (cy : Nat → ClassId) (ad : rf → Nat) (y : MethodName) (b : ByteArray) (n : Nat) (r : Option FieldType) (d : Nat) (pc : Nat) (ls : List (Nat × mV)) (st : List mV) (M : mM) (Q : Int32 → mM → Prop) : Prop :=
  ∀ (p : Program) (e : Env) (s : State) (m : MethodId) (args : Array Value) (below : List Frame) (meth : Method) (c : Code) (A : Nat → Prop), CX G cy ad y b n r p s m args meth c A →
  ∀ (lsA : Array Slot) (H : Heap) (locs : List Loc), lv_has lsA n (gl ad ls) → WO cls G cy ad A M H → va_S A s.heap H locs →
  W p l e (rmd d) s m args below meth c H locs 0 0 (MQ below (QC cls G cy ad r A Q) args s 0 0 A) (F0 m pc lsA (st.map (gv ad)))
end
