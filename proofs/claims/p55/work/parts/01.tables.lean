-- ===== PART A: goes FIRST, ahead of the names: the tables' words, and 'selects' of the private methods out of them =====
/-- a private method of a class that the tables say can be made, by its rows of tables_1 -/
def lw_okq (q : MethodName × Nat) : Prop := (q.1.cls ≠ "java/lang/invoke/MethodHandle" ∧ q.1.cls ≠ "java/lang/invoke/VarHandle") ∧ Cond.instantiable q.1.cls q.2 ∈ tables_1 ∧ Cond.privateMethod q.1 ∈ tables_1 ∧ Cond.instanceMethod q.1 ∈ tables_1
theorem tq_1 {w : Cond} (i : Nat) (h : tables_1_1[i]? = some w) : w ∈ tables_1 := by unfold tables_1; exact List.mem_append.mpr (Or.inl (List.mem_of_getElem? h))
theorem tq_2 {w : Cond} (i : Nat) (h : tables_1_2[i]? = some w) : w ∈ tables_1 := by unfold tables_1; exact List.mem_append.mpr (Or.inr (List.mem_append.mpr (Or.inl (List.mem_of_getElem? h))))
theorem tq_3 {w : Cond} (i : Nat) (h : tables_1_3[i]? = some w) : w ∈ tables_1 := by unfold tables_1; exact List.mem_append.mpr (Or.inr (List.mem_append.mpr (Or.inr (List.mem_append.mpr (Or.inl (List.mem_of_getElem? h))))))
theorem tq_4 {w : Cond} (i : Nat) (h : tables_1_4[i]? = some w) : w ∈ tables_1 := by unfold tables_1; exact List.mem_append.mpr (Or.inr (List.mem_append.mpr (Or.inr (List.mem_append.mpr (Or.inr (List.mem_append.mpr (Or.inl (List.mem_of_getElem? h))))))))
theorem tq_5 {w : Cond} (i : Nat) (h : tables_1_5[i]? = some w) : w ∈ tables_1 := by unfold tables_1; exact List.mem_append.mpr (Or.inr (List.mem_append.mpr (Or.inr (List.mem_append.mpr (Or.inr (List.mem_append.mpr (Or.inr (List.mem_append.mpr (Or.inl (List.mem_of_getElem? h))))))))))
theorem tq_6 {w : Cond} (i : Nat) (h : tables_1_6[i]? = some w) : w ∈ tables_1 := by unfold tables_1; exact List.mem_append.mpr (Or.inr (List.mem_append.mpr (Or.inr (List.mem_append.mpr (Or.inr (List.mem_append.mpr (Or.inr (List.mem_append.mpr (Or.inr (List.mem_append.mpr (Or.inl (List.mem_of_getElem? h))))))))))))
theorem tq_7 {w : Cond} (i : Nat) (h : tables_1_7[i]? = some w) : w ∈ tables_1 := by unfold tables_1; exact List.mem_append.mpr (Or.inr (List.mem_append.mpr (Or.inr (List.mem_append.mpr (Or.inr (List.mem_append.mpr (Or.inr (List.mem_append.mpr (Or.inr (List.mem_append.mpr (Or.inr (List.mem_append.mpr (Or.inl (List.mem_of_getElem? h))))))))))))))
theorem tq_8 {w : Cond} (i : Nat) (h : tables_1_8[i]? = some w) : w ∈ tables_1 := by unfold tables_1; exact List.mem_append.mpr (Or.inr (List.mem_append.mpr (Or.inr (List.mem_append.mpr (Or.inr (List.mem_append.mpr (Or.inr (List.mem_append.mpr (Or.inr (List.mem_append.mpr (Or.inr (List.mem_append.mpr (Or.inr (List.mem_append.mpr (Or.inl (List.mem_of_getElem? h))))))))))))))))
theorem tq_9 {w : Cond} (i : Nat) (h : tables_1_9[i]? = some w) : w ∈ tables_1 := by unfold tables_1; exact List.mem_append.mpr (Or.inr (List.mem_append.mpr (Or.inr (List.mem_append.mpr (Or.inr (List.mem_append.mpr (Or.inr (List.mem_append.mpr (Or.inr (List.mem_append.mpr (Or.inr (List.mem_append.mpr (Or.inr (List.mem_append.mpr (Or.inr (List.mem_of_getElem? h))))))))))))))))
theorem nc_0 : ("SealCouncil" : String) ≠ "java/lang/invoke/MethodHandle" ∧ ("SealCouncil" : String) ≠ "java/lang/invoke/VarHandle" := ⟨by decide +kernel, by decide +kernel⟩
theorem nc_1 : ("SealCouncil$Realm" : String) ≠ "java/lang/invoke/MethodHandle" ∧ ("SealCouncil$Realm" : String) ≠ "java/lang/invoke/VarHandle" := ⟨by decide +kernel, by decide +kernel⟩
theorem nc_2 : ("SealCouncil$Council" : String) ≠ "java/lang/invoke/MethodHandle" ∧ ("SealCouncil$Council" : String) ≠ "java/lang/invoke/VarHandle" := ⟨by decide +kernel, by decide +kernel⟩
theorem nc_3 : ("SealCouncil$Reader" : String) ≠ "java/lang/invoke/MethodHandle" ∧ ("SealCouncil$Reader" : String) ≠ "java/lang/invoke/VarHandle" := ⟨by decide +kernel, by decide +kernel⟩
theorem nc_4 : ("SealCouncil$Laws" : String) ≠ "java/lang/invoke/MethodHandle" ∧ ("SealCouncil$Laws" : String) ≠ "java/lang/invoke/VarHandle" := ⟨by decide +kernel, by decide +kernel⟩
theorem nc_5 : ("SealCouncil$Letters" : String) ≠ "java/lang/invoke/MethodHandle" ∧ ("SealCouncil$Letters" : String) ≠ "java/lang/invoke/VarHandle" := ⟨by decide +kernel, by decide +kernel⟩
theorem nc_6 : ("SealCouncil$Gates" : String) ≠ "java/lang/invoke/MethodHandle" ∧ ("SealCouncil$Gates" : String) ≠ "java/lang/invoke/VarHandle" := ⟨by decide +kernel, by decide +kernel⟩
theorem nc_7 : ("SealCouncil$Lineage" : String) ≠ "java/lang/invoke/MethodHandle" ∧ ("SealCouncil$Lineage" : String) ≠ "java/lang/invoke/VarHandle" := ⟨by decide +kernel, by decide +kernel⟩
theorem nc_8 : ("SealCouncil$Planner" : String) ≠ "java/lang/invoke/MethodHandle" ∧ ("SealCouncil$Planner" : String) ≠ "java/lang/invoke/VarHandle" := ⟨by decide +kernel, by decide +kernel⟩
theorem nc_9 : ("SealCouncil$Voices" : String) ≠ "java/lang/invoke/MethodHandle" ∧ ("SealCouncil$Voices" : String) ≠ "java/lang/invoke/VarHandle" := ⟨by decide +kernel, by decide +kernel⟩
theorem nc_10 : ("SealCouncilModel" : String) ≠ "java/lang/invoke/MethodHandle" ∧ ("SealCouncilModel" : String) ≠ "java/lang/invoke/VarHandle" := ⟨by decide +kernel, by decide +kernel⟩
theorem lw_p0 : lw_okq (⟨"SealCouncil", "told", "(I)I"⟩, 12) := ⟨nc_0, tq_1 24 rfl, tq_2 177 rfl, tq_2 178 rfl⟩
theorem lw_p1 : lw_okq (⟨"SealCouncil$Realm", "findSteps", "()V"⟩, 15) := ⟨nc_1, tq_1 32 rfl, tq_2 230 rfl, tq_2 231 rfl⟩
theorem lw_p2 : lw_okq (⟨"SealCouncil$Realm", "bringNearer", "(II)V"⟩, 15) := ⟨nc_1, tq_1 32 rfl, tq_2 234 rfl, tq_2 235 rfl⟩
theorem lw_p3 : lw_okq (⟨"SealCouncil$Council", "endAllOf", "(II)I"⟩, 9) := ⟨nc_2, tq_1 198 rfl, tq_3 12 rfl, tq_3 13 rfl⟩
theorem lw_p4 : lw_okq (⟨"SealCouncil$Reader", "readText", "(I)V"⟩, 4) := ⟨nc_3, tq_1 163 rfl, tq_3 166 rfl, tq_3 167 rfl⟩
theorem lw_p5 : lw_okq (⟨"SealCouncil$Reader", "readConjunction", "(I)V"⟩, 4) := ⟨nc_3, tq_1 163 rfl, tq_3 170 rfl, tq_3 171 rfl⟩
theorem lw_p6 : lw_okq (⟨"SealCouncil$Reader", "readComparison", "(I)V"⟩, 4) := ⟨nc_3, tq_1 163 rfl, tq_3 174 rfl, tq_3 175 rfl⟩
theorem lw_p7 : lw_okq (⟨"SealCouncil$Reader", "readSum", "(I)V"⟩, 4) := ⟨nc_3, tq_1 163 rfl, tq_3 178 rfl, tq_3 179 rfl⟩
theorem lw_p8 : lw_okq (⟨"SealCouncil$Reader", "readPart", "(I)V"⟩, 4) := ⟨nc_3, tq_1 163 rfl, tq_3 182 rfl, tq_3 183 rfl⟩
theorem lw_p9 : lw_okq (⟨"SealCouncil$Reader", "next", "()I"⟩, 4) := ⟨nc_3, tq_1 163 rfl, tq_3 186 rfl, tq_3 187 rfl⟩
theorem lw_p10 : lw_okq (⟨"SealCouncil$Reader", "readNumber", "()V"⟩, 4) := ⟨nc_3, tq_1 163 rfl, tq_4 38 rfl, tq_4 39 rfl⟩
theorem lw_p11 : lw_okq (⟨"SealCouncil$Reader", "readClosing", "()V"⟩, 4) := ⟨nc_3, tq_1 163 rfl, tq_4 43 rfl, tq_4 44 rfl⟩
theorem lw_p12 : lw_okq (⟨"SealCouncil$Reader", "fail", "()V"⟩, 4) := ⟨nc_3, tq_1 163 rfl, tq_4 47 rfl, tq_4 48 rfl⟩
theorem lw_p13 : lw_okq (⟨"SealCouncil$Laws", "push", "(I)V"⟩, 4) := ⟨nc_4, tq_1 157 rfl, tq_4 87 rfl, tq_4 88 rfl⟩
theorem lw_p14 : lw_okq (⟨"SealCouncil$Laws", "named", "(IIII)I"⟩, 4) := ⟨nc_4, tq_1 157 rfl, tq_4 91 rfl, tq_4 92 rfl⟩
theorem lw_p15 : lw_okq (⟨"SealCouncil$Laws", "pop", "()I"⟩, 4) := ⟨nc_4, tq_1 157 rfl, tq_4 105 rfl, tq_4 106 rfl⟩
def lw_privs_1 : List (MethodName × Nat) := [(⟨"SealCouncil", "told", "(I)I"⟩, 12), (⟨"SealCouncil$Realm", "findSteps", "()V"⟩, 15), (⟨"SealCouncil$Realm", "bringNearer", "(II)V"⟩, 15), (⟨"SealCouncil$Council", "endAllOf", "(II)I"⟩, 9), (⟨"SealCouncil$Reader", "readText", "(I)V"⟩, 4), (⟨"SealCouncil$Reader", "readConjunction", "(I)V"⟩, 4), (⟨"SealCouncil$Reader", "readComparison", "(I)V"⟩, 4), (⟨"SealCouncil$Reader", "readSum", "(I)V"⟩, 4), (⟨"SealCouncil$Reader", "readPart", "(I)V"⟩, 4), (⟨"SealCouncil$Reader", "next", "()I"⟩, 4), (⟨"SealCouncil$Reader", "readNumber", "()V"⟩, 4), (⟨"SealCouncil$Reader", "readClosing", "()V"⟩, 4), (⟨"SealCouncil$Reader", "fail", "()V"⟩, 4), (⟨"SealCouncil$Laws", "push", "(I)V"⟩, 4), (⟨"SealCouncil$Laws", "named", "(IIII)I"⟩, 4), (⟨"SealCouncil$Laws", "pop", "()I"⟩, 4)]
theorem lw_r1 : ∀ q ∈ lw_privs_1, lw_okq q := List.forall_mem_cons.mpr ⟨lw_p0, List.forall_mem_cons.mpr ⟨lw_p1, List.forall_mem_cons.mpr ⟨lw_p2, List.forall_mem_cons.mpr ⟨lw_p3, List.forall_mem_cons.mpr ⟨lw_p4, List.forall_mem_cons.mpr ⟨lw_p5, List.forall_mem_cons.mpr ⟨lw_p6, List.forall_mem_cons.mpr ⟨lw_p7, List.forall_mem_cons.mpr ⟨lw_p8, List.forall_mem_cons.mpr ⟨lw_p9, List.forall_mem_cons.mpr ⟨lw_p10, List.forall_mem_cons.mpr ⟨lw_p11, List.forall_mem_cons.mpr ⟨lw_p12, List.forall_mem_cons.mpr ⟨lw_p13, List.forall_mem_cons.mpr ⟨lw_p14, List.forall_mem_cons.mpr ⟨lw_p15, fun _ h => absurd h List.not_mem_nil⟩⟩⟩⟩⟩⟩⟩⟩⟩⟩⟩⟩⟩⟩⟩⟩
theorem lw_p16 : lw_okq (⟨"SealCouncil$Letters", "isSent", "(I)Z"⟩, 4) := ⟨nc_5, tq_1 238 rfl, tq_4 136 rfl, tq_4 137 rfl⟩
theorem lw_p17 : lw_okq (⟨"SealCouncil$Letters", "handsWith", "(I)I"⟩, 4) := ⟨nc_5, tq_1 238 rfl, tq_4 142 rfl, tq_4 143 rfl⟩
theorem lw_p18 : lw_okq (⟨"SealCouncil$Letters", "carryOutSort", "(III)I"⟩, 4) := ⟨nc_5, tq_1 238 rfl, tq_4 183 rfl, tq_4 184 rfl⟩
theorem lw_p19 : lw_okq (⟨"SealCouncil$Letters", "sendAway", "(II)I"⟩, 4) := ⟨nc_5, tq_1 238 rfl, tq_4 188 rfl, tq_4 189 rfl⟩
theorem lw_p20 : lw_okq (⟨"SealCouncil$Letters", "strikeFor", "(I)I"⟩, 4) := ⟨nc_5, tq_1 238 rfl, tq_4 195 rfl, tq_4 196 rfl⟩
theorem lw_p21 : lw_okq (⟨"SealCouncil$Realm", "bringTravellers", "()V"⟩, 15) := ⟨nc_1, tq_1 32 rfl, tq_4 217 rfl, tq_4 218 rfl⟩
theorem lw_p22 : lw_okq (⟨"SealCouncil$Realm", "takeBackLent", "()V"⟩, 15) := ⟨nc_1, tq_1 32 rfl, tq_4 221 rfl, tq_4 222 rfl⟩
theorem lw_p23 : lw_okq (⟨"SealCouncil$Realm", "collectRents", "()V"⟩, 15) := ⟨nc_1, tq_1 32 rfl, tq_4 225 rfl, tq_4 226 rfl⟩
theorem lw_p24 : lw_okq (⟨"SealCouncil$Realm", "payMen", "()V"⟩, 15) := ⟨nc_1, tq_1 32 rfl, tq_4 229 rfl, tq_4 230 rfl⟩
theorem lw_p25 : lw_okq (⟨"SealCouncil$Realm", "serveDebts", "()V"⟩, 15) := ⟨nc_1, tq_1 32 rfl, tq_4 233 rfl, tq_4 234 rfl⟩
theorem lw_p26 : lw_okq (⟨"SealCouncil$Realm", "missOnce", "(I)V"⟩, 15) := ⟨nc_1, tq_1 32 rfl, tq_4 238 rfl, tq_4 239 rfl⟩
theorem lw_p27 : lw_okq (⟨"SealCouncil", "takeRents", "(II)I"⟩, 12) := ⟨nc_0, tq_1 24 rfl, tq_5 47 rfl, tq_5 48 rfl⟩
theorem lw_p28 : lw_okq (⟨"SealCouncil$Council", "ruleInForce", "()I"⟩, 9) := ⟨nc_2, tq_1 198 rfl, tq_5 96 rfl, tq_5 97 rfl⟩
theorem lw_p29 : lw_okq (⟨"SealCouncil$Council", "weightOf", "(II)I"⟩, 9) := ⟨nc_2, tq_1 198 rfl, tq_5 102 rfl, tq_5 103 rfl⟩
theorem lw_p30 : lw_okq (⟨"SealCouncil$Council", "weighOne", "(III)V"⟩, 9) := ⟨nc_2, tq_1 198 rfl, tq_5 108 rfl, tq_5 109 rfl⟩
theorem lw_p31 : lw_okq (⟨"SealCouncil$Council", "isPromisedFor", "(II)Z"⟩, 9) := ⟨nc_2, tq_1 198 rfl, tq_5 112 rfl, tq_5 113 rfl⟩
def lw_privs_2 : List (MethodName × Nat) := [(⟨"SealCouncil$Letters", "isSent", "(I)Z"⟩, 4), (⟨"SealCouncil$Letters", "handsWith", "(I)I"⟩, 4), (⟨"SealCouncil$Letters", "carryOutSort", "(III)I"⟩, 4), (⟨"SealCouncil$Letters", "sendAway", "(II)I"⟩, 4), (⟨"SealCouncil$Letters", "strikeFor", "(I)I"⟩, 4), (⟨"SealCouncil$Realm", "bringTravellers", "()V"⟩, 15), (⟨"SealCouncil$Realm", "takeBackLent", "()V"⟩, 15), (⟨"SealCouncil$Realm", "collectRents", "()V"⟩, 15), (⟨"SealCouncil$Realm", "payMen", "()V"⟩, 15), (⟨"SealCouncil$Realm", "serveDebts", "()V"⟩, 15), (⟨"SealCouncil$Realm", "missOnce", "(I)V"⟩, 15), (⟨"SealCouncil", "takeRents", "(II)I"⟩, 12), (⟨"SealCouncil$Council", "ruleInForce", "()I"⟩, 9), (⟨"SealCouncil$Council", "weightOf", "(II)I"⟩, 9), (⟨"SealCouncil$Council", "weighOne", "(III)V"⟩, 9), (⟨"SealCouncil$Council", "isPromisedFor", "(II)Z"⟩, 9)]
theorem lw_r2 : ∀ q ∈ lw_privs_2, lw_okq q := List.forall_mem_cons.mpr ⟨lw_p16, List.forall_mem_cons.mpr ⟨lw_p17, List.forall_mem_cons.mpr ⟨lw_p18, List.forall_mem_cons.mpr ⟨lw_p19, List.forall_mem_cons.mpr ⟨lw_p20, List.forall_mem_cons.mpr ⟨lw_p21, List.forall_mem_cons.mpr ⟨lw_p22, List.forall_mem_cons.mpr ⟨lw_p23, List.forall_mem_cons.mpr ⟨lw_p24, List.forall_mem_cons.mpr ⟨lw_p25, List.forall_mem_cons.mpr ⟨lw_p26, List.forall_mem_cons.mpr ⟨lw_p27, List.forall_mem_cons.mpr ⟨lw_p28, List.forall_mem_cons.mpr ⟨lw_p29, List.forall_mem_cons.mpr ⟨lw_p30, List.forall_mem_cons.mpr ⟨lw_p31, fun _ h => absurd h List.not_mem_nil⟩⟩⟩⟩⟩⟩⟩⟩⟩⟩⟩⟩⟩⟩⟩⟩
theorem lw_p32 : lw_okq (⟨"SealCouncil$Council", "choose", "(IIII)V"⟩, 9) := ⟨nc_2, tq_1 198 rfl, tq_5 134 rfl, tq_5 135 rfl⟩
theorem lw_p33 : lw_okq (⟨"SealCouncil$Council", "keepIfBetter", "(II)V"⟩, 9) := ⟨nc_2, tq_1 198 rfl, tq_5 139 rfl, tq_5 140 rfl⟩
theorem lw_p34 : lw_okq (⟨"SealCouncil$Gates", "winsWithin", "(III)Z"⟩, 3) := ⟨nc_6, tq_2 35 rfl, tq_5 158 rfl, tq_5 159 rfl⟩
theorem lw_p35 : lw_okq (⟨"SealCouncil$Gates", "winsByTaking", "(III)Z"⟩, 3) := ⟨nc_6, tq_2 35 rfl, tq_5 162 rfl, tq_5 163 rfl⟩
theorem lw_p36 : lw_okq (⟨"SealCouncil$Gates", "winsWhatever", "(III)Z"⟩, 3) := ⟨nc_6, tq_2 35 rfl, tq_5 166 rfl, tq_5 167 rfl⟩
theorem lw_p37 : lw_okq (⟨"SealCouncil$Gates", "winsDespite", "(IIIII)Z"⟩, 3) := ⟨nc_6, tq_2 35 rfl, tq_5 172 rfl, tq_5 173 rfl⟩
theorem lw_p38 : lw_okq (⟨"SealCouncil$Gates", "winsByWaiting", "(III)Z"⟩, 3) := ⟨nc_6, tq_2 35 rfl, tq_5 176 rfl, tq_5 177 rfl⟩
theorem lw_p39 : lw_okq (⟨"SealCouncil$Lineage", "isFollower", "(I)Z"⟩, 3) := ⟨nc_7, tq_2 17 rfl, tq_5 192 rfl, tq_5 193 rfl⟩
theorem lw_p40 : lw_okq (⟨"SealCouncil$Lineage", "enqueue", "(I)V"⟩, 3) := ⟨nc_7, tq_2 17 rfl, tq_5 199 rfl, tq_5 200 rfl⟩
theorem lw_p41 : lw_okq (⟨"SealCouncil$Lineage", "isAhead", "(II)Z"⟩, 3) := ⟨nc_7, tq_2 17 rfl, tq_5 204 rfl, tq_5 205 rfl⟩
theorem lw_p42 : lw_okq (⟨"SealCouncil$Planner", "rentsBut", "(I)I"⟩, 7) := ⟨nc_8, tq_2 51 rfl, tq_6 10 rfl, tq_6 11 rfl⟩
theorem lw_p43 : lw_okq (⟨"SealCouncil$Planner", "leftBy", "(III)I"⟩, 7) := ⟨nc_8, tq_2 51 rfl, tq_6 18 rfl, tq_6 19 rfl⟩
theorem lw_p44 : lw_okq (⟨"SealCouncil$Voices", "actOf", "(II)I"⟩, 5) := ⟨nc_9, tq_2 80 rfl, tq_6 46 rfl, tq_6 47 rfl⟩
theorem lw_p45 : lw_okq (⟨"SealCouncil$Voices", "note", "(I)V"⟩, 5) := ⟨nc_9, tq_2 80 rfl, tq_6 50 rfl, tq_6 51 rfl⟩
theorem lw_p46 : lw_okq (⟨"SealCouncil$Voices", "bindOf", "(II)I"⟩, 5) := ⟨nc_9, tq_2 80 rfl, tq_6 54 rfl, tq_6 55 rfl⟩
theorem lw_p47 : lw_okq (⟨"SealCouncil$Voices", "rankOf", "(II)I"⟩, 5) := ⟨nc_9, tq_2 80 rfl, tq_6 58 rfl, tq_6 59 rfl⟩
def lw_privs_3 : List (MethodName × Nat) := [(⟨"SealCouncil$Council", "choose", "(IIII)V"⟩, 9), (⟨"SealCouncil$Council", "keepIfBetter", "(II)V"⟩, 9), (⟨"SealCouncil$Gates", "winsWithin", "(III)Z"⟩, 3), (⟨"SealCouncil$Gates", "winsByTaking", "(III)Z"⟩, 3), (⟨"SealCouncil$Gates", "winsWhatever", "(III)Z"⟩, 3), (⟨"SealCouncil$Gates", "winsDespite", "(IIIII)Z"⟩, 3), (⟨"SealCouncil$Gates", "winsByWaiting", "(III)Z"⟩, 3), (⟨"SealCouncil$Lineage", "isFollower", "(I)Z"⟩, 3), (⟨"SealCouncil$Lineage", "enqueue", "(I)V"⟩, 3), (⟨"SealCouncil$Lineage", "isAhead", "(II)Z"⟩, 3), (⟨"SealCouncil$Planner", "rentsBut", "(I)I"⟩, 7), (⟨"SealCouncil$Planner", "leftBy", "(III)I"⟩, 7), (⟨"SealCouncil$Voices", "actOf", "(II)I"⟩, 5), (⟨"SealCouncil$Voices", "note", "(I)V"⟩, 5), (⟨"SealCouncil$Voices", "bindOf", "(II)I"⟩, 5), (⟨"SealCouncil$Voices", "rankOf", "(II)I"⟩, 5)]
theorem lw_r3 : ∀ q ∈ lw_privs_3, lw_okq q := List.forall_mem_cons.mpr ⟨lw_p32, List.forall_mem_cons.mpr ⟨lw_p33, List.forall_mem_cons.mpr ⟨lw_p34, List.forall_mem_cons.mpr ⟨lw_p35, List.forall_mem_cons.mpr ⟨lw_p36, List.forall_mem_cons.mpr ⟨lw_p37, List.forall_mem_cons.mpr ⟨lw_p38, List.forall_mem_cons.mpr ⟨lw_p39, List.forall_mem_cons.mpr ⟨lw_p40, List.forall_mem_cons.mpr ⟨lw_p41, List.forall_mem_cons.mpr ⟨lw_p42, List.forall_mem_cons.mpr ⟨lw_p43, List.forall_mem_cons.mpr ⟨lw_p44, List.forall_mem_cons.mpr ⟨lw_p45, List.forall_mem_cons.mpr ⟨lw_p46, List.forall_mem_cons.mpr ⟨lw_p47, fun _ h => absurd h List.not_mem_nil⟩⟩⟩⟩⟩⟩⟩⟩⟩⟩⟩⟩⟩⟩⟩⟩
theorem lw_p48 : lw_okq (⟨"SealCouncil$Voices", "tellOf", "(II)I"⟩, 5) := ⟨nc_9, tq_2 80 rfl, tq_6 62 rfl, tq_6 63 rfl⟩
theorem lw_p49 : lw_okq (⟨"SealCouncilModel", "finds", "(I)I"⟩, 27) := ⟨nc_10, tq_6 155 rfl, tq_7 7 rfl, tq_7 8 rfl⟩
theorem lw_p50 : lw_okq (⟨"SealCouncilModel", "isTown", "(I)Z"⟩, 27) := ⟨nc_10, tq_6 155 rfl, tq_7 16 rfl, tq_7 17 rfl⟩
theorem lw_p51 : lw_okq (⟨"SealCouncilModel", "farOf", "(II)I"⟩, 27) := ⟨nc_10, tq_6 155 rfl, tq_7 27 rfl, tq_7 28 rfl⟩
theorem lw_p52 : lw_okq (⟨"SealCouncilModel", "findDays", "(I)V"⟩, 27) := ⟨nc_10, tq_6 155 rfl, tq_7 31 rfl, tq_7 32 rfl⟩
theorem lw_p53 : lw_okq (⟨"SealCouncilModel", "isParent", "(III)Z"⟩, 27) := ⟨nc_10, tq_6 155 rfl, tq_7 39 rfl, tq_7 40 rfl⟩
theorem lw_p54 : lw_okq (⟨"SealCouncilModel", "isPerson", "(I)Z"⟩, 27) := ⟨nc_10, tq_6 155 rfl, tq_7 43 rfl, tq_7 44 rfl⟩
theorem lw_p55 : lw_okq (⟨"SealCouncilModel", "man", "(II)I"⟩, 27) := ⟨nc_10, tq_6 155 rfl, tq_7 47 rfl, tq_7 48 rfl⟩
theorem lw_p56 : lw_okq (⟨"SealCouncilModel", "sets", "(III)V"⟩, 27) := ⟨nc_10, tq_6 155 rfl, tq_7 51 rfl, tq_7 52 rfl⟩
theorem lw_p57 : lw_okq (⟨"SealCouncilModel", "lives", "(I)Z"⟩, 27) := ⟨nc_10, tq_6 155 rfl, tq_7 59 rfl, tq_7 60 rfl⟩
theorem lw_p58 : lw_okq (⟨"SealCouncilModel", "knownTo", "(I)I"⟩, 27) := ⟨nc_10, tq_6 155 rfl, tq_7 63 rfl, tq_7 64 rfl⟩
theorem lw_p59 : lw_okq (⟨"SealCouncilModel", "leaves", "(I)V"⟩, 27) := ⟨nc_10, tq_6 155 rfl, tq_7 67 rfl, tq_7 68 rfl⟩
theorem lw_p60 : lw_okq (⟨"SealCouncilModel", "promised", "(II)I"⟩, 27) := ⟨nc_10, tq_6 155 rfl, tq_7 71 rfl, tq_7 72 rfl⟩
theorem lw_p61 : lw_okq (⟨"SealCouncilModel", "its", "(II)I"⟩, 27) := ⟨nc_10, tq_6 155 rfl, tq_7 75 rfl, tq_7 76 rfl⟩
theorem lw_p62 : lw_okq (⟨"SealCouncilModel", "makes", "(III)V"⟩, 27) := ⟨nc_10, tq_6 155 rfl, tq_7 79 rfl, tq_7 80 rfl⟩
theorem lw_p63 : lw_okq (⟨"SealCouncilModel", "comesBack", "(I)V"⟩, 27) := ⟨nc_10, tq_6 155 rfl, tq_7 83 rfl, tq_7 84 rfl⟩
def lw_privs_4 : List (MethodName × Nat) := [(⟨"SealCouncil$Voices", "tellOf", "(II)I"⟩, 5), (⟨"SealCouncilModel", "finds", "(I)I"⟩, 27), (⟨"SealCouncilModel", "isTown", "(I)Z"⟩, 27), (⟨"SealCouncilModel", "farOf", "(II)I"⟩, 27), (⟨"SealCouncilModel", "findDays", "(I)V"⟩, 27), (⟨"SealCouncilModel", "isParent", "(III)Z"⟩, 27), (⟨"SealCouncilModel", "isPerson", "(I)Z"⟩, 27), (⟨"SealCouncilModel", "man", "(II)I"⟩, 27), (⟨"SealCouncilModel", "sets", "(III)V"⟩, 27), (⟨"SealCouncilModel", "lives", "(I)Z"⟩, 27), (⟨"SealCouncilModel", "knownTo", "(I)I"⟩, 27), (⟨"SealCouncilModel", "leaves", "(I)V"⟩, 27), (⟨"SealCouncilModel", "promised", "(II)I"⟩, 27), (⟨"SealCouncilModel", "its", "(II)I"⟩, 27), (⟨"SealCouncilModel", "makes", "(III)V"⟩, 27), (⟨"SealCouncilModel", "comesBack", "(I)V"⟩, 27)]
theorem lw_r4 : ∀ q ∈ lw_privs_4, lw_okq q := List.forall_mem_cons.mpr ⟨lw_p48, List.forall_mem_cons.mpr ⟨lw_p49, List.forall_mem_cons.mpr ⟨lw_p50, List.forall_mem_cons.mpr ⟨lw_p51, List.forall_mem_cons.mpr ⟨lw_p52, List.forall_mem_cons.mpr ⟨lw_p53, List.forall_mem_cons.mpr ⟨lw_p54, List.forall_mem_cons.mpr ⟨lw_p55, List.forall_mem_cons.mpr ⟨lw_p56, List.forall_mem_cons.mpr ⟨lw_p57, List.forall_mem_cons.mpr ⟨lw_p58, List.forall_mem_cons.mpr ⟨lw_p59, List.forall_mem_cons.mpr ⟨lw_p60, List.forall_mem_cons.mpr ⟨lw_p61, List.forall_mem_cons.mpr ⟨lw_p62, List.forall_mem_cons.mpr ⟨lw_p63, fun _ h => absurd h List.not_mem_nil⟩⟩⟩⟩⟩⟩⟩⟩⟩⟩⟩⟩⟩⟩⟩⟩
theorem lw_p64 : lw_okq (⟨"SealCouncilModel", "goes", "(II)I"⟩, 27) := ⟨nc_10, tq_6 155 rfl, tq_7 91 rfl, tq_7 92 rfl⟩
theorem lw_p65 : lw_okq (⟨"SealCouncilModel", "holdsMany", "(I)I"⟩, 27) := ⟨nc_10, tq_6 155 rfl, tq_7 99 rfl, tq_7 100 rfl⟩
theorem lw_p66 : lw_okq (⟨"SealCouncilModel", "stepsOf", "(I)I"⟩, 27) := ⟨nc_10, tq_6 155 rfl, tq_7 103 rfl, tq_7 104 rfl⟩
theorem lw_p67 : lw_okq (⟨"SealCouncilModel", "newPower", "(IIII)I"⟩, 27) := ⟨nc_10, tq_6 155 rfl, tq_7 119 rfl, tq_7 120 rfl⟩
theorem lw_p68 : lw_okq (⟨"SealCouncilModel", "isPower", "(I)Z"⟩, 27) := ⟨nc_10, tq_6 155 rfl, tq_7 127 rfl, tq_7 128 rfl⟩
theorem lw_p69 : lw_okq (⟨"SealCouncilModel", "whoHas", "(I)I"⟩, 27) := ⟨nc_10, tq_6 155 rfl, tq_7 138 rfl, tq_7 139 rfl⟩
theorem lw_p70 : lw_okq (⟨"SealCouncilModel", "reads", "()Z"⟩, 27) := ⟨nc_10, tq_6 155 rfl, tq_7 166 rfl, tq_7 167 rfl⟩
theorem lw_p71 : lw_okq (⟨"SealCouncilModel", "byteAt", "(I)I"⟩, 27) := ⟨nc_10, tq_6 155 rfl, tq_7 170 rfl, tq_7 171 rfl⟩
theorem lw_p72 : lw_okq (⟨"SealCouncilModel", "readsOne", "()I"⟩, 27) := ⟨nc_10, tq_6 155 rfl, tq_7 174 rfl, tq_7 175 rfl⟩
theorem lw_p73 : lw_okq (⟨"SealCouncilModel", "openMany", "()I"⟩, 27) := ⟨nc_10, tq_6 155 rfl, tq_7 178 rfl, tq_7 179 rfl⟩
theorem lw_p74 : lw_okq (⟨"SealCouncilModel", "lays", "(I)V"⟩, 27) := ⟨nc_10, tq_6 155 rfl, tq_7 185 rfl, tq_7 186 rfl⟩
theorem lw_p75 : lw_okq (⟨"SealCouncilModel", "settles", "(I)V"⟩, 27) := ⟨nc_10, tq_6 155 rfl, tq_7 192 rfl, tq_7 193 rfl⟩
theorem lw_p76 : lw_okq (⟨"SealCouncilModel", "hasOpen", "()Z"⟩, 27) := ⟨nc_10, tq_6 155 rfl, tq_7 199 rfl, tq_7 200 rfl⟩
theorem lw_p77 : lw_okq (⟨"SealCouncilModel", "isTested", "()Z"⟩, 27) := ⟨nc_10, tq_6 155 rfl, tq_7 203 rfl, tq_7 204 rfl⟩
theorem lw_p78 : lw_okq (⟨"SealCouncilModel", "isLaw", "(I)Z"⟩, 27) := ⟨nc_10, tq_6 155 rfl, tq_7 211 rfl, tq_7 212 rfl⟩
theorem lw_p79 : lw_okq (⟨"SealCouncilModel", "inForce", "(III)I"⟩, 27) := ⟨nc_10, tq_6 155 rfl, tq_7 219 rfl, tq_7 220 rfl⟩
def lw_privs_5 : List (MethodName × Nat) := [(⟨"SealCouncilModel", "goes", "(II)I"⟩, 27), (⟨"SealCouncilModel", "holdsMany", "(I)I"⟩, 27), (⟨"SealCouncilModel", "stepsOf", "(I)I"⟩, 27), (⟨"SealCouncilModel", "newPower", "(IIII)I"⟩, 27), (⟨"SealCouncilModel", "isPower", "(I)Z"⟩, 27), (⟨"SealCouncilModel", "whoHas", "(I)I"⟩, 27), (⟨"SealCouncilModel", "reads", "()Z"⟩, 27), (⟨"SealCouncilModel", "byteAt", "(I)I"⟩, 27), (⟨"SealCouncilModel", "readsOne", "()I"⟩, 27), (⟨"SealCouncilModel", "openMany", "()I"⟩, 27), (⟨"SealCouncilModel", "lays", "(I)V"⟩, 27), (⟨"SealCouncilModel", "settles", "(I)V"⟩, 27), (⟨"SealCouncilModel", "hasOpen", "()Z"⟩, 27), (⟨"SealCouncilModel", "isTested", "()Z"⟩, 27), (⟨"SealCouncilModel", "isLaw", "(I)Z"⟩, 27), (⟨"SealCouncilModel", "inForce", "(III)I"⟩, 27)]
theorem lw_r5 : ∀ q ∈ lw_privs_5, lw_okq q := List.forall_mem_cons.mpr ⟨lw_p64, List.forall_mem_cons.mpr ⟨lw_p65, List.forall_mem_cons.mpr ⟨lw_p66, List.forall_mem_cons.mpr ⟨lw_p67, List.forall_mem_cons.mpr ⟨lw_p68, List.forall_mem_cons.mpr ⟨lw_p69, List.forall_mem_cons.mpr ⟨lw_p70, List.forall_mem_cons.mpr ⟨lw_p71, List.forall_mem_cons.mpr ⟨lw_p72, List.forall_mem_cons.mpr ⟨lw_p73, List.forall_mem_cons.mpr ⟨lw_p74, List.forall_mem_cons.mpr ⟨lw_p75, List.forall_mem_cons.mpr ⟨lw_p76, List.forall_mem_cons.mpr ⟨lw_p77, List.forall_mem_cons.mpr ⟨lw_p78, List.forall_mem_cons.mpr ⟨lw_p79, fun _ h => absurd h List.not_mem_nil⟩⟩⟩⟩⟩⟩⟩⟩⟩⟩⟩⟩⟩⟩⟩⟩
theorem lw_p80 : lw_okq (⟨"SealCouncilModel", "isLetter", "(I)Z"⟩, 27) := ⟨nc_10, tq_6 155 rfl, tq_7 227 rfl, tq_7 228 rfl⟩
theorem lw_p81 : lw_okq (⟨"SealCouncilModel", "comesTo", "(IIII)I"⟩, 27) := ⟨nc_10, tq_6 155 rfl, tq_7 231 rfl, tq_7 232 rfl⟩
theorem lw_p82 : lw_okq (⟨"SealCouncilModel", "setNames", "(III)V"⟩, 27) := ⟨nc_10, tq_6 155 rfl, tq_7 235 rfl, tq_7 236 rfl⟩
theorem lw_p83 : lw_okq (⟨"SealCouncilModel", "of", "(II)I"⟩, 27) := ⟨nc_10, tq_6 155 rfl, tq_7 239 rfl, tq_8 0 rfl⟩
theorem lw_p84 : lw_okq (⟨"SealCouncilModel", "writes", "(III)V"⟩, 27) := ⟨nc_10, tq_6 155 rfl, tq_8 13 rfl, tq_8 14 rfl⟩
theorem lw_p85 : lw_okq (⟨"SealCouncilModel", "thoseIn", "(I)I"⟩, 27) := ⟨nc_10, tq_6 155 rfl, tq_8 17 rfl, tq_8 18 rfl⟩
theorem lw_p86 : lw_okq (⟨"SealCouncilModel", "cannot", "(I)Z"⟩, 27) := ⟨nc_10, tq_6 155 rfl, tq_8 37 rfl, tq_8 38 rfl⟩
theorem lw_p87 : lw_okq (⟨"SealCouncilModel", "obeys", "(I)I"⟩, 27) := ⟨nc_10, tq_6 155 rfl, tq_8 41 rfl, tq_8 42 rfl⟩
theorem lw_p88 : lw_okq (⟨"SealCouncilModel", "stands", "(I)Z"⟩, 27) := ⟨nc_10, tq_6 155 rfl, tq_8 45 rfl, tq_8 46 rfl⟩
theorem lw_p89 : lw_okq (⟨"SealCouncilModel", "quarter", "()V"⟩, 27) := ⟨nc_10, tq_6 155 rfl, tq_8 57 rfl, tq_8 58 rfl⟩
theorem lw_p90 : lw_okq (⟨"SealCouncilModel", "seatedMany", "()I"⟩, 27) := ⟨nc_10, tq_6 155 rfl, tq_8 90 rfl, tq_8 91 rfl⟩
theorem lw_p91 : lw_okq (⟨"SealCouncilModel", "weigh", "(I)V"⟩, 27) := ⟨nc_10, tq_6 155 rfl, tq_8 106 rfl, tq_8 107 rfl⟩
theorem lw_p92 : lw_okq (⟨"SealCouncilModel", "weightOf", "(Z)I"⟩, 27) := ⟨nc_10, tq_6 155 rfl, tq_8 110 rfl, tq_8 111 rfl⟩
theorem lw_p93 : lw_okq (⟨"SealCouncilModel", "canTake", "(III)Z"⟩, 27) := ⟨nc_10, tq_6 155 rfl, tq_8 130 rfl, tq_8 131 rfl⟩
theorem lw_p94 : lw_okq (⟨"SealCouncilModel", "winsBy", "(IIIII)Z"⟩, 27) := ⟨nc_10, tq_6 155 rfl, tq_8 137 rfl, tq_8 138 rfl⟩
theorem lw_p95 : lw_okq (⟨"SealCouncilModel", "wins", "(IIII)Z"⟩, 27) := ⟨nc_10, tq_6 155 rfl, tq_8 141 rfl, tq_8 142 rfl⟩
def lw_privs_6 : List (MethodName × Nat) := [(⟨"SealCouncilModel", "isLetter", "(I)Z"⟩, 27), (⟨"SealCouncilModel", "comesTo", "(IIII)I"⟩, 27), (⟨"SealCouncilModel", "setNames", "(III)V"⟩, 27), (⟨"SealCouncilModel", "of", "(II)I"⟩, 27), (⟨"SealCouncilModel", "writes", "(III)V"⟩, 27), (⟨"SealCouncilModel", "thoseIn", "(I)I"⟩, 27), (⟨"SealCouncilModel", "cannot", "(I)Z"⟩, 27), (⟨"SealCouncilModel", "obeys", "(I)I"⟩, 27), (⟨"SealCouncilModel", "stands", "(I)Z"⟩, 27), (⟨"SealCouncilModel", "quarter", "()V"⟩, 27), (⟨"SealCouncilModel", "seatedMany", "()I"⟩, 27), (⟨"SealCouncilModel", "weigh", "(I)V"⟩, 27), (⟨"SealCouncilModel", "weightOf", "(Z)I"⟩, 27), (⟨"SealCouncilModel", "canTake", "(III)Z"⟩, 27), (⟨"SealCouncilModel", "winsBy", "(IIIII)Z"⟩, 27), (⟨"SealCouncilModel", "wins", "(IIII)Z"⟩, 27)]
theorem lw_r6 : ∀ q ∈ lw_privs_6, lw_okq q := List.forall_mem_cons.mpr ⟨lw_p80, List.forall_mem_cons.mpr ⟨lw_p81, List.forall_mem_cons.mpr ⟨lw_p82, List.forall_mem_cons.mpr ⟨lw_p83, List.forall_mem_cons.mpr ⟨lw_p84, List.forall_mem_cons.mpr ⟨lw_p85, List.forall_mem_cons.mpr ⟨lw_p86, List.forall_mem_cons.mpr ⟨lw_p87, List.forall_mem_cons.mpr ⟨lw_p88, List.forall_mem_cons.mpr ⟨lw_p89, List.forall_mem_cons.mpr ⟨lw_p90, List.forall_mem_cons.mpr ⟨lw_p91, List.forall_mem_cons.mpr ⟨lw_p92, List.forall_mem_cons.mpr ⟨lw_p93, List.forall_mem_cons.mpr ⟨lw_p94, List.forall_mem_cons.mpr ⟨lw_p95, fun _ h => absurd h List.not_mem_nil⟩⟩⟩⟩⟩⟩⟩⟩⟩⟩⟩⟩⟩⟩⟩⟩
theorem lw_p96 : lw_okq (⟨"SealCouncilModel", "ageDay", "()I"⟩, 27) := ⟨nc_10, tq_6 155 rfl, tq_8 153 rfl, tq_8 154 rfl⟩
theorem lw_p97 : lw_okq (⟨"SealCouncilModel", "plans", "(III)V"⟩, 27) := ⟨nc_10, tq_6 155 rfl, tq_8 165 rfl, tq_8 166 rfl⟩
theorem lw_p98 : lw_okq (⟨"SealCouncilModel", "actsOf", "(II)I"⟩, 27) := ⟨nc_10, tq_6 155 rfl, tq_8 173 rfl, tq_8 174 rfl⟩
theorem lw_p99 : lw_okq (⟨"SealCouncilModel", "actsOffice", "(II)I"⟩, 27) := ⟨nc_10, tq_6 155 rfl, tq_8 177 rfl, tq_8 178 rfl⟩
theorem lw_p100 : lw_okq (⟨"SealCouncilModel", "ran", "(I)V"⟩, 27) := ⟨nc_10, tq_6 155 rfl, tq_8 181 rfl, tq_8 182 rfl⟩
theorem lw_p101 : lw_okq (⟨"SealCouncilModel", "actsPower", "(II)I"⟩, 27) := ⟨nc_10, tq_6 155 rfl, tq_8 185 rfl, tq_8 186 rfl⟩
theorem lw_p102 : lw_okq (⟨"SealCouncilModel", "bindsOf", "(II)I"⟩, 27) := ⟨nc_10, tq_6 155 rfl, tq_8 189 rfl, tq_8 190 rfl⟩
theorem lw_p103 : lw_okq (⟨"SealCouncilModel", "bindsPower", "(II)I"⟩, 27) := ⟨nc_10, tq_6 155 rfl, tq_8 193 rfl, tq_8 194 rfl⟩
theorem lw_p104 : lw_okq (⟨"SealCouncilModel", "ranksOf", "(II)I"⟩, 27) := ⟨nc_10, tq_6 155 rfl, tq_8 197 rfl, tq_8 198 rfl⟩
theorem lw_p105 : lw_okq (⟨"SealCouncilModel", "ranksPower", "(II)I"⟩, 27) := ⟨nc_10, tq_6 155 rfl, tq_8 201 rfl, tq_8 202 rfl⟩
theorem lw_p106 : lw_okq (⟨"SealCouncilModel", "tellsOf", "(II)I"⟩, 27) := ⟨nc_10, tq_6 155 rfl, tq_8 205 rfl, tq_8 206 rfl⟩
theorem lw_p107 : lw_okq (⟨"SealCouncilModel", "tellsOffice", "(II)I"⟩, 27) := ⟨nc_10, tq_6 155 rfl, tq_8 209 rfl, tq_8 210 rfl⟩
theorem lw_p108 : lw_okq (⟨"SealCouncilModel", "tellsPower", "(II)I"⟩, 27) := ⟨nc_10, tq_6 155 rfl, tq_8 213 rfl, tq_8 214 rfl⟩
def lw_privs_7 : List (MethodName × Nat) := [(⟨"SealCouncilModel", "ageDay", "()I"⟩, 27), (⟨"SealCouncilModel", "plans", "(III)V"⟩, 27), (⟨"SealCouncilModel", "actsOf", "(II)I"⟩, 27), (⟨"SealCouncilModel", "actsOffice", "(II)I"⟩, 27), (⟨"SealCouncilModel", "ran", "(I)V"⟩, 27), (⟨"SealCouncilModel", "actsPower", "(II)I"⟩, 27), (⟨"SealCouncilModel", "bindsOf", "(II)I"⟩, 27), (⟨"SealCouncilModel", "bindsPower", "(II)I"⟩, 27), (⟨"SealCouncilModel", "ranksOf", "(II)I"⟩, 27), (⟨"SealCouncilModel", "ranksPower", "(II)I"⟩, 27), (⟨"SealCouncilModel", "tellsOf", "(II)I"⟩, 27), (⟨"SealCouncilModel", "tellsOffice", "(II)I"⟩, 27), (⟨"SealCouncilModel", "tellsPower", "(II)I"⟩, 27)]
theorem lw_r7 : ∀ q ∈ lw_privs_7, lw_okq q := List.forall_mem_cons.mpr ⟨lw_p96, List.forall_mem_cons.mpr ⟨lw_p97, List.forall_mem_cons.mpr ⟨lw_p98, List.forall_mem_cons.mpr ⟨lw_p99, List.forall_mem_cons.mpr ⟨lw_p100, List.forall_mem_cons.mpr ⟨lw_p101, List.forall_mem_cons.mpr ⟨lw_p102, List.forall_mem_cons.mpr ⟨lw_p103, List.forall_mem_cons.mpr ⟨lw_p104, List.forall_mem_cons.mpr ⟨lw_p105, List.forall_mem_cons.mpr ⟨lw_p106, List.forall_mem_cons.mpr ⟨lw_p107, List.forall_mem_cons.mpr ⟨lw_p108, fun _ h => absurd h List.not_mem_nil⟩⟩⟩⟩⟩⟩⟩⟩⟩⟩⟩⟩⟩
def lw_privs : List (MethodName × Nat) := lw_privs_1 ++ (lw_privs_2 ++ (lw_privs_3 ++ (lw_privs_4 ++ (lw_privs_5 ++ (lw_privs_6 ++ (lw_privs_7))))))
def lw_tbl : List Cond := k2_sels lw_privs ++ tables_1
theorem lw_privs_ok : ∀ q ∈ lw_privs, lw_okq q := by
  show ∀ q ∈ lw_privs_1 ++ (lw_privs_2 ++ (lw_privs_3 ++ (lw_privs_4 ++ (lw_privs_5 ++ (lw_privs_6 ++ (lw_privs_7)))))), lw_okq q
  exact List.forall_mem_append.mpr ⟨lw_r1, List.forall_mem_append.mpr ⟨lw_r2, List.forall_mem_append.mpr ⟨lw_r3, List.forall_mem_append.mpr ⟨lw_r4, List.forall_mem_append.mpr ⟨lw_r5, List.forall_mem_append.mpr ⟨lw_r6, lw_r7⟩⟩⟩⟩⟩⟩
