section
-- ===== PART A: goes FIRST, ahead of the names: the tables' words, and 'selects' of the private methods out of them =====
/-- a private method of a class that the tables say can be made, by its rows of tables_1 -/
def lw_okq (q : MethodName × Nat) : Prop := (q.1.cls ≠ "java/lang/invoke/MethodHandle" ∧ q.1.cls ≠ "java/lang/invoke/VarHandle") ∧ Cond.instantiable q.1.cls q.2 ∈ tables_1 ∧ Cond.privateMethod q.1 ∈ tables_1 ∧ Cond.instanceMethod q.1 ∈ tables_1
theorem xtm1 {w : Cond} (i : Nat) (h : tables_1_1[i]? = some w) : w ∈ tables_1 := List.mem_append_left _ (List.mem_of_getElem? h)
theorem xtm2 {w : Cond} (i : Nat) (h : tables_1_2[i]? = some w) : w ∈ tables_1 := List.mem_append_right _ (List.mem_append_left _ (List.mem_of_getElem? h))
theorem xtm3 {w : Cond} (i : Nat) (h : tables_1_3[i]? = some w) : w ∈ tables_1 := List.mem_append_right _ (List.mem_append_right _ (List.mem_append_left _ (List.mem_of_getElem? h)))
theorem xtm4 {w : Cond} (i : Nat) (h : tables_1_4[i]? = some w) : w ∈ tables_1 := List.mem_append_right _ (List.mem_append_right _ (List.mem_append_right _ (List.mem_append_left _ (List.mem_of_getElem? h))))
theorem xtm5 {w : Cond} (i : Nat) (h : tables_1_5[i]? = some w) : w ∈ tables_1 := List.mem_append_right _ (List.mem_append_right _ (List.mem_append_right _ (List.mem_append_right _ (List.mem_append_left _ (List.mem_of_getElem? h)))))
theorem xtm6 {w : Cond} (i : Nat) (h : tables_1_6[i]? = some w) : w ∈ tables_1 := List.mem_append_right _ (List.mem_append_right _ (List.mem_append_right _ (List.mem_append_right _ (List.mem_append_right _ (List.mem_append_left _ (List.mem_of_getElem? h))))))
theorem xtm7 {w : Cond} (i : Nat) (h : tables_1_7[i]? = some w) : w ∈ tables_1 := List.mem_append_right _ (List.mem_append_right _ (List.mem_append_right _ (List.mem_append_right _ (List.mem_append_right _ (List.mem_append_right _ (List.mem_append_left _ (List.mem_of_getElem? h)))))))
theorem xtm8 {w : Cond} (i : Nat) (h : tables_1_8[i]? = some w) : w ∈ tables_1 := List.mem_append_right _ (List.mem_append_right _ (List.mem_append_right _ (List.mem_append_right _ (List.mem_append_right _ (List.mem_append_right _ (List.mem_append_right _ (List.mem_append_left _ (List.mem_of_getElem? h))))))))
theorem xtm9 {w : Cond} (i : Nat) (h : tables_1_9[i]? = some w) : w ∈ tables_1 := List.mem_append_right _ (List.mem_append_right _ (List.mem_append_right _ (List.mem_append_right _ (List.mem_append_right _ (List.mem_append_right _ (List.mem_append_right _ (List.mem_append_right _ (List.mem_of_getElem? h))))))))
theorem lw_p0 : lw_okq (⟨"BentScreens$Tokens", "takeDigits", "()V"⟩, 6) := ⟨⟨by decide +kernel, by decide +kernel⟩, xtm1 210 rfl, xtm3 95 rfl, xtm3 96 rfl⟩
theorem lw_p1 : lw_okq (⟨"BentScreens$FilmText", "readLine", "()Z"⟩, 11) := ⟨⟨by decide +kernel, by decide +kernel⟩, xtm1 202 rfl, xtm3 102 rfl, xtm3 103 rfl⟩
theorem lw_p2 : lw_okq (⟨"BentScreens$FilmText", "sortOfWord", "()I"⟩, 11) := ⟨⟨by decide +kernel, by decide +kernel⟩, xtm1 202 rfl, xtm3 106 rfl, xtm3 107 rfl⟩
theorem lw_p3 : lw_okq (⟨"BentScreens$FilmText", "readGlue", "()Z"⟩, 11) := ⟨⟨by decide +kernel, by decide +kernel⟩, xtm1 202 rfl, xtm3 172 rfl, xtm3 173 rfl⟩
theorem lw_p4 : lw_okq (⟨"BentScreens$FilmText", "isFine", "(II)Z"⟩, 11) := ⟨⟨by decide +kernel, by decide +kernel⟩, xtm1 202 rfl, xtm3 182 rfl, xtm3 183 rfl⟩
theorem lw_p5 : lw_okq (⟨"BentScreens$FilmText", "isTooMany", "(I)Z"⟩, 11) := ⟨⟨by decide +kernel, by decide +kernel⟩, xtm1 202 rfl, xtm3 186 rfl, xtm3 187 rfl⟩
theorem lw_p6 : lw_okq (⟨"BentScreens$FilmText", "isLifeTold", "(I)Z"⟩, 11) := ⟨⟨by decide +kernel, by decide +kernel⟩, xtm1 202 rfl, xtm3 198 rfl, xtm3 199 rfl⟩
theorem lw_p7 : lw_okq (⟨"BentScreens$FilmText", "take", "(II)V"⟩, 11) := ⟨⟨by decide +kernel, by decide +kernel⟩, xtm1 202 rfl, xtm3 213 rfl, xtm3 214 rfl⟩
theorem lw_p8 : lw_okq (⟨"BentScreens$FilmText", "findFlawBeside", "()V"⟩, 11) := ⟨⟨by decide +kernel, by decide +kernel⟩, xtm1 202 rfl, xtm3 234 rfl, xtm3 235 rfl⟩
theorem lw_p9 : lw_okq (⟨"BentScreens", "forgetFilm", "()V"⟩, 11) := ⟨⟨by decide +kernel, by decide +kernel⟩, xtm1 23 rfl, xtm4 10 rfl, xtm4 11 rfl⟩
theorem lw_p10 : lw_okq (⟨"BentScreens$Bend", "lay", "()V"⟩, 11) := ⟨⟨by decide +kernel, by decide +kernel⟩, xtm2 64 rfl, xtm4 47 rfl, xtm4 48 rfl⟩
theorem lw_p11 : lw_okq (⟨"BentScreens$Bend", "borneBy", "(I)J"⟩, 11) := ⟨⟨by decide +kernel, by decide +kernel⟩, xtm2 64 rfl, xtm4 91 rfl, xtm4 92 rfl⟩
theorem lw_p12 : lw_okq (⟨"BentScreens$Bend", "takeOrder", "(I)V"⟩, 11) := ⟨⟨by decide +kernel, by decide +kernel⟩, xtm2 64 rfl, xtm4 128 rfl, xtm4 129 rfl⟩
theorem lw_p13 : lw_okq (⟨"BentScreens$Bend", "stepOrder", "()Z"⟩, 11) := ⟨⟨by decide +kernel, by decide +kernel⟩, xtm2 64 rfl, xtm4 133 rfl, xtm4 134 rfl⟩
theorem lw_p14 : lw_okq (⟨"BentScreens$Bend", "swapPlaces", "(II)V"⟩, 11) := ⟨⟨by decide +kernel, by decide +kernel⟩, xtm2 64 rfl, xtm4 137 rfl, xtm4 138 rfl⟩
theorem lw_p15 : lw_okq (⟨"BentScreens$Bend", "commonLife", "()J"⟩, 11) := ⟨⟨by decide +kernel, by decide +kernel⟩, xtm2 64 rfl, xtm4 160 rfl, xtm4 161 rfl⟩
def lw_privs_1 : List (MethodName × Nat) := [(⟨"BentScreens$Tokens", "takeDigits", "()V"⟩, 6), (⟨"BentScreens$FilmText", "readLine", "()Z"⟩, 11), (⟨"BentScreens$FilmText", "sortOfWord", "()I"⟩, 11), (⟨"BentScreens$FilmText", "readGlue", "()Z"⟩, 11), (⟨"BentScreens$FilmText", "isFine", "(II)Z"⟩, 11), (⟨"BentScreens$FilmText", "isTooMany", "(I)Z"⟩, 11), (⟨"BentScreens$FilmText", "isLifeTold", "(I)Z"⟩, 11), (⟨"BentScreens$FilmText", "take", "(II)V"⟩, 11), (⟨"BentScreens$FilmText", "findFlawBeside", "()V"⟩, 11), (⟨"BentScreens", "forgetFilm", "()V"⟩, 11), (⟨"BentScreens$Bend", "lay", "()V"⟩, 11), (⟨"BentScreens$Bend", "borneBy", "(I)J"⟩, 11), (⟨"BentScreens$Bend", "takeOrder", "(I)V"⟩, 11), (⟨"BentScreens$Bend", "stepOrder", "()Z"⟩, 11), (⟨"BentScreens$Bend", "swapPlaces", "(II)V"⟩, 11), (⟨"BentScreens$Bend", "commonLife", "()J"⟩, 11)]
theorem lw_r1 : ∀ q ∈ lw_privs_1, lw_okq q := List.forall_mem_cons.mpr ⟨lw_p0, List.forall_mem_cons.mpr ⟨lw_p1, List.forall_mem_cons.mpr ⟨lw_p2, List.forall_mem_cons.mpr ⟨lw_p3, List.forall_mem_cons.mpr ⟨lw_p4, List.forall_mem_cons.mpr ⟨lw_p5, List.forall_mem_cons.mpr ⟨lw_p6, List.forall_mem_cons.mpr ⟨lw_p7, List.forall_mem_cons.mpr ⟨lw_p8, List.forall_mem_cons.mpr ⟨lw_p9, List.forall_mem_cons.mpr ⟨lw_p10, List.forall_mem_cons.mpr ⟨lw_p11, List.forall_mem_cons.mpr ⟨lw_p12, List.forall_mem_cons.mpr ⟨lw_p13, List.forall_mem_cons.mpr ⟨lw_p14, List.forall_mem_cons.mpr ⟨lw_p15, fun _ h => absurd h List.not_mem_nil⟩⟩⟩⟩⟩⟩⟩⟩⟩⟩⟩⟩⟩⟩⟩⟩
theorem lw_p16 : lw_okq (⟨"BentScreens$Bend", "wholeLives", "()J"⟩, 11) := ⟨⟨by decide +kernel, by decide +kernel⟩, xtm2 64 rfl, xtm4 164 rfl, xtm4 165 rfl⟩
theorem lw_p17 : lw_okq (⟨"BentScreens$Bend", "partLives", "(J)J"⟩, 11) := ⟨⟨by decide +kernel, by decide +kernel⟩, xtm2 64 rfl, xtm4 168 rfl, xtm4 169 rfl⟩
theorem lw_p18 : lw_okq (⟨"BentScreens", "hasPart", "(ZII)Z"⟩, 11) := ⟨⟨by decide +kernel, by decide +kernel⟩, xtm1 23 rfl, xtm4 193 rfl, xtm4 194 rfl⟩
theorem lw_p19 : lw_okq (⟨"BentScreens", "hasPoint", "(II)Z"⟩, 11) := ⟨⟨by decide +kernel, by decide +kernel⟩, xtm1 23 rfl, xtm4 197 rfl, xtm4 198 rfl⟩
theorem lw_p20 : lw_okq (⟨"BentScreens$Ways", "layNet", "()V"⟩, 13) := ⟨⟨by decide +kernel, by decide +kernel⟩, xtm2 109 rfl, xtm4 224 rfl, xtm4 225 rfl⟩
theorem lw_p21 : lw_okq (⟨"BentScreens$Ways", "findWays", "()V"⟩, 13) := ⟨⟨by decide +kernel, by decide +kernel⟩, xtm2 109 rfl, xtm4 231 rfl, xtm4 232 rfl⟩
theorem lw_p22 : lw_okq (⟨"BentScreens$Ways", "addWay", "()Z"⟩, 13) := ⟨⟨by decide +kernel, by decide +kernel⟩, xtm2 109 rfl, xtm4 238 rfl, xtm4 239 rfl⟩
theorem lw_p23 : lw_okq (⟨"BentScreens$Ways", "explore", "()I"⟩, 13) := ⟨⟨by decide +kernel, by decide +kernel⟩, xtm2 109 rfl, xtm5 2 rfl, xtm5 3 rfl⟩
theorem lw_p24 : lw_okq (⟨"BentScreens$Ways", "reach", "(II)V"⟩, 13) := ⟨⟨by decide +kernel, by decide +kernel⟩, xtm2 109 rfl, xtm5 6 rfl, xtm5 7 rfl⟩
theorem lw_p25 : lw_okq (⟨"BentScreens$Ways", "isReached", "(I)Z"⟩, 13) := ⟨⟨by decide +kernel, by decide +kernel⟩, xtm2 109 rfl, xtm5 10 rfl, xtm5 11 rfl⟩
theorem lw_p26 : lw_okq (⟨"BentScreens", "cracksToMend", "()I"⟩, 11) := ⟨⟨by decide +kernel, by decide +kernel⟩, xtm1 23 rfl, xtm5 46 rfl, xtm5 47 rfl⟩
theorem lw_p27 : lw_okq (⟨"BentScreens", "costOf", "(I)I"⟩, 11) := ⟨⟨by decide +kernel, by decide +kernel⟩, xtm1 23 rfl, xtm5 50 rfl, xtm5 51 rfl⟩
theorem lw_p28 : lw_okq (⟨"BentScreens$Lamps", "addPicture", "(I)V"⟩, 6) := ⟨⟨by decide +kernel, by decide +kernel⟩, xtm2 158 rfl, xtm5 73 rfl, xtm5 74 rfl⟩
theorem lw_p29 : lw_okq (⟨"BentScreens$Lamps", "creepOn", "()Z"⟩, 6) := ⟨⟨by decide +kernel, by decide +kernel⟩, xtm2 158 rfl, xtm5 107 rfl, xtm5 108 rfl⟩
theorem lw_p30 : lw_okq (⟨"BentScreens$Lamps", "dampAt", "(II)I"⟩, 6) := ⟨⟨by decide +kernel, by decide +kernel⟩, xtm2 158 rfl, xtm5 111 rfl, xtm5 112 rfl⟩
theorem lw_p31 : lw_okq (⟨"BentScreens", "refreshLamps", "()V"⟩, 11) := ⟨⟨by decide +kernel, by decide +kernel⟩, xtm1 23 rfl, xtm5 120 rfl, xtm5 121 rfl⟩
def lw_privs_2 : List (MethodName × Nat) := [(⟨"BentScreens$Bend", "wholeLives", "()J"⟩, 11), (⟨"BentScreens$Bend", "partLives", "(J)J"⟩, 11), (⟨"BentScreens", "hasPart", "(ZII)Z"⟩, 11), (⟨"BentScreens", "hasPoint", "(II)Z"⟩, 11), (⟨"BentScreens$Ways", "layNet", "()V"⟩, 13), (⟨"BentScreens$Ways", "findWays", "()V"⟩, 13), (⟨"BentScreens$Ways", "addWay", "()Z"⟩, 13), (⟨"BentScreens$Ways", "explore", "()I"⟩, 13), (⟨"BentScreens$Ways", "reach", "(II)V"⟩, 13), (⟨"BentScreens$Ways", "isReached", "(I)Z"⟩, 13), (⟨"BentScreens", "cracksToMend", "()I"⟩, 11), (⟨"BentScreens", "costOf", "(I)I"⟩, 11), (⟨"BentScreens$Lamps", "addPicture", "(I)V"⟩, 6), (⟨"BentScreens$Lamps", "creepOn", "()Z"⟩, 6), (⟨"BentScreens$Lamps", "dampAt", "(II)I"⟩, 6), (⟨"BentScreens", "refreshLamps", "()V"⟩, 11)]
theorem lw_r2 : ∀ q ∈ lw_privs_2, lw_okq q := List.forall_mem_cons.mpr ⟨lw_p16, List.forall_mem_cons.mpr ⟨lw_p17, List.forall_mem_cons.mpr ⟨lw_p18, List.forall_mem_cons.mpr ⟨lw_p19, List.forall_mem_cons.mpr ⟨lw_p20, List.forall_mem_cons.mpr ⟨lw_p21, List.forall_mem_cons.mpr ⟨lw_p22, List.forall_mem_cons.mpr ⟨lw_p23, List.forall_mem_cons.mpr ⟨lw_p24, List.forall_mem_cons.mpr ⟨lw_p25, List.forall_mem_cons.mpr ⟨lw_p26, List.forall_mem_cons.mpr ⟨lw_p27, List.forall_mem_cons.mpr ⟨lw_p28, List.forall_mem_cons.mpr ⟨lw_p29, List.forall_mem_cons.mpr ⟨lw_p30, List.forall_mem_cons.mpr ⟨lw_p31, fun _ h => absurd h List.not_mem_nil⟩⟩⟩⟩⟩⟩⟩⟩⟩⟩⟩⟩⟩⟩⟩⟩
theorem lw_p32 : lw_okq (⟨"BentScreens", "isDark", "(II)Z"⟩, 11) := ⟨⟨by decide +kernel, by decide +kernel⟩, xtm1 23 rfl, xtm5 124 rfl, xtm5 125 rfl⟩
theorem lw_p33 : lw_okq (⟨"BentScreens", "countDark", "()I"⟩, 11) := ⟨⟨by decide +kernel, by decide +kernel⟩, xtm1 23 rfl, xtm5 136 rfl, xtm5 137 rfl⟩
theorem lw_p34 : lw_okq (⟨"BentScreens$Lamps", "roundsOfLamp", "(III)I"⟩, 6) := ⟨⟨by decide +kernel, by decide +kernel⟩, xtm2 158 rfl, xtm5 148 rfl, xtm5 149 rfl⟩
theorem lw_p35 : lw_okq (⟨"BentScreens$Lamps", "agingIn", "(II)I"⟩, 6) := ⟨⟨by decide +kernel, by decide +kernel⟩, xtm2 158 rfl, xtm5 152 rfl, xtm5 153 rfl⟩
theorem lw_p36 : lw_okq (⟨"BentScreens$Sheet", "worthOfSize", "(II)I"⟩, 5) := ⟨⟨by decide +kernel, by decide +kernel⟩, xtm2 184 rfl, xtm5 168 rfl, xtm5 169 rfl⟩
theorem lw_p37 : lw_okq (⟨"BentScreens$Sheet", "isAsLarge", "(III)Z"⟩, 5) := ⟨⟨by decide +kernel, by decide +kernel⟩, xtm2 184 rfl, xtm5 172 rfl, xtm5 173 rfl⟩
theorem lw_p38 : lw_okq (⟨"BentScreens$Sheet", "fillWorths", "(III)V"⟩, 5) := ⟨⟨by decide +kernel, by decide +kernel⟩, xtm2 184 rfl, xtm5 178 rfl, xtm5 179 rfl⟩
theorem lw_p39 : lw_okq (⟨"BentScreens$Sheet", "hasFlaw", "(IIII)Z"⟩, 5) := ⟨⟨by decide +kernel, by decide +kernel⟩, xtm2 184 rfl, xtm5 182 rfl, xtm5 183 rfl⟩
theorem lw_p40 : lw_okq (⟨"BentScreens$Sheet", "worthCut", "(IIII)I"⟩, 5) := ⟨⟨by decide +kernel, by decide +kernel⟩, xtm2 184 rfl, xtm5 191 rfl, xtm5 192 rfl⟩
theorem lw_p41 : lw_okq (⟨"BentScreens$Sheet", "planPanel", "(IIIII)V"⟩, 5) := ⟨⟨by decide +kernel, by decide +kernel⟩, xtm2 184 rfl, xtm5 213 rfl, xtm5 214 rfl⟩
theorem lw_p42 : lw_okq (⟨"BentScreens", "isBroken", "(II)Z"⟩, 11) := ⟨⟨by decide +kernel, by decide +kernel⟩, xtm1 23 rfl, xtm5 231 rfl, xtm5 232 rfl⟩
theorem lw_p43 : lw_okq (⟨"BentScreens", "brokenShare", "(I)I"⟩, 11) := ⟨⟨by decide +kernel, by decide +kernel⟩, xtm1 23 rfl, xtm6 7 rfl, xtm6 8 rfl⟩
theorem lw_p44 : lw_okq (⟨"BentScreens$Laws", "testsAgainst", "(I)I"⟩, 12) := ⟨⟨by decide +kernel, by decide +kernel⟩, xtm2 209 rfl, xtm6 34 rfl, xtm6 35 rfl⟩
theorem lw_p45 : lw_okq (⟨"BentScreens$Laws", "barsAll", "(I)Z"⟩, 12) := ⟨⟨by decide +kernel, by decide +kernel⟩, xtm2 209 rfl, xtm6 77 rfl, xtm6 78 rfl⟩
theorem lw_p46 : lw_okq (⟨"BentScreens$Laws", "countTries", "(I)V"⟩, 12) := ⟨⟨by decide +kernel, by decide +kernel⟩, xtm2 209 rfl, xtm6 93 rfl, xtm6 94 rfl⟩
theorem lw_p47 : lw_okq (⟨"BentScreens$RulesText", "readLine", "()Z"⟩, 6) := ⟨⟨by decide +kernel, by decide +kernel⟩, xtm2 35 rfl, xtm6 108 rfl, xtm6 109 rfl⟩
def lw_privs_3 : List (MethodName × Nat) := [(⟨"BentScreens", "isDark", "(II)Z"⟩, 11), (⟨"BentScreens", "countDark", "()I"⟩, 11), (⟨"BentScreens$Lamps", "roundsOfLamp", "(III)I"⟩, 6), (⟨"BentScreens$Lamps", "agingIn", "(II)I"⟩, 6), (⟨"BentScreens$Sheet", "worthOfSize", "(II)I"⟩, 5), (⟨"BentScreens$Sheet", "isAsLarge", "(III)Z"⟩, 5), (⟨"BentScreens$Sheet", "fillWorths", "(III)V"⟩, 5), (⟨"BentScreens$Sheet", "hasFlaw", "(IIII)Z"⟩, 5), (⟨"BentScreens$Sheet", "worthCut", "(IIII)I"⟩, 5), (⟨"BentScreens$Sheet", "planPanel", "(IIIII)V"⟩, 5), (⟨"BentScreens", "isBroken", "(II)Z"⟩, 11), (⟨"BentScreens", "brokenShare", "(I)I"⟩, 11), (⟨"BentScreens$Laws", "testsAgainst", "(I)I"⟩, 12), (⟨"BentScreens$Laws", "barsAll", "(I)Z"⟩, 12), (⟨"BentScreens$Laws", "countTries", "(I)V"⟩, 12), (⟨"BentScreens$RulesText", "readLine", "()Z"⟩, 6)]
theorem lw_r3 : ∀ q ∈ lw_privs_3, lw_okq q := List.forall_mem_cons.mpr ⟨lw_p32, List.forall_mem_cons.mpr ⟨lw_p33, List.forall_mem_cons.mpr ⟨lw_p34, List.forall_mem_cons.mpr ⟨lw_p35, List.forall_mem_cons.mpr ⟨lw_p36, List.forall_mem_cons.mpr ⟨lw_p37, List.forall_mem_cons.mpr ⟨lw_p38, List.forall_mem_cons.mpr ⟨lw_p39, List.forall_mem_cons.mpr ⟨lw_p40, List.forall_mem_cons.mpr ⟨lw_p41, List.forall_mem_cons.mpr ⟨lw_p42, List.forall_mem_cons.mpr ⟨lw_p43, List.forall_mem_cons.mpr ⟨lw_p44, List.forall_mem_cons.mpr ⟨lw_p45, List.forall_mem_cons.mpr ⟨lw_p46, List.forall_mem_cons.mpr ⟨lw_p47, fun _ h => absurd h List.not_mem_nil⟩⟩⟩⟩⟩⟩⟩⟩⟩⟩⟩⟩⟩⟩⟩⟩
theorem lw_p48 : lw_okq (⟨"BentScreens$RulesText", "noteTooMany", "()V"⟩, 6) := ⟨⟨by decide +kernel, by decide +kernel⟩, xtm2 35 rfl, xtm6 113 rfl, xtm6 114 rfl⟩
theorem lw_p49 : lw_okq (⟨"BentScreens$RulesText", "readTests", "(I)Z"⟩, 6) := ⟨⟨by decide +kernel, by decide +kernel⟩, xtm2 35 rfl, xtm6 120 rfl, xtm6 121 rfl⟩
theorem lw_p50 : lw_okq (⟨"BentScreens$RulesText", "readTest", "(I)Z"⟩, 6) := ⟨⟨by decide +kernel, by decide +kernel⟩, xtm2 35 rfl, xtm6 125 rfl, xtm6 126 rfl⟩
theorem lw_p51 : lw_okq (⟨"BentScreens$RulesText", "measureOfWord", "()I"⟩, 6) := ⟨⟨by decide +kernel, by decide +kernel⟩, xtm2 35 rfl, xtm6 130 rfl, xtm6 131 rfl⟩
theorem lw_p52 : lw_okq (⟨"BentScreens$RulesText", "verbOfWord", "()I"⟩, 6) := ⟨⟨by decide +kernel, by decide +kernel⟩, xtm2 35 rfl, xtm6 148 rfl, xtm6 149 rfl⟩
theorem lw_p53 : lw_okq (⟨"BentScreens", "measureAll", "()V"⟩, 11) := ⟨⟨by decide +kernel, by decide +kernel⟩, xtm1 23 rfl, xtm6 161 rfl, xtm6 162 rfl⟩
theorem lw_p54 : lw_okq (⟨"BentScreens", "judgeLines", "()V"⟩, 11) := ⟨⟨by decide +kernel, by decide +kernel⟩, xtm1 23 rfl, xtm6 171 rfl, xtm6 172 rfl⟩
theorem lw_p55 : lw_okq (⟨"BentScreens", "testHolds", "(I)Z"⟩, 11) := ⟨⟨by decide +kernel, by decide +kernel⟩, xtm1 23 rfl, xtm6 175 rfl, xtm6 176 rfl⟩
theorem lw_p56 : lw_okq (⟨"BentScreens", "countOfFilm", "(I)I"⟩, 11) := ⟨⟨by decide +kernel, by decide +kernel⟩, xtm1 23 rfl, xtm6 188 rfl, xtm6 189 rfl⟩
theorem lw_p57 : lw_okq (⟨"BentScreensModel", "begins", "(Z)V"⟩, 47) := ⟨⟨by decide +kernel, by decide +kernel⟩, xtm6 208 rfl, xtm7 128 rfl, xtm7 129 rfl⟩
theorem lw_p58 : lw_okq (⟨"BentScreensModel", "advance", "()V"⟩, 47) := ⟨⟨by decide +kernel, by decide +kernel⟩, xtm6 208 rfl, xtm7 132 rfl, xtm7 133 rfl⟩
theorem lw_p59 : lw_okq (⟨"BentScreensModel", "byteAt", "(I)I"⟩, 47) := ⟨⟨by decide +kernel, by decide +kernel⟩, xtm6 208 rfl, xtm7 136 rfl, xtm7 137 rfl⟩
theorem lw_p60 : lw_okq (⟨"BentScreensModel", "isSignByte", "(I)Z"⟩, 47) := ⟨⟨by decide +kernel, by decide +kernel⟩, xtm6 208 rfl, xtm7 168 rfl, xtm7 169 rfl⟩
theorem lw_p61 : lw_okq (⟨"BentScreensModel", "aLine", "()V"⟩, 47) := ⟨⟨by decide +kernel, by decide +kernel⟩, xtm6 208 rfl, xtm7 172 rfl, xtm7 173 rfl⟩
theorem lw_p62 : lw_okq (⟨"BentScreensModel", "ends", "()V"⟩, 47) := ⟨⟨by decide +kernel, by decide +kernel⟩, xtm6 208 rfl, xtm7 179 rfl, xtm7 180 rfl⟩
theorem lw_p63 : lw_okq (⟨"BentScreensModel", "also", "(II)V"⟩, 47) := ⟨⟨by decide +kernel, by decide +kernel⟩, xtm6 208 rfl, xtm7 186 rfl, xtm7 187 rfl⟩
def lw_privs_4 : List (MethodName × Nat) := [(⟨"BentScreens$RulesText", "noteTooMany", "()V"⟩, 6), (⟨"BentScreens$RulesText", "readTests", "(I)Z"⟩, 6), (⟨"BentScreens$RulesText", "readTest", "(I)Z"⟩, 6), (⟨"BentScreens$RulesText", "measureOfWord", "()I"⟩, 6), (⟨"BentScreens$RulesText", "verbOfWord", "()I"⟩, 6), (⟨"BentScreens", "measureAll", "()V"⟩, 11), (⟨"BentScreens", "judgeLines", "()V"⟩, 11), (⟨"BentScreens", "testHolds", "(I)Z"⟩, 11), (⟨"BentScreens", "countOfFilm", "(I)I"⟩, 11), (⟨"BentScreensModel", "begins", "(Z)V"⟩, 47), (⟨"BentScreensModel", "advance", "()V"⟩, 47), (⟨"BentScreensModel", "byteAt", "(I)I"⟩, 47), (⟨"BentScreensModel", "isSignByte", "(I)Z"⟩, 47), (⟨"BentScreensModel", "aLine", "()V"⟩, 47), (⟨"BentScreensModel", "ends", "()V"⟩, 47), (⟨"BentScreensModel", "also", "(II)V"⟩, 47)]
theorem lw_r4 : ∀ q ∈ lw_privs_4, lw_okq q := List.forall_mem_cons.mpr ⟨lw_p48, List.forall_mem_cons.mpr ⟨lw_p49, List.forall_mem_cons.mpr ⟨lw_p50, List.forall_mem_cons.mpr ⟨lw_p51, List.forall_mem_cons.mpr ⟨lw_p52, List.forall_mem_cons.mpr ⟨lw_p53, List.forall_mem_cons.mpr ⟨lw_p54, List.forall_mem_cons.mpr ⟨lw_p55, List.forall_mem_cons.mpr ⟨lw_p56, List.forall_mem_cons.mpr ⟨lw_p57, List.forall_mem_cons.mpr ⟨lw_p58, List.forall_mem_cons.mpr ⟨lw_p59, List.forall_mem_cons.mpr ⟨lw_p60, List.forall_mem_cons.mpr ⟨lw_p61, List.forall_mem_cons.mpr ⟨lw_p62, List.forall_mem_cons.mpr ⟨lw_p63, fun _ h => absurd h List.not_mem_nil⟩⟩⟩⟩⟩⟩⟩⟩⟩⟩⟩⟩⟩⟩⟩⟩
theorem lw_p64 : lw_okq (⟨"BentScreensModel", "aLayer", "(I)V"⟩, 47) := ⟨⟨by decide +kernel, by decide +kernel⟩, xtm6 208 rfl, xtm7 190 rfl, xtm7 191 rfl⟩
theorem lw_p65 : lw_okq (⟨"BentScreensModel", "numbered", "(II)I"⟩, 47) := ⟨⟨by decide +kernel, by decide +kernel⟩, xtm6 208 rfl, xtm7 194 rfl, xtm7 195 rfl⟩
theorem lw_p66 : lw_okq (⟨"BentScreensModel", "puts", "(IIII)V"⟩, 47) := ⟨⟨by decide +kernel, by decide +kernel⟩, xtm6 208 rfl, xtm7 198 rfl, xtm7 199 rfl⟩
theorem lw_p67 : lw_okq (⟨"BentScreensModel", "isLifeTold", "(II)Z"⟩, 47) := ⟨⟨by decide +kernel, by decide +kernel⟩, xtm6 208 rfl, xtm7 202 rfl, xtm7 203 rfl⟩
theorem lw_p68 : lw_okq (⟨"BentScreensModel", "isOf", "(II)Z"⟩, 47) := ⟨⟨by decide +kernel, by decide +kernel⟩, xtm6 208 rfl, xtm7 214 rfl, xtm7 215 rfl⟩
theorem lw_p69 : lw_okq (⟨"BentScreensModel", "asTold", "()V"⟩, 47) := ⟨⟨by decide +kernel, by decide +kernel⟩, xtm6 208 rfl, xtm7 218 rfl, xtm7 219 rfl⟩
theorem lw_p70 : lw_okq (⟨"BentScreensModel", "inOrder", "()V"⟩, 47) := ⟨⟨by decide +kernel, by decide +kernel⟩, xtm6 208 rfl, xtm7 222 rfl, xtm7 223 rfl⟩
theorem lw_p71 : lw_okq (⟨"BentScreensModel", "blocks", "()V"⟩, 47) := ⟨⟨by decide +kernel, by decide +kernel⟩, xtm6 208 rfl, xtm7 226 rfl, xtm7 227 rfl⟩
theorem lw_p72 : lw_okq (⟨"BentScreensModel", "layerOf", "(II)I"⟩, 47) := ⟨⟨by decide +kernel, by decide +kernel⟩, xtm6 208 rfl, xtm7 230 rfl, xtm7 231 rfl⟩
theorem lw_p73 : lw_okq (⟨"BentScreensModel", "isRound", "(I)Z"⟩, 47) := ⟨⟨by decide +kernel, by decide +kernel⟩, xtm6 208 rfl, xtm8 7 rfl, xtm8 8 rfl⟩
theorem lw_p74 : lw_okq (⟨"BentScreensModel", "leastNow", "()I"⟩, 47) := ⟨⟨by decide +kernel, by decide +kernel⟩, xtm6 208 rfl, xtm8 21 rfl, xtm8 22 rfl⟩
theorem lw_p75 : lw_okq (⟨"BentScreensModel", "reorders", "(I)Z"⟩, 47) := ⟨⟨by decide +kernel, by decide +kernel⟩, xtm6 208 rfl, xtm8 34 rfl, xtm8 35 rfl⟩
theorem lw_p76 : lw_okq (⟨"BentScreensModel", "swap", "(II)V"⟩, 47) := ⟨⟨by decide +kernel, by decide +kernel⟩, xtm6 208 rfl, xtm8 38 rfl, xtm8 39 rfl⟩
theorem lw_p77 : lw_okq (⟨"BentScreensModel", "tires", "(II)V"⟩, 47) := ⟨⟨by decide +kernel, by decide +kernel⟩, xtm6 208 rfl, xtm8 46 rfl, xtm8 47 rfl⟩
theorem lw_p78 : lw_okq (⟨"BentScreensModel", "lifeOf", "(II)I"⟩, 47) := ⟨⟨by decide +kernel, by decide +kernel⟩, xtm6 208 rfl, xtm8 50 rfl, xtm8 51 rfl⟩
theorem lw_p79 : lw_okq (⟨"BentScreensModel", "isThere", "(ZII)Z"⟩, 47) := ⟨⟨by decide +kernel, by decide +kernel⟩, xtm6 208 rfl, xtm8 70 rfl, xtm8 71 rfl⟩
def lw_privs_5 : List (MethodName × Nat) := [(⟨"BentScreensModel", "aLayer", "(I)V"⟩, 47), (⟨"BentScreensModel", "numbered", "(II)I"⟩, 47), (⟨"BentScreensModel", "puts", "(IIII)V"⟩, 47), (⟨"BentScreensModel", "isLifeTold", "(II)Z"⟩, 47), (⟨"BentScreensModel", "isOf", "(II)Z"⟩, 47), (⟨"BentScreensModel", "asTold", "()V"⟩, 47), (⟨"BentScreensModel", "inOrder", "()V"⟩, 47), (⟨"BentScreensModel", "blocks", "()V"⟩, 47), (⟨"BentScreensModel", "layerOf", "(II)I"⟩, 47), (⟨"BentScreensModel", "isRound", "(I)Z"⟩, 47), (⟨"BentScreensModel", "leastNow", "()I"⟩, 47), (⟨"BentScreensModel", "reorders", "(I)Z"⟩, 47), (⟨"BentScreensModel", "swap", "(II)V"⟩, 47), (⟨"BentScreensModel", "tires", "(II)V"⟩, 47), (⟨"BentScreensModel", "lifeOf", "(II)I"⟩, 47), (⟨"BentScreensModel", "isThere", "(ZII)Z"⟩, 47)]
theorem lw_r5 : ∀ q ∈ lw_privs_5, lw_okq q := List.forall_mem_cons.mpr ⟨lw_p64, List.forall_mem_cons.mpr ⟨lw_p65, List.forall_mem_cons.mpr ⟨lw_p66, List.forall_mem_cons.mpr ⟨lw_p67, List.forall_mem_cons.mpr ⟨lw_p68, List.forall_mem_cons.mpr ⟨lw_p69, List.forall_mem_cons.mpr ⟨lw_p70, List.forall_mem_cons.mpr ⟨lw_p71, List.forall_mem_cons.mpr ⟨lw_p72, List.forall_mem_cons.mpr ⟨lw_p73, List.forall_mem_cons.mpr ⟨lw_p74, List.forall_mem_cons.mpr ⟨lw_p75, List.forall_mem_cons.mpr ⟨lw_p76, List.forall_mem_cons.mpr ⟨lw_p77, List.forall_mem_cons.mpr ⟨lw_p78, List.forall_mem_cons.mpr ⟨lw_p79, fun _ h => absurd h List.not_mem_nil⟩⟩⟩⟩⟩⟩⟩⟩⟩⟩⟩⟩⟩⟩⟩⟩
theorem lw_p80 : lw_okq (⟨"BentScreensModel", "isCracked", "(ZIII)Z"⟩, 47) := ⟨⟨by decide +kernel, by decide +kernel⟩, xtm6 208 rfl, xtm8 74 rfl, xtm8 75 rfl⟩
theorem lw_p81 : lw_okq (⟨"BentScreensModel", "isLed", "(ZII)Z"⟩, 47) := ⟨⟨by decide +kernel, by decide +kernel⟩, xtm6 208 rfl, xtm8 82 rfl, xtm8 83 rfl⟩
theorem lw_p82 : lw_okq (⟨"BentScreensModel", "looks", "()V"⟩, 47) := ⟨⟨by decide +kernel, by decide +kernel⟩, xtm6 208 rfl, xtm8 90 rfl, xtm8 91 rfl⟩
theorem lw_p83 : lw_okq (⟨"BentScreensModel", "allRows", "()I"⟩, 47) := ⟨⟨by decide +kernel, by decide +kernel⟩, xtm6 208 rfl, xtm8 94 rfl, xtm8 95 rfl⟩
theorem lw_p84 : lw_okq (⟨"BentScreensModel", "flows", "(I)I"⟩, 47) := ⟨⟨by decide +kernel, by decide +kernel⟩, xtm6 208 rfl, xtm8 98 rfl, xtm8 99 rfl⟩
theorem lw_p85 : lw_okq (⟨"BentScreensModel", "spreads", "()V"⟩, 47) := ⟨⟨by decide +kernel, by decide +kernel⟩, xtm6 208 rfl, xtm8 102 rfl, xtm8 103 rfl⟩
theorem lw_p86 : lw_okq (⟨"BentScreensModel", "meets", "(II)V"⟩, 47) := ⟨⟨by decide +kernel, by decide +kernel⟩, xtm6 208 rfl, xtm8 106 rfl, xtm8 107 rfl⟩
theorem lw_p87 : lw_okq (⟨"BentScreensModel", "goesBack", "(I)V"⟩, 47) := ⟨⟨by decide +kernel, by decide +kernel⟩, xtm6 208 rfl, xtm8 110 rfl, xtm8 111 rfl⟩
theorem lw_p88 : lw_okq (⟨"BentScreensModel", "fedRows", "()I"⟩, 47) := ⟨⟨by decide +kernel, by decide +kernel⟩, xtm6 208 rfl, xtm8 118 rfl, xtm8 119 rfl⟩
theorem lw_p89 : lw_okq (⟨"BentScreensModel", "cuts", "()V"⟩, 47) := ⟨⟨by decide +kernel, by decide +kernel⟩, xtm6 208 rfl, xtm8 126 rfl, xtm8 127 rfl⟩
theorem lw_p90 : lw_okq (⟨"BentScreensModel", "isInCut", "(III)Z"⟩, 47) := ⟨⟨by decide +kernel, by decide +kernel⟩, xtm6 208 rfl, xtm8 130 rfl, xtm8 131 rfl⟩
theorem lw_p91 : lw_okq (⟨"BentScreensModel", "isJoined", "(II)Z"⟩, 47) := ⟨⟨by decide +kernel, by decide +kernel⟩, xtm6 208 rfl, xtm8 134 rfl, xtm8 135 rfl⟩
theorem lw_p92 : lw_okq (⟨"BentScreensModel", "isPoint", "(II)Z"⟩, 47) := ⟨⟨by decide +kernel, by decide +kernel⟩, xtm6 208 rfl, xtm8 150 rfl, xtm8 151 rfl⟩
theorem lw_p93 : lw_okq (⟨"BentScreensModel", "ages", "()V"⟩, 47) := ⟨⟨by decide +kernel, by decide +kernel⟩, xtm6 208 rfl, xtm8 154 rfl, xtm8 155 rfl⟩
theorem lw_p94 : lw_okq (⟨"BentScreensModel", "leftOf", "(I)I"⟩, 47) := ⟨⟨by decide +kernel, by decide +kernel⟩, xtm6 208 rfl, xtm8 158 rfl, xtm8 159 rfl⟩
theorem lw_p95 : lw_okq (⟨"BentScreensModel", "damps", "()V"⟩, 47) := ⟨⟨by decide +kernel, by decide +kernel⟩, xtm6 208 rfl, xtm8 174 rfl, xtm8 175 rfl⟩
def lw_privs_6 : List (MethodName × Nat) := [(⟨"BentScreensModel", "isCracked", "(ZIII)Z"⟩, 47), (⟨"BentScreensModel", "isLed", "(ZII)Z"⟩, 47), (⟨"BentScreensModel", "looks", "()V"⟩, 47), (⟨"BentScreensModel", "allRows", "()I"⟩, 47), (⟨"BentScreensModel", "flows", "(I)I"⟩, 47), (⟨"BentScreensModel", "spreads", "()V"⟩, 47), (⟨"BentScreensModel", "meets", "(II)V"⟩, 47), (⟨"BentScreensModel", "goesBack", "(I)V"⟩, 47), (⟨"BentScreensModel", "fedRows", "()I"⟩, 47), (⟨"BentScreensModel", "cuts", "()V"⟩, 47), (⟨"BentScreensModel", "isInCut", "(III)Z"⟩, 47), (⟨"BentScreensModel", "isJoined", "(II)Z"⟩, 47), (⟨"BentScreensModel", "isPoint", "(II)Z"⟩, 47), (⟨"BentScreensModel", "ages", "()V"⟩, 47), (⟨"BentScreensModel", "leftOf", "(I)I"⟩, 47), (⟨"BentScreensModel", "damps", "()V"⟩, 47)]
theorem lw_r6 : ∀ q ∈ lw_privs_6, lw_okq q := List.forall_mem_cons.mpr ⟨lw_p80, List.forall_mem_cons.mpr ⟨lw_p81, List.forall_mem_cons.mpr ⟨lw_p82, List.forall_mem_cons.mpr ⟨lw_p83, List.forall_mem_cons.mpr ⟨lw_p84, List.forall_mem_cons.mpr ⟨lw_p85, List.forall_mem_cons.mpr ⟨lw_p86, List.forall_mem_cons.mpr ⟨lw_p87, List.forall_mem_cons.mpr ⟨lw_p88, List.forall_mem_cons.mpr ⟨lw_p89, List.forall_mem_cons.mpr ⟨lw_p90, List.forall_mem_cons.mpr ⟨lw_p91, List.forall_mem_cons.mpr ⟨lw_p92, List.forall_mem_cons.mpr ⟨lw_p93, List.forall_mem_cons.mpr ⟨lw_p94, List.forall_mem_cons.mpr ⟨lw_p95, fun _ h => absurd h List.not_mem_nil⟩⟩⟩⟩⟩⟩⟩⟩⟩⟩⟩⟩⟩⟩⟩⟩
theorem lw_p96 : lw_okq (⟨"BentScreensModel", "wetAt", "(II)I"⟩, 47) := ⟨⟨by decide +kernel, by decide +kernel⟩, xtm6 208 rfl, xtm8 178 rfl, xtm8 179 rfl⟩
theorem lw_p97 : lw_okq (⟨"BentScreensModel", "darkens", "()I"⟩, 47) := ⟨⟨by decide +kernel, by decide +kernel⟩, xtm6 208 rfl, xtm8 186 rfl, xtm8 187 rfl⟩
theorem lw_p98 : lw_okq (⟨"BentScreensModel", "isDark", "(II)Z"⟩, 47) := ⟨⟨by decide +kernel, by decide +kernel⟩, xtm6 208 rfl, xtm8 190 rfl, xtm8 191 rfl⟩
theorem lw_p99 : lw_okq (⟨"BentScreensModel", "values", "()V"⟩, 47) := ⟨⟨by decide +kernel, by decide +kernel⟩, xtm6 208 rfl, xtm8 202 rfl, xtm8 203 rfl⟩
theorem lw_p100 : lw_okq (⟨"BentScreensModel", "hasFlaw", "(IIII)Z"⟩, 47) := ⟨⟨by decide +kernel, by decide +kernel⟩, xtm6 208 rfl, xtm8 209 rfl, xtm8 210 rfl⟩
theorem lw_p101 : lw_okq (⟨"BentScreensModel", "pieceOf", "(IIII)I"⟩, 47) := ⟨⟨by decide +kernel, by decide +kernel⟩, xtm6 208 rfl, xtm8 213 rfl, xtm8 214 rfl⟩
theorem lw_p102 : lw_okq (⟨"BentScreensModel", "panelOf", "(IIII)I"⟩, 47) := ⟨⟨by decide +kernel, by decide +kernel⟩, xtm6 208 rfl, xtm8 217 rfl, xtm8 218 rfl⟩
theorem lw_p103 : lw_okq (⟨"BentScreensModel", "plans", "()V"⟩, 47) := ⟨⟨by decide +kernel, by decide +kernel⟩, xtm6 208 rfl, xtm8 225 rfl, xtm8 226 rfl⟩
theorem lw_p104 : lw_okq (⟨"BentScreensModel", "lays", "(IIII)V"⟩, 47) := ⟨⟨by decide +kernel, by decide +kernel⟩, xtm6 208 rfl, xtm8 229 rfl, xtm8 230 rfl⟩
theorem lw_p105 : lw_okq (⟨"BentScreensModel", "plansOne", "(I)V"⟩, 47) := ⟨⟨by decide +kernel, by decide +kernel⟩, xtm6 208 rfl, xtm8 233 rfl, xtm8 234 rfl⟩
theorem lw_p106 : lw_okq (⟨"BentScreensModel", "cracksSeen", "()I"⟩, 47) := ⟨⟨by decide +kernel, by decide +kernel⟩, xtm6 208 rfl, xtm9 9 rfl, xtm9 10 rfl⟩
theorem lw_p107 : lw_okq (⟨"BentScreensModel", "isFedBy", "(I)Z"⟩, 47) := ⟨⟨by decide +kernel, by decide +kernel⟩, xtm6 208 rfl, xtm9 16 rfl, xtm9 17 rfl⟩
theorem lw_p108 : lw_okq (⟨"BentScreensModel", "breaks", "(II)Z"⟩, 47) := ⟨⟨by decide +kernel, by decide +kernel⟩, xtm6 208 rfl, xtm9 28 rfl, xtm9 29 rfl⟩
theorem lw_p109 : lw_okq (⟨"BentScreensModel", "shareOf", "(I)I"⟩, 47) := ⟨⟨by decide +kernel, by decide +kernel⟩, xtm6 208 rfl, xtm9 37 rfl, xtm9 38 rfl⟩
theorem lw_p110 : lw_okq (⟨"BentScreensModel", "lastsOf", "(I)I"⟩, 47) := ⟨⟨by decide +kernel, by decide +kernel⟩, xtm6 208 rfl, xtm9 49 rfl, xtm9 50 rfl⟩
theorem lw_p111 : lw_okq (⟨"BentScreensModel", "manyKept", "()I"⟩, 47) := ⟨⟨by decide +kernel, by decide +kernel⟩, xtm6 208 rfl, xtm9 66 rfl, xtm9 67 rfl⟩
def lw_privs_7 : List (MethodName × Nat) := [(⟨"BentScreensModel", "wetAt", "(II)I"⟩, 47), (⟨"BentScreensModel", "darkens", "()I"⟩, 47), (⟨"BentScreensModel", "isDark", "(II)Z"⟩, 47), (⟨"BentScreensModel", "values", "()V"⟩, 47), (⟨"BentScreensModel", "hasFlaw", "(IIII)Z"⟩, 47), (⟨"BentScreensModel", "pieceOf", "(IIII)I"⟩, 47), (⟨"BentScreensModel", "panelOf", "(IIII)I"⟩, 47), (⟨"BentScreensModel", "plans", "()V"⟩, 47), (⟨"BentScreensModel", "lays", "(IIII)V"⟩, 47), (⟨"BentScreensModel", "plansOne", "(I)V"⟩, 47), (⟨"BentScreensModel", "cracksSeen", "()I"⟩, 47), (⟨"BentScreensModel", "isFedBy", "(I)Z"⟩, 47), (⟨"BentScreensModel", "breaks", "(II)Z"⟩, 47), (⟨"BentScreensModel", "shareOf", "(I)I"⟩, 47), (⟨"BentScreensModel", "lastsOf", "(I)I"⟩, 47), (⟨"BentScreensModel", "manyKept", "()I"⟩, 47)]
theorem lw_r7 : ∀ q ∈ lw_privs_7, lw_okq q := List.forall_mem_cons.mpr ⟨lw_p96, List.forall_mem_cons.mpr ⟨lw_p97, List.forall_mem_cons.mpr ⟨lw_p98, List.forall_mem_cons.mpr ⟨lw_p99, List.forall_mem_cons.mpr ⟨lw_p100, List.forall_mem_cons.mpr ⟨lw_p101, List.forall_mem_cons.mpr ⟨lw_p102, List.forall_mem_cons.mpr ⟨lw_p103, List.forall_mem_cons.mpr ⟨lw_p104, List.forall_mem_cons.mpr ⟨lw_p105, List.forall_mem_cons.mpr ⟨lw_p106, List.forall_mem_cons.mpr ⟨lw_p107, List.forall_mem_cons.mpr ⟨lw_p108, List.forall_mem_cons.mpr ⟨lw_p109, List.forall_mem_cons.mpr ⟨lw_p110, List.forall_mem_cons.mpr ⟨lw_p111, fun _ h => absurd h List.not_mem_nil⟩⟩⟩⟩⟩⟩⟩⟩⟩⟩⟩⟩⟩⟩⟩⟩
theorem lw_p112 : lw_okq (⟨"BentScreensModel", "keeps", "()V"⟩, 47) := ⟨⟨by decide +kernel, by decide +kernel⟩, xtm6 208 rfl, xtm9 70 rfl, xtm9 71 rfl⟩
theorem lw_p113 : lw_okq (⟨"BentScreensModel", "isLaw", "(I)Z"⟩, 47) := ⟨⟨by decide +kernel, by decide +kernel⟩, xtm6 208 rfl, xtm9 77 rfl, xtm9 78 rfl⟩
theorem lw_p114 : lw_okq (⟨"BentScreensModel", "allTests", "()I"⟩, 47) := ⟨⟨by decide +kernel, by decide +kernel⟩, xtm6 208 rfl, xtm9 81 rfl, xtm9 82 rfl⟩
theorem lw_p115 : lw_okq (⟨"BentScreensModel", "isQuarrel", "(I)Z"⟩, 47) := ⟨⟨by decide +kernel, by decide +kernel⟩, xtm6 208 rfl, xtm9 97 rfl, xtm9 98 rfl⟩
theorem lw_p116 : lw_okq (⟨"BentScreensModel", "aRule", "()V"⟩, 47) := ⟨⟨by decide +kernel, by decide +kernel⟩, xtm6 208 rfl, xtm9 109 rfl, xtm9 110 rfl⟩
theorem lw_p117 : lw_okq (⟨"BentScreensModel", "takes", "(I)Z"⟩, 47) := ⟨⟨by decide +kernel, by decide +kernel⟩, xtm6 208 rfl, xtm9 113 rfl, xtm9 114 rfl⟩
theorem lw_p118 : lw_okq (⟨"BentScreensModel", "aTest", "()V"⟩, 47) := ⟨⟨by decide +kernel, by decide +kernel⟩, xtm6 208 rfl, xtm9 117 rfl, xtm9 118 rfl⟩
theorem lw_p119 : lw_okq (⟨"BentScreensModel", "numberNow", "()I"⟩, 47) := ⟨⟨by decide +kernel, by decide +kernel⟩, xtm6 208 rfl, xtm9 121 rfl, xtm9 122 rfl⟩
theorem lw_p120 : lw_okq (⟨"BentScreensModel", "rulePuts", "(II)V"⟩, 47) := ⟨⟨by decide +kernel, by decide +kernel⟩, xtm6 208 rfl, xtm9 125 rfl, xtm9 126 rfl⟩
theorem lw_p121 : lw_okq (⟨"BentScreensModel", "must", "(I)V"⟩, 47) := ⟨⟨by decide +kernel, by decide +kernel⟩, xtm6 208 rfl, xtm9 129 rfl, xtm9 130 rfl⟩
theorem lw_p122 : lw_okq (⟨"BentScreensModel", "holds", "(I)Z"⟩, 47) := ⟨⟨by decide +kernel, by decide +kernel⟩, xtm6 208 rfl, xtm9 137 rfl, xtm9 138 rfl⟩
theorem lw_p123 : lw_okq (⟨"BentScreensModel", "asked", "(I)I"⟩, 47) := ⟨⟨by decide +kernel, by decide +kernel⟩, xtm6 208 rfl, xtm9 141 rfl, xtm9 142 rfl⟩
theorem lw_p124 : lw_okq (⟨"BentScreensModel", "slides", "()I"⟩, 47) := ⟨⟨by decide +kernel, by decide +kernel⟩, xtm6 208 rfl, xtm9 145 rfl, xtm9 146 rfl⟩
def lw_privs_8 : List (MethodName × Nat) := [(⟨"BentScreensModel", "keeps", "()V"⟩, 47), (⟨"BentScreensModel", "isLaw", "(I)Z"⟩, 47), (⟨"BentScreensModel", "allTests", "()I"⟩, 47), (⟨"BentScreensModel", "isQuarrel", "(I)Z"⟩, 47), (⟨"BentScreensModel", "aRule", "()V"⟩, 47), (⟨"BentScreensModel", "takes", "(I)Z"⟩, 47), (⟨"BentScreensModel", "aTest", "()V"⟩, 47), (⟨"BentScreensModel", "numberNow", "()I"⟩, 47), (⟨"BentScreensModel", "rulePuts", "(II)V"⟩, 47), (⟨"BentScreensModel", "must", "(I)V"⟩, 47), (⟨"BentScreensModel", "holds", "(I)Z"⟩, 47), (⟨"BentScreensModel", "asked", "(I)I"⟩, 47), (⟨"BentScreensModel", "slides", "()I"⟩, 47)]
theorem lw_r8 : ∀ q ∈ lw_privs_8, lw_okq q := List.forall_mem_cons.mpr ⟨lw_p112, List.forall_mem_cons.mpr ⟨lw_p113, List.forall_mem_cons.mpr ⟨lw_p114, List.forall_mem_cons.mpr ⟨lw_p115, List.forall_mem_cons.mpr ⟨lw_p116, List.forall_mem_cons.mpr ⟨lw_p117, List.forall_mem_cons.mpr ⟨lw_p118, List.forall_mem_cons.mpr ⟨lw_p119, List.forall_mem_cons.mpr ⟨lw_p120, List.forall_mem_cons.mpr ⟨lw_p121, List.forall_mem_cons.mpr ⟨lw_p122, List.forall_mem_cons.mpr ⟨lw_p123, List.forall_mem_cons.mpr ⟨lw_p124, fun _ h => absurd h List.not_mem_nil⟩⟩⟩⟩⟩⟩⟩⟩⟩⟩⟩⟩⟩
def lw_privs : List (MethodName × Nat) := lw_privs_1 ++ (lw_privs_2 ++ (lw_privs_3 ++ (lw_privs_4 ++ (lw_privs_5 ++ (lw_privs_6 ++ (lw_privs_7 ++ (lw_privs_8)))))))
def lw_tbl : List Cond := k2_sels lw_privs ++ tables_1
theorem lw_privs_ok : ∀ q ∈ lw_privs, lw_okq q := by
  show ∀ q ∈ lw_privs_1 ++ (lw_privs_2 ++ (lw_privs_3 ++ (lw_privs_4 ++ (lw_privs_5 ++ (lw_privs_6 ++ (lw_privs_7 ++ (lw_privs_8))))))), lw_okq q
  exact List.forall_mem_append.mpr ⟨lw_r1, List.forall_mem_append.mpr ⟨lw_r2, List.forall_mem_append.mpr ⟨lw_r3, List.forall_mem_append.mpr ⟨lw_r4, List.forall_mem_append.mpr ⟨lw_r5, List.forall_mem_append.mpr ⟨lw_r6, List.forall_mem_append.mpr ⟨lw_r7, lw_r8⟩⟩⟩⟩⟩⟩⟩
-- ===== end of PART A; then your names; then what follows =====
end
section
/-! ===== BEGIN words of one list among another's, by their places ===== -/
theorem goodIn_r {big : List Cond} (ws : List Cond) (ps : List Nat) (hp : ws = ps.filterMap (fun i => big[i]?)) (h : ws.all goodWord = true) : GoodIn big ws := by
  intro w hw
  have h1 := List.all_eq_true.mp h w hw
  rw [hp] at hw
  obtain ⟨i, -, hi⟩ := List.mem_filterMap.mp hw
  have hm : w ∈ big := by first | exact List.mem_of_getElem? hi | exact List.getElem?_mem hi
  exact ⟨hm, good_of_word h1⟩
theorem goodIn_app {big a b : List Cond} (ha : GoodIn big a) (hb : GoodIn big b) : GoodIn big (a ++ b) := fun w h => (List.mem_append.mp h).elim (ha w) (hb w)
theorem goodIn_ca {big a b : List Cond} {c : Cond} (ha : GoodIn big (c :: a)) (hb : GoodIn big b) : GoodIn big (c :: (a ++ b)) := fun w h => (List.mem_cons.mp h).elim (fun e => ha w (List.mem_cons.mpr (Or.inl e))) (fun h => (List.mem_append.mp h).elim (fun h => ha w (List.mem_cons.mpr (Or.inr h))) (hb w))
theorem goodIn_sub {big ws : List Cond} (hm : ∀ w ∈ ws, w ∈ big) (h : ws.all goodWord = true) : GoodIn big ws := fun w hw => ⟨hm w hw, good_of_word (List.all_eq_true.mp h w hw)⟩
/-! ===== END ===== -/

/-! ===== BEGIN printed: names, fields, word lists, decode rows ===== -/
def RX0 : String := "BentScreens$Bend"
def TX0 : u_T := fun k => match k with
  | 0 => ("BentScreens$Bend", "film", "LBentScreens$Film;", true)
  | 1 => ("BentScreens$Bend", "places", "[I", true)
  | 2 => ("BentScreens$Bend", "bottom", "[I", true)
  | 3 => ("BentScreens$Bend", "first", "[I", true)
  | 4 => ("BentScreens$Bend", "over", "[J", true)
  | 5 => ("BentScreens$Bend", "under", "[J", true)
  | 6 => ("BentScreens$Bend", "far", "[J", true)
  | 7 => ("BentScreens$Bend", "folded", "[J", true)
  | 8 => ("BentScreens$Bend", "bestOrder", "[I", true)
  | 9 => ("BentScreens$Bend", "orderRound", "I", false)
  | _ => ("BentScreens$Bend", "orderFresh", "Z", false)
def tyX0 : Nat → FieldType := fun k => match k with
  | 0 => .object "BentScreens$Film"
  | 1 => .array .int
  | 2 => .array .int
  | 3 => .array .int
  | 4 => .array .long
  | 5 => .array .long
  | 6 => .array .long
  | 7 => .array .long
  | 8 => .array .int
  | 9 => .int
  | _ => .boolean
abbrev wsX00 : List Cond := u_ws RX0 TX0 11
theorem nmX0 : ∀ a, a < 11 → ∀ b, b < 11 → a ≠ b → (TX0 a).2.1 ≠ (TX0 b).2.1 := by decide +kernel
theorem tyX0_ok : ∀ k, k < 11 → parseFieldDescriptor (TX0 k).2.2.1 = some (tyX0 k) := by decide +kernel
abbrev cX0_init : ByteArray := prog_2_method_1_code
def yX0_init : MethodName := ⟨RX0, "<init>", "(LBentScreens$Film;)V"⟩
abbrev cX0_forgetOrder : ByteArray := prog_2_method_2_code
def yX0_forgetOrder : MethodName := ⟨RX0, "forgetOrder", "()V"⟩
abbrev cX0_layAsTold : ByteArray := prog_2_method_3_code
def yX0_layAsTold : MethodName := ⟨RX0, "layAsTold", "()V"⟩
abbrev cX0_lay : ByteArray := prog_2_method_4_code
def yX0_lay : MethodName := ⟨RX0, "lay", "()V"⟩
abbrev cX0_neutralThousandths : ByteArray := prog_2_method_5_code
def yX0_neutralThousandths : MethodName := ⟨RX0, "neutralThousandths", "(I)I"⟩
abbrev cX0_stretchMillionths : ByteArray := prog_2_method_6_code
def yX0_stretchMillionths : MethodName := ⟨RX0, "stretchMillionths", "(II)I"⟩
abbrev cX0_canBear : ByteArray := prog_2_method_7_code
def yX0_canBear : MethodName := ⟨RX0, "canBear", "(II)Z"⟩
abbrev cX0_borneBy : ByteArray := prog_2_method_8_code
def yX0_borneBy : MethodName := ⟨RX0, "borneBy", "(I)J"⟩
abbrev cX0_leastRound : ByteArray := prog_2_method_9_code
def yX0_leastRound : MethodName := ⟨RX0, "leastRound", "()I"⟩
abbrev cX0_worstPlace : ByteArray := prog_2_method_10_code
def yX0_worstPlace : MethodName := ⟨RX0, "worstPlace", "()I"⟩
abbrev cX0_findOrder : ByteArray := prog_2_method_11_code
def yX0_findOrder : MethodName := ⟨RX0, "findOrder", "()V"⟩
abbrev cX0_takeOrder : ByteArray := prog_2_method_12_code
def yX0_takeOrder : MethodName := ⟨RX0, "takeOrder", "(I)V"⟩
abbrev cX0_stepOrder : ByteArray := prog_2_method_13_code
def yX0_stepOrder : MethodName := ⟨RX0, "stepOrder", "()Z"⟩
abbrev cX0_swapPlaces : ByteArray := prog_2_method_14_code
def yX0_swapPlaces : MethodName := ⟨RX0, "swapPlaces", "(II)V"⟩
abbrev cX0_restWear : ByteArray := prog_2_method_15_code
def yX0_restWear : MethodName := ⟨RX0, "restWear", "()V"⟩
abbrev cX0_wear : ByteArray := prog_2_method_16_code
def yX0_wear : MethodName := ⟨RX0, "wear", "(IJI)V"⟩
abbrev cX0_wholeLives : ByteArray := prog_2_method_17_code
def yX0_wholeLives : MethodName := ⟨RX0, "wholeLives", "()J"⟩
abbrev cX0_commonLife : ByteArray := prog_2_method_18_code
def yX0_commonLife : MethodName := ⟨RX0, "commonLife", "()J"⟩
abbrev cX0_partLives : ByteArray := prog_2_method_19_code
def yX0_partLives : MethodName := ⟨RX0, "partLives", "(J)J"⟩
abbrev cX0_isWornOut : ByteArray := prog_2_method_20_code
def yX0_isWornOut : MethodName := ⟨RX0, "isWornOut", "()Z"⟩
abbrev cX0_wornThousandths : ByteArray := prog_2_method_21_code
def yX0_wornThousandths : MethodName := ⟨RX0, "wornThousandths", "()I"⟩
abbrev cX0_breaksBehind : ByteArray := prog_2_method_22_code
def yX0_breaksBehind : MethodName := ⟨RX0, "breaksBehind", "(JI)Z"⟩
def RX1 : String := "BentScreens$Film"
def TX1 : u_T := fun k => match k with
  | 0 => ("BentScreens$Film", "layers", "LBentScreens$Rows;", true)
  | 1 => ("BentScreens$Film", "lives", "LBentScreens$Rows;", true)
  | 2 => ("BentScreens$Film", "folds", "LBentScreens$Rows;", true)
  | 3 => ("BentScreens$Film", "kinds", "LBentScreens$Rows;", true)
  | 4 => ("BentScreens$Film", "flaws", "LBentScreens$Rows;", true)
  | 5 => ("BentScreens$Film", "sheetWide", "I", false)
  | 6 => ("BentScreens$Film", "sheetHigh", "I", false)
  | 7 => ("BentScreens$Film", "netRows", "I", false)
  | 8 => ("BentScreens$Film", "netColumns", "I", false)
  | _ => ("BentScreens$Film", "lines", "I", false)
def tyX1 : Nat → FieldType := fun k => match k with
  | 0 => .object "BentScreens$Rows"
  | 1 => .object "BentScreens$Rows"
  | 2 => .object "BentScreens$Rows"
  | 3 => .object "BentScreens$Rows"
  | 4 => .object "BentScreens$Rows"
  | 5 => .int
  | 6 => .int
  | 7 => .int
  | 8 => .int
  | _ => .int
abbrev wsX10 : List Cond := u_ws RX1 TX1 10
theorem nmX1 : ∀ a, a < 10 → ∀ b, b < 10 → a ≠ b → (TX1 a).2.1 ≠ (TX1 b).2.1 := by decide +kernel
theorem tyX1_ok : ∀ k, k < 10 → parseFieldDescriptor (TX1 k).2.2.1 = some (tyX1 k) := by decide +kernel
abbrev cX1_init : ByteArray := prog_3_method_1_code
def yX1_init : MethodName := ⟨RX1, "<init>", "()V"⟩
abbrev cX1_rowsOf : ByteArray := prog_3_method_2_code
def yX1_rowsOf : MethodName := ⟨RX1, "rowsOf", "(I)LBentScreens$Rows;"⟩
abbrev cX1_slidesAnywhere : ByteArray := prog_3_method_3_code
def yX1_slidesAnywhere : MethodName := ⟨RX1, "slidesAnywhere", "()Z"⟩
abbrev cX1_clear : ByteArray := prog_3_method_4_code
def yX1_clear : MethodName := ⟨RX1, "clear", "()V"⟩
abbrev cX1_copy : ByteArray := prog_3_method_5_code
def yX1_copy : MethodName := ⟨RX1, "copy", "(LBentScreens$Film;)V"⟩
def RX2 : String := "BentScreens$FilmText"
def TX2 : u_T := fun k => match k with
  | 0 => ("BentScreens$FilmText", "told", "LBentScreens$Told;", true)
  | 1 => ("BentScreens$FilmText", "tokens", "LBentScreens$Tokens;", true)
  | 2 => ("BentScreens$FilmText", "draft", "LBentScreens$Film;", true)
  | 3 => ("BentScreens$FilmText", "numbers", "[I", true)
  | 4 => ("BentScreens$FilmText", "places", "[I", true)
  | 5 => ("BentScreens$FilmText", "flawPlaces", "[I", true)
  | 6 => ("BentScreens$FilmText", "slides", "Z", false)
  | 7 => ("BentScreens$FilmText", "sheetTold", "Z", false)
  | 8 => ("BentScreens$FilmText", "netTold", "Z", false)
  | 9 => ("BentScreens$FilmText", "fault", "I", false)
  | _ => ("BentScreens$FilmText", "faultPlace", "I", false)
def tyX2 : Nat → FieldType := fun k => match k with
  | 0 => .object "BentScreens$Told"
  | 1 => .object "BentScreens$Tokens"
  | 2 => .object "BentScreens$Film"
  | 3 => .array .int
  | 4 => .array .int
  | 5 => .array .int
  | 6 => .boolean
  | 7 => .boolean
  | 8 => .boolean
  | 9 => .int
  | _ => .int
abbrev wsX20 : List Cond := u_ws RX2 TX2 11
theorem nmX2 : ∀ a, a < 11 → ∀ b, b < 11 → a ≠ b → (TX2 a).2.1 ≠ (TX2 b).2.1 := by decide +kernel
theorem tyX2_ok : ∀ k, k < 11 → parseFieldDescriptor (TX2 k).2.2.1 = some (tyX2 k) := by decide +kernel
abbrev cX2_init : ByteArray := prog_4_method_1_code
def yX2_init : MethodName := ⟨RX2, "<init>", "(LBentScreens$Told;)V"⟩
abbrev cX2_readFilm : ByteArray := prog_4_method_2_code
def yX2_readFilm : MethodName := ⟨RX2, "readFilm", "()I"⟩
abbrev cX2_readLine : ByteArray := prog_4_method_3_code
def yX2_readLine : MethodName := ⟨RX2, "readLine", "()Z"⟩
abbrev cX2_sortOfWord : ByteArray := prog_4_method_4_code
def yX2_sortOfWord : MethodName := ⟨RX2, "sortOfWord", "()I"⟩
abbrev cX2_readGlue : ByteArray := prog_4_method_5_code
def yX2_readGlue : MethodName := ⟨RX2, "readGlue", "()Z"⟩
abbrev cX2_isFine : ByteArray := prog_4_method_6_code
def yX2_isFine : MethodName := ⟨RX2, "isFine", "(II)Z"⟩
abbrev cX2_isTooMany : ByteArray := prog_4_method_7_code
def yX2_isTooMany : MethodName := ⟨RX2, "isTooMany", "(I)Z"⟩
abbrev cX2_isLifeTold : ByteArray := prog_4_method_8_code
def yX2_isLifeTold : MethodName := ⟨RX2, "isLifeTold", "(I)Z"⟩
abbrev cX2_take : ByteArray := prog_4_method_9_code
def yX2_take : MethodName := ⟨RX2, "take", "(II)V"⟩
abbrev cX2_findFlawBeside : ByteArray := prog_4_method_10_code
def yX2_findFlawBeside : MethodName := ⟨RX2, "findFlawBeside", "()V"⟩
def RX3 : String := "BentScreens$Lamps"
def TX3 : u_T := fun k => match k with
  | 0 => ("BentScreens$Lamps", "told", "LBentScreens$Told;", true)
  | 1 => ("BentScreens$Lamps", "ages", "[I", true)
  | 2 => ("BentScreens$Lamps", "damp", "[I", true)
  | 3 => ("BentScreens$Lamps", "tomorrow", "[I", true)
  | 4 => ("BentScreens$Lamps", "agesFresh", "Z", false)
  | _ => ("BentScreens$Lamps", "dampFresh", "Z", false)
def tyX3 : Nat → FieldType := fun k => match k with
  | 0 => .object "BentScreens$Told"
  | 1 => .array .int
  | 2 => .array .int
  | 3 => .array .int
  | 4 => .boolean
  | _ => .boolean
abbrev wsX30 : List Cond := u_ws RX3 TX3 6
theorem nmX3 : ∀ a, a < 6 → ∀ b, b < 6 → a ≠ b → (TX3 a).2.1 ≠ (TX3 b).2.1 := by decide +kernel
theorem tyX3_ok : ∀ k, k < 6 → parseFieldDescriptor (TX3 k).2.2.1 = some (tyX3 k) := by decide +kernel
abbrev cX3_init : ByteArray := prog_5_method_1_code
def yX3_init : MethodName := ⟨RX3, "<init>", "(LBentScreens$Told;)V"⟩
abbrev cX3_forgetAges : ByteArray := prog_5_method_2_code
def yX3_forgetAges : MethodName := ⟨RX3, "forgetAges", "()V"⟩
abbrev cX3_forgetDamp : ByteArray := prog_5_method_3_code
def yX3_forgetDamp : MethodName := ⟨RX3, "forgetDamp", "()V"⟩
abbrev cX3_refreshAges : ByteArray := prog_5_method_4_code
def yX3_refreshAges : MethodName := ⟨RX3, "refreshAges", "()V"⟩
abbrev cX3_addPicture : ByteArray := prog_5_method_5_code
def yX3_addPicture : MethodName := ⟨RX3, "addPicture", "(I)V"⟩
abbrev cX3_leftOf : ByteArray := prog_5_method_6_code
def yX3_leftOf : MethodName := ⟨RX3, "leftOf", "(I)I"⟩
abbrev cX3_leftSpread : ByteArray := prog_5_method_7_code
def yX3_leftSpread : MethodName := ⟨RX3, "leftSpread", "()I"⟩
abbrev cX3_refreshDamp : ByteArray := prog_5_method_8_code
def yX3_refreshDamp : MethodName := ⟨RX3, "refreshDamp", "()V"⟩
abbrev cX3_creepOn : ByteArray := prog_5_method_9_code
def yX3_creepOn : MethodName := ⟨RX3, "creepOn", "()Z"⟩
abbrev cX3_dampAt : ByteArray := prog_5_method_10_code
def yX3_dampAt : MethodName := ⟨RX3, "dampAt", "(II)I"⟩
abbrev cX3_isDamp : ByteArray := prog_5_method_11_code
def yX3_isDamp : MethodName := ⟨RX3, "isDamp", "(I)Z"⟩
abbrev cX3_roundsWith : ByteArray := prog_5_method_12_code
def yX3_roundsWith : MethodName := ⟨RX3, "roundsWith", "(I)I"⟩
abbrev cX3_roundsOfLamp : ByteArray := prog_5_method_13_code
def yX3_roundsOfLamp : MethodName := ⟨RX3, "roundsOfLamp", "(III)I"⟩
abbrev cX3_agingIn : ByteArray := prog_5_method_14_code
def yX3_agingIn : MethodName := ⟨RX3, "agingIn", "(II)I"⟩
def RX4 : String := "BentScreens$Laws"
def TX4 : u_T := fun k => match k with
  | 0 => ("BentScreens$Laws", "tests", "LBentScreens$Rows;", true)
  | 1 => ("BentScreens$Laws", "against", "[I", true)
  | 2 => ("BentScreens$Laws", "keptIfCracked", "[I", true)
  | 3 => ("BentScreens$Laws", "keptIfWhole", "[I", true)
  | 4 => ("BentScreens$Laws", "keptLaws", "I", false)
  | 5 => ("BentScreens$Laws", "quarrelSet", "I", false)
  | 6 => ("BentScreens$Laws", "nextSpeed", "I", false)
  | 7 => ("BentScreens$Laws", "nextFolds", "I", false)
  | 8 => ("BentScreens$Laws", "nextNumber", "I", false)
  | 9 => ("BentScreens$Laws", "fresh", "Z", false)
  | 10 => ("BentScreens$Laws", "quarrelFresh", "Z", false)
  | _ => ("BentScreens$Laws", "nextFresh", "Z", false)
def tyX4 : Nat → FieldType := fun k => match k with
  | 0 => .object "BentScreens$Rows"
  | 1 => .array .int
  | 2 => .array .int
  | 3 => .array .int
  | 4 => .int
  | 5 => .int
  | 6 => .int
  | 7 => .int
  | 8 => .int
  | 9 => .boolean
  | 10 => .boolean
  | _ => .boolean
abbrev wsX40 : List Cond := u_ws RX4 TX4 12
theorem nmX4 : ∀ a, a < 12 → ∀ b, b < 12 → a ≠ b → (TX4 a).2.1 ≠ (TX4 b).2.1 := by decide +kernel
theorem tyX4_ok : ∀ k, k < 12 → parseFieldDescriptor (TX4 k).2.2.1 = some (tyX4 k) := by decide +kernel
abbrev cX4_init : ByteArray := prog_6_method_1_code
def yX4_init : MethodName := ⟨RX4, "<init>", "(LBentScreens$Rows;)V"⟩
abbrev cX4_forget : ByteArray := prog_6_method_2_code
def yX4_forget : MethodName := ⟨RX4, "forget", "()V"⟩
abbrev cX4_refresh : ByteArray := prog_6_method_3_code
def yX4_refresh : MethodName := ⟨RX4, "refresh", "()V"⟩
abbrev cX4_testsAgainst : ByteArray := prog_6_method_4_code
def yX4_testsAgainst : MethodName := ⟨RX4, "testsAgainst", "(I)I"⟩
abbrev cX4_bitOf : ByteArray := prog_6_method_5_code
def yX4_bitOf : MethodName := ⟨RX4, "bitOf", "(I)I"⟩
abbrev cX4_unitAt : ByteArray := prog_6_method_6_code
def yX4_unitAt : MethodName := ⟨RX4, "unitAt", "(II)I"⟩
abbrev cX4_keptAt : ByteArray := prog_6_method_7_code
def yX4_keptAt : MethodName := ⟨RX4, "keptAt", "(I)I"⟩
abbrev cX4_spanStart : ByteArray := prog_6_method_8_code
def yX4_spanStart : MethodName := ⟨RX4, "spanStart", "(I)I"⟩
abbrev cX4_spanEnd : ByteArray := prog_6_method_9_code
def yX4_spanEnd : MethodName := ⟨RX4, "spanEnd", "(I)I"⟩
abbrev cX4_refreshQuarrel : ByteArray := prog_6_method_10_code
def yX4_refreshQuarrel : MethodName := ⟨RX4, "refreshQuarrel", "()V"⟩
abbrev cX4_barsAll : ByteArray := prog_6_method_11_code
def yX4_barsAll : MethodName := ⟨RX4, "barsAll", "(I)Z"⟩
abbrev cX4_quarrelAt : ByteArray := prog_6_method_12_code
def yX4_quarrelAt : MethodName := ⟨RX4, "quarrelAt", "(I)I"⟩
abbrev cX4_refreshNext : ByteArray := prog_6_method_13_code
def yX4_refreshNext : MethodName := ⟨RX4, "refreshNext", "()V"⟩
abbrev cX4_countTries : ByteArray := prog_6_method_14_code
def yX4_countTries : MethodName := ⟨RX4, "countTries", "(I)V"⟩
def RX5 : String := "BentScreens$Rows"
def TX5 : u_T := fun k => match k with
  | 0 => ("BentScreens$Rows", "limit", "I", true)
  | 1 => ("BentScreens$Rows", "wide", "I", true)
  | 2 => ("BentScreens$Rows", "cells", "[I", true)
  | _ => ("BentScreens$Rows", "size", "I", false)
def tyX5 : Nat → FieldType := fun k => match k with
  | 0 => .int
  | 1 => .int
  | 2 => .array .int
  | _ => .int
abbrev wsX50 : List Cond := u_ws RX5 TX5 4
theorem nmX5 : ∀ a, a < 4 → ∀ b, b < 4 → a ≠ b → (TX5 a).2.1 ≠ (TX5 b).2.1 := by decide +kernel
theorem tyX5_ok : ∀ k, k < 4 → parseFieldDescriptor (TX5 k).2.2.1 = some (tyX5 k) := by decide +kernel
abbrev cX5_init : ByteArray := prog_7_method_1_code
def yX5_init : MethodName := ⟨RX5, "<init>", "(II)V"⟩
abbrev cX5_isFull : ByteArray := prog_7_method_2_code
def yX5_isFull : MethodName := ⟨RX5, "isFull", "()Z"⟩
abbrev cX5_has : ByteArray := prog_7_method_3_code
def yX5_has : MethodName := ⟨RX5, "has", "(I)Z"⟩
abbrev cX5_get : ByteArray := prog_7_method_4_code
def yX5_get : MethodName := ⟨RX5, "get", "(II)I"⟩
abbrev cX5_put : ByteArray := prog_7_method_5_code
def yX5_put : MethodName := ⟨RX5, "put", "(III)V"⟩
abbrev cX5_grow : ByteArray := prog_7_method_6_code
def yX5_grow : MethodName := ⟨RX5, "grow", "()I"⟩
abbrev cX5_clear : ByteArray := prog_7_method_7_code
def yX5_clear : MethodName := ⟨RX5, "clear", "()V"⟩
abbrev cX5_copy : ByteArray := prog_7_method_8_code
def yX5_copy : MethodName := ⟨RX5, "copy", "(LBentScreens$Rows;)V"⟩
def RX6 : String := "BentScreens$RulesText"
def TX6 : u_T := fun k => match k with
  | 0 => ("BentScreens$RulesText", "told", "LBentScreens$Told;", true)
  | 1 => ("BentScreens$RulesText", "tokens", "LBentScreens$Tokens;", true)
  | 2 => ("BentScreens$RulesText", "lines", "LBentScreens$Rows;", true)
  | 3 => ("BentScreens$RulesText", "tests", "LBentScreens$Rows;", true)
  | 4 => ("BentScreens$RulesText", "fault", "I", false)
  | _ => ("BentScreens$RulesText", "faultPlace", "I", false)
def tyX6 : Nat → FieldType := fun k => match k with
  | 0 => .object "BentScreens$Told"
  | 1 => .object "BentScreens$Tokens"
  | 2 => .object "BentScreens$Rows"
  | 3 => .object "BentScreens$Rows"
  | 4 => .int
  | _ => .int
abbrev wsX60 : List Cond := u_ws RX6 TX6 6
theorem nmX6 : ∀ a, a < 6 → ∀ b, b < 6 → a ≠ b → (TX6 a).2.1 ≠ (TX6 b).2.1 := by decide +kernel
theorem tyX6_ok : ∀ k, k < 6 → parseFieldDescriptor (TX6 k).2.2.1 = some (tyX6 k) := by decide +kernel
abbrev cX6_init : ByteArray := prog_8_method_1_code
def yX6_init : MethodName := ⟨RX6, "<init>", "(LBentScreens$Told;)V"⟩
abbrev cX6_readRules : ByteArray := prog_8_method_2_code
def yX6_readRules : MethodName := ⟨RX6, "readRules", "()I"⟩
abbrev cX6_readLine : ByteArray := prog_8_method_3_code
def yX6_readLine : MethodName := ⟨RX6, "readLine", "()Z"⟩
abbrev cX6_verbOfWord : ByteArray := prog_8_method_4_code
def yX6_verbOfWord : MethodName := ⟨RX6, "verbOfWord", "()I"⟩
abbrev cX6_readTests : ByteArray := prog_8_method_5_code
def yX6_readTests : MethodName := ⟨RX6, "readTests", "(I)Z"⟩
abbrev cX6_readTest : ByteArray := prog_8_method_6_code
def yX6_readTest : MethodName := ⟨RX6, "readTest", "(I)Z"⟩
abbrev cX6_measureOfWord : ByteArray := prog_8_method_7_code
def yX6_measureOfWord : MethodName := ⟨RX6, "measureOfWord", "()I"⟩
abbrev cX6_noteTooMany : ByteArray := prog_8_method_8_code
def yX6_noteTooMany : MethodName := ⟨RX6, "noteTooMany", "()V"⟩
def RX7 : String := "BentScreens$Sheet"
def TX7 : u_T := fun k => match k with
  | 0 => ("BentScreens$Sheet", "film", "LBentScreens$Film;", true)
  | 1 => ("BentScreens$Sheet", "worths", "[I", true)
  | 2 => ("BentScreens$Sheet", "plan", "LBentScreens$Rows;", true)
  | 3 => ("BentScreens$Sheet", "worthFresh", "Z", false)
  | _ => ("BentScreens$Sheet", "planFresh", "Z", false)
def tyX7 : Nat → FieldType := fun k => match k with
  | 0 => .object "BentScreens$Film"
  | 1 => .array .int
  | 2 => .object "BentScreens$Rows"
  | 3 => .boolean
  | _ => .boolean
abbrev wsX70 : List Cond := u_ws RX7 TX7 5
theorem nmX7 : ∀ a, a < 5 → ∀ b, b < 5 → a ≠ b → (TX7 a).2.1 ≠ (TX7 b).2.1 := by decide +kernel
theorem tyX7_ok : ∀ k, k < 5 → parseFieldDescriptor (TX7 k).2.2.1 = some (tyX7 k) := by decide +kernel
abbrev cX7_init : ByteArray := prog_9_method_1_code
def yX7_init : MethodName := ⟨RX7, "<init>", "(LBentScreens$Film;)V"⟩
abbrev cX7_forget : ByteArray := prog_9_method_2_code
def yX7_forget : MethodName := ⟨RX7, "forget", "()V"⟩
abbrev cX7_refreshWorth : ByteArray := prog_9_method_3_code
def yX7_refreshWorth : MethodName := ⟨RX7, "refreshWorth", "()V"⟩
abbrev cX7_fillWorths : ByteArray := prog_9_method_4_code
def yX7_fillWorths : MethodName := ⟨RX7, "fillWorths", "(III)V"⟩
abbrev cX7_pieceOf : ByteArray := prog_9_method_5_code
def yX7_pieceOf : MethodName := ⟨RX7, "pieceOf", "(IIII)I"⟩
abbrev cX7_worthOf : ByteArray := prog_9_method_6_code
def yX7_worthOf : MethodName := ⟨RX7, "worthOf", "(IIII)I"⟩
abbrev cX7_worthCut : ByteArray := prog_9_method_7_code
def yX7_worthCut : MethodName := ⟨RX7, "worthCut", "(IIII)I"⟩
abbrev cX7_worthOfSize : ByteArray := prog_9_method_8_code
def yX7_worthOfSize : MethodName := ⟨RX7, "worthOfSize", "(II)I"⟩
abbrev cX7_isAsLarge : ByteArray := prog_9_method_9_code
def yX7_isAsLarge : MethodName := ⟨RX7, "isAsLarge", "(III)Z"⟩
abbrev cX7_hasFlaw : ByteArray := prog_9_method_10_code
def yX7_hasFlaw : MethodName := ⟨RX7, "hasFlaw", "(IIII)Z"⟩
abbrev cX7_refreshPlan : ByteArray := prog_9_method_11_code
def yX7_refreshPlan : MethodName := ⟨RX7, "refreshPlan", "()V"⟩
abbrev cX7_planPiece : ByteArray := prog_9_method_12_code
def yX7_planPiece : MethodName := ⟨RX7, "planPiece", "(LBentScreens$Sheet;IIIII)V"⟩
abbrev cX7_planPanel : ByteArray := prog_9_method_13_code
def yX7_planPanel : MethodName := ⟨RX7, "planPanel", "(IIIII)V"⟩
def RX8 : String := "BentScreens$Tokens"
def TX8 : u_T := fun k => match k with
  | 0 => ("BentScreens$Tokens", "bytes", "[B", true)
  | 1 => ("BentScreens$Tokens", "length", "I", false)
  | 2 => ("BentScreens$Tokens", "kind", "I", false)
  | 3 => ("BentScreens$Tokens", "place", "I", false)
  | 4 => ("BentScreens$Tokens", "after", "I", false)
  | _ => ("BentScreens$Tokens", "number", "I", false)
def tyX8 : Nat → FieldType := fun k => match k with
  | 0 => .array .byte
  | 1 => .int
  | 2 => .int
  | 3 => .int
  | 4 => .int
  | _ => .int
abbrev wsX80 : List Cond := u_ws RX8 TX8 6
theorem nmX8 : ∀ a, a < 6 → ∀ b, b < 6 → a ≠ b → (TX8 a).2.1 ≠ (TX8 b).2.1 := by decide +kernel
theorem tyX8_ok : ∀ k, k < 6 → parseFieldDescriptor (TX8 k).2.2.1 = some (tyX8 k) := by decide +kernel
abbrev cX8_init : ByteArray := prog_10_method_1_code
def yX8_init : MethodName := ⟨RX8, "<init>", "([B)V"⟩
abbrev cX8_start : ByteArray := prog_10_method_2_code
def yX8_start : MethodName := ⟨RX8, "start", "(I)V"⟩
abbrev cX8_advance : ByteArray := prog_10_method_3_code
def yX8_advance : MethodName := ⟨RX8, "advance", "()V"⟩
abbrev cX8_takeDigits : ByteArray := prog_10_method_4_code
def yX8_takeDigits : MethodName := ⟨RX8, "takeDigits", "()V"⟩
abbrev cX8_isWord : ByteArray := prog_10_method_5_code
def yX8_isWord : MethodName := ⟨RX8, "isWord", "(Ljava/lang/String;)Z"⟩
abbrev cX8_isSign : ByteArray := prog_10_method_6_code
def yX8_isSign : MethodName := ⟨RX8, "isSign", "(C)Z"⟩
abbrev cX8_isLetter : ByteArray := prog_10_method_7_code
def yX8_isLetter : MethodName := ⟨RX8, "isLetter", "(B)Z"⟩
abbrev cX8_isDigit : ByteArray := prog_10_method_8_code
def yX8_isDigit : MethodName := ⟨RX8, "isDigit", "(B)Z"⟩
abbrev cX8_isSignByte : ByteArray := prog_10_method_9_code
def yX8_isSignByte : MethodName := ⟨RX8, "isSignByte", "(B)Z"⟩
def RX9 : String := "BentScreens$Told"
def TX9 : u_T := fun k => match k with
  | 0 => ("BentScreens$Told", "tape", "[B", true)
  | 1 => ("BentScreens$Told", "tapeLength", "I", false)
  | 2 => ("BentScreens$Told", "fault", "I", false)
  | 3 => ("BentScreens$Told", "faultPlace", "I", false)
  | 4 => ("BentScreens$Told", "film", "LBentScreens$Film;", true)
  | 5 => ("BentScreens$Told", "cracks", "LBentScreens$Rows;", true)
  | 6 => ("BentScreens$Told", "day", "I", false)
  | 7 => ("BentScreens$Told", "view", "I", false)
  | 8 => ("BentScreens$Told", "pictures", "LBentScreens$Rows;", true)
  | 9 => ("BentScreens$Told", "wetDays", "I", false)
  | 10 => ("BentScreens$Told", "hands", "LBentScreens$Rows;", true)
  | 11 => ("BentScreens$Told", "tests", "LBentScreens$Rows;", true)
  | 12 => ("BentScreens$Told", "ruleLines", "LBentScreens$Rows;", true)
  | _ => ("BentScreens$Told", "ruleTests", "LBentScreens$Rows;", true)
def tyX9 : Nat → FieldType := fun k => match k with
  | 0 => .array .byte
  | 1 => .int
  | 2 => .int
  | 3 => .int
  | 4 => .object "BentScreens$Film"
  | 5 => .object "BentScreens$Rows"
  | 6 => .int
  | 7 => .int
  | 8 => .object "BentScreens$Rows"
  | 9 => .int
  | 10 => .object "BentScreens$Rows"
  | 11 => .object "BentScreens$Rows"
  | 12 => .object "BentScreens$Rows"
  | _ => .object "BentScreens$Rows"
abbrev wsX90 : List Cond := u_ws RX9 TX9 14
theorem nmX9 : ∀ a, a < 14 → ∀ b, b < 14 → a ≠ b → (TX9 a).2.1 ≠ (TX9 b).2.1 := by decide +kernel
theorem tyX9_ok : ∀ k, k < 14 → parseFieldDescriptor (TX9 k).2.2.1 = some (tyX9 k) := by decide +kernel
abbrev cX9_init : ByteArray := prog_11_method_1_code
def yX9_init : MethodName := ⟨RX9, "<init>", "()V"⟩
abbrev cX9_append : ByteArray := prog_11_method_2_code
def yX9_append : MethodName := ⟨RX9, "append", "(I)V"⟩
abbrev cX9_take : ByteArray := prog_11_method_3_code
def yX9_take : MethodName := ⟨RX9, "take", "(II)V"⟩
abbrev cX9_findCrack : ByteArray := prog_11_method_4_code
def yX9_findCrack : MethodName := ⟨RX9, "findCrack", "(ZII)I"⟩
abbrev cX9_cracksInView : ByteArray := prog_11_method_5_code
def yX9_cracksInView : MethodName := ⟨RX9, "cracksInView", "()I"⟩
abbrev cX9_copy : ByteArray := prog_11_method_6_code
def yX9_copy : MethodName := ⟨RX9, "copy", "(LBentScreens$Told;)V"⟩
def RX10 : String := "BentScreens$Ways"
def TX10 : u_T := fun k => match k with
  | 0 => ("BentScreens$Ways", "told", "LBentScreens$Told;", true)
  | 1 => ("BentScreens$Ways", "lineLeads", "[Z", true)
  | 2 => ("BentScreens$Ways", "railLeads", "[Z", true)
  | 3 => ("BentScreens$Ways", "lineFlow", "[I", true)
  | 4 => ("BentScreens$Ways", "railFlow", "[I", true)
  | 5 => ("BentScreens$Ways", "firstUsed", "[Z", true)
  | 6 => ("BentScreens$Ways", "lastOpen", "[Z", true)
  | 7 => ("BentScreens$Ways", "lastUsed", "[Z", true)
  | 8 => ("BentScreens$Ways", "cameBy", "[I", true)
  | 9 => ("BentScreens$Ways", "queue", "[I", true)
  | 10 => ("BentScreens$Ways", "queued", "I", false)
  | 11 => ("BentScreens$Ways", "most", "I", false)
  | _ => ("BentScreens$Ways", "fresh", "Z", false)
def tyX10 : Nat → FieldType := fun k => match k with
  | 0 => .object "BentScreens$Told"
  | 1 => .array .boolean
  | 2 => .array .boolean
  | 3 => .array .int
  | 4 => .array .int
  | 5 => .array .boolean
  | 6 => .array .boolean
  | 7 => .array .boolean
  | 8 => .array .int
  | 9 => .array .int
  | 10 => .int
  | 11 => .int
  | _ => .boolean
abbrev wsX100 : List Cond := u_ws RX10 TX10 13
theorem nmX10 : ∀ a, a < 13 → ∀ b, b < 13 → a ≠ b → (TX10 a).2.1 ≠ (TX10 b).2.1 := by decide +kernel
theorem tyX10_ok : ∀ k, k < 13 → parseFieldDescriptor (TX10 k).2.2.1 = some (tyX10 k) := by decide +kernel
abbrev cX10_init : ByteArray := prog_12_method_1_code
def yX10_init : MethodName := ⟨RX10, "<init>", "(LBentScreens$Told;)V"⟩
abbrev cX10_forget : ByteArray := prog_12_method_2_code
def yX10_forget : MethodName := ⟨RX10, "forget", "()V"⟩
abbrev cX10_refresh : ByteArray := prog_12_method_3_code
def yX10_refresh : MethodName := ⟨RX10, "refresh", "()V"⟩
abbrev cX10_layNet : ByteArray := prog_12_method_4_code
def yX10_layNet : MethodName := ⟨RX10, "layNet", "()V"⟩
abbrev cX10_findWays : ByteArray := prog_12_method_5_code
def yX10_findWays : MethodName := ⟨RX10, "findWays", "()V"⟩
abbrev cX10_addWay : ByteArray := prog_12_method_6_code
def yX10_addWay : MethodName := ⟨RX10, "addWay", "()Z"⟩
abbrev cX10_turnFlow : ByteArray := prog_12_method_7_code
def yX10_turnFlow : MethodName := ⟨RX10, "turnFlow", "([III)V"⟩
abbrev cX10_explore : ByteArray := prog_12_method_8_code
def yX10_explore : MethodName := ⟨RX10, "explore", "()I"⟩
abbrev cX10_reach : ByteArray := prog_12_method_9_code
def yX10_reach : MethodName := ⟨RX10, "reach", "(II)V"⟩
abbrev cX10_isReached : ByteArray := prog_12_method_10_code
def yX10_isReached : MethodName := ⟨RX10, "isReached", "(I)Z"⟩
abbrev cX10_cuts : ByteArray := prog_12_method_11_code
def yX10_cuts : MethodName := ⟨RX10, "cuts", "(III)Z"⟩
abbrev cX10_countCut : ByteArray := prog_12_method_12_code
def yX10_countCut : MethodName := ⟨RX10, "countCut", "(I)I"⟩
def RX11 : String := "BentScreens"
def TX11 : u_T := fun k => match k with
  | 0 => ("BentScreens", "told", "LBentScreens$Told;", true)
  | 1 => ("BentScreens", "images", "[LBentScreens$Told;", true)
  | 2 => ("BentScreens", "filmText", "LBentScreens$FilmText;", true)
  | 3 => ("BentScreens", "rulesText", "LBentScreens$RulesText;", true)
  | 4 => ("BentScreens", "bend", "LBentScreens$Bend;", true)
  | 5 => ("BentScreens", "ways", "LBentScreens$Ways;", true)
  | 6 => ("BentScreens", "lamps", "LBentScreens$Lamps;", true)
  | 7 => ("BentScreens", "sheet", "LBentScreens$Sheet;", true)
  | 8 => ("BentScreens", "laws", "LBentScreens$Laws;", true)
  | 9 => ("BentScreens", "measures", "[I", true)
  | _ => ("BentScreens", "lineHolds", "[Z", true)
def tyX11 : Nat → FieldType := fun k => match k with
  | 0 => .object "BentScreens$Told"
  | 1 => .array (.object "BentScreens$Told")
  | 2 => .object "BentScreens$FilmText"
  | 3 => .object "BentScreens$RulesText"
  | 4 => .object "BentScreens$Bend"
  | 5 => .object "BentScreens$Ways"
  | 6 => .object "BentScreens$Lamps"
  | 7 => .object "BentScreens$Sheet"
  | 8 => .object "BentScreens$Laws"
  | 9 => .array .int
  | _ => .array .boolean
abbrev wsX110 : List Cond := u_ws RX11 TX11 11
theorem nmX11 : ∀ a, a < 11 → ∀ b, b < 11 → a ≠ b → (TX11 a).2.1 ≠ (TX11 b).2.1 := by decide +kernel
theorem tyX11_ok : ∀ k, k < 11 → parseFieldDescriptor (TX11 k).2.2.1 = some (tyX11 k) := by decide +kernel
abbrev cX11_init : ByteArray := prog_1_method_1_code
def yX11_init : MethodName := ⟨RX11, "<init>", "()V"⟩
abbrev cX11_feed : ByteArray := prog_1_method_2_code
def yX11_feed : MethodName := ⟨RX11, "feed", "(IIIII)I"⟩
abbrev cX11_end : ByteArray := prog_1_method_3_code
def yX11_end : MethodName := ⟨RX11, "end", "(I)I"⟩
abbrev cX11_film : ByteArray := prog_1_method_4_code
def yX11_film : MethodName := ⟨RX11, "film", "()I"⟩
abbrev cX11_fault : ByteArray := prog_1_method_5_code
def yX11_fault : MethodName := ⟨RX11, "fault", "(I)I"⟩
abbrev cX11_layer : ByteArray := prog_1_method_6_code
def yX11_layer : MethodName := ⟨RX11, "layer", "(II)I"⟩
abbrev cX11_neutral : ByteArray := prog_1_method_7_code
def yX11_neutral : MethodName := ⟨RX11, "neutral", "(I)I"⟩
abbrev cX11_stretch : ByteArray := prog_1_method_8_code
def yX11_stretch : MethodName := ⟨RX11, "stretch", "(II)I"⟩
abbrev cX11_bears : ByteArray := prog_1_method_9_code
def yX11_bears : MethodName := ⟨RX11, "bears", "(II)Z"⟩
abbrev cX11_least : ByteArray := prog_1_method_10_code
def yX11_least : MethodName := ⟨RX11, "least", "()I"⟩
abbrev cX11_worst : ByteArray := prog_1_method_11_code
def yX11_worst : MethodName := ⟨RX11, "worst", "(I)I"⟩
abbrev cX11_order : ByteArray := prog_1_method_12_code
def yX11_order : MethodName := ⟨RX11, "order", "(I)I"⟩
abbrev cX11_tired : ByteArray := prog_1_method_13_code
def yX11_tired : MethodName := ⟨RX11, "tired", "(II)I"⟩
abbrev cX11_cracks : ByteArray := prog_1_method_14_code
def yX11_cracks : MethodName := ⟨RX11, "cracks", "(I)I"⟩
abbrev cX11_day : ByteArray := prog_1_method_15_code
def yX11_day : MethodName := ⟨RX11, "day", "(I)Z"⟩
abbrev cX11_view : ByteArray := prog_1_method_16_code
def yX11_view : MethodName := ⟨RX11, "view", "(I)Z"⟩
abbrev cX11_crack : ByteArray := prog_1_method_17_code
def yX11_crack : MethodName := ⟨RX11, "crack", "(ZII)Z"⟩
abbrev cX11_leads : ByteArray := prog_1_method_18_code
def yX11_leads : MethodName := ⟨RX11, "leads", "(ZII)Z"⟩
abbrev cX11_most : ByteArray := prog_1_method_19_code
def yX11_most : MethodName := ⟨RX11, "most", "()I"⟩
abbrev cX11_fed : ByteArray := prog_1_method_20_code
def yX11_fed : MethodName := ⟨RX11, "fed", "(I)Z"⟩
abbrev cX11_cut : ByteArray := prog_1_method_21_code
def yX11_cut : MethodName := ⟨RX11, "cut", "(I)I"⟩
abbrev cX11_inCut : ByteArray := prog_1_method_22_code
def yX11_inCut : MethodName := ⟨RX11, "inCut", "(III)Z"⟩
abbrev cX11_cost : ByteArray := prog_1_method_23_code
def yX11_cost : MethodName := ⟨RX11, "cost", "(II)Z"⟩
abbrev cX11_mend : ByteArray := prog_1_method_24_code
def yX11_mend : MethodName := ⟨RX11, "mend", "(I)I"⟩
abbrev cX11_picture : ByteArray := prog_1_method_25_code
def yX11_picture : MethodName := ⟨RX11, "picture", "(IIIIII)I"⟩
abbrev cX11_left : ByteArray := prog_1_method_26_code
def yX11_left : MethodName := ⟨RX11, "left", "(II)I"⟩
abbrev cX11_unlike : ByteArray := prog_1_method_27_code
def yX11_unlike : MethodName := ⟨RX11, "unlike", "()I"⟩
abbrev cX11_wet : ByteArray := prog_1_method_28_code
def yX11_wet : MethodName := ⟨RX11, "wet", "(I)Z"⟩
abbrev cX11_damp : ByteArray := prog_1_method_29_code
def yX11_damp : MethodName := ⟨RX11, "damp", "(II)I"⟩
abbrev cX11_dark : ByteArray := prog_1_method_30_code
def yX11_dark : MethodName := ⟨RX11, "dark", "(II)Z"⟩
abbrev cX11_darks : ByteArray := prog_1_method_31_code
def yX11_darks : MethodName := ⟨RX11, "darks", "()I"⟩
abbrev cX11_lasts : ByteArray := prog_1_method_32_code
def yX11_lasts : MethodName := ⟨RX11, "lasts", "(I)I"⟩
abbrev cX11_shift : ByteArray := prog_1_method_33_code
def yX11_shift : MethodName := ⟨RX11, "shift", "()I"⟩
abbrev cX11_value : ByteArray := prog_1_method_34_code
def yX11_value : MethodName := ⟨RX11, "value", "(IIII)I"⟩
abbrev cX11_panels : ByteArray := prog_1_method_35_code
def yX11_panels : MethodName := ⟨RX11, "panels", "()I"⟩
abbrev cX11_panel : ByteArray := prog_1_method_36_code
def yX11_panel : MethodName := ⟨RX11, "panel", "(II)I"⟩
abbrev cX11_hand : ByteArray := prog_1_method_37_code
def yX11_hand : MethodName := ⟨RX11, "hand", "(III)I"⟩
abbrev cX11_broken : ByteArray := prog_1_method_38_code
def yX11_broken : MethodName := ⟨RX11, "broken", "(II)Z"⟩
abbrev cX11_share : ByteArray := prog_1_method_39_code
def yX11_share : MethodName := ⟨RX11, "share", "(I)I"⟩
abbrev cX11_promise : ByteArray := prog_1_method_40_code
def yX11_promise : MethodName := ⟨RX11, "promise", "(I)I"⟩
abbrev cX11_test : ByteArray := prog_1_method_41_code
def yX11_test : MethodName := ⟨RX11, "test", "(IIII)I"⟩
abbrev cX11_kept : ByteArray := prog_1_method_42_code
def yX11_kept : MethodName := ⟨RX11, "kept", "()I"⟩
abbrev cX11_law : ByteArray := prog_1_method_43_code
def yX11_law : MethodName := ⟨RX11, "law", "(I)I"⟩
abbrev cX11_span : ByteArray := prog_1_method_44_code
def yX11_span : MethodName := ⟨RX11, "span", "(IZ)I"⟩
abbrev cX11_quarrel : ByteArray := prog_1_method_45_code
def yX11_quarrel : MethodName := ⟨RX11, "quarrel", "(I)I"⟩
abbrev cX11_next : ByteArray := prog_1_method_46_code
def yX11_next : MethodName := ⟨RX11, "next", "(I)I"⟩
abbrev cX11_rules : ByteArray := prog_1_method_47_code
def yX11_rules : MethodName := ⟨RX11, "rules", "()I"⟩
abbrev cX11_barred : ByteArray := prog_1_method_48_code
def yX11_barred : MethodName := ⟨RX11, "barred", "()I"⟩
abbrev cX11_price : ByteArray := prog_1_method_49_code
def yX11_price : MethodName := ⟨RX11, "price", "()I"⟩
abbrev cX11_count : ByteArray := prog_1_method_50_code
def yX11_count : MethodName := ⟨RX11, "count", "(I)I"⟩
abbrev cX11_image : ByteArray := prog_1_method_51_code
def yX11_image : MethodName := ⟨RX11, "image", "(I)Z"⟩
abbrev cX11_again : ByteArray := prog_1_method_52_code
def yX11_again : MethodName := ⟨RX11, "again", "(I)Z"⟩
abbrev cX11_isIn : ByteArray := prog_1_method_53_code
def yX11_isIn : MethodName := ⟨RX11, "isIn", "(III)Z"⟩
abbrev cX11_isRound : ByteArray := prog_1_method_54_code
def yX11_isRound : MethodName := ⟨RX11, "isRound", "(I)Z"⟩
abbrev cX11_divide : ByteArray := prog_1_method_55_code
def yX11_divide : MethodName := ⟨RX11, "divide", "(JJ)J"⟩
abbrev cX11_hasPoint : ByteArray := prog_1_method_56_code
def yX11_hasPoint : MethodName := ⟨RX11, "hasPoint", "(II)Z"⟩
abbrev cX11_hasPart : ByteArray := prog_1_method_57_code
def yX11_hasPart : MethodName := ⟨RX11, "hasPart", "(ZII)Z"⟩
abbrev cX11_cracksToMend : ByteArray := prog_1_method_58_code
def yX11_cracksToMend : MethodName := ⟨RX11, "cracksToMend", "()I"⟩
abbrev cX11_costOf : ByteArray := prog_1_method_59_code
def yX11_costOf : MethodName := ⟨RX11, "costOf", "(I)I"⟩
abbrev cX11_forgetFilm : ByteArray := prog_1_method_60_code
def yX11_forgetFilm : MethodName := ⟨RX11, "forgetFilm", "()V"⟩
abbrev cX11_refreshLamps : ByteArray := prog_1_method_61_code
def yX11_refreshLamps : MethodName := ⟨RX11, "refreshLamps", "()V"⟩
abbrev cX11_isDark : ByteArray := prog_1_method_62_code
def yX11_isDark : MethodName := ⟨RX11, "isDark", "(II)Z"⟩
abbrev cX11_countDark : ByteArray := prog_1_method_63_code
def yX11_countDark : MethodName := ⟨RX11, "countDark", "()I"⟩
abbrev cX11_isBroken : ByteArray := prog_1_method_64_code
def yX11_isBroken : MethodName := ⟨RX11, "isBroken", "(II)Z"⟩
abbrev cX11_brokenShare : ByteArray := prog_1_method_65_code
def yX11_brokenShare : MethodName := ⟨RX11, "brokenShare", "(I)I"⟩
abbrev cX11_measureAll : ByteArray := prog_1_method_66_code
def yX11_measureAll : MethodName := ⟨RX11, "measureAll", "()V"⟩
abbrev cX11_judgeLines : ByteArray := prog_1_method_67_code
def yX11_judgeLines : MethodName := ⟨RX11, "judgeLines", "()V"⟩
abbrev cX11_testHolds : ByteArray := prog_1_method_68_code
def yX11_testHolds : MethodName := ⟨RX11, "testHolds", "(I)Z"⟩
abbrev cX11_countOfFilm : ByteArray := prog_1_method_69_code
def yX11_countOfFilm : MethodName := ⟨RX11, "countOfFilm", "(I)I"⟩
def RX12 : String := "BentScreensModel"
def TX12 : u_T := fun k => match k with
  | 0 => ("BentScreensModel", "all", "[I", true)
  | 1 => ("BentScreensModel", "has", "[Z", true)
  | 2 => ("BentScreensModel", "inRules", "Z", false)
  | 3 => ("BentScreensModel", "sign", "I", false)
  | 4 => ("BentScreensModel", "size", "I", false)
  | 5 => ("BentScreensModel", "next", "I", false)
  | 6 => ("BentScreensModel", "where", "I", false)
  | 7 => ("BentScreensModel", "token", "I", false)
  | 8 => ("BentScreensModel", "number", "I", false)
  | 9 => ("BentScreensModel", "word", "I", false)
  | 10 => ("BentScreensModel", "wrong", "Z", false)
  | 11 => ("BentScreensModel", "many", "[I", true)
  | 12 => ("BentScreensModel", "read", "[I", true)
  | 13 => ("BentScreensModel", "flawAt", "[I", true)
  | 14 => ("BentScreensModel", "lines", "I", false)
  | 15 => ("BentScreensModel", "order", "[I", true)
  | 16 => ("BentScreensModel", "best", "[I", true)
  | 17 => ("BentScreensModel", "bottom", "[I", true)
  | 18 => ("BentScreensModel", "head", "[I", true)
  | 19 => ("BentScreensModel", "above", "[J", true)
  | 20 => ("BentScreensModel", "under", "[J", true)
  | 21 => ("BentScreensModel", "far", "[J", true)
  | 22 => ("BentScreensModel", "part", "J", false)
  | 23 => ("BentScreensModel", "whole", "J", false)
  | 24 => ("BentScreensModel", "mended", "I", false)
  | 25 => ("BentScreensModel", "along", "[I", true)
  | 26 => ("BentScreensModel", "down", "[I", true)
  | 27 => ("BentScreensModel", "first", "[I", true)
  | 28 => ("BentScreensModel", "last", "[I", true)
  | 29 => ("BentScreensModel", "goesLine", "[Z", true)
  | 30 => ("BentScreensModel", "goesRail", "[Z", true)
  | 31 => ("BentScreensModel", "met", "[I", true)
  | 32 => ("BentScreensModel", "from", "[I", true)
  | 33 => ("BentScreensModel", "mets", "I", false)
  | 34 => ("BentScreensModel", "age", "[I", true)
  | 35 => ("BentScreensModel", "damp", "[I", true)
  | 36 => ("BentScreensModel", "newDamp", "[I", true)
  | 37 => ("BentScreensModel", "value", "[I", true)
  | 38 => ("BentScreensModel", "flawed", "[Z", true)
  | 39 => ("BentScreensModel", "stack", "[I", true)
  | 40 => ("BentScreensModel", "plan", "[I", true)
  | 41 => ("BentScreensModel", "planned", "I", false)
  | 42 => ("BentScreensModel", "parts", "I", false)
  | 43 => ("BentScreensModel", "sum", "[I", true)
  | 44 => ("BentScreensModel", "keptBy", "[I", true)
  | 45 => ("BentScreensModel", "ruled", "[I", true)
  | _ => ("BentScreensModel", "test0", "[I", true)
def tyX12 : Nat → FieldType := fun k => match k with
  | 0 => .array .int
  | 1 => .array .boolean
  | 2 => .boolean
  | 3 => .int
  | 4 => .int
  | 5 => .int
  | 6 => .int
  | 7 => .int
  | 8 => .int
  | 9 => .int
  | 10 => .boolean
  | 11 => .array .int
  | 12 => .array .int
  | 13 => .array .int
  | 14 => .int
  | 15 => .array .int
  | 16 => .array .int
  | 17 => .array .int
  | 18 => .array .int
  | 19 => .array .long
  | 20 => .array .long
  | 21 => .array .long
  | 22 => .long
  | 23 => .long
  | 24 => .int
  | 25 => .array .int
  | 26 => .array .int
  | 27 => .array .int
  | 28 => .array .int
  | 29 => .array .boolean
  | 30 => .array .boolean
  | 31 => .array .int
  | 32 => .array .int
  | 33 => .int
  | 34 => .array .int
  | 35 => .array .int
  | 36 => .array .int
  | 37 => .array .int
  | 38 => .array .boolean
  | 39 => .array .int
  | 40 => .array .int
  | 41 => .int
  | 42 => .int
  | 43 => .array .int
  | 44 => .array .int
  | 45 => .array .int
  | _ => .array .int
abbrev wsX120 : List Cond := u_ws RX12 TX12 47
theorem nmX12 : ∀ a, a < 47 → ∀ b, b < 47 → a ≠ b → (TX12 a).2.1 ≠ (TX12 b).2.1 := by decide +kernel
theorem tyX12_ok : ∀ k, k < 47 → parseFieldDescriptor (TX12 k).2.2.1 = some (tyX12 k) := by decide +kernel
abbrev cX12_init : ByteArray := prog_14_method_1_code
def yX12_init : MethodName := ⟨RX12, "<init>", "()V"⟩
abbrev cX12_isIn : ByteArray := prog_14_method_2_code
def yX12_isIn : MethodName := ⟨RX12, "isIn", "(III)Z"⟩
abbrev cX12_isOf : ByteArray := prog_14_method_3_code
def yX12_isOf : MethodName := ⟨RX12, "isOf", "(II)Z"⟩
abbrev cX12_feed : ByteArray := prog_14_method_4_code
def yX12_feed : MethodName := ⟨RX12, "feed", "(IIIII)I"⟩
abbrev cX12_end : ByteArray := prog_14_method_5_code
def yX12_end : MethodName := ⟨RX12, "end", "(I)I"⟩
abbrev cX12_byteAt : ByteArray := prog_14_method_6_code
def yX12_byteAt : MethodName := ⟨RX12, "byteAt", "(I)I"⟩
abbrev cX12_isLetter : ByteArray := prog_14_method_7_code
def yX12_isLetter : MethodName := ⟨RX12, "isLetter", "(I)Z"⟩
abbrev cX12_isDigit : ByteArray := prog_14_method_8_code
def yX12_isDigit : MethodName := ⟨RX12, "isDigit", "(I)Z"⟩
abbrev cX12_three : ByteArray := prog_14_method_9_code
def yX12_three : MethodName := ⟨RX12, "three", "(III)J"⟩
abbrev cX12_four : ByteArray := prog_14_method_10_code
def yX12_four : MethodName := ⟨RX12, "four", "(IIII)J"⟩
abbrev cX12_five : ByteArray := prog_14_method_11_code
def yX12_five : MethodName := ⟨RX12, "five", "(IIIII)J"⟩
abbrev cX12_wordOf : ByteArray := prog_14_method_12_code
def yX12_wordOf : MethodName := ⟨RX12, "wordOf", "(J)I"⟩
abbrev cX12_six : ByteArray := prog_14_method_13_code
def yX12_six : MethodName := ⟨RX12, "six", "(JJ)J"⟩
abbrev cX12_ruleWordOf : ByteArray := prog_14_method_14_code
def yX12_ruleWordOf : MethodName := ⟨RX12, "ruleWordOf", "(J)I"⟩
abbrev cX12_isSignByte : ByteArray := prog_14_method_15_code
def yX12_isSignByte : MethodName := ⟨RX12, "isSignByte", "(I)Z"⟩
abbrev cX12_advance : ByteArray := prog_14_method_16_code
def yX12_advance : MethodName := ⟨RX12, "advance", "()V"⟩
abbrev cX12_ends : ByteArray := prog_14_method_17_code
def yX12_ends : MethodName := ⟨RX12, "ends", "()V"⟩
abbrev cX12_also : ByteArray := prog_14_method_18_code
def yX12_also : MethodName := ⟨RX12, "also", "(II)V"⟩
abbrev cX12_numbered : ByteArray := prog_14_method_19_code
def yX12_numbered : MethodName := ⟨RX12, "numbered", "(II)I"⟩
abbrev cX12_mostOf : ByteArray := prog_14_method_20_code
def yX12_mostOf : MethodName := ⟨RX12, "mostOf", "(I)I"⟩
abbrev cX12_puts : ByteArray := prog_14_method_21_code
def yX12_puts : MethodName := ⟨RX12, "puts", "(IIII)V"⟩
abbrev cX12_isLifeTold : ByteArray := prog_14_method_22_code
def yX12_isLifeTold : MethodName := ⟨RX12, "isLifeTold", "(II)Z"⟩
abbrev cX12_aLayer : ByteArray := prog_14_method_23_code
def yX12_aLayer : MethodName := ⟨RX12, "aLayer", "(I)V"⟩
abbrev cX12_aLine : ByteArray := prog_14_method_24_code
def yX12_aLine : MethodName := ⟨RX12, "aLine", "()V"⟩
abbrev cX12_begins : ByteArray := prog_14_method_25_code
def yX12_begins : MethodName := ⟨RX12, "begins", "(Z)V"⟩
abbrev cX12_film : ByteArray := prog_14_method_26_code
def yX12_film : MethodName := ⟨RX12, "film", "()I"⟩
abbrev cX12_fault : ByteArray := prog_14_method_27_code
def yX12_fault : MethodName := ⟨RX12, "fault", "(I)I"⟩
abbrev cX12_layerOf : ByteArray := prog_14_method_28_code
def yX12_layerOf : MethodName := ⟨RX12, "layerOf", "(II)I"⟩
abbrev cX12_size0 : ByteArray := prog_14_method_29_code
def yX12_size0 : MethodName := ⟨RX12, "size0", "(J)J"⟩
abbrev cX12_inOrder : ByteArray := prog_14_method_30_code
def yX12_inOrder : MethodName := ⟨RX12, "inOrder", "()V"⟩
abbrev cX12_blocks : ByteArray := prog_14_method_31_code
def yX12_blocks : MethodName := ⟨RX12, "blocks", "()V"⟩
abbrev cX12_leastNow : ByteArray := prog_14_method_32_code
def yX12_leastNow : MethodName := ⟨RX12, "leastNow", "()I"⟩
abbrev cX12_isRound : ByteArray := prog_14_method_33_code
def yX12_isRound : MethodName := ⟨RX12, "isRound", "(I)Z"⟩
abbrev cX12_asTold : ByteArray := prog_14_method_34_code
def yX12_asTold : MethodName := ⟨RX12, "asTold", "()V"⟩
abbrev cX12_layer : ByteArray := prog_14_method_35_code
def yX12_layer : MethodName := ⟨RX12, "layer", "(II)I"⟩
abbrev cX12_neutral : ByteArray := prog_14_method_36_code
def yX12_neutral : MethodName := ⟨RX12, "neutral", "(I)I"⟩
abbrev cX12_stretch : ByteArray := prog_14_method_37_code
def yX12_stretch : MethodName := ⟨RX12, "stretch", "(II)I"⟩
abbrev cX12_bears : ByteArray := prog_14_method_38_code
def yX12_bears : MethodName := ⟨RX12, "bears", "(II)Z"⟩
abbrev cX12_least : ByteArray := prog_14_method_39_code
def yX12_least : MethodName := ⟨RX12, "least", "()I"⟩
abbrev cX12_worst : ByteArray := prog_14_method_40_code
def yX12_worst : MethodName := ⟨RX12, "worst", "(I)I"⟩
abbrev cX12_reorders : ByteArray := prog_14_method_41_code
def yX12_reorders : MethodName := ⟨RX12, "reorders", "(I)Z"⟩
abbrev cX12_swap : ByteArray := prog_14_method_42_code
def yX12_swap : MethodName := ⟨RX12, "swap", "(II)V"⟩
abbrev cX12_order : ByteArray := prog_14_method_43_code
def yX12_order : MethodName := ⟨RX12, "order", "(I)I"⟩
abbrev cX12_lifeOf : ByteArray := prog_14_method_44_code
def yX12_lifeOf : MethodName := ⟨RX12, "lifeOf", "(II)I"⟩
abbrev cX12_tires : ByteArray := prog_14_method_45_code
def yX12_tires : MethodName := ⟨RX12, "tires", "(II)V"⟩
abbrev cX12_tired : ByteArray := prog_14_method_46_code
def yX12_tired : MethodName := ⟨RX12, "tired", "(II)I"⟩
abbrev cX12_cracks : ByteArray := prog_14_method_47_code
def yX12_cracks : MethodName := ⟨RX12, "cracks", "(I)I"⟩
abbrev cX12_day : ByteArray := prog_14_method_48_code
def yX12_day : MethodName := ⟨RX12, "day", "(I)Z"⟩
abbrev cX12_view : ByteArray := prog_14_method_49_code
def yX12_view : MethodName := ⟨RX12, "view", "(I)Z"⟩
abbrev cX12_isThere : ByteArray := prog_14_method_50_code
def yX12_isThere : MethodName := ⟨RX12, "isThere", "(ZII)Z"⟩
abbrev cX12_isCracked : ByteArray := prog_14_method_51_code
def yX12_isCracked : MethodName := ⟨RX12, "isCracked", "(ZIII)Z"⟩
abbrev cX12_crack : ByteArray := prog_14_method_52_code
def yX12_crack : MethodName := ⟨RX12, "crack", "(ZII)Z"⟩
abbrev cX12_isLed : ByteArray := prog_14_method_53_code
def yX12_isLed : MethodName := ⟨RX12, "isLed", "(ZII)Z"⟩
abbrev cX12_leads : ByteArray := prog_14_method_54_code
def yX12_leads : MethodName := ⟨RX12, "leads", "(ZII)Z"⟩
abbrev cX12_looks : ByteArray := prog_14_method_55_code
def yX12_looks : MethodName := ⟨RX12, "looks", "()V"⟩
abbrev cX12_meets : ByteArray := prog_14_method_56_code
def yX12_meets : MethodName := ⟨RX12, "meets", "(II)V"⟩
abbrev cX12_spreads : ByteArray := prog_14_method_57_code
def yX12_spreads : MethodName := ⟨RX12, "spreads", "()V"⟩
abbrev cX12_goesBack : ByteArray := prog_14_method_58_code
def yX12_goesBack : MethodName := ⟨RX12, "goesBack", "(I)V"⟩
abbrev cX12_flows : ByteArray := prog_14_method_59_code
def yX12_flows : MethodName := ⟨RX12, "flows", "(I)I"⟩
abbrev cX12_allRows : ByteArray := prog_14_method_60_code
def yX12_allRows : MethodName := ⟨RX12, "allRows", "()I"⟩
abbrev cX12_most : ByteArray := prog_14_method_61_code
def yX12_most : MethodName := ⟨RX12, "most", "()I"⟩
abbrev cX12_fedRows : ByteArray := prog_14_method_62_code
def yX12_fedRows : MethodName := ⟨RX12, "fedRows", "()I"⟩
abbrev cX12_fed : ByteArray := prog_14_method_63_code
def yX12_fed : MethodName := ⟨RX12, "fed", "(I)Z"⟩
abbrev cX12_cuts : ByteArray := prog_14_method_64_code
def yX12_cuts : MethodName := ⟨RX12, "cuts", "()V"⟩
abbrev cX12_isJoined : ByteArray := prog_14_method_65_code
def yX12_isJoined : MethodName := ⟨RX12, "isJoined", "(II)Z"⟩
abbrev cX12_isInCut : ByteArray := prog_14_method_66_code
def yX12_isInCut : MethodName := ⟨RX12, "isInCut", "(III)Z"⟩
abbrev cX12_cut : ByteArray := prog_14_method_67_code
def yX12_cut : MethodName := ⟨RX12, "cut", "(I)I"⟩
abbrev cX12_inCut : ByteArray := prog_14_method_68_code
def yX12_inCut : MethodName := ⟨RX12, "inCut", "(III)Z"⟩
abbrev cX12_picture : ByteArray := prog_14_method_69_code
def yX12_picture : MethodName := ⟨RX12, "picture", "(IIIIII)I"⟩
abbrev cX12_isPoint : ByteArray := prog_14_method_70_code
def yX12_isPoint : MethodName := ⟨RX12, "isPoint", "(II)Z"⟩
abbrev cX12_ages : ByteArray := prog_14_method_71_code
def yX12_ages : MethodName := ⟨RX12, "ages", "()V"⟩
abbrev cX12_leftOf : ByteArray := prog_14_method_72_code
def yX12_leftOf : MethodName := ⟨RX12, "leftOf", "(I)I"⟩
abbrev cX12_left : ByteArray := prog_14_method_73_code
def yX12_left : MethodName := ⟨RX12, "left", "(II)I"⟩
abbrev cX12_unlike : ByteArray := prog_14_method_74_code
def yX12_unlike : MethodName := ⟨RX12, "unlike", "()I"⟩
abbrev cX12_wet : ByteArray := prog_14_method_75_code
def yX12_wet : MethodName := ⟨RX12, "wet", "(I)Z"⟩
abbrev cX12_wetAt : ByteArray := prog_14_method_76_code
def yX12_wetAt : MethodName := ⟨RX12, "wetAt", "(II)I"⟩
abbrev cX12_damps : ByteArray := prog_14_method_77_code
def yX12_damps : MethodName := ⟨RX12, "damps", "()V"⟩
abbrev cX12_damp : ByteArray := prog_14_method_78_code
def yX12_damp : MethodName := ⟨RX12, "damp", "(II)I"⟩
abbrev cX12_darkens : ByteArray := prog_14_method_79_code
def yX12_darkens : MethodName := ⟨RX12, "darkens", "()I"⟩
abbrev cX12_isDark : ByteArray := prog_14_method_80_code
def yX12_isDark : MethodName := ⟨RX12, "isDark", "(II)Z"⟩
abbrev cX12_dark : ByteArray := prog_14_method_81_code
def yX12_dark : MethodName := ⟨RX12, "dark", "(II)Z"⟩
abbrev cX12_darks : ByteArray := prog_14_method_82_code
def yX12_darks : MethodName := ⟨RX12, "darks", "()I"⟩
abbrev cX12_at : ByteArray := prog_14_method_83_code
def yX12_at : MethodName := ⟨RX12, "at", "(IIII)I"⟩
abbrev cX12_hasFlaw : ByteArray := prog_14_method_84_code
def yX12_hasFlaw : MethodName := ⟨RX12, "hasFlaw", "(IIII)Z"⟩
abbrev cX12_panelOf : ByteArray := prog_14_method_85_code
def yX12_panelOf : MethodName := ⟨RX12, "panelOf", "(IIII)I"⟩
abbrev cX12_pieceOf : ByteArray := prog_14_method_86_code
def yX12_pieceOf : MethodName := ⟨RX12, "pieceOf", "(IIII)I"⟩
abbrev cX12_values : ByteArray := prog_14_method_87_code
def yX12_values : MethodName := ⟨RX12, "values", "()V"⟩
abbrev cX12_value : ByteArray := prog_14_method_88_code
def yX12_value : MethodName := ⟨RX12, "value", "(IIII)I"⟩
abbrev cX12_lays : ByteArray := prog_14_method_89_code
def yX12_lays : MethodName := ⟨RX12, "lays", "(IIII)V"⟩
abbrev cX12_plansOne : ByteArray := prog_14_method_90_code
def yX12_plansOne : MethodName := ⟨RX12, "plansOne", "(I)V"⟩
abbrev cX12_plans : ByteArray := prog_14_method_91_code
def yX12_plans : MethodName := ⟨RX12, "plans", "()V"⟩
abbrev cX12_panels : ByteArray := prog_14_method_92_code
def yX12_panels : MethodName := ⟨RX12, "panels", "()I"⟩
abbrev cX12_panel : ByteArray := prog_14_method_93_code
def yX12_panel : MethodName := ⟨RX12, "panel", "(II)I"⟩
abbrev cX12_cracksSeen : ByteArray := prog_14_method_94_code
def yX12_cracksSeen : MethodName := ⟨RX12, "cracksSeen", "()I"⟩
abbrev cX12_cost : ByteArray := prog_14_method_95_code
def yX12_cost : MethodName := ⟨RX12, "cost", "(II)Z"⟩
abbrev cX12_ones : ByteArray := prog_14_method_96_code
def yX12_ones : MethodName := ⟨RX12, "ones", "(I)I"⟩
abbrev cX12_isFedBy : ByteArray := prog_14_method_97_code
def yX12_isFedBy : MethodName := ⟨RX12, "isFedBy", "(I)Z"⟩
abbrev cX12_mend : ByteArray := prog_14_method_98_code
def yX12_mend : MethodName := ⟨RX12, "mend", "(I)I"⟩
abbrev cX12_hand : ByteArray := prog_14_method_99_code
def yX12_hand : MethodName := ⟨RX12, "hand", "(III)I"⟩
abbrev cX12_breaks : ByteArray := prog_14_method_100_code
def yX12_breaks : MethodName := ⟨RX12, "breaks", "(II)Z"⟩
abbrev cX12_broken : ByteArray := prog_14_method_101_code
def yX12_broken : MethodName := ⟨RX12, "broken", "(II)Z"⟩
abbrev cX12_shareOf : ByteArray := prog_14_method_102_code
def yX12_shareOf : MethodName := ⟨RX12, "shareOf", "(I)I"⟩
abbrev cX12_share : ByteArray := prog_14_method_103_code
def yX12_share : MethodName := ⟨RX12, "share", "(I)I"⟩
abbrev cX12_promise : ByteArray := prog_14_method_104_code
def yX12_promise : MethodName := ⟨RX12, "promise", "(I)I"⟩
abbrev cX12_lastsOf : ByteArray := prog_14_method_105_code
def yX12_lastsOf : MethodName := ⟨RX12, "lastsOf", "(I)I"⟩
abbrev cX12_lasts : ByteArray := prog_14_method_106_code
def yX12_lasts : MethodName := ⟨RX12, "lasts", "(I)I"⟩
abbrev cX12_shift : ByteArray := prog_14_method_107_code
def yX12_shift : MethodName := ⟨RX12, "shift", "()I"⟩
abbrev cX12_test : ByteArray := prog_14_method_108_code
def yX12_test : MethodName := ⟨RX12, "test", "(IIII)I"⟩
abbrev cX12_lawAt : ByteArray := prog_14_method_109_code
def yX12_lawAt : MethodName := ⟨RX12, "lawAt", "(II)I"⟩
abbrev cX12_keeps : ByteArray := prog_14_method_110_code
def yX12_keeps : MethodName := ⟨RX12, "keeps", "()V"⟩
abbrev cX12_allTests : ByteArray := prog_14_method_111_code
def yX12_allTests : MethodName := ⟨RX12, "allTests", "()I"⟩
abbrev cX12_isLaw : ByteArray := prog_14_method_112_code
def yX12_isLaw : MethodName := ⟨RX12, "isLaw", "(I)Z"⟩
abbrev cX12_manyKept : ByteArray := prog_14_method_113_code
def yX12_manyKept : MethodName := ⟨RX12, "manyKept", "()I"⟩
abbrev cX12_kept : ByteArray := prog_14_method_114_code
def yX12_kept : MethodName := ⟨RX12, "kept", "()I"⟩
abbrev cX12_law : ByteArray := prog_14_method_115_code
def yX12_law : MethodName := ⟨RX12, "law", "(I)I"⟩
abbrev cX12_span : ByteArray := prog_14_method_116_code
def yX12_span : MethodName := ⟨RX12, "span", "(IZ)I"⟩
abbrev cX12_isQuarrel : ByteArray := prog_14_method_117_code
def yX12_isQuarrel : MethodName := ⟨RX12, "isQuarrel", "(I)Z"⟩
abbrev cX12_quarrel : ByteArray := prog_14_method_118_code
def yX12_quarrel : MethodName := ⟨RX12, "quarrel", "(I)I"⟩
abbrev cX12_next : ByteArray := prog_14_method_119_code
def yX12_next : MethodName := ⟨RX12, "next", "(I)I"⟩
abbrev cX12_takes : ByteArray := prog_14_method_120_code
def yX12_takes : MethodName := ⟨RX12, "takes", "(I)Z"⟩
abbrev cX12_must : ByteArray := prog_14_method_121_code
def yX12_must : MethodName := ⟨RX12, "must", "(I)V"⟩
abbrev cX12_numberNow : ByteArray := prog_14_method_122_code
def yX12_numberNow : MethodName := ⟨RX12, "numberNow", "()I"⟩
abbrev cX12_aTest : ByteArray := prog_14_method_123_code
def yX12_aTest : MethodName := ⟨RX12, "aTest", "()V"⟩
abbrev cX12_rulePuts : ByteArray := prog_14_method_124_code
def yX12_rulePuts : MethodName := ⟨RX12, "rulePuts", "(II)V"⟩
abbrev cX12_aRule : ByteArray := prog_14_method_125_code
def yX12_aRule : MethodName := ⟨RX12, "aRule", "()V"⟩
abbrev cX12_rules : ByteArray := prog_14_method_126_code
def yX12_rules : MethodName := ⟨RX12, "rules", "()I"⟩
abbrev cX12_slides : ByteArray := prog_14_method_127_code
def yX12_slides : MethodName := ⟨RX12, "slides", "()I"⟩
abbrev cX12_asked : ByteArray := prog_14_method_128_code
def yX12_asked : MethodName := ⟨RX12, "asked", "(I)I"⟩
abbrev cX12_holds : ByteArray := prog_14_method_129_code
def yX12_holds : MethodName := ⟨RX12, "holds", "(I)Z"⟩
abbrev cX12_barred : ByteArray := prog_14_method_130_code
def yX12_barred : MethodName := ⟨RX12, "barred", "()I"⟩
abbrev cX12_price : ByteArray := prog_14_method_131_code
def yX12_price : MethodName := ⟨RX12, "price", "()I"⟩
abbrev cX12_count : ByteArray := prog_14_method_132_code
def yX12_count : MethodName := ⟨RX12, "count", "(I)I"⟩
abbrev cX12_image : ByteArray := prog_14_method_133_code
def yX12_image : MethodName := ⟨RX12, "image", "(I)Z"⟩
abbrev cX12_again : ByteArray := prog_14_method_134_code
def yX12_again : MethodName := ⟨RX12, "again", "(I)Z"⟩
def RJ6 : String := "java/lang/Integer"
def TJ6 : u_T := fun k => match k with
  | _ => ("", "", "", false)
def tyJ6 : Nat → FieldType := fun k => match k with
  | _ => .int
abbrev wsJ60 : List Cond := u_ws RJ6 TJ6 0
theorem nmJ6 : ∀ a, a < 0 → ∀ b, b < 0 → a ≠ b → (TJ6 a).2.1 ≠ (TJ6 b).2.1 := by decide +kernel
theorem tyJ6_ok : ∀ k, k < 0 → parseFieldDescriptor (TJ6 k).2.2.1 = some (tyJ6 k) := by decide +kernel
abbrev cJ6_bitCount_0f7a4 : ByteArray := prog_15_method_49_code
def yJ6_bitCount_0f7a4 : MethodName := ⟨RJ6, "bitCount", "(I)I"⟩
def RJ9 : String := "java/lang/Math"
def TJ9 : u_T := fun k => match k with
  | _ => ("", "", "", false)
def tyJ9 : Nat → FieldType := fun k => match k with
  | _ => .int
abbrev wsJ90 : List Cond := u_ws RJ9 TJ9 0
theorem nmJ9 : ∀ a, a < 0 → ∀ b, b < 0 → a ≠ b → (TJ9 a).2.1 ≠ (TJ9 b).2.1 := by decide +kernel
theorem tyJ9_ok : ∀ k, k < 0 → parseFieldDescriptor (TJ9 k).2.2.1 = some (tyJ9 k) := by decide +kernel
abbrev cJ9_abs_067f4 : ByteArray := prog_16_method_61_code
def yJ9_abs_067f4 : MethodName := ⟨RJ9, "abs", "(J)J"⟩
abbrev cJ9_max_7cf53 : ByteArray := prog_16_method_65_code
def yJ9_max_7cf53 : MethodName := ⟨RJ9, "max", "(II)I"⟩
abbrev cJ9_max_f86c9 : ByteArray := prog_16_method_66_code
def yJ9_max_f86c9 : MethodName := ⟨RJ9, "max", "(JJ)J"⟩
abbrev cJ9_min_7cf53 : ByteArray := prog_16_method_69_code
def yJ9_min_7cf53 : MethodName := ⟨RJ9, "min", "(II)I"⟩
abbrev cJ9_min_f86c9 : ByteArray := prog_16_method_70_code
def yJ9_min_f86c9 : MethodName := ⟨RJ9, "min", "(JJ)J"⟩
def RJ0 : String := "java/lang/String"
def TJ0 : u_T := fun k => match k with
  | _ => ("", "", "", false)
def tyJ0 : Nat → FieldType := fun k => match k with
  | _ => .int
abbrev wsJ00 : List Cond := u_ws RJ0 TJ0 0
theorem nmJ0 : ∀ a, a < 0 → ∀ b, b < 0 → a ≠ b → (TJ0 a).2.1 ≠ (TJ0 b).2.1 := by decide +kernel
theorem tyJ0_ok : ∀ k, k < 0 → parseFieldDescriptor (TJ0 k).2.2.1 = some (tyJ0 k) := by decide +kernel
abbrev cJ0_length_8abf5 : ByteArray := prog_17_method_54_code
def yJ0_length_8abf5 : MethodName := ⟨RJ0, "length", "()I"⟩
abbrev cJ0_charAt_5068e : ByteArray := prog_17_method_56_code
def yJ0_charAt_5068e : MethodName := ⟨RJ0, "charAt", "(I)C"⟩
abbrev cJ0_coder_7d493 : ByteArray := prog_17_method_152_code
def yJ0_coder_7d493 : MethodName := ⟨RJ0, "coder", "()B"⟩
abbrev cJ0_isLatin1_aae02 : ByteArray := prog_17_method_154_code
def yJ0_isLatin1_aae02 : MethodName := ⟨RJ0, "isLatin1", "()Z"⟩
abbrev cJ0_checkIndex_df160 : ByteArray := prog_17_method_155_code
def yJ0_checkIndex_df160 : MethodName := ⟨RJ0, "checkIndex", "(II)V"⟩
def RJ1 : String := "java/lang/StringLatin1"
def TJ1 : u_T := fun k => match k with
  | _ => ("", "", "", false)
def tyJ1 : Nat → FieldType := fun k => match k with
  | _ => .int
abbrev wsJ10 : List Cond := u_ws RJ1 TJ1 0
theorem nmJ1 : ∀ a, a < 0 → ∀ b, b < 0 → a ≠ b → (TJ1 a).2.1 ≠ (TJ1 b).2.1 := by decide +kernel
theorem tyJ1_ok : ∀ k, k < 0 → parseFieldDescriptor (TJ1 k).2.2.1 = some (tyJ1 k) := by decide +kernel
abbrev cJ1_charAt_3b067 : ByteArray := prog_18_method_2_code
def yJ1_charAt_3b067 : MethodName := ⟨RJ1, "charAt", "([BI)C"⟩
def RJ2 : String := "java/lang/StringUTF16"
def TJ2 : u_T := fun k => match k with
  | _ => ("", "", "", false)
def tyJ2 : Nat → FieldType := fun k => match k with
  | _ => .int
abbrev wsJ20 : List Cond := u_ws RJ2 TJ2 0
theorem nmJ2 : ∀ a, a < 0 → ∀ b, b < 0 → a ≠ b → (TJ2 a).2.1 ≠ (TJ2 b).2.1 := by decide +kernel
theorem tyJ2_ok : ∀ k, k < 0 → parseFieldDescriptor (TJ2 k).2.2.1 = some (tyJ2 k) := by decide +kernel
abbrev cJ2_getChar_3b067 : ByteArray := prog_19_method_5_code
def yJ2_getChar_3b067 : MethodName := ⟨RJ2, "getChar", "([BI)C"⟩
abbrev cJ2_length_9d52b : ByteArray := prog_19_method_6_code
def yJ2_length_9d52b : MethodName := ⟨RJ2, "length", "([B)I"⟩
abbrev cJ2_charAt_3b067 : ByteArray := prog_19_method_83_code
def yJ2_charAt_3b067 : MethodName := ⟨RJ2, "charAt", "([BI)C"⟩
abbrev cJ2_checkIndex_2214a : ByteArray := prog_19_method_91_code
def yJ2_checkIndex_2214a : MethodName := ⟨RJ2, "checkIndex", "(I[B)V"⟩
def RJ10 : String := "java/lang/System"
def TJ10 : u_T := fun k => match k with
  | _ => ("", "", "", false)
def tyJ10 : Nat → FieldType := fun k => match k with
  | _ => .int
abbrev wsJ100 : List Cond := u_ws RJ10 TJ10 0
theorem nmJ10 : ∀ a, a < 0 → ∀ b, b < 0 → a ≠ b → (TJ10 a).2.1 ≠ (TJ10 b).2.1 := by decide +kernel
theorem tyJ10_ok : ∀ k, k < 0 → parseFieldDescriptor (TJ10 k).2.2.1 = some (tyJ10 k) := by decide +kernel
def RJ7 : String := "java/util/Arrays"
def TJ7 : u_T := fun k => match k with
  | _ => ("", "", "", false)
def tyJ7 : Nat → FieldType := fun k => match k with
  | _ => .int
abbrev wsJ70 : List Cond := u_ws RJ7 TJ7 0
theorem nmJ7 : ∀ a, a < 0 → ∀ b, b < 0 → a ≠ b → (TJ7 a).2.1 ≠ (TJ7 b).2.1 := by decide +kernel
theorem tyJ7_ok : ∀ k, k < 0 → parseFieldDescriptor (TJ7 k).2.2.1 = some (tyJ7 k) := by decide +kernel
abbrev cJ7_fill_d0a16 : ByteArray := prog_21_method_101_code
def yJ7_fill_d0a16 : MethodName := ⟨RJ7, "fill", "([JJ)V"⟩
abbrev cJ7_fill_53178 : ByteArray := prog_21_method_103_code
def yJ7_fill_53178 : MethodName := ⟨RJ7, "fill", "([II)V"⟩
def RJ3 : String := "jdk/internal/util/Preconditions"
def TJ3 : u_T := fun k => match k with
  | _ => ("", "", "", false)
def tyJ3 : Nat → FieldType := fun k => match k with
  | _ => .int
abbrev wsJ30 : List Cond := u_ws RJ3 TJ3 0
theorem nmJ3 : ∀ a, a < 0 → ∀ b, b < 0 → a ≠ b → (TJ3 a).2.1 ≠ (TJ3 b).2.1 := by decide +kernel
theorem tyJ3_ok : ∀ k, k < 0 → parseFieldDescriptor (TJ3 k).2.2.1 = some (tyJ3 k) := by decide +kernel
abbrev cJ3_checkIndex_8e157 : ByteArray := prog_22_method_11_code
def yJ3_checkIndex_8e157 : MethodName := ⟨RJ3, "checkIndex", "(IILjava/util/function/BiFunction;)I"⟩
def RL : String := "BentScreensLaw"
abbrev cL_law : ByteArray := code
def yL_law : MethodName := ⟨RL, "law", "([I)Z"⟩
abbrev vwCl : List vw_C := [(RX0, TX0, 11), (RX1, TX1, 10), (RX2, TX2, 11), (RX3, TX3, 6), (RX4, TX4, 12), (RX5, TX5, 4), (RX6, TX6, 6), (RX7, TX7, 5), (RX8, TX8, 6), (RX9, TX9, 14), (RX10, TX10, 13), (RX11, TX11, 11), (RX12, TX12, 47)]
end
section
/-! lists and numbers that the kernel can run -/
noncomputable def xget {α : Type} (l : List α) : Nat → Option α := List.rec (fun _ => none) (fun x _ ih n => Nat.rec (some x) (fun m _ => ih m) n) l
noncomputable def xset {α : Type} (v : α) (l : List α) : Nat → List α := List.rec (fun _ => []) (fun x t ih n => Nat.rec (v :: t) (fun m _ => x :: ih m) n) l
/-- the number is run to its end before f gets it -/
noncomputable def xN {R : Type} (n : Nat) (f : Nat → R) : R := Nat.rec (f 0) (fun m _ => f (Nat.succ m)) n
theorem xN_eq {R : Type} (n : Nat) (f : Nat → R) : xN n f = f n := by cases n <;> rfl
theorem xget_eq {α : Type} : ∀ (l : List α) (n : Nat), xget l n = l[n]?
  | [], n => by simp [xget]
  | a :: l, 0 => rfl
  | a :: l, n + 1 => by
    rw [List.getElem?_cons_succ]
    exact xget_eq l n
theorem xset_eq {α : Type} (v : α) : ∀ (l : List α) (n : Nat), xset v l n = l.set n v
  | [], n => by simp [xset]
  | a :: l, 0 => rfl
  | a :: l, n + 1 => by
    rw [List.set_cons_succ]
    exact congrArg (a :: ·) (xset_eq v l n)
/-- two lists, place by place -/
def xrel {α β : Type} (R : α → β → Prop) : List α → List β → Prop
  | [], [] => True
  | a :: l, b :: l' => R a b ∧ xrel R l l'
  | _, _ => False
theorem xrel_get {α β : Type} {R : α → β → Prop} : ∀ {l : List α} {l' : List β}, xrel R l l' → ∀ {i : Nat} {a : α}, xget l i = some a → ∃ b, xget l' i = some b ∧ R a b
  | [], [], _, i, a, h => by simp [xget] at h
  | x :: l, y :: l', hr, 0, a, h => by
    cases h
    exact ⟨y, rfl, hr.1⟩
  | x :: l, y :: l', hr, i + 1, a, h => xrel_get (l := l) (l' := l') hr.2 (i := i) h
  | [], _ :: _, hr, _, _, _ => hr.elim
  | _ :: _, [], hr, _, _, _ => hr.elim
theorem xrel_set {α β : Type} {R : α → β → Prop} {a : α} {b : β} (hab : R a b) : ∀ {l : List α} {l' : List β}, xrel R l l' → ∀ (i : Nat), xrel R (xset a l i) (xset b l' i)
  | [], [], _, _ => trivial
  | x :: l, y :: l', hr, 0 => ⟨hab, hr.2⟩
  | x :: l, y :: l', hr, i + 1 => ⟨hr.1, xrel_set hab (l := l) (l' := l') hr.2 i⟩
  | [], _ :: _, hr, _ => hr.elim
  | _ :: _, [], hr, _ => hr.elim
theorem xrel_imp {α β : Type} {R R' : α → β → Prop} (h : ∀ a b, R a b → R' a b) : ∀ {l : List α} {l' : List β}, xrel R l l' → xrel R' l l'
  | [], [], _ => trivial
  | _ :: _, _ :: _, hr => ⟨h _ _ hr.1, xrel_imp h hr.2⟩
  | [], _ :: _, hr => hr.elim
  | _ :: _, [], hr => hr.elim
theorem xrel_app {α β : Type} {R : α → β → Prop} {m : List α} {m' : List β} (hm : xrel R m m') : ∀ {l : List α} {l' : List β}, xrel R l l' → xrel R (l ++ m) (l' ++ m')
  | [], [], _ => hm
  | _ :: _, _ :: _, hr => ⟨hr.1, xrel_app hm hr.2⟩
  | [], _ :: _, hr => hr.elim
  | _ :: _, [], hr => hr.elim
theorem xrel_len {α β : Type} {R : α → β → Prop} : ∀ {l : List α} {l' : List β}, xrel R l l' → l.length = l'.length
  | [], [], _ => rfl
  | _ :: _, _ :: _, hr => congrArg (· + 1) (xrel_len hr.2)
  | [], _ :: _, hr => hr.elim
  | _ :: _, [], hr => hr.elim
theorem xrel_cons {α β : Type} {R : α → β → Prop} {a : α} {l : List α} {l' : List β} (h : xrel R (a :: l) l') : ∃ b m, l' = b :: m ∧ R a b ∧ xrel R l m := by
  cases l' with
  | nil => exact h.elim
  | cons b m => exact ⟨b, m, rfl, h.1, h.2⟩
theorem xrel_nil {α β : Type} {R : α → β → Prop} {l' : List β} (h : xrel R ([] : List α) l') : l' = [] := by
  cases l' with
  | nil => rfl
  | cons b m => exact h.elim
theorem xrel_rev {α β : Type} {R : α → β → Prop} : ∀ {l : List α} {l' : List β}, xrel R l l' → xrel R l.reverse l'.reverse
  | [], [], _ => trivial
  | a :: l, b :: l', hr => by
    rw [List.reverse_cons, List.reverse_cons]
    exact xrel_app (m := [a]) (m' := [b]) ⟨hr.1, trivial⟩ (xrel_rev hr.2)
  | [], _ :: _, hr => hr.elim
  | _ :: _, [], hr => hr.elim
theorem xrel_take {α β : Type} {R : α → β → Prop} : ∀ {l : List α} {l' : List β}, xrel R l l' → ∀ n, xrel R (l.take n) (l'.take n)
  | [], [], _, n => by cases n <;> trivial
  | _ :: _, _ :: _, hr, 0 => trivial
  | _ :: _, _ :: _, hr, n + 1 => ⟨hr.1, xrel_take hr.2 n⟩
  | [], _ :: _, hr, _ => hr.elim
  | _ :: _, [], hr, _ => hr.elim
theorem xrel_drop {α β : Type} {R : α → β → Prop} : ∀ {l : List α} {l' : List β}, xrel R l l' → ∀ n, xrel R (l.drop n) (l'.drop n)
  | [], [], _, n => by cases n <;> trivial
  | _ :: _, _ :: _, hr, 0 => hr
  | _ :: _, _ :: _, hr, n + 1 => xrel_drop hr.2 n
  | [], _ :: _, hr, _ => hr.elim
  | _ :: _, [], hr, _ => hr.elim
theorem xget_set_ne {α : Type} {v : α} {l : List α} {i j : Nat} (h : i ≠ j) : xget (xset v l i) j = xget l j := by
  rw [xget_eq, xget_eq, xset_eq, List.getElem?_set_ne h]
theorem xget_set_self {α : Type} {v w : α} {l : List α} {i : Nat} (h : xget l i = some w) : xget (xset v l i) i = some v := by
  rw [xget_eq] at h
  rw [xget_eq, xset_eq, List.getElem?_set_self (List.getElem?_eq_some_iff.mp h).1]
/-- by a key -/
noncomputable def xfind {α : Type} (l : List (Nat × α)) (k : Nat) : Option α := List.rec none (fun x _ ih => cond (Nat.beq x.1 k) (some x.2) ih) l
theorem xfind_mem {α : Type} : ∀ {l : List (Nat × α)} {k : Nat} {a : α}, xfind l k = some a → (k, a) ∈ l
  | [], k, a, h => by cases h
  | x :: l, k, a, h => by
    have h' : cond (Nat.beq x.1 k) (some x.2) (xfind l k) = some a := h
    cases hc : Nat.beq x.1 k with
    | true =>
      rw [hc] at h'
      have e : x.1 = k := Nat.eq_of_beq_eq_true hc
      cases h'
      subst e
      exact List.mem_cons_self
    | false =>
      rw [hc] at h'
      exact List.mem_cons_of_mem _ (xfind_mem h')
/-! two levels: place k of ten by ten -/
noncomputable def wget {α : Type} (w : List (List α)) (k : Nat) : Option α := Option.rec none (fun c => xget c (k % 10)) (xget w (k / 10))
noncomputable def wset {α : Type} (v : α) (w : List (List α)) (k : Nat) : List (List α) := Option.rec w (fun c => xset (xset v c (k % 10)) w (k / 10)) (xget w (k / 10))
theorem wget_some {α : Type} {w : List (List α)} {k : Nat} {a : α} (h : wget w k = some a) : ∃ c, xget w (k / 10) = some c ∧ xget c (k % 10) = some a := by
  unfold wget at h
  cases hc : xget w (k / 10) with
  | none => rw [hc] at h; cases h
  | some c => rw [hc] at h; exact ⟨c, rfl, h⟩
theorem wget_of {α : Type} {w : List (List α)} {k : Nat} {c : List α} (hc : xget w (k / 10) = some c) : wget w k = xget c (k % 10) := by
  unfold wget
  rw [hc]
theorem wset_of {α : Type} {v : α} {w : List (List α)} {k : Nat} {c : List α} (hc : xget w (k / 10) = some c) : wset v w k = xset (xset v c (k % 10)) w (k / 10) := by
  unfold wset
  rw [hc]
theorem wget_set_self {α : Type} {v a : α} {w : List (List α)} {k : Nat} (h : wget w k = some a) : wget (wset v w k) k = some v := by
  obtain ⟨c, h1, h2⟩ := wget_some h
  rw [wset_of h1, wget_of (xget_set_self h1)]
  exact xget_set_self h2
theorem wget_set_ne {α : Type} {v a : α} {w : List (List α)} {k j : Nat} (h : wget w k = some a) (hne : j ≠ k) : wget (wset v w k) j = wget w j := by
  obtain ⟨c, h1, h2⟩ := wget_some h
  rw [wset_of h1]
  by_cases hd : k / 10 = j / 10
  · have hm : k % 10 ≠ j % 10 := by omega
    rw [wget_of (k := j) (c := xset v c (k % 10)) (by rw [← hd]; exact xget_set_self h1), wget_of (k := j) (c := c) (by rw [← hd]; exact h1), xget_set_ne hm]
  · unfold wget
    rw [xget_set_ne hd]
theorem xfl_get {α : Type} : ∀ {w : List (List α)} {i j : Nat} {c : List α} {a : α}, xget w i = some c → xget c j = some a → ∃ n : Nat, w.flatten[n]? = some a ∧ ∀ v : α, w.flatten.set n v = (xset (xset v c j) w i).flatten
  | [], i, j, c, a, h, _ => by cases h
  | x :: w, 0, j, c, a, h, h2 => by
    cases h
    rw [xget_eq] at h2
    have hl := (List.getElem?_eq_some_iff.mp h2).1
    refine ⟨j, ?_, fun v => ?_⟩
    · rw [List.flatten_cons, List.getElem?_append_left hl, h2]
    · show (x :: w).flatten.set j v = (xset v x j :: w).flatten
      rw [List.flatten_cons, List.flatten_cons, xset_eq, List.set_append_left _ _ hl]
  | x :: w, i + 1, j, c, a, h, h2 => by
    obtain ⟨n, e1, e2⟩ := xfl_get (w := w) (i := i) h h2
    refine ⟨x.length + n, ?_, fun v => ?_⟩
    · rw [List.flatten_cons, List.getElem?_append_right (by omega), Nat.add_sub_cancel_left, e1]
    · show (x :: w).flatten.set (x.length + n) v = (x :: xset (xset v c j) w i).flatten
      rw [List.flatten_cons, List.flatten_cons, List.set_append_right _ _ (by omega), Nat.add_sub_cancel_left, e2]
theorem wfl_get {α : Type} {w : List (List α)} {k : Nat} {a : α} (h : wget w k = some a) : ∃ n : Nat, w.flatten[n]? = some a ∧ ∀ v : α, w.flatten.set n v = (wset v w k).flatten := by
  obtain ⟨c, h1, h2⟩ := wget_some h
  obtain ⟨n, e1, e2⟩ := xfl_get h1 h2
  exact ⟨n, e1, fun v => by rw [wset_of h1]; exact e2 v⟩
/-- one more at the end: at place j of row i, which must be the last one's end, or a new row's beginning -/
noncomputable def xpush {α : Type} (v : α) (w : List (List α)) : Nat → Nat → Option (List (List α)) := List.rec (fun i j => cond (Nat.beq i 0) (cond (Nat.beq j 0) (some [[v]]) none) none) (fun c t ih i j => Nat.rec (List.rec (cond (Nat.beq c.length j) (some [c ++ [v]]) none) (fun _ _ _ => none) t) (fun m _ => Option.rec none (fun r => some (c :: r)) (ih m j)) i) w
theorem xpush_nil {α : Type} {v : α} {i j : Nat} {r : List (List α)} (h : xpush v [] i j = some r) : i = 0 ∧ j = 0 ∧ r = [[v]] := by
  have h' : cond (Nat.beq i 0) (cond (Nat.beq j 0) (some [[v]]) none) none = some r := h
  cases h1 : Nat.beq i 0 with
  | false => rw [h1] at h'; cases h'
  | true =>
    cases h2 : Nat.beq j 0 with
    | false => rw [h1, h2] at h'; cases h'
    | true => rw [h1, h2] at h'; cases h'; exact ⟨Nat.eq_of_beq_eq_true h1, Nat.eq_of_beq_eq_true h2, rfl⟩
theorem xpush_zero {α : Type} {v : α} {c : List α} {t : List (List α)} {j : Nat} {r : List (List α)} (h : xpush v (c :: t) 0 j = some r) : t = [] ∧ c.length = j ∧ r = [c ++ [v]] := by
  cases t with
  | cons x y => cases h
  | nil =>
    have h' : cond (Nat.beq c.length j) (some [c ++ [v]]) none = some r := h
    cases h2 : Nat.beq c.length j with
    | false => rw [h2] at h'; cases h'
    | true => rw [h2] at h'; cases h'; exact ⟨rfl, Nat.eq_of_beq_eq_true h2, rfl⟩
theorem xpush_succ {α : Type} {v : α} {c : List α} {t : List (List α)} {i j : Nat} {r : List (List α)} (h : xpush v (c :: t) (i + 1) j = some r) : ∃ r', xpush v t i j = some r' ∧ r = c :: r' := by
  have h' : Option.rec (motive := fun _ => Option (List (List α))) none (fun r => some (c :: r)) (xpush v t i j) = some r := h
  cases h2 : xpush v t i j with
  | none => rw [h2] at h'; cases h'
  | some r' => rw [h2] at h'; cases h'; exact ⟨r', rfl, rfl⟩
theorem xpush_fl {α : Type} {v : α} : ∀ {w : List (List α)} {i j : Nat} {r : List (List α)}, xpush v w i j = some r → r.flatten = w.flatten ++ [v]
  | [], i, j, r, h => by obtain ⟨-, -, rfl⟩ := xpush_nil h; rfl
  | c :: t, 0, j, r, h => by obtain ⟨rfl, -, rfl⟩ := xpush_zero h; simp
  | c :: t, i + 1, j, r, h => by
    obtain ⟨r', h1, rfl⟩ := xpush_succ h
    rw [List.flatten_cons, List.flatten_cons, xpush_fl h1, List.append_assoc]
theorem xpush_new {α : Type} {v : α} : ∀ {w : List (List α)} {i j : Nat} {r : List (List α)}, xpush v w i j = some r → ∃ c, xget r i = some c ∧ xget c j = some v
  | [], i, j, r, h => by obtain ⟨rfl, rfl, rfl⟩ := xpush_nil h; exact ⟨[v], rfl, rfl⟩
  | c :: t, 0, j, r, h => by
    obtain ⟨rfl, rfl, rfl⟩ := xpush_zero h
    exact ⟨c ++ [v], rfl, by rw [xget_eq]; simp⟩
  | c :: t, i + 1, j, r, h => by
    obtain ⟨r', h1, rfl⟩ := xpush_succ h
    obtain ⟨c', e1, e2⟩ := xpush_new h1
    exact ⟨c', e1, e2⟩
theorem xpush_old {α : Type} {v : α} : ∀ {w : List (List α)} {i j : Nat} {r : List (List α)}, xpush v w i j = some r → ∀ {a b : Nat} {c : List α} {x : α}, xget w a = some c → xget c b = some x → ∃ c', xget r a = some c' ∧ xget c' b = some x
  | [], i, j, r, h, a, b, c, x, h1, h2 => by cases h1
  | y :: t, 0, j, r, h, a, b, c, x, h1, h2 => by
    obtain ⟨rfl, -, rfl⟩ := xpush_zero h
    cases a with
    | zero =>
      cases h1
      refine ⟨y ++ [v], rfl, ?_⟩
      rw [xget_eq] at h2 ⊢
      rw [List.getElem?_append_left (List.getElem?_eq_some_iff.mp h2).1, h2]
    | succ a => cases h1
  | y :: t, i + 1, j, r, h, a, b, c, x, h1, h2 => by
    obtain ⟨r', e1, rfl⟩ := xpush_succ h
    cases a with
    | zero => exact ⟨c, h1, h2⟩
    | succ a => exact xpush_old (w := t) e1 (a := a) h1 h2
theorem xpush_rel {α β : Type} {R : α → β → Prop} {v : α} {u : β} (hv : R v u) : ∀ {w : List (List α)} {w' : List (List β)}, xrel (xrel R) w w' → ∀ {i j : Nat} {r : List (List α)}, xpush v w i j = some r → ∃ r', xpush u w' i j = some r' ∧ xrel (xrel R) r r'
  | [], [], _, i, j, r, h => by
    obtain ⟨rfl, rfl, rfl⟩ := xpush_nil h
    exact ⟨[[u]], rfl, ⟨hv, trivial⟩, trivial⟩
  | c :: t, c' :: t', hr, 0, j, r, h => by
    obtain ⟨rfl, hl, rfl⟩ := xpush_zero h
    have ht : t' = [] := xrel_nil hr.2
    subst ht
    refine ⟨[c' ++ [u]], ?_, xrel_app (m := [v]) (m' := [u]) ⟨hv, trivial⟩ hr.1, trivial⟩
    show cond (Nat.beq c'.length j) (some [c' ++ [u]]) none = _
    rw [← xrel_len hr.1, hl, Nat.beq_refl]
    rfl
  | c :: t, c' :: t', hr, i + 1, j, r, h => by
    obtain ⟨r', h1, rfl⟩ := xpush_succ h
    obtain ⟨r2, h2, h3⟩ := xpush_rel hv (w := t) (w' := t') hr.2 h1
    refine ⟨c' :: r2, ?_, hr.1, h3⟩
    show Option.rec (motive := fun _ => Option (List (List β))) none (fun r => some (c' :: r)) (xpush u t' i j) = _
    rw [h2]
  | [], _ :: _, hr, _, _, _, _ => hr.elim
  | _ :: _, [], hr, _, _, _, _ => hr.elim
/-! whole numbers of 32 places, by their patterns -/
/-- the pattern moved so that its order is that of the signed number -/
def xbs (u : Nat) : Nat := (u + 2147483648) % 4294967296
theorem xbs_lt (u : Nat) : xbs u < 4294967296 := Nat.mod_lt _ (by decide)
theorem xbs_inv {u : Nat} (h : u < 4294967296) : (xbs u + 2147483648) % 4294967296 = u := by unfold xbs; omega
theorem xnI_toInt {u : Nat} (h : u < 4294967296) : (nI u).toInt = (xbs u : Int) - 2147483648 := by
  have h1 : (nI u).toBitVec.toNat = u := pk_tn h
  show (nI u).toBitVec.toInt = _
  rw [BitVec.toInt_eq_toNat_cond, h1]
  unfold xbs
  split <;> omega
theorem xlt_iff {u v : Nat} (hu : u < 4294967296) (hv : v < 4294967296) : nI u < nI v ↔ xbs u < xbs v := by
  rw [Int32.lt_iff_toInt_lt, xnI_toInt hu, xnI_toInt hv]; omega
theorem xle_iff {u v : Nat} (hu : u < 4294967296) (hv : v < 4294967296) : nI u ≤ nI v ↔ xbs u ≤ xbs v := by
  rw [Int32.le_iff_toInt_le, xnI_toInt hu, xnI_toInt hv]; omega
theorem xeq_iff {u v : Nat} (hu : u < 4294967296) (hv : v < 4294967296) : nI u = nI v ↔ u = v := by
  constructor
  · intro h
    have h1 := congrArg Int32.toInt h
    rw [xnI_toInt hu, xnI_toInt hv] at h1
    have := xbs_inv hu
    have := xbs_inv hv
    have h2 : xbs u = xbs v := by omega
    rw [h2] at *
    omega
  · intro h; rw [h]
theorem xnI_mod (u : Nat) : nI (u % 4294967296) = nI u := by
  apply Int32.toBitVec_inj.mp
  apply BitVec.eq_of_toNat_eq
  show (BitVec.ofNat 32 _).toNat = (BitVec.ofNat 32 _).toNat
  rw [BitVec.toNat_ofNat, BitVec.toNat_ofNat]
  omega
/-- every int has its pattern -/
theorem xnI_of (x : Int32) : ∃ u, u < 4294967296 ∧ x = nI u := by
  refine ⟨x.toBitVec.toNat, x.toBitVec.isLt, ?_⟩
  apply Int32.toBitVec_inj.mp
  apply BitVec.eq_of_toNat_eq
  rw [pk_tn x.toBitVec.isLt]
theorem xnI_add (u v : Nat) : nI u + nI v = nI ((u + v) % 4294967296) := by rw [xnI_mod]; exact nI_add u v
theorem xnI_mul (u v : Nat) : nI u * nI v = nI ((u * v) % 4294967296) := by rw [xnI_mod]; exact pk_mul u v
theorem xnI_sub {u v : Nat} (hv : v ≤ 4294967296) : nI u - nI v = nI ((u + (4294967296 - v)) % 4294967296) := by
  have h1 : nI (u + (4294967296 - v)) = nI u + nI (4294967296 - v) := (nI_add _ _).symm
  have h2 : nI (4294967296 - v) = 0 - nI v := by
    have h3 := pk_sub (a := 4294967296) (b := v) hv
    rw [← h3]
    rfl
  rw [xnI_mod, h1, h2, Int32.sub_eq_add_neg, Int32.sub_eq_add_neg 0]
  have : (0 : Int32) + -nI v = -nI v := Int32.zero_add _
  rw [this]
theorem xnI_and {u v : Nat} (hu : u < 4294967296) (hv : v < 4294967296) : nI u &&& nI v = nI (u &&& v) := by
  have h : u &&& v < 2 ^ 32 := Nat.and_lt_two_pow u hv
  apply Int32.toBitVec_inj.mp
  apply BitVec.eq_of_toNat_eq
  rw [Int32.toBitVec_and, BitVec.toNat_and, pk_tn hu, pk_tn hv, pk_tn h]
theorem xnI_or {u v : Nat} (hu : u < 4294967296) (hv : v < 4294967296) : nI u ||| nI v = nI (u ||| v) := by
  have h : u ||| v < 2 ^ 32 := Nat.or_lt_two_pow hu hv
  apply Int32.toBitVec_inj.mp
  apply BitVec.eq_of_toNat_eq
  rw [Int32.toBitVec_or, BitVec.toNat_or, pk_tn hu, pk_tn hv, pk_tn h]
end
section
/-! the machine that the kernel runs: what it holds, and what that means -/
/-- a value: 0 an int by its pattern, 1 an int by its name, 2 a cell of the world, 3 null, 4 a long by its pattern, 7 the script, 8 a static row -/
abbrev xV := Nat × Nat
/-- a cell: an object (its number in vwCl, its fields), or an array (kind, length, place in tys, what was written) -/
abbrev xE := (Nat × List xV) ⊕ (Nat × Nat × Nat × List (Nat × xV))
/-- an instruction: pc, length, op, x, y, index -/
abbrev xI := Nat × Nat × Nat × Nat × Nat × Nat
/-- a method: name, bytes, locals, answer, number of arguments, sort of its answer, cells, slots, blocks -/
abbrev xM := MethodName × ByteArray × Nat × Option FieldType × Nat × Nat × Nat × Nat × List (Nat × List xI)
/-- the heap: world, bounds of named ints, facts, cells, slots, arrays, cells of the world -/
abbrev xH := List (List xE) × List (Nat × Nat) × List (Nat × Nat × Bool) × Nat × Nat × Nat × Nat
abbrev xLo := List (Nat × xV)
abbrev xS := Nat × List xI × xLo × List xV × xH
abbrev xK := Nat → xM → xS → Option (List xS)
abbrev xF := xK → Nat → xM → xI → List xI → xLo → List xV → xH → Option (List xS)
abbrev xWc := List (List (Nat × va_E))
abbrev xTy := List (ClassId × FieldType)
abbrev xB := (Nat → Int32) ⊕ (Nat → Int64) ⊕ (Nat → UInt32) ⊕ (Nat → UInt64) ⊕ (Nat → Option Nat)
/-- is there a script, where, and where are the static rows -/
abbrev xG := Bool × Nat × (Nat → Nat)
def xRv (g : xG) (cw : xWc) (io : List Nat) (x : xV) (v : Value) : Prop := match x.1 with
  | 0 => x.2 < 4294967296 ∧ v = .int (nI x.2)
  | 1 => ∃ u, xget io x.2 = some u ∧ v = .int (nI u)
  | 2 => ∃ a e, wget cw x.2 = some (a, e) ∧ v = .ref a
  | 3 => v = .null
  | 4 => v = .long (lN x.2)
  | 7 => g.1 = true ∧ v = .ref g.2.1
  | 8 => v = .ref (g.2.2 x.2)
  | _ => False
def xbody (f : xB) (j : Nat) : Value := match f with
  | .inl f => .int (f j)
  | .inr (.inl f) => .long (f j)
  | .inr (.inr (.inl f)) => .float (f j)
  | .inr (.inr (.inr (.inl f))) => .double (f j)
  | .inr (.inr (.inr (.inr f))) => va_rf (f j)
def xkd (kd : Nat) (ty : FieldType) (f : xB) : Prop := match kd with
  | 0 => ty = .int ∧ ∃ h, f = .inl h
  | 1 => ty = .byte ∧ ∃ h, f = .inl h
  | 2 => ty = .boolean ∧ ∃ h, f = .inl h
  | 3 => ty = .long ∧ ∃ h, f = .inr (.inl h)
  | 4 => ty = .object "BentScreens$Told" ∧ ∃ h, f = .inr (.inr (.inr (.inr h)))
  | _ => False
def xdef (kd : Nat) : Value := match kd with
  | 3 => .long 0
  | 4 => .null
  | _ => .int 0
def xRa (g : xG) (cw : xWc) (io : List Nat) (kd : Nat) (us : List (Nat × xV)) (f : xB) (j : Nat) : Prop := match xfind us j with
  | some v => xRv g cw io v (xbody f j)
  | none => xbody f j = xdef kd
def xRe (g : xG) (cw : xWc) (tys : xTy) (io : List Nat) (x : xE) (e : va_E) : Prop := match x, e with
  | .inl o, .inr o' => o.1 = o'.1 ∧ xrel (xRv g cw io) o.2 o'.2
  | .inr a, .inl a' => a.2.1 = a'.2.1 ∧ a.2.1 < 2147483648 ∧ ∃ ty, tys[a.2.2.1]? = some (a'.1, ty) ∧ xkd a.1 ty a'.2.2 ∧ ∀ j, xRa g cw io a.1 a.2.2.2 a'.2.2 j
  | _, _ => False
def xRw (g : xG) (cw : xWc) (tys : xTy) (io : List Nat) (w : List (List xE)) (cv : xWc) : Prop := xrel (xrel (fun x (q : Nat × va_E) => xRe g cw tys io x q.2)) w cv
def xRb (bd : List (Nat × Nat)) (io : List Nat) : Prop := xrel (fun (q : Nat × Nat) u => u < 4294967296 ∧ q.1 ≤ xbs u ∧ xbs u ≤ q.2) bd io
def xRf (fc : List (Nat × Nat × Bool)) (io : List Nat) : Prop := ∀ q ∈ fc, ∃ u v, xget io q.1 = some u ∧ xget io q.2.1 = some v ∧ decide (xbs u ≤ xbs v) = q.2.2
def xRh (g : xG) (hp : xH) (cw : xWc) (tys : xTy) (io : List Nat) : Prop := xRw g cw tys io hp.1 cw ∧ xRb hp.2.1 io ∧ xRf hp.2.2.1 io ∧ tys.length = hp.2.2.2.2.2.1
def xExt (cw : xWc) (tys : xTy) (io : List Nat) (cw' : xWc) (tys' : xTy) (io' : List Nat) : Prop := (∀ k a e, wget cw k = some (a, e) → ∃ e', wget cw' k = some (a, e')) ∧ (∀ (t : Nat) (q : ClassId × FieldType), tys[t]? = some q → tys'[t]? = some q) ∧ ∀ n u, xget io n = some u → xget io' n = some u
theorem xExt.rf {cw : xWc} {tys : xTy} {io : List Nat} : xExt cw tys io cw tys io := ⟨fun _ _ e h => ⟨e, h⟩, fun _ _ h => h, fun _ _ h => h⟩
theorem xExt.tr {c1 c2 c3 : xWc} {t1 t2 t3 : xTy} {i1 i2 i3 : List Nat} (h : xExt c1 t1 i1 c2 t2 i2) (k : xExt c2 t2 i2 c3 t3 i3) : xExt c1 t1 i1 c3 t3 i3 := by
  refine ⟨fun x a e hx => ?_, fun t q hq => k.2.1 t q (h.2.1 t q hq), fun n u hn => k.2.2 n u (h.2.2 n u hn)⟩
  obtain ⟨e', h1⟩ := h.1 x a e hx
  exact k.1 x a e' h1
theorem xRv.ext {g : xG} {cw cw' : xWc} {tys tys' : xTy} {io io' : List Nat} (E : xExt cw tys io cw' tys' io') {x : xV} {v : Value} (h : xRv g cw io x v) : xRv g cw' io' x v := by
  obtain ⟨t, n⟩ := x
  unfold xRv at h ⊢
  split at h <;> rename_i ht <;> simp only at ht h ⊢
  · exact h
  · obtain ⟨u, h1, h2⟩ := h
    exact ⟨u, E.2.2 _ _ h1, h2⟩
  · obtain ⟨a, e, h1, h2⟩ := h
    obtain ⟨e', h3⟩ := E.1 _ _ _ h1
    exact ⟨a, e', h3, h2⟩
  · exact h
  · exact h
  · exact h
  · exact h
theorem xRa.ext {g : xG} {cw cw' : xWc} {tys tys' : xTy} {io io' : List Nat} (E : xExt cw tys io cw' tys' io') {kd : Nat} {us : List (Nat × xV)} {f : xB} {j : Nat} (h : xRa g cw io kd us f j) : xRa g cw' io' kd us f j := by
  unfold xRa at h ⊢
  split at h
  · exact h.ext E
  · exact h
theorem xRe.ext {g : xG} {cw cw' : xWc} {tys tys' : xTy} {io io' : List Nat} (E : xExt cw tys io cw' tys' io') {x : xE} {e : va_E} (h : xRe g cw tys io x e) : xRe g cw' tys' io' x e := by
  cases x with
  | inl o =>
    cases e with
    | inl a => exact h.elim
    | inr o' => exact ⟨h.1, xrel_imp (fun a b hab => hab.ext E) h.2⟩
  | inr a =>
    cases e with
    | inr o' => exact h.elim
    | inl a' =>
      obtain ⟨h1, h0, ty, h2, h3, h4⟩ := h
      exact ⟨h1, h0, ty, E.2.1 _ _ h2, h3, fun j => (h4 j).ext E⟩
theorem xRw.ext {g : xG} {cw cw' : xWc} {tys tys' : xTy} {io io' : List Nat} (E : xExt cw tys io cw' tys' io') {w : List (List xE)} {cv : xWc} (h : xRw g cw tys io w cv) : xRw g cw' tys' io' w cv :=
  xrel_imp (fun _ _ hab => xrel_imp (fun _ _ hcd => hcd.ext E) hab) h
theorem xRw.get {g : xG} {cw : xWc} {tys : xTy} {io : List Nat} {w : List (List xE)} {cv : xWc} (h : xRw g cw tys io w cv) {k : Nat} {x : xE} (hx : wget w k = some x) : ∃ q, wget cv k = some q ∧ xRe g cw tys io x q.2 := by
  obtain ⟨c, h1, h2⟩ := wget_some hx
  obtain ⟨c', h3, h4⟩ := xrel_get h h1
  obtain ⟨q, h5, h6⟩ := xrel_get h4 h2
  exact ⟨q, by rw [wget_of h3]; exact h5, h6⟩
/-- a cell is written: its address stays -/
theorem xExt.set {cw : xWc} {tys : xTy} {io : List Nat} {k a : Nat} {e e' : va_E} (h : wget cw k = some (a, e)) : xExt cw tys io (wset (a, e') cw k) tys io := by
  refine ⟨fun j b f hj => ?_, fun _ _ h => h, fun _ _ h => h⟩
  by_cases hjk : j = k
  · subst hjk
    rw [h] at hj
    cases hj
    exact ⟨e', wget_set_self h⟩
  · exact ⟨f, by rw [wget_set_ne h hjk]; exact hj⟩
theorem xRw.set {g : xG} {cw : xWc} {tys : xTy} {io : List Nat} {w : List (List xE)} (h : xRw g cw tys io w cw) {k a : Nat} {x : xE} {e e' : va_E} {x' : xE} (hx : wget w k = some x) (hc : wget cw k = some (a, e)) (hn : xRe g cw tys io x' e') : xRw g (wset (a, e') cw k) tys io (wset x' w k) (wset (a, e') cw k) := by
  refine xRw.ext (xExt.set hc) ?_
  obtain ⟨c, h1, h2⟩ := wget_some hx
  obtain ⟨c', h3, h4⟩ := xrel_get h h1
  rw [wset_of h1, wset_of h3]
  exact xrel_set (xrel_set (a := x') (b := (a, e')) hn h4 _) h _
theorem xExt.push {cw cw' : xWc} {tys tys' : xTy} {io : List Nat} {q : Nat × va_E} {i j : Nat} (h : xpush q cw i j = some cw') (ht : ∀ (t : Nat) (q : ClassId × FieldType), tys[t]? = some q → tys'[t]? = some q) : xExt cw tys io cw' tys' io := by
  refine ⟨fun k a e hk => ?_, ht, fun _ _ h => h⟩
  obtain ⟨c, h1, h2⟩ := wget_some hk
  obtain ⟨c', h3, h4⟩ := xpush_old h h1 h2
  exact ⟨e, by rw [wget_of h3]; exact h4⟩
/-- one named int more -/
theorem xExt.name {cw : xWc} {tys : xTy} {io : List Nat} (u : Nat) : xExt cw tys io cw tys (io ++ [u]) := by
  refine ⟨fun _ _ e h => ⟨e, h⟩, fun _ _ h => h, fun n v hn => ?_⟩
  rw [xget_eq] at hn ⊢
  rw [List.getElem?_append_left (List.getElem?_eq_some_iff.mp hn).1, hn]
theorem xRf.ext {fc : List (Nat × Nat × Bool)} {io io' : List Nat} (E : ∀ n u, xget io n = some u → xget io' n = some u) (h : xRf fc io) : xRf fc io' := by
  intro q hq
  obtain ⟨u, v, h1, h2, h3⟩ := h q hq
  exact ⟨u, v, E _ _ h1, E _ _ h2, h3⟩
theorem xRb.get {bd : List (Nat × Nat)} {io : List Nat} (h : xRb bd io) {n u : Nat} (hu : xget io n = some u) : ∃ q, xget bd n = some q ∧ u < 4294967296 ∧ q.1 ≤ xbs u ∧ xbs u ≤ q.2 := by
  have hl := xrel_len h
  rw [xget_eq] at hu
  have h1 := (List.getElem?_eq_some_iff.mp hu).1
  have h2 : xget bd n = some (bd[n]'(by omega)) := by rw [xget_eq]; exact List.getElem?_eq_getElem _
  obtain ⟨u', h3, h4⟩ := xrel_get h h2
  rw [xget_eq, hu] at h3
  cases h3
  exact ⟨_, h2, h4⟩
theorem xRb.app {bd : List (Nat × Nat)} {io : List Nat} (h : xRb bd io) {u lo hi : Nat} (hu : u < 4294967296) (h1 : lo ≤ xbs u) (h2 : xbs u ≤ hi) : xRb (bd ++ [(lo, hi)]) (io ++ [u]) := xrel_app (m := [(lo, hi)]) (m' := [u]) ⟨⟨hu, h1, h2⟩, trivial⟩ h
theorem xRb.new {bd : List (Nat × Nat)} {io : List Nat} (h : xRb bd io) (u : Nat) : xget (io ++ [u]) bd.length = some u := by
  rw [xget_eq, xrel_len h]
  simp
theorem xRb.set {bd : List (Nat × Nat)} {io : List Nat} (h : xRb bd io) {n u lo hi : Nat} (hu : xget io n = some u) (h1 : lo ≤ xbs u) (h2 : xbs u ≤ hi) : xRb (xset (lo, hi) bd n) io := by
  obtain ⟨q, -, h4, -, -⟩ := h.get hu
  have h5 := xrel_set (a := (lo, hi)) (b := u) (R := fun (q : Nat × Nat) u => u < 4294967296 ∧ q.1 ≤ xbs u ∧ xbs u ≤ q.2) ⟨h4, h1, h2⟩ h n
  have h6 : xset u io n = io := by
    rw [xget_eq] at hu
    rw [xset_eq]
    obtain ⟨h7, h8⟩ := List.getElem?_eq_some_iff.mp hu
    rw [← h8]
    exact List.set_getElem_self _
  rw [h6] at h5
  exact h5
end
