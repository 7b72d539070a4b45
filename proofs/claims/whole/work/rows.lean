section
-- ===== PART A: goes FIRST, ahead of the names: the tables' words, and 'selects' of the private methods out of them =====
/-- a private method of a class that the tables say can be made, by its rows of tables_1 -/
def lw_okq (q : MethodName × Nat) : Prop := (q.1.cls ≠ "java/lang/invoke/MethodHandle" ∧ q.1.cls ≠ "java/lang/invoke/VarHandle") ∧ Cond.instantiable q.1.cls q.2 ∈ tables_1 ∧ Cond.privateMethod q.1 ∈ tables_1 ∧ Cond.instanceMethod q.1 ∈ tables_1
theorem lw_p0 : lw_okq (⟨"KiteRegisters$Sky", "copyFrom", "(LKiteRegisters$Sky;)V"⟩, 12) := ⟨⟨by decide +kernel, by decide +kernel⟩, List.mem_of_getElem? (i := 20) (by decide +kernel), List.mem_of_getElem? (i := 154) (by decide +kernel), List.mem_of_getElem? (i := 155) (by decide +kernel)⟩
theorem lw_p1 : lw_okq (⟨"KiteRegisters$Sky", "launch", "(II)I"⟩, 12) := ⟨⟨by decide +kernel, by decide +kernel⟩, List.mem_of_getElem? (i := 20) (by decide +kernel), List.mem_of_getElem? (i := 158) (by decide +kernel), List.mem_of_getElem? (i := 159) (by decide +kernel)⟩
theorem lw_p2 : lw_okq (⟨"KiteRegisters$Sky", "landing", "(II)I"⟩, 12) := ⟨⟨by decide +kernel, by decide +kernel⟩, List.mem_of_getElem? (i := 20) (by decide +kernel), List.mem_of_getElem? (i := 168) (by decide +kernel), List.mem_of_getElem? (i := 169) (by decide +kernel)⟩
theorem lw_p3 : lw_okq (⟨"KiteRegisters$Sky", "isTaken", "(II)Z"⟩, 12) := ⟨⟨by decide +kernel, by decide +kernel⟩, List.mem_of_getElem? (i := 20) (by decide +kernel), List.mem_of_getElem? (i := 172) (by decide +kernel), List.mem_of_getElem? (i := 173) (by decide +kernel)⟩
theorem lw_p4 : lw_okq (⟨"KiteRegisters", "recorded", "(I)I"⟩, 9) := ⟨⟨by decide +kernel, by decide +kernel⟩, List.mem_of_getElem? (i := 12) (by decide +kernel), List.mem_of_getElem? (i := 176) (by decide +kernel), List.mem_of_getElem? (i := 177) (by decide +kernel)⟩
theorem lw_p5 : lw_okq (⟨"KiteRegisters$History", "add", "(LKiteRegisters$Sky;)V"⟩, 3) := ⟨⟨by decide +kernel, by decide +kernel⟩, List.mem_of_getElem? (i := 65) (by decide +kernel), List.mem_of_getElem? (i := 183) (by decide +kernel), List.mem_of_getElem? (i := 184) (by decide +kernel)⟩
theorem lw_p6 : lw_okq (⟨"KiteRegisters$History", "rowAt", "(I)LKiteRegisters$Sky;"⟩, 3) := ⟨⟨by decide +kernel, by decide +kernel⟩, List.mem_of_getElem? (i := 65) (by decide +kernel), List.mem_of_getElem? (i := 187) (by decide +kernel), List.mem_of_getElem? (i := 188) (by decide +kernel)⟩
theorem lw_p7 : lw_okq (⟨"KiteRegisters$Sky", "remove", "(I)I"⟩, 12) := ⟨⟨by decide +kernel, by decide +kernel⟩, List.mem_of_getElem? (i := 20) (by decide +kernel), List.mem_of_getElem? (i := 199) (by decide +kernel), List.mem_of_getElem? (i := 200) (by decide +kernel)⟩
theorem lw_p8 : lw_okq (⟨"KiteRegisters$Sky", "isKite", "(I)Z"⟩, 12) := ⟨⟨by decide +kernel, by decide +kernel⟩, List.mem_of_getElem? (i := 20) (by decide +kernel), List.mem_of_getElem? (i := 203) (by decide +kernel), List.mem_of_getElem? (i := 204) (by decide +kernel)⟩
theorem lw_p9 : lw_okq (⟨"KiteRegisters$Sky", "raise", "(I)I"⟩, 12) := ⟨⟨by decide +kernel, by decide +kernel⟩, List.mem_of_getElem? (i := 20) (by decide +kernel), List.mem_of_getElem? (i := 211) (by decide +kernel), List.mem_of_getElem? (i := 212) (by decide +kernel)⟩
theorem lw_p10 : lw_okq (⟨"KiteRegisters$Sky", "windNow", "()I"⟩, 12) := ⟨⟨by decide +kernel, by decide +kernel⟩, List.mem_of_getElem? (i := 20) (by decide +kernel), List.mem_of_getElem? (i := 215) (by decide +kernel), List.mem_of_getElem? (i := 216) (by decide +kernel)⟩
theorem lw_p11 : lw_okq (⟨"KiteRegisters$Sky", "risen", "(III)I"⟩, 12) := ⟨⟨by decide +kernel, by decide +kernel⟩, List.mem_of_getElem? (i := 20) (by decide +kernel), List.mem_of_getElem? (i := 222) (by decide +kernel), List.mem_of_getElem? (i := 223) (by decide +kernel)⟩
theorem lw_p12 : lw_okq (⟨"KiteRegisters$Sky", "countCutFrom", "(I)V"⟩, 12) := ⟨⟨by decide +kernel, by decide +kernel⟩, List.mem_of_getElem? (i := 20) (by decide +kernel), List.mem_of_getElem? (i := 226) (by decide +kernel), List.mem_of_getElem? (i := 227) (by decide +kernel)⟩
theorem lw_p13 : lw_okq (⟨"KiteRegisters$Sky", "renumber", "(II)I"⟩, 12) := ⟨⟨by decide +kernel, by decide +kernel⟩, List.mem_of_getElem? (i := 20) (by decide +kernel), List.mem_of_getElem? (i := 237) (by decide +kernel), List.mem_of_getElem? (i := 238) (by decide +kernel)⟩
theorem lw_p14 : lw_okq (⟨"KiteRegisters$Sky", "shift", "(II)I"⟩, 12) := ⟨⟨by decide +kernel, by decide +kernel⟩, List.mem_of_getElem? (i := 20) (by decide +kernel), List.mem_of_getElem? (i := 245) (by decide +kernel), List.mem_of_getElem? (i := 246) (by decide +kernel)⟩
theorem lw_p15 : lw_okq (⟨"KiteRegisters$Sky", "passBeats", "(I)I"⟩, 12) := ⟨⟨by decide +kernel, by decide +kernel⟩, List.mem_of_getElem? (i := 20) (by decide +kernel), List.mem_of_getElem? (i := 253) (by decide +kernel), List.mem_of_getElem? (i := 254) (by decide +kernel)⟩
def lw_privs_1 : List (MethodName × Nat) := [(⟨"KiteRegisters$Sky", "copyFrom", "(LKiteRegisters$Sky;)V"⟩, 12), (⟨"KiteRegisters$Sky", "launch", "(II)I"⟩, 12), (⟨"KiteRegisters$Sky", "landing", "(II)I"⟩, 12), (⟨"KiteRegisters$Sky", "isTaken", "(II)Z"⟩, 12), (⟨"KiteRegisters", "recorded", "(I)I"⟩, 9), (⟨"KiteRegisters$History", "add", "(LKiteRegisters$Sky;)V"⟩, 3), (⟨"KiteRegisters$History", "rowAt", "(I)LKiteRegisters$Sky;"⟩, 3), (⟨"KiteRegisters$Sky", "remove", "(I)I"⟩, 12), (⟨"KiteRegisters$Sky", "isKite", "(I)Z"⟩, 12), (⟨"KiteRegisters$Sky", "raise", "(I)I"⟩, 12), (⟨"KiteRegisters$Sky", "windNow", "()I"⟩, 12), (⟨"KiteRegisters$Sky", "risen", "(III)I"⟩, 12), (⟨"KiteRegisters$Sky", "countCutFrom", "(I)V"⟩, 12), (⟨"KiteRegisters$Sky", "renumber", "(II)I"⟩, 12), (⟨"KiteRegisters$Sky", "shift", "(II)I"⟩, 12), (⟨"KiteRegisters$Sky", "passBeats", "(I)I"⟩, 12)]
theorem lw_r1 : ∀ q ∈ lw_privs_1, lw_okq q := List.forall_mem_cons.mpr ⟨lw_p0, List.forall_mem_cons.mpr ⟨lw_p1, List.forall_mem_cons.mpr ⟨lw_p2, List.forall_mem_cons.mpr ⟨lw_p3, List.forall_mem_cons.mpr ⟨lw_p4, List.forall_mem_cons.mpr ⟨lw_p5, List.forall_mem_cons.mpr ⟨lw_p6, List.forall_mem_cons.mpr ⟨lw_p7, List.forall_mem_cons.mpr ⟨lw_p8, List.forall_mem_cons.mpr ⟨lw_p9, List.forall_mem_cons.mpr ⟨lw_p10, List.forall_mem_cons.mpr ⟨lw_p11, List.forall_mem_cons.mpr ⟨lw_p12, List.forall_mem_cons.mpr ⟨lw_p13, List.forall_mem_cons.mpr ⟨lw_p14, List.forall_mem_cons.mpr ⟨lw_p15, fun _ h => absurd h List.not_mem_nil⟩⟩⟩⟩⟩⟩⟩⟩⟩⟩⟩⟩⟩⟩⟩⟩
theorem lw_p16 : lw_okq (⟨"KiteRegisters$Sky", "sinkString", "(I)V"⟩, 12) := ⟨⟨by decide +kernel, by decide +kernel⟩, List.mem_of_getElem? (i := 20) (by decide +kernel), List.mem_of_getElem? (i := 257) (by decide +kernel), List.mem_of_getElem? (i := 258) (by decide +kernel)⟩
theorem lw_p17 : lw_okq (⟨"KiteRegisters$Sky", "lowestAbove", "(II)I"⟩, 12) := ⟨⟨by decide +kernel, by decide +kernel⟩, List.mem_of_getElem? (i := 20) (by decide +kernel), List.mem_of_getElem? (i := 261) (by decide +kernel), List.mem_of_getElem? (i := 262) (by decide +kernel)⟩
theorem lw_p18 : lw_okq (⟨"KiteRegisters$Sky", "endFreshness", "()V"⟩, 12) := ⟨⟨by decide +kernel, by decide +kernel⟩, List.mem_of_getElem? (i := 20) (by decide +kernel), List.mem_of_getElem? (i := 269) (by decide +kernel), List.mem_of_getElem? (i := 270) (by decide +kernel)⟩
theorem lw_p19 : lw_okq (⟨"KiteRegisters$Sky", "beatNow", "()I"⟩, 12) := ⟨⟨by decide +kernel, by decide +kernel⟩, List.mem_of_getElem? (i := 20) (by decide +kernel), List.mem_of_getElem? (i := 273) (by decide +kernel), List.mem_of_getElem? (i := 274) (by decide +kernel)⟩
theorem lw_p20 : lw_okq (⟨"KiteRegisters$Sky", "changeWind", "(II)I"⟩, 12) := ⟨⟨by decide +kernel, by decide +kernel⟩, List.mem_of_getElem? (i := 20) (by decide +kernel), List.mem_of_getElem? (i := 281) (by decide +kernel), List.mem_of_getElem? (i := 282) (by decide +kernel)⟩
theorem lw_p21 : lw_okq (⟨"KiteRegisters$Sky", "changeSetting", "(II)I"⟩, 12) := ⟨⟨by decide +kernel, by decide +kernel⟩, List.mem_of_getElem? (i := 20) (by decide +kernel), List.mem_of_getElem? (i := 292) (by decide +kernel), List.mem_of_getElem? (i := 293) (by decide +kernel)⟩
theorem lw_p22 : lw_okq (⟨"KiteRegisters$Sky", "changeCut", "(I)I"⟩, 12) := ⟨⟨by decide +kernel, by decide +kernel⟩, List.mem_of_getElem? (i := 20) (by decide +kernel), List.mem_of_getElem? (i := 296) (by decide +kernel), List.mem_of_getElem? (i := 297) (by decide +kernel)⟩
theorem lw_p23 : lw_okq (⟨"KiteRegisters$Sky", "changeSinking", "(I)I"⟩, 12) := ⟨⟨by decide +kernel, by decide +kernel⟩, List.mem_of_getElem? (i := 20) (by decide +kernel), List.mem_of_getElem? (i := 300) (by decide +kernel), List.mem_of_getElem? (i := 301) (by decide +kernel)⟩
theorem lw_p24 : lw_okq (⟨"KiteRegisters$Script", "append", "(C)I"⟩, 9) := ⟨⟨by decide +kernel, by decide +kernel⟩, List.mem_of_getElem? (i := 85) (by decide +kernel), List.mem_of_getElem? (i := 308) (by decide +kernel), List.mem_of_getElem? (i := 309) (by decide +kernel)⟩
theorem lw_p25 : lw_okq (⟨"KiteRegisters$Script", "empty", "()I"⟩, 9) := ⟨⟨by decide +kernel, by decide +kernel⟩, List.mem_of_getElem? (i := 85) (by decide +kernel), List.mem_of_getElem? (i := 316) (by decide +kernel), List.mem_of_getElem? (i := 317) (by decide +kernel)⟩
theorem lw_p26 : lw_okq (⟨"KiteRegisters$Script", "scan", "()I"⟩, 9) := ⟨⟨by decide +kernel, by decide +kernel⟩, List.mem_of_getElem? (i := 85) (by decide +kernel), List.mem_of_getElem? (i := 324) (by decide +kernel), List.mem_of_getElem? (i := 325) (by decide +kernel)⟩
theorem lw_p27 : lw_okq (⟨"KiteRegisters$Script", "scanCommand", "()Z"⟩, 9) := ⟨⟨by decide +kernel, by decide +kernel⟩, List.mem_of_getElem? (i := 85) (by decide +kernel), List.mem_of_getElem? (i := 328) (by decide +kernel), List.mem_of_getElem? (i := 329) (by decide +kernel)⟩
theorem lw_p28 : lw_okq (⟨"KiteRegisters$Script", "scanWord", "()Z"⟩, 9) := ⟨⟨by decide +kernel, by decide +kernel⟩, List.mem_of_getElem? (i := 85) (by decide +kernel), List.mem_of_getElem? (i := 332) (by decide +kernel), List.mem_of_getElem? (i := 333) (by decide +kernel)⟩
theorem lw_p29 : lw_okq (⟨"KiteRegisters$Script", "charactersAlike", "(Ljava/lang/String;)I"⟩, 9) := ⟨⟨by decide +kernel, by decide +kernel⟩, List.mem_of_getElem? (i := 85) (by decide +kernel), List.mem_of_getElem? (i := 344) (by decide +kernel), List.mem_of_getElem? (i := 345) (by decide +kernel)⟩
theorem lw_p30 : lw_okq (⟨"KiteRegisters$Script", "signAt", "(I)I"⟩, 9) := ⟨⟨by decide +kernel, by decide +kernel⟩, List.mem_of_getElem? (i := 85) (by decide +kernel), List.mem_of_getElem? (i := 358) (by decide +kernel), List.mem_of_getElem? (i := 359) (by decide +kernel)⟩
theorem lw_p31 : lw_okq (⟨"KiteRegisters$Script", "scanFirst", "()Z"⟩, 9) := ⟨⟨by decide +kernel, by decide +kernel⟩, List.mem_of_getElem? (i := 85) (by decide +kernel), List.mem_of_getElem? (i := 401) (by decide +kernel), List.mem_of_getElem? (i := 402) (by decide +kernel)⟩
def lw_privs_2 : List (MethodName × Nat) := [(⟨"KiteRegisters$Sky", "sinkString", "(I)V"⟩, 12), (⟨"KiteRegisters$Sky", "lowestAbove", "(II)I"⟩, 12), (⟨"KiteRegisters$Sky", "endFreshness", "()V"⟩, 12), (⟨"KiteRegisters$Sky", "beatNow", "()I"⟩, 12), (⟨"KiteRegisters$Sky", "changeWind", "(II)I"⟩, 12), (⟨"KiteRegisters$Sky", "changeSetting", "(II)I"⟩, 12), (⟨"KiteRegisters$Sky", "changeCut", "(I)I"⟩, 12), (⟨"KiteRegisters$Sky", "changeSinking", "(I)I"⟩, 12), (⟨"KiteRegisters$Script", "append", "(C)I"⟩, 9), (⟨"KiteRegisters$Script", "empty", "()I"⟩, 9), (⟨"KiteRegisters$Script", "scan", "()I"⟩, 9), (⟨"KiteRegisters$Script", "scanCommand", "()Z"⟩, 9), (⟨"KiteRegisters$Script", "scanWord", "()Z"⟩, 9), (⟨"KiteRegisters$Script", "charactersAlike", "(Ljava/lang/String;)I"⟩, 9), (⟨"KiteRegisters$Script", "signAt", "(I)I"⟩, 9), (⟨"KiteRegisters$Script", "scanFirst", "()Z"⟩, 9)]
theorem lw_r2 : ∀ q ∈ lw_privs_2, lw_okq q := List.forall_mem_cons.mpr ⟨lw_p16, List.forall_mem_cons.mpr ⟨lw_p17, List.forall_mem_cons.mpr ⟨lw_p18, List.forall_mem_cons.mpr ⟨lw_p19, List.forall_mem_cons.mpr ⟨lw_p20, List.forall_mem_cons.mpr ⟨lw_p21, List.forall_mem_cons.mpr ⟨lw_p22, List.forall_mem_cons.mpr ⟨lw_p23, List.forall_mem_cons.mpr ⟨lw_p24, List.forall_mem_cons.mpr ⟨lw_p25, List.forall_mem_cons.mpr ⟨lw_p26, List.forall_mem_cons.mpr ⟨lw_p27, List.forall_mem_cons.mpr ⟨lw_p28, List.forall_mem_cons.mpr ⟨lw_p29, List.forall_mem_cons.mpr ⟨lw_p30, List.forall_mem_cons.mpr ⟨lw_p31, fun _ h => absurd h List.not_mem_nil⟩⟩⟩⟩⟩⟩⟩⟩⟩⟩⟩⟩⟩⟩⟩⟩
theorem lw_p32 : lw_okq (⟨"KiteRegisters$Script", "scanNumber", "(II)Z"⟩, 9) := ⟨⟨by decide +kernel, by decide +kernel⟩, List.mem_of_getElem? (i := 85) (by decide +kernel), List.mem_of_getElem? (i := 405) (by decide +kernel), List.mem_of_getElem? (i := 406) (by decide +kernel)⟩
theorem lw_p33 : lw_okq (⟨"KiteRegisters$Script", "skip", "(C)Z"⟩, 9) := ⟨⟨by decide +kernel, by decide +kernel⟩, List.mem_of_getElem? (i := 85) (by decide +kernel), List.mem_of_getElem? (i := 409) (by decide +kernel), List.mem_of_getElem? (i := 410) (by decide +kernel)⟩
theorem lw_p34 : lw_okq (⟨"KiteRegisters$Script", "digitAt", "(I)I"⟩, 9) := ⟨⟨by decide +kernel, by decide +kernel⟩, List.mem_of_getElem? (i := 85) (by decide +kernel), List.mem_of_getElem? (i := 413) (by decide +kernel), List.mem_of_getElem? (i := 414) (by decide +kernel)⟩
theorem lw_p35 : lw_okq (⟨"KiteRegisters$Script", "scanSecond", "()Z"⟩, 9) := ⟨⟨by decide +kernel, by decide +kernel⟩, List.mem_of_getElem? (i := 85) (by decide +kernel), List.mem_of_getElem? (i := 417) (by decide +kernel), List.mem_of_getElem? (i := 418) (by decide +kernel)⟩
theorem lw_p36 : lw_okq (⟨"KiteRegisters$Script", "verbOf", "(I)I"⟩, 9) := ⟨⟨by decide +kernel, by decide +kernel⟩, List.mem_of_getElem? (i := 85) (by decide +kernel), List.mem_of_getElem? (i := 421) (by decide +kernel), List.mem_of_getElem? (i := 422) (by decide +kernel)⟩
theorem lw_p37 : lw_okq (⟨"KiteRegisters$Script", "isCommand", "(I)Z"⟩, 9) := ⟨⟨by decide +kernel, by decide +kernel⟩, List.mem_of_getElem? (i := 85) (by decide +kernel), List.mem_of_getElem? (i := 425) (by decide +kernel), List.mem_of_getElem? (i := 426) (by decide +kernel)⟩
theorem lw_p38 : lw_okq (⟨"KiteRegisters$Script", "firstOf", "(I)I"⟩, 9) := ⟨⟨by decide +kernel, by decide +kernel⟩, List.mem_of_getElem? (i := 85) (by decide +kernel), List.mem_of_getElem? (i := 429) (by decide +kernel), List.mem_of_getElem? (i := 430) (by decide +kernel)⟩
theorem lw_p39 : lw_okq (⟨"KiteRegisters$Script", "secondOf", "(I)I"⟩, 9) := ⟨⟨by decide +kernel, by decide +kernel⟩, List.mem_of_getElem? (i := 85) (by decide +kernel), List.mem_of_getElem? (i := 433) (by decide +kernel), List.mem_of_getElem? (i := 434) (by decide +kernel)⟩
theorem lw_p40 : lw_okq (⟨"KiteRegisters$Sky", "carryOut", "(III)I"⟩, 12) := ⟨⟨by decide +kernel, by decide +kernel⟩, List.mem_of_getElem? (i := 20) (by decide +kernel), List.mem_of_getElem? (i := 437) (by decide +kernel), List.mem_of_getElem? (i := 438) (by decide +kernel)⟩
theorem lw_p41 : lw_okq (⟨"KiteRegisters$History", "takeLatest", "(LKiteRegisters$Sky;)I"⟩, 3) := ⟨⟨by decide +kernel, by decide +kernel⟩, List.mem_of_getElem? (i := 65) (by decide +kernel), List.mem_of_getElem? (i := 455) (by decide +kernel), List.mem_of_getElem? (i := 456) (by decide +kernel)⟩
theorem lw_p42 : lw_okq (⟨"KiteRegisters$Sky", "kitesInAll", "()I"⟩, 12) := ⟨⟨by decide +kernel, by decide +kernel⟩, List.mem_of_getElem? (i := 20) (by decide +kernel), List.mem_of_getElem? (i := 463) (by decide +kernel), List.mem_of_getElem? (i := 464) (by decide +kernel)⟩
theorem lw_p43 : lw_okq (⟨"KiteRegisters$Sky", "aboutKite", "(II)I"⟩, 12) := ⟨⟨by decide +kernel, by decide +kernel⟩, List.mem_of_getElem? (i := 20) (by decide +kernel), List.mem_of_getElem? (i := 475) (by decide +kernel), List.mem_of_getElem? (i := 476) (by decide +kernel)⟩
theorem lw_p44 : lw_okq (⟨"KiteRegisters$Sky", "kitesBetween", "(III)I"⟩, 12) := ⟨⟨by decide +kernel, by decide +kernel⟩, List.mem_of_getElem? (i := 20) (by decide +kernel), List.mem_of_getElem? (i := 479) (by decide +kernel), List.mem_of_getElem? (i := 480) (by decide +kernel)⟩
theorem lw_p45 : lw_okq (⟨"KiteRegisters$Sky", "highestBelow", "(II)I"⟩, 12) := ⟨⟨by decide +kernel, by decide +kernel⟩, List.mem_of_getElem? (i := 20) (by decide +kernel), List.mem_of_getElem? (i := 483) (by decide +kernel), List.mem_of_getElem? (i := 484) (by decide +kernel)⟩
theorem lw_p46 : lw_okq (⟨"KiteRegisters$Sky", "aboutString", "(II)I"⟩, 12) := ⟨⟨by decide +kernel, by decide +kernel⟩, List.mem_of_getElem? (i := 20) (by decide +kernel), List.mem_of_getElem? (i := 491) (by decide +kernel), List.mem_of_getElem? (i := 492) (by decide +kernel)⟩
theorem lw_p47 : lw_okq (⟨"KiteRegisters$Sky", "weightsOn", "(I)I"⟩, 12) := ⟨⟨by decide +kernel, by decide +kernel⟩, List.mem_of_getElem? (i := 20) (by decide +kernel), List.mem_of_getElem? (i := 495) (by decide +kernel), List.mem_of_getElem? (i := 496) (by decide +kernel)⟩
def lw_privs_3 : List (MethodName × Nat) := [(⟨"KiteRegisters$Script", "scanNumber", "(II)Z"⟩, 9), (⟨"KiteRegisters$Script", "skip", "(C)Z"⟩, 9), (⟨"KiteRegisters$Script", "digitAt", "(I)I"⟩, 9), (⟨"KiteRegisters$Script", "scanSecond", "()Z"⟩, 9), (⟨"KiteRegisters$Script", "verbOf", "(I)I"⟩, 9), (⟨"KiteRegisters$Script", "isCommand", "(I)Z"⟩, 9), (⟨"KiteRegisters$Script", "firstOf", "(I)I"⟩, 9), (⟨"KiteRegisters$Script", "secondOf", "(I)I"⟩, 9), (⟨"KiteRegisters$Sky", "carryOut", "(III)I"⟩, 12), (⟨"KiteRegisters$History", "takeLatest", "(LKiteRegisters$Sky;)I"⟩, 3), (⟨"KiteRegisters$Sky", "kitesInAll", "()I"⟩, 12), (⟨"KiteRegisters$Sky", "aboutKite", "(II)I"⟩, 12), (⟨"KiteRegisters$Sky", "kitesBetween", "(III)I"⟩, 12), (⟨"KiteRegisters$Sky", "highestBelow", "(II)I"⟩, 12), (⟨"KiteRegisters$Sky", "aboutString", "(II)I"⟩, 12), (⟨"KiteRegisters$Sky", "weightsOn", "(I)I"⟩, 12)]
theorem lw_r3 : ∀ q ∈ lw_privs_3, lw_okq q := List.forall_mem_cons.mpr ⟨lw_p32, List.forall_mem_cons.mpr ⟨lw_p33, List.forall_mem_cons.mpr ⟨lw_p34, List.forall_mem_cons.mpr ⟨lw_p35, List.forall_mem_cons.mpr ⟨lw_p36, List.forall_mem_cons.mpr ⟨lw_p37, List.forall_mem_cons.mpr ⟨lw_p38, List.forall_mem_cons.mpr ⟨lw_p39, List.forall_mem_cons.mpr ⟨lw_p40, List.forall_mem_cons.mpr ⟨lw_p41, List.forall_mem_cons.mpr ⟨lw_p42, List.forall_mem_cons.mpr ⟨lw_p43, List.forall_mem_cons.mpr ⟨lw_p44, List.forall_mem_cons.mpr ⟨lw_p45, List.forall_mem_cons.mpr ⟨lw_p46, List.forall_mem_cons.mpr ⟨lw_p47, fun _ h => absurd h List.not_mem_nil⟩⟩⟩⟩⟩⟩⟩⟩⟩⟩⟩⟩⟩⟩⟩⟩
theorem lw_p48 : lw_okq (⟨"KiteRegisters$Sky", "numbersOn", "(I)I"⟩, 12) := ⟨⟨by decide +kernel, by decide +kernel⟩, List.mem_of_getElem? (i := 20) (by decide +kernel), List.mem_of_getElem? (i := 499) (by decide +kernel), List.mem_of_getElem? (i := 500) (by decide +kernel)⟩
theorem lw_p49 : lw_okq (⟨"KiteRegisters$Sky", "kiteAtPoint", "(II)I"⟩, 12) := ⟨⟨by decide +kernel, by decide +kernel⟩, List.mem_of_getElem? (i := 20) (by decide +kernel), List.mem_of_getElem? (i := 507) (by decide +kernel), List.mem_of_getElem? (i := 508) (by decide +kernel)⟩
theorem lw_p50 : lw_okq (⟨"KiteRegisters$Sky", "thousandthsOf", "(I)I"⟩, 12) := ⟨⟨by decide +kernel, by decide +kernel⟩, List.mem_of_getElem? (i := 20) (by decide +kernel), List.mem_of_getElem? (i := 515) (by decide +kernel), List.mem_of_getElem? (i := 516) (by decide +kernel)⟩
theorem lw_p51 : lw_okq (⟨"KiteRegisters$Sky", "windAt", "(I)I"⟩, 12) := ⟨⟨by decide +kernel, by decide +kernel⟩, List.mem_of_getElem? (i := 20) (by decide +kernel), List.mem_of_getElem? (i := 523) (by decide +kernel), List.mem_of_getElem? (i := 524) (by decide +kernel)⟩
theorem lw_p52 : lw_okq (⟨"KiteRegisters$Sky", "aboutReading", "(II)I"⟩, 12) := ⟨⟨by decide +kernel, by decide +kernel⟩, List.mem_of_getElem? (i := 20) (by decide +kernel), List.mem_of_getElem? (i := 531) (by decide +kernel), List.mem_of_getElem? (i := 532) (by decide +kernel)⟩
theorem lw_p53 : lw_okq (⟨"KiteRegisters$Sky", "readingsUntilCut", "(I)I"⟩, 12) := ⟨⟨by decide +kernel, by decide +kernel⟩, List.mem_of_getElem? (i := 20) (by decide +kernel), List.mem_of_getElem? (i := 539) (by decide +kernel), List.mem_of_getElem? (i := 540) (by decide +kernel)⟩
theorem lw_p54 : lw_okq (⟨"KiteRegisters$Sky", "sinkUntil", "(II)I"⟩, 12) := ⟨⟨by decide +kernel, by decide +kernel⟩, List.mem_of_getElem? (i := 20) (by decide +kernel), List.mem_of_getElem? (i := 547) (by decide +kernel), List.mem_of_getElem? (i := 548) (by decide +kernel)⟩
theorem lw_p55 : lw_okq (⟨"KiteRegisters$Sky", "greatestSafeWind", "()I"⟩, 12) := ⟨⟨by decide +kernel, by decide +kernel⟩, List.mem_of_getElem? (i := 20) (by decide +kernel), List.mem_of_getElem? (i := 555) (by decide +kernel), List.mem_of_getElem? (i := 556) (by decide +kernel)⟩
theorem lw_p56 : lw_okq (⟨"KiteRegisters$Sky", "isSafe", "(I)Z"⟩, 12) := ⟨⟨by decide +kernel, by decide +kernel⟩, List.mem_of_getElem? (i := 20) (by decide +kernel), List.mem_of_getElem? (i := 559) (by decide +kernel), List.mem_of_getElem? (i := 560) (by decide +kernel)⟩
theorem lw_p57 : lw_okq (⟨"KiteRegisters$Sky", "calmestString", "()I"⟩, 12) := ⟨⟨by decide +kernel, by decide +kernel⟩, List.mem_of_getElem? (i := 20) (by decide +kernel), List.mem_of_getElem? (i := 567) (by decide +kernel), List.mem_of_getElem? (i := 568) (by decide +kernel)⟩
theorem lw_p58 : lw_okq (⟨"KiteRegisters$Sky", "isCalmer", "(II)Z"⟩, 12) := ⟨⟨by decide +kernel, by decide +kernel⟩, List.mem_of_getElem? (i := 20) (by decide +kernel), List.mem_of_getElem? (i := 571) (by decide +kernel), List.mem_of_getElem? (i := 572) (by decide +kernel)⟩
theorem lw_p59 : lw_okq (⟨"KiteRegisters$Sky", "aboutAll", "(I)I"⟩, 12) := ⟨⟨by decide +kernel, by decide +kernel⟩, List.mem_of_getElem? (i := 20) (by decide +kernel), List.mem_of_getElem? (i := 579) (by decide +kernel), List.mem_of_getElem? (i := 580) (by decide +kernel)⟩
theorem lw_p60 : lw_okq (⟨"KiteRegisters$Sky", "cutsSoFar", "()I"⟩, 12) := ⟨⟨by decide +kernel, by decide +kernel⟩, List.mem_of_getElem? (i := 20) (by decide +kernel), List.mem_of_getElem? (i := 584) (by decide +kernel), List.mem_of_getElem? (i := 585) (by decide +kernel)⟩
theorem lw_p61 : lw_okq (⟨"KiteRegisters$Sky", "freshKites", "()I"⟩, 12) := ⟨⟨by decide +kernel, by decide +kernel⟩, List.mem_of_getElem? (i := 20) (by decide +kernel), List.mem_of_getElem? (i := 588) (by decide +kernel), List.mem_of_getElem? (i := 589) (by decide +kernel)⟩
theorem lw_p62 : lw_okq (⟨"KiteRegisters$Sky", "greatestHeight", "()I"⟩, 12) := ⟨⟨by decide +kernel, by decide +kernel⟩, List.mem_of_getElem? (i := 20) (by decide +kernel), List.mem_of_getElem? (i := 592) (by decide +kernel), List.mem_of_getElem? (i := 593) (by decide +kernel)⟩
theorem lw_p63 : lw_okq (⟨"KiteRegisters$Sky", "weightsInAll", "()I"⟩, 12) := ⟨⟨by decide +kernel, by decide +kernel⟩, List.mem_of_getElem? (i := 20) (by decide +kernel), List.mem_of_getElem? (i := 596) (by decide +kernel), List.mem_of_getElem? (i := 597) (by decide +kernel)⟩
def lw_privs_4 : List (MethodName × Nat) := [(⟨"KiteRegisters$Sky", "numbersOn", "(I)I"⟩, 12), (⟨"KiteRegisters$Sky", "kiteAtPoint", "(II)I"⟩, 12), (⟨"KiteRegisters$Sky", "thousandthsOf", "(I)I"⟩, 12), (⟨"KiteRegisters$Sky", "windAt", "(I)I"⟩, 12), (⟨"KiteRegisters$Sky", "aboutReading", "(II)I"⟩, 12), (⟨"KiteRegisters$Sky", "readingsUntilCut", "(I)I"⟩, 12), (⟨"KiteRegisters$Sky", "sinkUntil", "(II)I"⟩, 12), (⟨"KiteRegisters$Sky", "greatestSafeWind", "()I"⟩, 12), (⟨"KiteRegisters$Sky", "isSafe", "(I)Z"⟩, 12), (⟨"KiteRegisters$Sky", "calmestString", "()I"⟩, 12), (⟨"KiteRegisters$Sky", "isCalmer", "(II)Z"⟩, 12), (⟨"KiteRegisters$Sky", "aboutAll", "(I)I"⟩, 12), (⟨"KiteRegisters$Sky", "cutsSoFar", "()I"⟩, 12), (⟨"KiteRegisters$Sky", "freshKites", "()I"⟩, 12), (⟨"KiteRegisters$Sky", "greatestHeight", "()I"⟩, 12), (⟨"KiteRegisters$Sky", "weightsInAll", "()I"⟩, 12)]
theorem lw_r4 : ∀ q ∈ lw_privs_4, lw_okq q := List.forall_mem_cons.mpr ⟨lw_p48, List.forall_mem_cons.mpr ⟨lw_p49, List.forall_mem_cons.mpr ⟨lw_p50, List.forall_mem_cons.mpr ⟨lw_p51, List.forall_mem_cons.mpr ⟨lw_p52, List.forall_mem_cons.mpr ⟨lw_p53, List.forall_mem_cons.mpr ⟨lw_p54, List.forall_mem_cons.mpr ⟨lw_p55, List.forall_mem_cons.mpr ⟨lw_p56, List.forall_mem_cons.mpr ⟨lw_p57, List.forall_mem_cons.mpr ⟨lw_p58, List.forall_mem_cons.mpr ⟨lw_p59, List.forall_mem_cons.mpr ⟨lw_p60, List.forall_mem_cons.mpr ⟨lw_p61, List.forall_mem_cons.mpr ⟨lw_p62, List.forall_mem_cons.mpr ⟨lw_p63, fun _ h => absurd h List.not_mem_nil⟩⟩⟩⟩⟩⟩⟩⟩⟩⟩⟩⟩⟩⟩⟩⟩
theorem lw_p64 : lw_okq (⟨"KiteRegistersModel", "remember", "()V"⟩, 16) := ⟨⟨by decide +kernel, by decide +kernel⟩, List.mem_of_getElem? (i := 600) (by decide +kernel), List.mem_of_getElem? (i := 671) (by decide +kernel), List.mem_of_getElem? (i := 672) (by decide +kernel)⟩
theorem lw_p65 : lw_okq (⟨"KiteRegistersModel", "doFly", "(II)I"⟩, 16) := ⟨⟨by decide +kernel, by decide +kernel⟩, List.mem_of_getElem? (i := 600) (by decide +kernel), List.mem_of_getElem? (i := 678) (by decide +kernel), List.mem_of_getElem? (i := 679) (by decide +kernel)⟩
theorem lw_p66 : lw_okq (⟨"KiteRegistersModel", "lands", "(III)V"⟩, 16) := ⟨⟨by decide +kernel, by decide +kernel⟩, List.mem_of_getElem? (i := 600) (by decide +kernel), List.mem_of_getElem? (i := 682) (by decide +kernel), List.mem_of_getElem? (i := 683) (by decide +kernel)⟩
theorem lw_p67 : lw_okq (⟨"KiteRegistersModel", "landing", "(II)I"⟩, 16) := ⟨⟨by decide +kernel, by decide +kernel⟩, List.mem_of_getElem? (i := 600) (by decide +kernel), List.mem_of_getElem? (i := 686) (by decide +kernel), List.mem_of_getElem? (i := 687) (by decide +kernel)⟩
theorem lw_p68 : lw_okq (⟨"KiteRegistersModel", "kiteAt", "(II)I"⟩, 16) := ⟨⟨by decide +kernel, by decide +kernel⟩, List.mem_of_getElem? (i := 600) (by decide +kernel), List.mem_of_getElem? (i := 690) (by decide +kernel), List.mem_of_getElem? (i := 691) (by decide +kernel)⟩
theorem lw_p69 : lw_okq (⟨"KiteRegistersModel", "heightOf", "(I)I"⟩, 16) := ⟨⟨by decide +kernel, by decide +kernel⟩, List.mem_of_getElem? (i := 600) (by decide +kernel), List.mem_of_getElem? (i := 694) (by decide +kernel), List.mem_of_getElem? (i := 695) (by decide +kernel)⟩
theorem lw_p70 : lw_okq (⟨"KiteRegistersModel", "acted", "(I)I"⟩, 16) := ⟨⟨by decide +kernel, by decide +kernel⟩, List.mem_of_getElem? (i := 600) (by decide +kernel), List.mem_of_getElem? (i := 698) (by decide +kernel), List.mem_of_getElem? (i := 699) (by decide +kernel)⟩
theorem lw_p71 : lw_okq (⟨"KiteRegistersModel", "isKite", "(I)Z"⟩, 16) := ⟨⟨by decide +kernel, by decide +kernel⟩, List.mem_of_getElem? (i := 600) (by decide +kernel), List.mem_of_getElem? (i := 706) (by decide +kernel), List.mem_of_getElem? (i := 707) (by decide +kernel)⟩
theorem lw_p72 : lw_okq (⟨"KiteRegistersModel", "doRead", "(I)I"⟩, 16) := ⟨⟨by decide +kernel, by decide +kernel⟩, List.mem_of_getElem? (i := 600) (by decide +kernel), List.mem_of_getElem? (i := 715) (by decide +kernel), List.mem_of_getElem? (i := 716) (by decide +kernel)⟩
theorem lw_p73 : lw_okq (⟨"KiteRegistersModel", "windNow", "()I"⟩, 16) := ⟨⟨by decide +kernel, by decide +kernel⟩, List.mem_of_getElem? (i := 600) (by decide +kernel), List.mem_of_getElem? (i := 719) (by decide +kernel), List.mem_of_getElem? (i := 720) (by decide +kernel)⟩
theorem lw_p74 : lw_okq (⟨"KiteRegistersModel", "rises", "(II)Z"⟩, 16) := ⟨⟨by decide +kernel, by decide +kernel⟩, List.mem_of_getElem? (i := 600) (by decide +kernel), List.mem_of_getElem? (i := 723) (by decide +kernel), List.mem_of_getElem? (i := 724) (by decide +kernel)⟩
theorem lw_p75 : lw_okq (⟨"KiteRegistersModel", "doWrite", "(II)I"⟩, 16) := ⟨⟨by decide +kernel, by decide +kernel⟩, List.mem_of_getElem? (i := 600) (by decide +kernel), List.mem_of_getElem? (i := 731) (by decide +kernel), List.mem_of_getElem? (i := 732) (by decide +kernel)⟩
theorem lw_p76 : lw_okq (⟨"KiteRegistersModel", "beats", "(I)V"⟩, 16) := ⟨⟨by decide +kernel, by decide +kernel⟩, List.mem_of_getElem? (i := 600) (by decide +kernel), List.mem_of_getElem? (i := 744) (by decide +kernel), List.mem_of_getElem? (i := 745) (by decide +kernel)⟩
theorem lw_p77 : lw_okq (⟨"KiteRegistersModel", "sinks", "(I)V"⟩, 16) := ⟨⟨by decide +kernel, by decide +kernel⟩, List.mem_of_getElem? (i := 600) (by decide +kernel), List.mem_of_getElem? (i := 748) (by decide +kernel), List.mem_of_getElem? (i := 749) (by decide +kernel)⟩
theorem lw_p78 : lw_okq (⟨"KiteRegistersModel", "nextTo", "(IIZ)I"⟩, 16) := ⟨⟨by decide +kernel, by decide +kernel⟩, List.mem_of_getElem? (i := 600) (by decide +kernel), List.mem_of_getElem? (i := 752) (by decide +kernel), List.mem_of_getElem? (i := 753) (by decide +kernel)⟩
theorem lw_p79 : lw_okq (⟨"KiteRegistersModel", "fault", "()I"⟩, 16) := ⟨⟨by decide +kernel, by decide +kernel⟩, List.mem_of_getElem? (i := 600) (by decide +kernel), List.mem_of_getElem? (i := 783) (by decide +kernel), List.mem_of_getElem? (i := 784) (by decide +kernel)⟩
def lw_privs_5 : List (MethodName × Nat) := [(⟨"KiteRegistersModel", "remember", "()V"⟩, 16), (⟨"KiteRegistersModel", "doFly", "(II)I"⟩, 16), (⟨"KiteRegistersModel", "lands", "(III)V"⟩, 16), (⟨"KiteRegistersModel", "landing", "(II)I"⟩, 16), (⟨"KiteRegistersModel", "kiteAt", "(II)I"⟩, 16), (⟨"KiteRegistersModel", "heightOf", "(I)I"⟩, 16), (⟨"KiteRegistersModel", "acted", "(I)I"⟩, 16), (⟨"KiteRegistersModel", "isKite", "(I)Z"⟩, 16), (⟨"KiteRegistersModel", "doRead", "(I)I"⟩, 16), (⟨"KiteRegistersModel", "windNow", "()I"⟩, 16), (⟨"KiteRegistersModel", "rises", "(II)Z"⟩, 16), (⟨"KiteRegistersModel", "doWrite", "(II)I"⟩, 16), (⟨"KiteRegistersModel", "beats", "(I)V"⟩, 16), (⟨"KiteRegistersModel", "sinks", "(I)V"⟩, 16), (⟨"KiteRegistersModel", "nextTo", "(IIZ)I"⟩, 16), (⟨"KiteRegistersModel", "fault", "()I"⟩, 16)]
theorem lw_r5 : ∀ q ∈ lw_privs_5, lw_okq q := List.forall_mem_cons.mpr ⟨lw_p64, List.forall_mem_cons.mpr ⟨lw_p65, List.forall_mem_cons.mpr ⟨lw_p66, List.forall_mem_cons.mpr ⟨lw_p67, List.forall_mem_cons.mpr ⟨lw_p68, List.forall_mem_cons.mpr ⟨lw_p69, List.forall_mem_cons.mpr ⟨lw_p70, List.forall_mem_cons.mpr ⟨lw_p71, List.forall_mem_cons.mpr ⟨lw_p72, List.forall_mem_cons.mpr ⟨lw_p73, List.forall_mem_cons.mpr ⟨lw_p74, List.forall_mem_cons.mpr ⟨lw_p75, List.forall_mem_cons.mpr ⟨lw_p76, List.forall_mem_cons.mpr ⟨lw_p77, List.forall_mem_cons.mpr ⟨lw_p78, List.forall_mem_cons.mpr ⟨lw_p79, fun _ h => absurd h List.not_mem_nil⟩⟩⟩⟩⟩⟩⟩⟩⟩⟩⟩⟩⟩⟩⟩⟩
theorem lw_p80 : lw_okq (⟨"KiteRegistersModel", "readsCommand", "()Z"⟩, 16) := ⟨⟨by decide +kernel, by decide +kernel⟩, List.mem_of_getElem? (i := 600) (by decide +kernel), List.mem_of_getElem? (i := 787) (by decide +kernel), List.mem_of_getElem? (i := 788) (by decide +kernel)⟩
theorem lw_p81 : lw_okq (⟨"KiteRegistersModel", "takes", "(I)Z"⟩, 16) := ⟨⟨by decide +kernel, by decide +kernel⟩, List.mem_of_getElem? (i := 600) (by decide +kernel), List.mem_of_getElem? (i := 791) (by decide +kernel), List.mem_of_getElem? (i := 792) (by decide +kernel)⟩
theorem lw_p82 : lw_okq (⟨"KiteRegistersModel", "isHere", "(II)Z"⟩, 16) := ⟨⟨by decide +kernel, by decide +kernel⟩, List.mem_of_getElem? (i := 600) (by decide +kernel), List.mem_of_getElem? (i := 795) (by decide +kernel), List.mem_of_getElem? (i := 796) (by decide +kernel)⟩
theorem lw_p83 : lw_okq (⟨"KiteRegistersModel", "readsLetters", "(J)Z"⟩, 16) := ⟨⟨by decide +kernel, by decide +kernel⟩, List.mem_of_getElem? (i := 600) (by decide +kernel), List.mem_of_getElem? (i := 800) (by decide +kernel), List.mem_of_getElem? (i := 801) (by decide +kernel)⟩
theorem lw_p84 : lw_okq (⟨"KiteRegistersModel", "readsNumbers", "()Z"⟩, 16) := ⟨⟨by decide +kernel, by decide +kernel⟩, List.mem_of_getElem? (i := 600) (by decide +kernel), List.mem_of_getElem? (i := 805) (by decide +kernel), List.mem_of_getElem? (i := 806) (by decide +kernel)⟩
theorem lw_p85 : lw_okq (⟨"KiteRegistersModel", "readsNumber", "(II)Z"⟩, 16) := ⟨⟨by decide +kernel, by decide +kernel⟩, List.mem_of_getElem? (i := 600) (by decide +kernel), List.mem_of_getElem? (i := 809) (by decide +kernel), List.mem_of_getElem? (i := 810) (by decide +kernel)⟩
theorem lw_p86 : lw_okq (⟨"KiteRegistersModel", "carriesOut", "()I"⟩, 16) := ⟨⟨by decide +kernel, by decide +kernel⟩, List.mem_of_getElem? (i := 600) (by decide +kernel), List.mem_of_getElem? (i := 817) (by decide +kernel), List.mem_of_getElem? (i := 818) (by decide +kernel)⟩
theorem lw_p87 : lw_okq (⟨"KiteRegistersModel", "many", "()I"⟩, 16) := ⟨⟨by decide +kernel, by decide +kernel⟩, List.mem_of_getElem? (i := 600) (by decide +kernel), List.mem_of_getElem? (i := 833) (by decide +kernel), List.mem_of_getElem? (i := 834) (by decide +kernel)⟩
theorem lw_p88 : lw_okq (⟨"KiteRegistersModel", "kitesOf", "(I)I"⟩, 16) := ⟨⟨by decide +kernel, by decide +kernel⟩, List.mem_of_getElem? (i := 600) (by decide +kernel), List.mem_of_getElem? (i := 837) (by decide +kernel), List.mem_of_getElem? (i := 838) (by decide +kernel)⟩
theorem lw_p89 : lw_okq (⟨"KiteRegistersModel", "rankOf", "(I)I"⟩, 16) := ⟨⟨by decide +kernel, by decide +kernel⟩, List.mem_of_getElem? (i := 600) (by decide +kernel), List.mem_of_getElem? (i := 849) (by decide +kernel), List.mem_of_getElem? (i := 850) (by decide +kernel)⟩
theorem lw_p90 : lw_okq (⟨"KiteRegistersModel", "weightsOf", "(I)I"⟩, 16) := ⟨⟨by decide +kernel, by decide +kernel⟩, List.mem_of_getElem? (i := 600) (by decide +kernel), List.mem_of_getElem? (i := 857) (by decide +kernel), List.mem_of_getElem? (i := 858) (by decide +kernel)⟩
theorem lw_p91 : lw_okq (⟨"KiteRegistersModel", "weightOf", "(I)I"⟩, 16) := ⟨⟨by decide +kernel, by decide +kernel⟩, List.mem_of_getElem? (i := 600) (by decide +kernel), List.mem_of_getElem? (i := 861) (by decide +kernel), List.mem_of_getElem? (i := 862) (by decide +kernel)⟩
theorem lw_p92 : lw_okq (⟨"KiteRegistersModel", "highestOf", "(I)I"⟩, 16) := ⟨⟨by decide +kernel, by decide +kernel⟩, List.mem_of_getElem? (i := 600) (by decide +kernel), List.mem_of_getElem? (i := 865) (by decide +kernel), List.mem_of_getElem? (i := 866) (by decide +kernel)⟩
theorem lw_p93 : lw_okq (⟨"KiteRegistersModel", "sumOf", "(I)I"⟩, 16) := ⟨⟨by decide +kernel, by decide +kernel⟩, List.mem_of_getElem? (i := 600) (by decide +kernel), List.mem_of_getElem? (i := 869) (by decide +kernel), List.mem_of_getElem? (i := 870) (by decide +kernel)⟩
theorem lw_p94 : lw_okq (⟨"KiteRegistersModel", "passed", "(II)I"⟩, 16) := ⟨⟨by decide +kernel, by decide +kernel⟩, List.mem_of_getElem? (i := 600) (by decide +kernel), List.mem_of_getElem? (i := 889) (by decide +kernel), List.mem_of_getElem? (i := 890) (by decide +kernel)⟩
theorem lw_p95 : lw_okq (⟨"KiteRegistersModel", "isSafe", "(I)Z"⟩, 16) := ⟨⟨by decide +kernel, by decide +kernel⟩, List.mem_of_getElem? (i := 600) (by decide +kernel), List.mem_of_getElem? (i := 906) (by decide +kernel), List.mem_of_getElem? (i := 907) (by decide +kernel)⟩
def lw_privs_6 : List (MethodName × Nat) := [(⟨"KiteRegistersModel", "readsCommand", "()Z"⟩, 16), (⟨"KiteRegistersModel", "takes", "(I)Z"⟩, 16), (⟨"KiteRegistersModel", "isHere", "(II)Z"⟩, 16), (⟨"KiteRegistersModel", "readsLetters", "(J)Z"⟩, 16), (⟨"KiteRegistersModel", "readsNumbers", "()Z"⟩, 16), (⟨"KiteRegistersModel", "readsNumber", "(II)Z"⟩, 16), (⟨"KiteRegistersModel", "carriesOut", "()I"⟩, 16), (⟨"KiteRegistersModel", "many", "()I"⟩, 16), (⟨"KiteRegistersModel", "kitesOf", "(I)I"⟩, 16), (⟨"KiteRegistersModel", "rankOf", "(I)I"⟩, 16), (⟨"KiteRegistersModel", "weightsOf", "(I)I"⟩, 16), (⟨"KiteRegistersModel", "weightOf", "(I)I"⟩, 16), (⟨"KiteRegistersModel", "highestOf", "(I)I"⟩, 16), (⟨"KiteRegistersModel", "sumOf", "(I)I"⟩, 16), (⟨"KiteRegistersModel", "passed", "(II)I"⟩, 16), (⟨"KiteRegistersModel", "isSafe", "(I)Z"⟩, 16)]
theorem lw_r6 : ∀ q ∈ lw_privs_6, lw_okq q := List.forall_mem_cons.mpr ⟨lw_p80, List.forall_mem_cons.mpr ⟨lw_p81, List.forall_mem_cons.mpr ⟨lw_p82, List.forall_mem_cons.mpr ⟨lw_p83, List.forall_mem_cons.mpr ⟨lw_p84, List.forall_mem_cons.mpr ⟨lw_p85, List.forall_mem_cons.mpr ⟨lw_p86, List.forall_mem_cons.mpr ⟨lw_p87, List.forall_mem_cons.mpr ⟨lw_p88, List.forall_mem_cons.mpr ⟨lw_p89, List.forall_mem_cons.mpr ⟨lw_p90, List.forall_mem_cons.mpr ⟨lw_p91, List.forall_mem_cons.mpr ⟨lw_p92, List.forall_mem_cons.mpr ⟨lw_p93, List.forall_mem_cons.mpr ⟨lw_p94, List.forall_mem_cons.mpr ⟨lw_p95, fun _ h => absurd h List.not_mem_nil⟩⟩⟩⟩⟩⟩⟩⟩⟩⟩⟩⟩⟩⟩⟩⟩
theorem lw_p96 : lw_okq (⟨"KiteRegistersModel", "freshOnes", "()I"⟩, 16) := ⟨⟨by decide +kernel, by decide +kernel⟩, List.mem_of_getElem? (i := 600) (by decide +kernel), List.mem_of_getElem? (i := 918) (by decide +kernel), List.mem_of_getElem? (i := 919) (by decide +kernel)⟩
theorem lw_p97 : lw_okq (⟨"KiteRegistersModel", "greatestHeight", "()I"⟩, 16) := ⟨⟨by decide +kernel, by decide +kernel⟩, List.mem_of_getElem? (i := 600) (by decide +kernel), List.mem_of_getElem? (i := 922) (by decide +kernel), List.mem_of_getElem? (i := 923) (by decide +kernel)⟩
theorem lw_p98 : lw_okq (⟨"KiteRegistersModel", "allWeights", "()I"⟩, 16) := ⟨⟨by decide +kernel, by decide +kernel⟩, List.mem_of_getElem? (i := 600) (by decide +kernel), List.mem_of_getElem? (i := 926) (by decide +kernel), List.mem_of_getElem? (i := 927) (by decide +kernel)⟩
def lw_privs_7 : List (MethodName × Nat) := [(⟨"KiteRegistersModel", "freshOnes", "()I"⟩, 16), (⟨"KiteRegistersModel", "greatestHeight", "()I"⟩, 16), (⟨"KiteRegistersModel", "allWeights", "()I"⟩, 16)]
theorem lw_r7 : ∀ q ∈ lw_privs_7, lw_okq q := List.forall_mem_cons.mpr ⟨lw_p96, List.forall_mem_cons.mpr ⟨lw_p97, List.forall_mem_cons.mpr ⟨lw_p98, fun _ h => absurd h List.not_mem_nil⟩⟩⟩
def lw_privs : List (MethodName × Nat) := lw_privs_1 ++ (lw_privs_2 ++ (lw_privs_3 ++ (lw_privs_4 ++ (lw_privs_5 ++ (lw_privs_6 ++ (lw_privs_7))))))
def lw_tbl : List Cond := k2_sels lw_privs ++ tables_1
theorem lw_privs_ok : ∀ q ∈ lw_privs, lw_okq q := by
  show ∀ q ∈ lw_privs_1 ++ (lw_privs_2 ++ (lw_privs_3 ++ (lw_privs_4 ++ (lw_privs_5 ++ (lw_privs_6 ++ (lw_privs_7)))))), lw_okq q
  exact List.forall_mem_append.mpr ⟨lw_r1, List.forall_mem_append.mpr ⟨lw_r2, List.forall_mem_append.mpr ⟨lw_r3, List.forall_mem_append.mpr ⟨lw_r4, List.forall_mem_append.mpr ⟨lw_r5, List.forall_mem_append.mpr ⟨lw_r6, lw_r7⟩⟩⟩⟩⟩⟩
-- ===== end of PART A; then your names; then what follows =====
/-! ===== BEGIN words of one list among another's, by their places ===== -/
theorem goodIn_r {big : List Cond} (ws : List Cond) (ps : List Nat) (hp : ws = ps.filterMap (fun i => big[i]?)) (h : ws.all goodWord = true) : GoodIn big ws := by
  intro w hw
  have h1 := List.all_eq_true.mp h w hw
  rw [hp] at hw
  obtain ⟨i, -, hi⟩ := List.mem_filterMap.mp hw
  have hm : w ∈ big := by first | exact List.mem_of_getElem? hi | exact List.getElem?_mem hi
  exact ⟨hm, good_of_word h1⟩
theorem goodIn_app {big a b : List Cond} (ha : GoodIn big a) (hb : GoodIn big b) : GoodIn big (a ++ b) := fun w h => (List.mem_append.mp h).elim (ha w) (hb w)
theorem goodIn_ca {big a b : List Cond} {c : Cond} (ha : GoodIn big (c :: a)) (hb : GoodIn big b) : GoodIn big (c :: (a ++ b)) := fun w h => (List.mem_cons.mp h).elim (fun e => ha w (List.mem_cons.mpr (Or.inl e))) (fun h => (List.mem_append.mp h).elim (fun h => ha w (List.mem_cons.mpr (Or.inr h))) (hb w))
theorem goodIn_sub {big ws : List Cond} (hm : ∀ w ∈ ws, w ∈ big) (h : ws.all goodWord = true) : GoodIn big ws := fun w hw => ⟨hm w hw, good_of_word (List.all_eq_true.mp h w hw)⟩
/-! ===== END ===== -/

/-! ===== BEGIN printed: names, fields, word lists, decode rows ===== -/
def RX0 : String := "KiteRegisters$History"
def TX0 : u_T := fun k => match k with
  | 0 => ("KiteRegisters$History", "states", "[LKiteRegisters$Sky;", true)
  | 1 => ("KiteRegisters$History", "next", "I", false)
  | _ => ("KiteRegisters$History", "size", "I", false)
def tyX0 : Nat → FieldType := fun k => match k with
  | 0 => .array (.object "KiteRegisters$Sky")
  | 1 => .int
  | _ => .int
abbrev wsX00 : List Cond := u_ws RX0 TX0 3
theorem nmX0 : ∀ a, a < 3 → ∀ b, b < 3 → a ≠ b → (TX0 a).2.1 ≠ (TX0 b).2.1 := by decide +kernel
theorem tyX0_ok : ∀ k, k < 3 → parseFieldDescriptor (TX0 k).2.2.1 = some (tyX0 k) := by decide +kernel
abbrev cX0_init : ByteArray := prog_2_method_1_code
def yX0_init : MethodName := ⟨RX0, "<init>", "()V"⟩
abbrev cX0_add : ByteArray := prog_2_method_2_code
def yX0_add : MethodName := ⟨RX0, "add", "(LKiteRegisters$Sky;)V"⟩
abbrev cX0_takeLatest : ByteArray := prog_2_method_3_code
def yX0_takeLatest : MethodName := ⟨RX0, "takeLatest", "(LKiteRegisters$Sky;)I"⟩
abbrev cX0_rowAt : ByteArray := prog_2_method_4_code
def yX0_rowAt : MethodName := ⟨RX0, "rowAt", "(I)LKiteRegisters$Sky;"⟩
def RX1 : String := "KiteRegisters$Script"
def TX1 : u_T := fun k => match k with
  | 0 => ("KiteRegisters$Script", "signs", "[C", true)
  | 1 => ("KiteRegisters$Script", "length", "I", false)
  | 2 => ("KiteRegisters$Script", "verbs", "[I", true)
  | 3 => ("KiteRegisters$Script", "firsts", "[I", true)
  | 4 => ("KiteRegisters$Script", "seconds", "[I", true)
  | 5 => ("KiteRegisters$Script", "commands", "I", false)
  | 6 => ("KiteRegisters$Script", "place", "I", false)
  | 7 => ("KiteRegisters$Script", "verb", "I", false)
  | _ => ("KiteRegisters$Script", "number", "I", false)
def tyX1 : Nat → FieldType := fun k => match k with
  | 0 => .array .char
  | 1 => .int
  | 2 => .array .int
  | 3 => .array .int
  | 4 => .array .int
  | 5 => .int
  | 6 => .int
  | 7 => .int
  | _ => .int
abbrev wsX10 : List Cond := u_ws RX1 TX1 9
theorem nmX1 : ∀ a, a < 9 → ∀ b, b < 9 → a ≠ b → (TX1 a).2.1 ≠ (TX1 b).2.1 := by decide +kernel
theorem tyX1_ok : ∀ k, k < 9 → parseFieldDescriptor (TX1 k).2.2.1 = some (tyX1 k) := by decide +kernel
abbrev cX1_init : ByteArray := prog_3_method_1_code
def yX1_init : MethodName := ⟨RX1, "<init>", "()V"⟩
abbrev cX1_append : ByteArray := prog_3_method_2_code
def yX1_append : MethodName := ⟨RX1, "append", "(C)I"⟩
abbrev cX1_empty : ByteArray := prog_3_method_3_code
def yX1_empty : MethodName := ⟨RX1, "empty", "()I"⟩
abbrev cX1_verbOf : ByteArray := prog_3_method_4_code
def yX1_verbOf : MethodName := ⟨RX1, "verbOf", "(I)I"⟩
abbrev cX1_firstOf : ByteArray := prog_3_method_5_code
def yX1_firstOf : MethodName := ⟨RX1, "firstOf", "(I)I"⟩
abbrev cX1_secondOf : ByteArray := prog_3_method_6_code
def yX1_secondOf : MethodName := ⟨RX1, "secondOf", "(I)I"⟩
abbrev cX1_isCommand : ByteArray := prog_3_method_7_code
def yX1_isCommand : MethodName := ⟨RX1, "isCommand", "(I)Z"⟩
abbrev cX1_scan : ByteArray := prog_3_method_8_code
def yX1_scan : MethodName := ⟨RX1, "scan", "()I"⟩
abbrev cX1_scanCommand : ByteArray := prog_3_method_9_code
def yX1_scanCommand : MethodName := ⟨RX1, "scanCommand", "()Z"⟩
abbrev cX1_scanWord : ByteArray := prog_3_method_10_code
def yX1_scanWord : MethodName := ⟨RX1, "scanWord", "()Z"⟩
abbrev cX1_charactersAlike : ByteArray := prog_3_method_11_code
def yX1_charactersAlike : MethodName := ⟨RX1, "charactersAlike", "(Ljava/lang/String;)I"⟩
abbrev cX1_wordOf : ByteArray := prog_3_method_12_code
def yX1_wordOf : MethodName := ⟨RX1, "wordOf", "(I)Ljava/lang/String;"⟩
abbrev cX1_scanFirst : ByteArray := prog_3_method_13_code
def yX1_scanFirst : MethodName := ⟨RX1, "scanFirst", "()Z"⟩
abbrev cX1_scanSecond : ByteArray := prog_3_method_14_code
def yX1_scanSecond : MethodName := ⟨RX1, "scanSecond", "()Z"⟩
abbrev cX1_scanNumber : ByteArray := prog_3_method_15_code
def yX1_scanNumber : MethodName := ⟨RX1, "scanNumber", "(II)Z"⟩
abbrev cX1_skip : ByteArray := prog_3_method_16_code
def yX1_skip : MethodName := ⟨RX1, "skip", "(C)Z"⟩
abbrev cX1_digitAt : ByteArray := prog_3_method_17_code
def yX1_digitAt : MethodName := ⟨RX1, "digitAt", "(I)I"⟩
abbrev cX1_signAt : ByteArray := prog_3_method_18_code
def yX1_signAt : MethodName := ⟨RX1, "signAt", "(I)I"⟩
def RX2 : String := "KiteRegisters$Sky"
def TX2 : u_T := fun k => match k with
  | 0 => ("KiteRegisters$Sky", "numbers", "[I", true)
  | 1 => ("KiteRegisters$Sky", "strings", "[I", true)
  | 2 => ("KiteRegisters$Sky", "heights", "[I", true)
  | 3 => ("KiteRegisters$Sky", "fresh", "[Z", true)
  | 4 => ("KiteRegisters$Sky", "readings", "[I", true)
  | 5 => ("KiteRegisters$Sky", "cuts", "[I", true)
  | 6 => ("KiteRegisters$Sky", "winds", "[I", true)
  | 7 => ("KiteRegisters$Sky", "cutsFrom", "[I", true)
  | 8 => ("KiteRegisters$Sky", "beatsSoFar", "I", false)
  | 9 => ("KiteRegisters$Sky", "readingsSoFar", "I", false)
  | 10 => ("KiteRegisters$Sky", "cutHeight", "I", false)
  | _ => ("KiteRegisters$Sky", "sinking", "I", false)
def tyX2 : Nat → FieldType := fun k => match k with
  | 0 => .array .int
  | 1 => .array .int
  | 2 => .array .int
  | 3 => .array .boolean
  | 4 => .array .int
  | 5 => .array .int
  | 6 => .array .int
  | 7 => .array .int
  | 8 => .int
  | 9 => .int
  | 10 => .int
  | _ => .int
abbrev wsX20 : List Cond := u_ws RX2 TX2 12
theorem nmX2 : ∀ a, a < 12 → ∀ b, b < 12 → a ≠ b → (TX2 a).2.1 ≠ (TX2 b).2.1 := by decide +kernel
theorem tyX2_ok : ∀ k, k < 12 → parseFieldDescriptor (TX2 k).2.2.1 = some (tyX2 k) := by decide +kernel
abbrev cX2_init : ByteArray := prog_4_method_1_code
def yX2_init : MethodName := ⟨RX2, "<init>", "()V"⟩
abbrev cX2_copyFrom : ByteArray := prog_4_method_2_code
def yX2_copyFrom : MethodName := ⟨RX2, "copyFrom", "(LKiteRegisters$Sky;)V"⟩
abbrev cX2_launch : ByteArray := prog_4_method_3_code
def yX2_launch : MethodName := ⟨RX2, "launch", "(II)I"⟩
abbrev cX2_remove : ByteArray := prog_4_method_4_code
def yX2_remove : MethodName := ⟨RX2, "remove", "(I)I"⟩
abbrev cX2_raise : ByteArray := prog_4_method_5_code
def yX2_raise : MethodName := ⟨RX2, "raise", "(I)I"⟩
abbrev cX2_renumber : ByteArray := prog_4_method_6_code
def yX2_renumber : MethodName := ⟨RX2, "renumber", "(II)I"⟩
abbrev cX2_shift : ByteArray := prog_4_method_7_code
def yX2_shift : MethodName := ⟨RX2, "shift", "(II)I"⟩
abbrev cX2_passBeats : ByteArray := prog_4_method_8_code
def yX2_passBeats : MethodName := ⟨RX2, "passBeats", "(I)I"⟩
abbrev cX2_changeWind : ByteArray := prog_4_method_9_code
def yX2_changeWind : MethodName := ⟨RX2, "changeWind", "(II)I"⟩
abbrev cX2_changeSetting : ByteArray := prog_4_method_10_code
def yX2_changeSetting : MethodName := ⟨RX2, "changeSetting", "(II)I"⟩
abbrev cX2_changeCut : ByteArray := prog_4_method_11_code
def yX2_changeCut : MethodName := ⟨RX2, "changeCut", "(I)I"⟩
abbrev cX2_changeSinking : ByteArray := prog_4_method_12_code
def yX2_changeSinking : MethodName := ⟨RX2, "changeSinking", "(I)I"⟩
abbrev cX2_carryOut : ByteArray := prog_4_method_13_code
def yX2_carryOut : MethodName := ⟨RX2, "carryOut", "(III)I"⟩
abbrev cX2_sinkString : ByteArray := prog_4_method_14_code
def yX2_sinkString : MethodName := ⟨RX2, "sinkString", "(I)V"⟩
abbrev cX2_endFreshness : ByteArray := prog_4_method_15_code
def yX2_endFreshness : MethodName := ⟨RX2, "endFreshness", "()V"⟩
abbrev cX2_sinkUntil : ByteArray := prog_4_method_16_code
def yX2_sinkUntil : MethodName := ⟨RX2, "sinkUntil", "(II)I"⟩
abbrev cX2_risen : ByteArray := prog_4_method_17_code
def yX2_risen : MethodName := ⟨RX2, "risen", "(III)I"⟩
abbrev cX2_landing : ByteArray := prog_4_method_18_code
def yX2_landing : MethodName := ⟨RX2, "landing", "(II)I"⟩
abbrev cX2_isTaken : ByteArray := prog_4_method_19_code
def yX2_isTaken : MethodName := ⟨RX2, "isTaken", "(II)Z"⟩
abbrev cX2_countCutFrom : ByteArray := prog_4_method_20_code
def yX2_countCutFrom : MethodName := ⟨RX2, "countCutFrom", "(I)V"⟩
abbrev cX2_behind : ByteArray := prog_4_method_21_code
def yX2_behind : MethodName := ⟨RX2, "behind", "(I)I"⟩
abbrev cX2_isKite : ByteArray := prog_4_method_22_code
def yX2_isKite : MethodName := ⟨RX2, "isKite", "(I)Z"⟩
abbrev cX2_aboutKite : ByteArray := prog_4_method_23_code
def yX2_aboutKite : MethodName := ⟨RX2, "aboutKite", "(II)I"⟩
abbrev cX2_aboutReading : ByteArray := prog_4_method_24_code
def yX2_aboutReading : MethodName := ⟨RX2, "aboutReading", "(II)I"⟩
abbrev cX2_readingsUntilCut : ByteArray := prog_4_method_25_code
def yX2_readingsUntilCut : MethodName := ⟨RX2, "readingsUntilCut", "(I)I"⟩
abbrev cX2_thousandthsOf : ByteArray := prog_4_method_26_code
def yX2_thousandthsOf : MethodName := ⟨RX2, "thousandthsOf", "(I)I"⟩
abbrev cX2_aboutString : ByteArray := prog_4_method_27_code
def yX2_aboutString : MethodName := ⟨RX2, "aboutString", "(II)I"⟩
abbrev cX2_kitesBetween : ByteArray := prog_4_method_28_code
def yX2_kitesBetween : MethodName := ⟨RX2, "kitesBetween", "(III)I"⟩
abbrev cX2_lowestAbove : ByteArray := prog_4_method_29_code
def yX2_lowestAbove : MethodName := ⟨RX2, "lowestAbove", "(II)I"⟩
abbrev cX2_highestBelow : ByteArray := prog_4_method_30_code
def yX2_highestBelow : MethodName := ⟨RX2, "highestBelow", "(II)I"⟩
abbrev cX2_weightsOn : ByteArray := prog_4_method_31_code
def yX2_weightsOn : MethodName := ⟨RX2, "weightsOn", "(I)I"⟩
abbrev cX2_numbersOn : ByteArray := prog_4_method_32_code
def yX2_numbersOn : MethodName := ⟨RX2, "numbersOn", "(I)I"⟩
abbrev cX2_kiteAtPoint : ByteArray := prog_4_method_33_code
def yX2_kiteAtPoint : MethodName := ⟨RX2, "kiteAtPoint", "(II)I"⟩
abbrev cX2_beatNow : ByteArray := prog_4_method_34_code
def yX2_beatNow : MethodName := ⟨RX2, "beatNow", "()I"⟩
abbrev cX2_windNow : ByteArray := prog_4_method_35_code
def yX2_windNow : MethodName := ⟨RX2, "windNow", "()I"⟩
abbrev cX2_windAt : ByteArray := prog_4_method_36_code
def yX2_windAt : MethodName := ⟨RX2, "windAt", "(I)I"⟩
abbrev cX2_greatestSafeWind : ByteArray := prog_4_method_37_code
def yX2_greatestSafeWind : MethodName := ⟨RX2, "greatestSafeWind", "()I"⟩
abbrev cX2_isSafe : ByteArray := prog_4_method_38_code
def yX2_isSafe : MethodName := ⟨RX2, "isSafe", "(I)Z"⟩
abbrev cX2_calmestString : ByteArray := prog_4_method_39_code
def yX2_calmestString : MethodName := ⟨RX2, "calmestString", "()I"⟩
abbrev cX2_isCalmer : ByteArray := prog_4_method_40_code
def yX2_isCalmer : MethodName := ⟨RX2, "isCalmer", "(II)Z"⟩
abbrev cX2_aboutAll : ByteArray := prog_4_method_41_code
def yX2_aboutAll : MethodName := ⟨RX2, "aboutAll", "(I)I"⟩
abbrev cX2_kitesInAll : ByteArray := prog_4_method_42_code
def yX2_kitesInAll : MethodName := ⟨RX2, "kitesInAll", "()I"⟩
abbrev cX2_cutsSoFar : ByteArray := prog_4_method_43_code
def yX2_cutsSoFar : MethodName := ⟨RX2, "cutsSoFar", "()I"⟩
abbrev cX2_freshKites : ByteArray := prog_4_method_44_code
def yX2_freshKites : MethodName := ⟨RX2, "freshKites", "()I"⟩
abbrev cX2_greatestHeight : ByteArray := prog_4_method_45_code
def yX2_greatestHeight : MethodName := ⟨RX2, "greatestHeight", "()I"⟩
abbrev cX2_weightsInAll : ByteArray := prog_4_method_46_code
def yX2_weightsInAll : MethodName := ⟨RX2, "weightsInAll", "()I"⟩
def RX3 : String := "KiteRegisters"
def TX3 : u_T := fun k => match k with
  | 0 => ("KiteRegisters", "sky", "LKiteRegisters$Sky;", true)
  | 1 => ("KiteRegisters", "before", "LKiteRegisters$Sky;", true)
  | 2 => ("KiteRegisters", "trial", "LKiteRegisters$Sky;", true)
  | 3 => ("KiteRegisters", "snapshot", "LKiteRegisters$Sky;", true)
  | 4 => ("KiteRegisters", "hasSnapshot", "Z", false)
  | 5 => ("KiteRegisters", "history", "LKiteRegisters$History;", true)
  | 6 => ("KiteRegisters", "script", "LKiteRegisters$Script;", true)
  | 7 => ("KiteRegisters", "stopCommand", "I", false)
  | _ => ("KiteRegisters", "stopError", "I", false)
def tyX3 : Nat → FieldType := fun k => match k with
  | 0 => .object "KiteRegisters$Sky"
  | 1 => .object "KiteRegisters$Sky"
  | 2 => .object "KiteRegisters$Sky"
  | 3 => .object "KiteRegisters$Sky"
  | 4 => .boolean
  | 5 => .object "KiteRegisters$History"
  | 6 => .object "KiteRegisters$Script"
  | 7 => .int
  | _ => .int
abbrev wsX30 : List Cond := u_ws RX3 TX3 9
theorem nmX3 : ∀ a, a < 9 → ∀ b, b < 9 → a ≠ b → (TX3 a).2.1 ≠ (TX3 b).2.1 := by decide +kernel
theorem tyX3_ok : ∀ k, k < 9 → parseFieldDescriptor (TX3 k).2.2.1 = some (tyX3 k) := by decide +kernel
abbrev cX3_init : ByteArray := prog_1_method_1_code
def yX3_init : MethodName := ⟨RX3, "<init>", "()V"⟩
abbrev cX3_fly : ByteArray := prog_1_method_2_code
def yX3_fly : MethodName := ⟨RX3, "fly", "(II)I"⟩
abbrev cX3_takeDown : ByteArray := prog_1_method_3_code
def yX3_takeDown : MethodName := ⟨RX3, "takeDown", "(I)I"⟩
abbrev cX3_read : ByteArray := prog_1_method_4_code
def yX3_read : MethodName := ⟨RX3, "read", "(I)I"⟩
abbrev cX3_write : ByteArray := prog_1_method_5_code
def yX3_write : MethodName := ⟨RX3, "write", "(II)I"⟩
abbrev cX3_move : ByteArray := prog_1_method_6_code
def yX3_move : MethodName := ⟨RX3, "move", "(II)I"⟩
abbrev cX3_beat : ByteArray := prog_1_method_7_code
def yX3_beat : MethodName := ⟨RX3, "beat", "(I)I"⟩
abbrev cX3_wind : ByteArray := prog_1_method_8_code
def yX3_wind : MethodName := ⟨RX3, "wind", "(II)I"⟩
abbrev cX3_set : ByteArray := prog_1_method_9_code
def yX3_set : MethodName := ⟨RX3, "set", "(II)I"⟩
abbrev cX3_type : ByteArray := prog_1_method_10_code
def yX3_type : MethodName := ⟨RX3, "type", "(C)I"⟩
abbrev cX3_clearText : ByteArray := prog_1_method_11_code
def yX3_clearText : MethodName := ⟨RX3, "clearText", "()I"⟩
abbrev cX3_perform : ByteArray := prog_1_method_12_code
def yX3_perform : MethodName := ⟨RX3, "perform", "()I"⟩
abbrev cX3_stopped : ByteArray := prog_1_method_13_code
def yX3_stopped : MethodName := ⟨RX3, "stopped", "(I)I"⟩
abbrev cX3_undo : ByteArray := prog_1_method_14_code
def yX3_undo : MethodName := ⟨RX3, "undo", "()I"⟩
abbrev cX3_keep : ByteArray := prog_1_method_15_code
def yX3_keep : MethodName := ⟨RX3, "keep", "()I"⟩
abbrev cX3_restore : ByteArray := prog_1_method_16_code
def yX3_restore : MethodName := ⟨RX3, "restore", "()I"⟩
abbrev cX3_kite : ByteArray := prog_1_method_17_code
def yX3_kite : MethodName := ⟨RX3, "kite", "(II)I"⟩
abbrev cX3_string : ByteArray := prog_1_method_18_code
def yX3_string : MethodName := ⟨RX3, "string", "(II)I"⟩
abbrev cX3_drawn : ByteArray := prog_1_method_19_code
def yX3_drawn : MethodName := ⟨RX3, "drawn", "(II)I"⟩
abbrev cX3_share : ByteArray := prog_1_method_20_code
def yX3_share : MethodName := ⟨RX3, "share", "(I)I"⟩
abbrev cX3_windOf : ByteArray := prog_1_method_21_code
def yX3_windOf : MethodName := ⟨RX3, "windOf", "(I)I"⟩
abbrev cX3_ifRead : ByteArray := prog_1_method_22_code
def yX3_ifRead : MethodName := ⟨RX3, "ifRead", "(II)I"⟩
abbrev cX3_readsToCut : ByteArray := prog_1_method_23_code
def yX3_readsToCut : MethodName := ⟨RX3, "readsToCut", "(I)I"⟩
abbrev cX3_downIn : ByteArray := prog_1_method_24_code
def yX3_downIn : MethodName := ⟨RX3, "downIn", "(II)I"⟩
abbrev cX3_safeWind : ByteArray := prog_1_method_25_code
def yX3_safeWind : MethodName := ⟨RX3, "safeWind", "()I"⟩
abbrev cX3_calmest : ByteArray := prog_1_method_26_code
def yX3_calmest : MethodName := ⟨RX3, "calmest", "()I"⟩
abbrev cX3_count : ByteArray := prog_1_method_27_code
def yX3_count : MethodName := ⟨RX3, "count", "(I)I"⟩
abbrev cX3_recorded : ByteArray := prog_1_method_28_code
def yX3_recorded : MethodName := ⟨RX3, "recorded", "(I)I"⟩
abbrev cX3_isError : ByteArray := prog_1_method_29_code
def yX3_isError : MethodName := ⟨RX3, "isError", "(I)Z"⟩
abbrev cX3_isString : ByteArray := prog_1_method_30_code
def yX3_isString : MethodName := ⟨RX3, "isString", "(I)Z"⟩
abbrev cX3_isBeat : ByteArray := prog_1_method_31_code
def yX3_isBeat : MethodName := ⟨RX3, "isBeat", "(I)Z"⟩
abbrev cX3_isNumber : ByteArray := prog_1_method_32_code
def yX3_isNumber : MethodName := ⟨RX3, "isNumber", "(I)Z"⟩
def RX4 : String := "KiteRegistersModel"
def TX4 : u_T := fun k => match k with
  | 0 => ("KiteRegistersModel", "all", "[I", true)
  | 1 => ("KiteRegistersModel", "kept", "[I", true)
  | 2 => ("KiteRegistersModel", "tried", "[I", true)
  | 3 => ("KiteRegistersModel", "history", "[I", true)
  | 4 => ("KiteRegistersModel", "historyLong", "I", false)
  | 5 => ("KiteRegistersModel", "snapshot", "[I", true)
  | 6 => ("KiteRegistersModel", "isTaken", "I", false)
  | 7 => ("KiteRegistersModel", "stopAt", "I", false)
  | 8 => ("KiteRegistersModel", "stopBy", "I", false)
  | 9 => ("KiteRegistersModel", "text", "[I", true)
  | 10 => ("KiteRegistersModel", "textLong", "I", false)
  | 11 => ("KiteRegistersModel", "spot", "I", false)
  | 12 => ("KiteRegistersModel", "number", "I", false)
  | 13 => ("KiteRegistersModel", "command", "I", false)
  | 14 => ("KiteRegistersModel", "first", "I", false)
  | _ => ("KiteRegistersModel", "second", "I", false)
def tyX4 : Nat → FieldType := fun k => match k with
  | 0 => .array .int
  | 1 => .array .int
  | 2 => .array .int
  | 3 => .array .int
  | 4 => .int
  | 5 => .array .int
  | 6 => .int
  | 7 => .int
  | 8 => .int
  | 9 => .array .int
  | 10 => .int
  | 11 => .int
  | 12 => .int
  | 13 => .int
  | 14 => .int
  | _ => .int
abbrev wsX40 : List Cond := u_ws RX4 TX4 16
theorem nmX4 : ∀ a, a < 16 → ∀ b, b < 16 → a ≠ b → (TX4 a).2.1 ≠ (TX4 b).2.1 := by decide +kernel
theorem tyX4_ok : ∀ k, k < 16 → parseFieldDescriptor (TX4 k).2.2.1 = some (tyX4 k) := by decide +kernel
abbrev cX4_init : ByteArray := prog_6_method_1_code
def yX4_init : MethodName := ⟨RX4, "<init>", "()V"⟩
abbrev cX4_in : ByteArray := prog_6_method_3_code
def yX4_in : MethodName := ⟨RX4, "in", "(JJJ)Z"⟩
abbrev cX4_copy : ByteArray := prog_6_method_4_code
def yX4_copy : MethodName := ⟨RX4, "copy", "([I[I)V"⟩
abbrev cX4_remember : ByteArray := prog_6_method_5_code
def yX4_remember : MethodName := ⟨RX4, "remember", "()V"⟩
abbrev cX4_acted : ByteArray := prog_6_method_6_code
def yX4_acted : MethodName := ⟨RX4, "acted", "(I)I"⟩
abbrev cX4_isString : ByteArray := prog_6_method_7_code
def yX4_isString : MethodName := ⟨RX4, "isString", "(I)Z"⟩
abbrev cX4_isKite : ByteArray := prog_6_method_8_code
def yX4_isKite : MethodName := ⟨RX4, "isKite", "(I)Z"⟩
abbrev cX4_heightOf : ByteArray := prog_6_method_9_code
def yX4_heightOf : MethodName := ⟨RX4, "heightOf", "(I)I"⟩
abbrev cX4_weightOf : ByteArray := prog_6_method_10_code
def yX4_weightOf : MethodName := ⟨RX4, "weightOf", "(I)I"⟩
abbrev cX4_kiteAt : ByteArray := prog_6_method_11_code
def yX4_kiteAt : MethodName := ⟨RX4, "kiteAt", "(II)I"⟩
abbrev cX4_landing : ByteArray := prog_6_method_12_code
def yX4_landing : MethodName := ⟨RX4, "landing", "(II)I"⟩
abbrev cX4_lands : ByteArray := prog_6_method_13_code
def yX4_lands : MethodName := ⟨RX4, "lands", "(III)V"⟩
abbrev cX4_nextTo : ByteArray := prog_6_method_14_code
def yX4_nextTo : MethodName := ⟨RX4, "nextTo", "(IIZ)I"⟩
abbrev cX4_kitesOf : ByteArray := prog_6_method_15_code
def yX4_kitesOf : MethodName := ⟨RX4, "kitesOf", "(I)I"⟩
abbrev cX4_weightsOf : ByteArray := prog_6_method_16_code
def yX4_weightsOf : MethodName := ⟨RX4, "weightsOf", "(I)I"⟩
abbrev cX4_many : ByteArray := prog_6_method_17_code
def yX4_many : MethodName := ⟨RX4, "many", "()I"⟩
abbrev cX4_windNow : ByteArray := prog_6_method_18_code
def yX4_windNow : MethodName := ⟨RX4, "windNow", "()I"⟩
abbrev cX4_doFly : ByteArray := prog_6_method_19_code
def yX4_doFly : MethodName := ⟨RX4, "doFly", "(II)I"⟩
abbrev cX4_rises : ByteArray := prog_6_method_20_code
def yX4_rises : MethodName := ⟨RX4, "rises", "(II)Z"⟩
abbrev cX4_doRead : ByteArray := prog_6_method_21_code
def yX4_doRead : MethodName := ⟨RX4, "doRead", "(I)I"⟩
abbrev cX4_doWrite : ByteArray := prog_6_method_22_code
def yX4_doWrite : MethodName := ⟨RX4, "doWrite", "(II)I"⟩
abbrev cX4_sinks : ByteArray := prog_6_method_23_code
def yX4_sinks : MethodName := ⟨RX4, "sinks", "(I)V"⟩
abbrev cX4_beats : ByteArray := prog_6_method_24_code
def yX4_beats : MethodName := ⟨RX4, "beats", "(I)V"⟩
abbrev cX4_isNumber : ByteArray := prog_6_method_25_code
def yX4_isNumber : MethodName := ⟨RX4, "isNumber", "(I)Z"⟩
abbrev cX4_fly : ByteArray := prog_6_method_26_code
def yX4_fly : MethodName := ⟨RX4, "fly", "(II)I"⟩
abbrev cX4_takeDown : ByteArray := prog_6_method_27_code
def yX4_takeDown : MethodName := ⟨RX4, "takeDown", "(I)I"⟩
abbrev cX4_read : ByteArray := prog_6_method_28_code
def yX4_read : MethodName := ⟨RX4, "read", "(I)I"⟩
abbrev cX4_write : ByteArray := prog_6_method_29_code
def yX4_write : MethodName := ⟨RX4, "write", "(II)I"⟩
abbrev cX4_move : ByteArray := prog_6_method_30_code
def yX4_move : MethodName := ⟨RX4, "move", "(II)I"⟩
abbrev cX4_beat : ByteArray := prog_6_method_31_code
def yX4_beat : MethodName := ⟨RX4, "beat", "(I)I"⟩
abbrev cX4_isBeat : ByteArray := prog_6_method_32_code
def yX4_isBeat : MethodName := ⟨RX4, "isBeat", "(I)Z"⟩
abbrev cX4_wind : ByteArray := prog_6_method_33_code
def yX4_wind : MethodName := ⟨RX4, "wind", "(II)I"⟩
abbrev cX4_set : ByteArray := prog_6_method_34_code
def yX4_set : MethodName := ⟨RX4, "set", "(II)I"⟩
abbrev cX4_type : ByteArray := prog_6_method_35_code
def yX4_type : MethodName := ⟨RX4, "type", "(C)I"⟩
abbrev cX4_clearText : ByteArray := prog_6_method_36_code
def yX4_clearText : MethodName := ⟨RX4, "clearText", "()I"⟩
abbrev cX4_isHere : ByteArray := prog_6_method_37_code
def yX4_isHere : MethodName := ⟨RX4, "isHere", "(II)Z"⟩
abbrev cX4_takes : ByteArray := prog_6_method_38_code
def yX4_takes : MethodName := ⟨RX4, "takes", "(I)Z"⟩
abbrev cX4_readsLetters : ByteArray := prog_6_method_39_code
def yX4_readsLetters : MethodName := ⟨RX4, "readsLetters", "(J)Z"⟩
abbrev cX4_readsNumber : ByteArray := prog_6_method_40_code
def yX4_readsNumber : MethodName := ⟨RX4, "readsNumber", "(II)Z"⟩
abbrev cX4_readsNumbers : ByteArray := prog_6_method_41_code
def yX4_readsNumbers : MethodName := ⟨RX4, "readsNumbers", "()Z"⟩
abbrev cX4_readsCommand : ByteArray := prog_6_method_42_code
def yX4_readsCommand : MethodName := ⟨RX4, "readsCommand", "()Z"⟩
abbrev cX4_fault : ByteArray := prog_6_method_43_code
def yX4_fault : MethodName := ⟨RX4, "fault", "()I"⟩
abbrev cX4_carriesOut : ByteArray := prog_6_method_44_code
def yX4_carriesOut : MethodName := ⟨RX4, "carriesOut", "()I"⟩
abbrev cX4_perform : ByteArray := prog_6_method_45_code
def yX4_perform : MethodName := ⟨RX4, "perform", "()I"⟩
abbrev cX4_stopped : ByteArray := prog_6_method_46_code
def yX4_stopped : MethodName := ⟨RX4, "stopped", "(I)I"⟩
abbrev cX4_undo : ByteArray := prog_6_method_47_code
def yX4_undo : MethodName := ⟨RX4, "undo", "()I"⟩
abbrev cX4_keep : ByteArray := prog_6_method_48_code
def yX4_keep : MethodName := ⟨RX4, "keep", "()I"⟩
abbrev cX4_restore : ByteArray := prog_6_method_49_code
def yX4_restore : MethodName := ⟨RX4, "restore", "()I"⟩
abbrev cX4_rankOf : ByteArray := prog_6_method_50_code
def yX4_rankOf : MethodName := ⟨RX4, "rankOf", "(I)I"⟩
abbrev cX4_kite : ByteArray := prog_6_method_51_code
def yX4_kite : MethodName := ⟨RX4, "kite", "(II)I"⟩
abbrev cX4_sumOf : ByteArray := prog_6_method_52_code
def yX4_sumOf : MethodName := ⟨RX4, "sumOf", "(I)I"⟩
abbrev cX4_highestOf : ByteArray := prog_6_method_53_code
def yX4_highestOf : MethodName := ⟨RX4, "highestOf", "(I)I"⟩
abbrev cX4_string : ByteArray := prog_6_method_54_code
def yX4_string : MethodName := ⟨RX4, "string", "(II)I"⟩
abbrev cX4_drawn : ByteArray := prog_6_method_55_code
def yX4_drawn : MethodName := ⟨RX4, "drawn", "(II)I"⟩
abbrev cX4_share : ByteArray := prog_6_method_56_code
def yX4_share : MethodName := ⟨RX4, "share", "(I)I"⟩
abbrev cX4_windOf : ByteArray := prog_6_method_57_code
def yX4_windOf : MethodName := ⟨RX4, "windOf", "(I)I"⟩
abbrev cX4_passed : ByteArray := prog_6_method_58_code
def yX4_passed : MethodName := ⟨RX4, "passed", "(II)I"⟩
abbrev cX4_ifRead : ByteArray := prog_6_method_59_code
def yX4_ifRead : MethodName := ⟨RX4, "ifRead", "(II)I"⟩
abbrev cX4_readsToCut : ByteArray := prog_6_method_60_code
def yX4_readsToCut : MethodName := ⟨RX4, "readsToCut", "(I)I"⟩
abbrev cX4_downIn : ByteArray := prog_6_method_61_code
def yX4_downIn : MethodName := ⟨RX4, "downIn", "(II)I"⟩
abbrev cX4_isSafe : ByteArray := prog_6_method_62_code
def yX4_isSafe : MethodName := ⟨RX4, "isSafe", "(I)Z"⟩
abbrev cX4_safeWind : ByteArray := prog_6_method_63_code
def yX4_safeWind : MethodName := ⟨RX4, "safeWind", "()I"⟩
abbrev cX4_calmest : ByteArray := prog_6_method_64_code
def yX4_calmest : MethodName := ⟨RX4, "calmest", "()I"⟩
abbrev cX4_freshOnes : ByteArray := prog_6_method_65_code
def yX4_freshOnes : MethodName := ⟨RX4, "freshOnes", "()I"⟩
abbrev cX4_greatestHeight : ByteArray := prog_6_method_66_code
def yX4_greatestHeight : MethodName := ⟨RX4, "greatestHeight", "()I"⟩
abbrev cX4_allWeights : ByteArray := prog_6_method_67_code
def yX4_allWeights : MethodName := ⟨RX4, "allWeights", "()I"⟩
abbrev cX4_count : ByteArray := prog_6_method_68_code
def yX4_count : MethodName := ⟨RX4, "count", "(I)I"⟩
def RJ9 : String := "java/lang/Math"
def TJ9 : u_T := fun k => match k with
  | _ => ("", "", "", false)
def tyJ9 : Nat → FieldType := fun k => match k with
  | _ => .int
abbrev wsJ90 : List Cond := u_ws RJ9 TJ9 0
theorem nmJ9 : ∀ a, a < 0 → ∀ b, b < 0 → a ≠ b → (TJ9 a).2.1 ≠ (TJ9 b).2.1 := by decide +kernel
theorem tyJ9_ok : ∀ k, k < 0 → parseFieldDescriptor (TJ9 k).2.2.1 = some (tyJ9 k) := by decide +kernel
abbrev cJ9_floorMod_7cf53 : ByteArray := prog_7_method_50_code
def yJ9_floorMod_7cf53 : MethodName := ⟨RJ9, "floorMod", "(II)I"⟩
abbrev cJ9_max_7cf53 : ByteArray := prog_7_method_65_code
def yJ9_max_7cf53 : MethodName := ⟨RJ9, "max", "(II)I"⟩
abbrev cJ9_min_7cf53 : ByteArray := prog_7_method_69_code
def yJ9_min_7cf53 : MethodName := ⟨RJ9, "min", "(II)I"⟩
def RJ0 : String := "java/lang/String"
def TJ0 : u_T := fun k => match k with
  | _ => ("", "", "", false)
def tyJ0 : Nat → FieldType := fun k => match k with
  | _ => .int
abbrev wsJ00 : List Cond := u_ws RJ0 TJ0 0
theorem nmJ0 : ∀ a, a < 0 → ∀ b, b < 0 → a ≠ b → (TJ0 a).2.1 ≠ (TJ0 b).2.1 := by decide +kernel
theorem tyJ0_ok : ∀ k, k < 0 → parseFieldDescriptor (TJ0 k).2.2.1 = some (tyJ0 k) := by decide +kernel
abbrev cJ0_length_8abf5 : ByteArray := prog_8_method_54_code
def yJ0_length_8abf5 : MethodName := ⟨RJ0, "length", "()I"⟩
abbrev cJ0_charAt_5068e : ByteArray := prog_8_method_56_code
def yJ0_charAt_5068e : MethodName := ⟨RJ0, "charAt", "(I)C"⟩
abbrev cJ0_coder_7d493 : ByteArray := prog_8_method_152_code
def yJ0_coder_7d493 : MethodName := ⟨RJ0, "coder", "()B"⟩
abbrev cJ0_isLatin1_aae02 : ByteArray := prog_8_method_154_code
def yJ0_isLatin1_aae02 : MethodName := ⟨RJ0, "isLatin1", "()Z"⟩
abbrev cJ0_checkIndex_df160 : ByteArray := prog_8_method_155_code
def yJ0_checkIndex_df160 : MethodName := ⟨RJ0, "checkIndex", "(II)V"⟩
def RJ1 : String := "java/lang/StringLatin1"
def TJ1 : u_T := fun k => match k with
  | _ => ("", "", "", false)
def tyJ1 : Nat → FieldType := fun k => match k with
  | _ => .int
abbrev wsJ10 : List Cond := u_ws RJ1 TJ1 0
theorem nmJ1 : ∀ a, a < 0 → ∀ b, b < 0 → a ≠ b → (TJ1 a).2.1 ≠ (TJ1 b).2.1 := by decide +kernel
theorem tyJ1_ok : ∀ k, k < 0 → parseFieldDescriptor (TJ1 k).2.2.1 = some (tyJ1 k) := by decide +kernel
abbrev cJ1_charAt_3b067 : ByteArray := prog_9_method_2_code
def yJ1_charAt_3b067 : MethodName := ⟨RJ1, "charAt", "([BI)C"⟩
def RJ2 : String := "java/lang/StringUTF16"
def TJ2 : u_T := fun k => match k with
  | _ => ("", "", "", false)
def tyJ2 : Nat → FieldType := fun k => match k with
  | _ => .int
abbrev wsJ20 : List Cond := u_ws RJ2 TJ2 0
theorem nmJ2 : ∀ a, a < 0 → ∀ b, b < 0 → a ≠ b → (TJ2 a).2.1 ≠ (TJ2 b).2.1 := by decide +kernel
theorem tyJ2_ok : ∀ k, k < 0 → parseFieldDescriptor (TJ2 k).2.2.1 = some (tyJ2 k) := by decide +kernel
abbrev cJ2_getChar_3b067 : ByteArray := prog_10_method_5_code
def yJ2_getChar_3b067 : MethodName := ⟨RJ2, "getChar", "([BI)C"⟩
abbrev cJ2_length_9d52b : ByteArray := prog_10_method_6_code
def yJ2_length_9d52b : MethodName := ⟨RJ2, "length", "([B)I"⟩
abbrev cJ2_charAt_3b067 : ByteArray := prog_10_method_83_code
def yJ2_charAt_3b067 : MethodName := ⟨RJ2, "charAt", "([BI)C"⟩
abbrev cJ2_checkIndex_2214a : ByteArray := prog_10_method_91_code
def yJ2_checkIndex_2214a : MethodName := ⟨RJ2, "checkIndex", "(I[B)V"⟩
def RJ3 : String := "jdk/internal/util/Preconditions"
def TJ3 : u_T := fun k => match k with
  | _ => ("", "", "", false)
def tyJ3 : Nat → FieldType := fun k => match k with
  | _ => .int
abbrev wsJ30 : List Cond := u_ws RJ3 TJ3 0
theorem nmJ3 : ∀ a, a < 0 → ∀ b, b < 0 → a ≠ b → (TJ3 a).2.1 ≠ (TJ3 b).2.1 := by decide +kernel
theorem tyJ3_ok : ∀ k, k < 0 → parseFieldDescriptor (TJ3 k).2.2.1 = some (tyJ3 k) := by decide +kernel
abbrev cJ3_checkIndex_8e157 : ByteArray := prog_11_method_11_code
def yJ3_checkIndex_8e157 : MethodName := ⟨RJ3, "checkIndex", "(IILjava/util/function/BiFunction;)I"⟩
def RL : String := "KiteRegistersLaw"
abbrev cL_law : ByteArray := code
def yL_law : MethodName := ⟨RL, "law", "([I)Z"⟩
def wsX2_init : List Cond := .code yX2_init cX2_init 2 none :: ([.methodLink RX2 3 objectInit, .instanceMethod objectInit, .code objectInit ⟨#[0xb1]⟩ 1 none, .arrayClass .int, .fieldLink RX2 9 "KiteRegisters$Sky" "numbers" "[I", .fieldLink RX2 15 "KiteRegisters$Sky" "strings" "[I", .fieldLink RX2 18 "KiteRegisters$Sky" "heights" "[I", .arrayClass .boolean, .fieldLink RX2 21 "KiteRegisters$Sky" "fresh" "[Z", .fieldLink RX2 25 "KiteRegisters$Sky" "readings" "[I", .fieldLink RX2 28 "KiteRegisters$Sky" "cuts" "[I", .fieldLink RX2 31 "KiteRegisters$Sky" "winds" "[I", .fieldLink RX2 34 "KiteRegisters$Sky" "cutsFrom" "[I", .fieldLink RX2 37 "KiteRegisters$Sky" "beatsSoFar" "I", .fieldLink RX2 41 "KiteRegisters$Sky" "readingsSoFar" "I", .fieldLink RX2 44 "KiteRegisters$Sky" "cutHeight" "I", .fieldLink RX2 47 "KiteRegisters$Sky" "sinking" "I"] ++ wsX20)
def wsX0_init_r1 : List Cond := [Cond.methodLink RX0 3 objectInit, Cond.instanceMethod objectInit, Cond.code objectInit ⟨#[0xb1]⟩ 1 none, Cond.classLink RX0 9 RX2, Cond.fieldLink RX0 11 "KiteRegisters$History" "states" "[LKiteRegisters$Sky;", Cond.fieldLink RX0 17 "KiteRegisters$History" "next" "I", Cond.fieldLink RX0 21 "KiteRegisters$History" "size" "I", Cond.instantiable RX2 12, Cond.initialized RX2, Cond.instanceMethod yX2_init, Cond.code yX2_init cX2_init 2 none, Cond.methodLink RX2 3 objectInit, Cond.arrayClass .int, Cond.fieldLink RX2 9 "KiteRegisters$Sky" "numbers" "[I", Cond.fieldLink RX2 15 "KiteRegisters$Sky" "strings" "[I", Cond.fieldLink RX2 18 "KiteRegisters$Sky" "heights" "[I", Cond.arrayClass .boolean, Cond.fieldLink RX2 21 "KiteRegisters$Sky" "fresh" "[Z", Cond.fieldLink RX2 25 "KiteRegisters$Sky" "readings" "[I", Cond.fieldLink RX2 28 "KiteRegisters$Sky" "cuts" "[I", Cond.fieldLink RX2 31 "KiteRegisters$Sky" "winds" "[I", Cond.fieldLink RX2 34 "KiteRegisters$Sky" "cutsFrom" "[I", Cond.fieldLink RX2 37 "KiteRegisters$Sky" "beatsSoFar" "I", Cond.fieldLink RX2 41 "KiteRegisters$Sky" "readingsSoFar" "I"]
def wsX0_init_r2 : List Cond := [Cond.fieldLink RX2 44 "KiteRegisters$Sky" "cutHeight" "I", Cond.fieldLink RX2 47 "KiteRegisters$Sky" "sinking" "I"]
def wsX0_init : List Cond := .code yX0_init cX0_init 2 none :: ((wsX0_init_r1 ++ wsX0_init_r2) ++ wsX00 ++ wsX20)
def wsX0_rowAt : List Cond := .code yX0_rowAt cX0_rowAt 2 (some (.object "KiteRegisters$Sky")) :: ([.fieldLink RX0 11 "KiteRegisters$History" "states" "[LKiteRegisters$Sky;"] ++ wsX00)
def wsX2_copyFrom : List Cond := .code yX2_copyFrom cX2_copyFrom 3 none :: ([.fieldLink RX2 9 "KiteRegisters$Sky" "numbers" "[I", .fieldLink RX2 15 "KiteRegisters$Sky" "strings" "[I", .fieldLink RX2 18 "KiteRegisters$Sky" "heights" "[I", .fieldLink RX2 21 "KiteRegisters$Sky" "fresh" "[Z", .fieldLink RX2 25 "KiteRegisters$Sky" "readings" "[I", .fieldLink RX2 28 "KiteRegisters$Sky" "cuts" "[I", .fieldLink RX2 31 "KiteRegisters$Sky" "winds" "[I", .fieldLink RX2 34 "KiteRegisters$Sky" "cutsFrom" "[I", .fieldLink RX2 37 "KiteRegisters$Sky" "beatsSoFar" "I", .fieldLink RX2 41 "KiteRegisters$Sky" "readingsSoFar" "I", .fieldLink RX2 44 "KiteRegisters$Sky" "cutHeight" "I", .fieldLink RX2 47 "KiteRegisters$Sky" "sinking" "I"] ++ wsX20)
def wsX0_add_r1 : List Cond := [Cond.fieldLink RX0 17 "KiteRegisters$History" "next" "I", Cond.fieldLink RX0 21 "KiteRegisters$History" "size" "I", Cond.methodLink RX0 33 Lib.Math.min.name, Cond.static Lib.Math.min.name, Cond.initialized "java/lang/Math", Cond.code Lib.Math.min.name Lib.Math.min.code 2 (some .int), Cond.methodLink RX0 25 yX0_rowAt, Cond.instanceMethod yX0_rowAt, Cond.selects RX0 yX0_rowAt yX0_rowAt, Cond.initialized RX0, Cond.code yX0_rowAt cX0_rowAt 2 (some (.object "KiteRegisters$Sky")), Cond.fieldLink RX0 11 "KiteRegisters$History" "states" "[LKiteRegisters$Sky;", Cond.instanceMethod yX2_copyFrom, Cond.initialized RX2, Cond.selects RX2 yX2_copyFrom yX2_copyFrom, Cond.code yX2_copyFrom cX2_copyFrom 3 none, Cond.fieldLink RX2 9 "KiteRegisters$Sky" "numbers" "[I", Cond.fieldLink RX2 15 "KiteRegisters$Sky" "strings" "[I", Cond.fieldLink RX2 18 "KiteRegisters$Sky" "heights" "[I", Cond.fieldLink RX2 21 "KiteRegisters$Sky" "fresh" "[Z", Cond.fieldLink RX2 25 "KiteRegisters$Sky" "readings" "[I", Cond.fieldLink RX2 28 "KiteRegisters$Sky" "cuts" "[I", Cond.fieldLink RX2 31 "KiteRegisters$Sky" "winds" "[I", Cond.fieldLink RX2 34 "KiteRegisters$Sky" "cutsFrom" "[I"]
def wsX0_add_r2 : List Cond := [Cond.fieldLink RX2 37 "KiteRegisters$Sky" "beatsSoFar" "I", Cond.fieldLink RX2 41 "KiteRegisters$Sky" "readingsSoFar" "I", Cond.fieldLink RX2 44 "KiteRegisters$Sky" "cutHeight" "I", Cond.fieldLink RX2 47 "KiteRegisters$Sky" "sinking" "I"]
def wsX0_add : List Cond := .code yX0_add cX0_add 3 none :: ((wsX0_add_r1 ++ wsX0_add_r2) ++ wsX00 ++ wsX20)
def wsX0_takeLatest : List Cond := .code yX0_takeLatest cX0_takeLatest 2 (some .int) :: ([.fieldLink RX0 21 "KiteRegisters$History" "size" "I", .fieldLink RX0 17 "KiteRegisters$History" "next" "I", .methodLink RX0 25 yX0_rowAt, .instanceMethod yX0_rowAt, .selects RX0 yX0_rowAt yX0_rowAt, .initialized RX0, .code yX0_rowAt cX0_rowAt 2 (some (.object "KiteRegisters$Sky")), .fieldLink RX0 11 "KiteRegisters$History" "states" "[LKiteRegisters$Sky;", .instanceMethod yX2_copyFrom, .initialized RX2, .selects RX2 yX2_copyFrom yX2_copyFrom, .code yX2_copyFrom cX2_copyFrom 3 none, .fieldLink RX2 9 "KiteRegisters$Sky" "numbers" "[I", .fieldLink RX2 15 "KiteRegisters$Sky" "strings" "[I", .fieldLink RX2 18 "KiteRegisters$Sky" "heights" "[I", .fieldLink RX2 21 "KiteRegisters$Sky" "fresh" "[Z", .fieldLink RX2 25 "KiteRegisters$Sky" "readings" "[I", .fieldLink RX2 28 "KiteRegisters$Sky" "cuts" "[I", .fieldLink RX2 31 "KiteRegisters$Sky" "winds" "[I", .fieldLink RX2 34 "KiteRegisters$Sky" "cutsFrom" "[I", .fieldLink RX2 37 "KiteRegisters$Sky" "beatsSoFar" "I", .fieldLink RX2 41 "KiteRegisters$Sky" "readingsSoFar" "I", .fieldLink RX2 44 "KiteRegisters$Sky" "cutHeight" "I", .fieldLink RX2 47 "KiteRegisters$Sky" "sinking" "I"] ++ wsX00 ++ wsX20)
def wsX1_init : List Cond := .code yX1_init cX1_init 1 none :: ([.methodLink RX1 3 objectInit, .instanceMethod objectInit, .code objectInit ⟨#[0xb1]⟩ 1 none, .arrayClass .char, .fieldLink RX1 9 "KiteRegisters$Script" "signs" "[C", .fieldLink RX1 15 "KiteRegisters$Script" "length" "I", .arrayClass .int, .fieldLink RX1 19 "KiteRegisters$Script" "verbs" "[I", .fieldLink RX1 23 "KiteRegisters$Script" "firsts" "[I", .fieldLink RX1 26 "KiteRegisters$Script" "seconds" "[I", .fieldLink RX1 29 "KiteRegisters$Script" "commands" "I", .fieldLink RX1 32 "KiteRegisters$Script" "place" "I", .fieldLink RX1 35 "KiteRegisters$Script" "verb" "I", .fieldLink RX1 38 "KiteRegisters$Script" "number" "I"] ++ wsX10)
def wsX1_append : List Cond := .code yX1_append cX1_append 2 (some .int) :: ([.fieldLink RX1 15 "KiteRegisters$Script" "length" "I", .fieldLink RX1 9 "KiteRegisters$Script" "signs" "[C"] ++ wsX10)
def wsX1_empty : List Cond := .code yX1_empty cX1_empty 2 (some .int) :: ([.fieldLink RX1 15 "KiteRegisters$Script" "length" "I"] ++ wsX10)
def wsX1_isCommand : List Cond := .code yX1_isCommand cX1_isCommand 2 (some .boolean) :: ([.fieldLink RX1 29 "KiteRegisters$Script" "commands" "I"] ++ wsX10)
def wsX1_verbOf : List Cond := .code yX1_verbOf cX1_verbOf 2 (some .int) :: ([.fieldLink RX1 19 "KiteRegisters$Script" "verbs" "[I", .methodLink RX1 41 yX1_isCommand, .instanceMethod yX1_isCommand, .selects RX1 yX1_isCommand yX1_isCommand, .initialized RX1, .code yX1_isCommand cX1_isCommand 2 (some .boolean), .fieldLink RX1 29 "KiteRegisters$Script" "commands" "I"] ++ wsX10)
def wsX1_firstOf : List Cond := .code yX1_firstOf cX1_firstOf 2 (some .int) :: ([.fieldLink RX1 23 "KiteRegisters$Script" "firsts" "[I", .methodLink RX1 41 yX1_isCommand, .instanceMethod yX1_isCommand, .selects RX1 yX1_isCommand yX1_isCommand, .initialized RX1, .code yX1_isCommand cX1_isCommand 2 (some .boolean), .fieldLink RX1 29 "KiteRegisters$Script" "commands" "I"] ++ wsX10)
def wsX1_secondOf : List Cond := .code yX1_secondOf cX1_secondOf 2 (some .int) :: ([.fieldLink RX1 26 "KiteRegisters$Script" "seconds" "[I", .methodLink RX1 41 yX1_isCommand, .instanceMethod yX1_isCommand, .selects RX1 yX1_isCommand yX1_isCommand, .initialized RX1, .code yX1_isCommand cX1_isCommand 2 (some .boolean), .fieldLink RX1 29 "KiteRegisters$Script" "commands" "I"] ++ wsX10)
def wsX1_wordOf : List Cond := .code yX1_wordOf cX1_wordOf 1 (some (.object "java/lang/String")) :: ([])
def wsJ0_coder_7d493 : List Cond := .code yJ0_coder_7d493 cJ0_coder_7d493 1 (some .byte) :: ([.fieldLink RJ0 38 "java/lang/String" "COMPACT_STRINGS" "Z", .fieldLink RJ0 15 "java/lang/String" "coder" "B"])
def wsJ0_length_8abf5 : List Cond := .code yJ0_length_8abf5 cJ0_length_8abf5 1 (some .int) :: ([.fieldLink RJ0 9 "java/lang/String" "value" "[B", .methodLink RJ0 335 yJ0_coder_7d493, .instanceMethod yJ0_coder_7d493, .selects RJ0 yJ0_coder_7d493 yJ0_coder_7d493, .initialized RJ0, .code yJ0_coder_7d493 cJ0_coder_7d493 1 (some .byte), .fieldLink RJ0 38 "java/lang/String" "COMPACT_STRINGS" "Z", .fieldLink RJ0 15 "java/lang/String" "coder" "B"])
def wsX1_signAt : List Cond := .code yX1_signAt cX1_signAt 2 (some .int) :: ([.fieldLink RX1 15 "KiteRegisters$Script" "length" "I", .fieldLink RX1 9 "KiteRegisters$Script" "signs" "[C"] ++ wsX10)
def wsJ0_isLatin1_aae02 : List Cond := .code yJ0_isLatin1_aae02 cJ0_isLatin1_aae02 1 (some .boolean) :: ([.fieldLink RJ0 38 "java/lang/String" "COMPACT_STRINGS" "Z", .fieldLink RJ0 15 "java/lang/String" "coder" "B"])
def wsJ3_checkIndex_8e157 : List Cond := .code yJ3_checkIndex_8e157 cJ3_checkIndex_8e157 3 (some .int) :: ([])
def wsJ0_checkIndex_df160 : List Cond := .code yJ0_checkIndex_df160 cJ0_checkIndex_df160 2 none :: ([.fieldLink RJ0 1053 "jdk/internal/util/Preconditions" "SIOOBE_FORMATTER" "Ljava/util/function/BiFunction;", .methodLink RJ0 1059 yJ3_checkIndex_8e157, .static yJ3_checkIndex_8e157, .initialized RJ3, .code yJ3_checkIndex_8e157 cJ3_checkIndex_8e157 3 (some .int)])
def wsJ1_charAt_3b067 : List Cond := .code yJ1_charAt_3b067 cJ1_charAt_3b067 2 (some .char) :: ([.methodLink RJ1 9 yJ0_checkIndex_df160, .static yJ0_checkIndex_df160, .initialized RJ0, .code yJ0_checkIndex_df160 cJ0_checkIndex_df160 2 none, .fieldLink RJ0 1053 "jdk/internal/util/Preconditions" "SIOOBE_FORMATTER" "Ljava/util/function/BiFunction;", .methodLink RJ0 1059 yJ3_checkIndex_8e157, .static yJ3_checkIndex_8e157, .initialized RJ3, .code yJ3_checkIndex_8e157 cJ3_checkIndex_8e157 3 (some .int)])
def wsJ2_length_9d52b : List Cond := .code yJ2_length_9d52b cJ2_length_9d52b 1 (some .int) :: ([])
def wsJ2_checkIndex_2214a : List Cond := .code yJ2_checkIndex_2214a cJ2_checkIndex_2214a 2 none :: ([.methodLink RJ2 48 yJ2_length_9d52b, .static yJ2_length_9d52b, .initialized RJ2, .code yJ2_length_9d52b cJ2_length_9d52b 1 (some .int), .methodLink RJ2 414 yJ0_checkIndex_df160, .static yJ0_checkIndex_df160, .initialized RJ0, .code yJ0_checkIndex_df160 cJ0_checkIndex_df160 2 none, .fieldLink RJ0 1053 "jdk/internal/util/Preconditions" "SIOOBE_FORMATTER" "Ljava/util/function/BiFunction;", .methodLink RJ0 1059 yJ3_checkIndex_8e157, .static yJ3_checkIndex_8e157, .initialized RJ3, .code yJ3_checkIndex_8e157 cJ3_checkIndex_8e157 3 (some .int)])
def wsJ2_getChar_3b067 : List Cond := .code yJ2_getChar_3b067 cJ2_getChar_3b067 2 (some .char) :: ([.fieldLink RJ2 44 "java/lang/StringUTF16" "$assertionsDisabled" "Z", .fieldLink RJ2 59 "java/lang/StringUTF16" "HI_BYTE_SHIFT" "I", .fieldLink RJ2 63 "java/lang/StringUTF16" "LO_BYTE_SHIFT" "I", .methodLink RJ2 48 yJ2_length_9d52b, .static yJ2_length_9d52b, .initialized RJ2, .code yJ2_length_9d52b cJ2_length_9d52b 1 (some .int)])
def wsJ2_charAt_3b067 : List Cond := .code yJ2_charAt_3b067 cJ2_charAt_3b067 2 (some .char) :: ([.methodLink RJ2 67 yJ2_checkIndex_2214a, .static yJ2_checkIndex_2214a, .initialized RJ2, .code yJ2_checkIndex_2214a cJ2_checkIndex_2214a 2 none, .methodLink RJ2 48 yJ2_length_9d52b, .static yJ2_length_9d52b, .code yJ2_length_9d52b cJ2_length_9d52b 1 (some .int), .methodLink RJ2 414 yJ0_checkIndex_df160, .static yJ0_checkIndex_df160, .initialized RJ0, .code yJ0_checkIndex_df160 cJ0_checkIndex_df160 2 none, .fieldLink RJ0 1053 "jdk/internal/util/Preconditions" "SIOOBE_FORMATTER" "Ljava/util/function/BiFunction;", .methodLink RJ0 1059 yJ3_checkIndex_8e157, .static yJ3_checkIndex_8e157, .initialized RJ3, .code yJ3_checkIndex_8e157 cJ3_checkIndex_8e157 3 (some .int), .methodLink RJ2 71 yJ2_getChar_3b067, .static yJ2_getChar_3b067, .code yJ2_getChar_3b067 cJ2_getChar_3b067 2 (some .char), .fieldLink RJ2 44 "java/lang/StringUTF16" "$assertionsDisabled" "Z", .fieldLink RJ2 59 "java/lang/StringUTF16" "HI_BYTE_SHIFT" "I", .fieldLink RJ2 63 "java/lang/StringUTF16" "LO_BYTE_SHIFT" "I"])
def wsJ0_charAt_5068e_r1 : List Cond := [Cond.fieldLink RJ0 9 "java/lang/String" "value" "[B", Cond.methodLink RJ0 492 yJ0_isLatin1_aae02, Cond.instanceMethod yJ0_isLatin1_aae02, Cond.selects RJ0 yJ0_isLatin1_aae02 yJ0_isLatin1_aae02, Cond.initialized RJ0, Cond.code yJ0_isLatin1_aae02 cJ0_isLatin1_aae02 1 (some .boolean), Cond.fieldLink RJ0 38 "java/lang/String" "COMPACT_STRINGS" "Z", Cond.fieldLink RJ0 15 "java/lang/String" "coder" "B", Cond.methodLink RJ0 495 yJ1_charAt_3b067, Cond.static yJ1_charAt_3b067, Cond.initialized RJ1, Cond.code yJ1_charAt_3b067 cJ1_charAt_3b067 2 (some .char), Cond.methodLink RJ1 9 yJ0_checkIndex_df160, Cond.static yJ0_checkIndex_df160, Cond.code yJ0_checkIndex_df160 cJ0_checkIndex_df160 2 none, Cond.fieldLink RJ0 1053 "jdk/internal/util/Preconditions" "SIOOBE_FORMATTER" "Ljava/util/function/BiFunction;", Cond.methodLink RJ0 1059 yJ3_checkIndex_8e157, Cond.static yJ3_checkIndex_8e157, Cond.initialized RJ3, Cond.code yJ3_checkIndex_8e157 cJ3_checkIndex_8e157 3 (some .int), Cond.methodLink RJ0 498 yJ2_charAt_3b067, Cond.static yJ2_charAt_3b067, Cond.initialized RJ2, Cond.code yJ2_charAt_3b067 cJ2_charAt_3b067 2 (some .char)]
def wsJ0_charAt_5068e_r2 : List Cond := [Cond.methodLink RJ2 67 yJ2_checkIndex_2214a, Cond.static yJ2_checkIndex_2214a, Cond.code yJ2_checkIndex_2214a cJ2_checkIndex_2214a 2 none, Cond.methodLink RJ2 48 yJ2_length_9d52b, Cond.static yJ2_length_9d52b, Cond.code yJ2_length_9d52b cJ2_length_9d52b 1 (some .int), Cond.methodLink RJ2 414 yJ0_checkIndex_df160, Cond.methodLink RJ2 71 yJ2_getChar_3b067, Cond.static yJ2_getChar_3b067, Cond.code yJ2_getChar_3b067 cJ2_getChar_3b067 2 (some .char), Cond.fieldLink RJ2 44 "java/lang/StringUTF16" "$assertionsDisabled" "Z", Cond.fieldLink RJ2 59 "java/lang/StringUTF16" "HI_BYTE_SHIFT" "I", Cond.fieldLink RJ2 63 "java/lang/StringUTF16" "LO_BYTE_SHIFT" "I"]
def wsJ0_charAt_5068e : List Cond := .code yJ0_charAt_5068e cJ0_charAt_5068e 2 (some .char) :: ((wsJ0_charAt_5068e_r1 ++ wsJ0_charAt_5068e_r2))
def wsX1_charactersAlike_r1 : List Cond := [Cond.fieldLink RX1 32 "KiteRegisters$Script" "place" "I", Cond.methodLink RX1 74 yJ0_length_8abf5, Cond.instanceMethod yJ0_length_8abf5, Cond.selects RJ0 yJ0_length_8abf5 yJ0_length_8abf5, Cond.initialized RJ0, Cond.code yJ0_length_8abf5 cJ0_length_8abf5 1 (some .int), Cond.fieldLink RJ0 9 "java/lang/String" "value" "[B", Cond.methodLink RJ0 335 yJ0_coder_7d493, Cond.instanceMethod yJ0_coder_7d493, Cond.selects RJ0 yJ0_coder_7d493 yJ0_coder_7d493, Cond.code yJ0_coder_7d493 cJ0_coder_7d493 1 (some .byte), Cond.fieldLink RJ0 38 "java/lang/String" "COMPACT_STRINGS" "Z", Cond.fieldLink RJ0 15 "java/lang/String" "coder" "B", Cond.methodLink RX1 49 yX1_signAt, Cond.instanceMethod yX1_signAt, Cond.selects RX1 yX1_signAt yX1_signAt, Cond.initialized RX1, Cond.code yX1_signAt cX1_signAt 2 (some .int), Cond.fieldLink RX1 15 "KiteRegisters$Script" "length" "I", Cond.fieldLink RX1 9 "KiteRegisters$Script" "signs" "[C", Cond.methodLink RX1 85 yJ0_charAt_5068e, Cond.instanceMethod yJ0_charAt_5068e, Cond.selects RJ0 yJ0_charAt_5068e yJ0_charAt_5068e, Cond.code yJ0_charAt_5068e cJ0_charAt_5068e 2 (some .char)]
def wsX1_charactersAlike_r2 : List Cond := [Cond.methodLink RJ0 492 yJ0_isLatin1_aae02, Cond.instanceMethod yJ0_isLatin1_aae02, Cond.selects RJ0 yJ0_isLatin1_aae02 yJ0_isLatin1_aae02, Cond.code yJ0_isLatin1_aae02 cJ0_isLatin1_aae02 1 (some .boolean), Cond.methodLink RJ0 495 yJ1_charAt_3b067, Cond.static yJ1_charAt_3b067, Cond.initialized RJ1, Cond.code yJ1_charAt_3b067 cJ1_charAt_3b067 2 (some .char), Cond.methodLink RJ1 9 yJ0_checkIndex_df160, Cond.static yJ0_checkIndex_df160, Cond.code yJ0_checkIndex_df160 cJ0_checkIndex_df160 2 none, Cond.fieldLink RJ0 1053 "jdk/internal/util/Preconditions" "SIOOBE_FORMATTER" "Ljava/util/function/BiFunction;", Cond.methodLink RJ0 1059 yJ3_checkIndex_8e157, Cond.static yJ3_checkIndex_8e157, Cond.initialized RJ3, Cond.code yJ3_checkIndex_8e157 cJ3_checkIndex_8e157 3 (some .int), Cond.methodLink RJ0 498 yJ2_charAt_3b067, Cond.static yJ2_charAt_3b067, Cond.initialized RJ2, Cond.code yJ2_charAt_3b067 cJ2_charAt_3b067 2 (some .char), Cond.methodLink RJ2 67 yJ2_checkIndex_2214a, Cond.static yJ2_checkIndex_2214a, Cond.code yJ2_checkIndex_2214a cJ2_checkIndex_2214a 2 none, Cond.methodLink RJ2 48 yJ2_length_9d52b]
def wsX1_charactersAlike_r3 : List Cond := [Cond.static yJ2_length_9d52b, Cond.code yJ2_length_9d52b cJ2_length_9d52b 1 (some .int), Cond.methodLink RJ2 414 yJ0_checkIndex_df160, Cond.methodLink RJ2 71 yJ2_getChar_3b067, Cond.static yJ2_getChar_3b067, Cond.code yJ2_getChar_3b067 cJ2_getChar_3b067 2 (some .char), Cond.fieldLink RJ2 44 "java/lang/StringUTF16" "$assertionsDisabled" "Z", Cond.fieldLink RJ2 59 "java/lang/StringUTF16" "HI_BYTE_SHIFT" "I", Cond.fieldLink RJ2 63 "java/lang/StringUTF16" "LO_BYTE_SHIFT" "I"]
def wsX1_charactersAlike : List Cond := .code yX1_charactersAlike cX1_charactersAlike 3 (some .int) :: ((wsX1_charactersAlike_r1 ++ (wsX1_charactersAlike_r2 ++ wsX1_charactersAlike_r3)) ++ wsX10)
def wsX1_scanWord_r1 : List Cond := [Cond.fieldLink RX1 35 "KiteRegisters$Script" "verb" "I", Cond.fieldLink RX1 32 "KiteRegisters$Script" "place" "I", Cond.methodLink RX1 79 Lib.Math.max.name, Cond.static Lib.Math.max.name, Cond.initialized "java/lang/Math", Cond.code Lib.Math.max.name Lib.Math.max.code 2 (some .int), Cond.methodLink RX1 66 yX1_wordOf, Cond.static yX1_wordOf, Cond.initialized RX1, Cond.code yX1_wordOf cX1_wordOf 1 (some (.object "java/lang/String")), Cond.methodLink RX1 70 yX1_charactersAlike, Cond.instanceMethod yX1_charactersAlike, Cond.selects RX1 yX1_charactersAlike yX1_charactersAlike, Cond.code yX1_charactersAlike cX1_charactersAlike 3 (some .int), Cond.methodLink RX1 74 yJ0_length_8abf5, Cond.instanceMethod yJ0_length_8abf5, Cond.selects RJ0 yJ0_length_8abf5 yJ0_length_8abf5, Cond.initialized RJ0, Cond.code yJ0_length_8abf5 cJ0_length_8abf5 1 (some .int), Cond.fieldLink RJ0 9 "java/lang/String" "value" "[B", Cond.methodLink RJ0 335 yJ0_coder_7d493, Cond.instanceMethod yJ0_coder_7d493, Cond.selects RJ0 yJ0_coder_7d493 yJ0_coder_7d493, Cond.code yJ0_coder_7d493 cJ0_coder_7d493 1 (some .byte)]
def wsX1_scanWord_r2 : List Cond := [Cond.fieldLink RJ0 38 "java/lang/String" "COMPACT_STRINGS" "Z", Cond.fieldLink RJ0 15 "java/lang/String" "coder" "B", Cond.methodLink RX1 49 yX1_signAt, Cond.instanceMethod yX1_signAt, Cond.selects RX1 yX1_signAt yX1_signAt, Cond.code yX1_signAt cX1_signAt 2 (some .int), Cond.fieldLink RX1 15 "KiteRegisters$Script" "length" "I", Cond.fieldLink RX1 9 "KiteRegisters$Script" "signs" "[C", Cond.methodLink RX1 85 yJ0_charAt_5068e, Cond.instanceMethod yJ0_charAt_5068e, Cond.selects RJ0 yJ0_charAt_5068e yJ0_charAt_5068e, Cond.code yJ0_charAt_5068e cJ0_charAt_5068e 2 (some .char), Cond.methodLink RJ0 492 yJ0_isLatin1_aae02, Cond.instanceMethod yJ0_isLatin1_aae02, Cond.selects RJ0 yJ0_isLatin1_aae02 yJ0_isLatin1_aae02, Cond.code yJ0_isLatin1_aae02 cJ0_isLatin1_aae02 1 (some .boolean), Cond.methodLink RJ0 495 yJ1_charAt_3b067, Cond.static yJ1_charAt_3b067, Cond.initialized RJ1, Cond.code yJ1_charAt_3b067 cJ1_charAt_3b067 2 (some .char), Cond.methodLink RJ1 9 yJ0_checkIndex_df160, Cond.static yJ0_checkIndex_df160, Cond.code yJ0_checkIndex_df160 cJ0_checkIndex_df160 2 none, Cond.fieldLink RJ0 1053 "jdk/internal/util/Preconditions" "SIOOBE_FORMATTER" "Ljava/util/function/BiFunction;"]
def wsX1_scanWord_r3 : List Cond := [Cond.methodLink RJ0 1059 yJ3_checkIndex_8e157, Cond.static yJ3_checkIndex_8e157, Cond.initialized RJ3, Cond.code yJ3_checkIndex_8e157 cJ3_checkIndex_8e157 3 (some .int), Cond.methodLink RJ0 498 yJ2_charAt_3b067, Cond.static yJ2_charAt_3b067, Cond.initialized RJ2, Cond.code yJ2_charAt_3b067 cJ2_charAt_3b067 2 (some .char), Cond.methodLink RJ2 67 yJ2_checkIndex_2214a, Cond.static yJ2_checkIndex_2214a, Cond.code yJ2_checkIndex_2214a cJ2_checkIndex_2214a 2 none, Cond.methodLink RJ2 48 yJ2_length_9d52b, Cond.static yJ2_length_9d52b, Cond.code yJ2_length_9d52b cJ2_length_9d52b 1 (some .int), Cond.methodLink RJ2 414 yJ0_checkIndex_df160, Cond.methodLink RJ2 71 yJ2_getChar_3b067, Cond.static yJ2_getChar_3b067, Cond.code yJ2_getChar_3b067 cJ2_getChar_3b067 2 (some .char), Cond.fieldLink RJ2 44 "java/lang/StringUTF16" "$assertionsDisabled" "Z", Cond.fieldLink RJ2 59 "java/lang/StringUTF16" "HI_BYTE_SHIFT" "I", Cond.fieldLink RJ2 63 "java/lang/StringUTF16" "LO_BYTE_SHIFT" "I"]
def wsX1_scanWord : List Cond := .code yX1_scanWord cX1_scanWord 5 (some .boolean) :: ((wsX1_scanWord_r1 ++ (wsX1_scanWord_r2 ++ wsX1_scanWord_r3)) ++ wsX10)
def wsX1_skip : List Cond := .code yX1_skip cX1_skip 2 (some .boolean) :: ([.fieldLink RX1 32 "KiteRegisters$Script" "place" "I", .methodLink RX1 49 yX1_signAt, .instanceMethod yX1_signAt, .selects RX1 yX1_signAt yX1_signAt, .initialized RX1, .code yX1_signAt cX1_signAt 2 (some .int), .fieldLink RX1 15 "KiteRegisters$Script" "length" "I", .fieldLink RX1 9 "KiteRegisters$Script" "signs" "[C"] ++ wsX10)
def wsX1_digitAt : List Cond := .code yX1_digitAt cX1_digitAt 3 (some .int) :: ([.methodLink RX1 49 yX1_signAt, .instanceMethod yX1_signAt, .selects RX1 yX1_signAt yX1_signAt, .initialized RX1, .code yX1_signAt cX1_signAt 2 (some .int), .fieldLink RX1 15 "KiteRegisters$Script" "length" "I", .fieldLink RX1 9 "KiteRegisters$Script" "signs" "[C"] ++ wsX10)
def wsX1_scanNumber : List Cond := .code yX1_scanNumber cX1_scanNumber 8 (some .boolean) :: ([.fieldLink RX1 32 "KiteRegisters$Script" "place" "I", .fieldLink RX1 38 "KiteRegisters$Script" "number" "I", .methodLink RX1 53 yX1_skip, .instanceMethod yX1_skip, .selects RX1 yX1_skip yX1_skip, .initialized RX1, .code yX1_skip cX1_skip 2 (some .boolean), .methodLink RX1 49 yX1_signAt, .instanceMethod yX1_signAt, .selects RX1 yX1_signAt yX1_signAt, .code yX1_signAt cX1_signAt 2 (some .int), .fieldLink RX1 15 "KiteRegisters$Script" "length" "I", .fieldLink RX1 9 "KiteRegisters$Script" "signs" "[C", .methodLink RX1 103 yX1_digitAt, .instanceMethod yX1_digitAt, .selects RX1 yX1_digitAt yX1_digitAt, .code yX1_digitAt cX1_digitAt 3 (some .int)] ++ wsX10)
def wsX1_scanFirst : List Cond := .code yX1_scanFirst cX1_scanFirst 1 (some .boolean) :: ([.fieldLink RX1 35 "KiteRegisters$Script" "verb" "I", .methodLink RX1 99 yX1_scanNumber, .instanceMethod yX1_scanNumber, .selects RX1 yX1_scanNumber yX1_scanNumber, .initialized RX1, .code yX1_scanNumber cX1_scanNumber 8 (some .boolean), .fieldLink RX1 32 "KiteRegisters$Script" "place" "I", .fieldLink RX1 38 "KiteRegisters$Script" "number" "I", .methodLink RX1 53 yX1_skip, .instanceMethod yX1_skip, .selects RX1 yX1_skip yX1_skip, .code yX1_skip cX1_skip 2 (some .boolean), .methodLink RX1 49 yX1_signAt, .instanceMethod yX1_signAt, .selects RX1 yX1_signAt yX1_signAt, .code yX1_signAt cX1_signAt 2 (some .int), .fieldLink RX1 15 "KiteRegisters$Script" "length" "I", .fieldLink RX1 9 "KiteRegisters$Script" "signs" "[C", .methodLink RX1 103 yX1_digitAt, .instanceMethod yX1_digitAt, .selects RX1 yX1_digitAt yX1_digitAt, .code yX1_digitAt cX1_digitAt 3 (some .int)] ++ wsX10)
def wsX1_scanSecond : List Cond := .code yX1_scanSecond cX1_scanSecond 1 (some .boolean) :: ([.fieldLink RX1 35 "KiteRegisters$Script" "verb" "I", .methodLink RX1 99 yX1_scanNumber, .instanceMethod yX1_scanNumber, .selects RX1 yX1_scanNumber yX1_scanNumber, .initialized RX1, .code yX1_scanNumber cX1_scanNumber 8 (some .boolean), .fieldLink RX1 32 "KiteRegisters$Script" "place" "I", .fieldLink RX1 38 "KiteRegisters$Script" "number" "I", .methodLink RX1 53 yX1_skip, .instanceMethod yX1_skip, .selects RX1 yX1_skip yX1_skip, .code yX1_skip cX1_skip 2 (some .boolean), .methodLink RX1 49 yX1_signAt, .instanceMethod yX1_signAt, .selects RX1 yX1_signAt yX1_signAt, .code yX1_signAt cX1_signAt 2 (some .int), .fieldLink RX1 15 "KiteRegisters$Script" "length" "I", .fieldLink RX1 9 "KiteRegisters$Script" "signs" "[C", .methodLink RX1 103 yX1_digitAt, .instanceMethod yX1_digitAt, .selects RX1 yX1_digitAt yX1_digitAt, .code yX1_digitAt cX1_digitAt 3 (some .int)] ++ wsX10)
def wsX1_scanCommand_r1 : List Cond := [Cond.fieldLink RX1 29 "KiteRegisters$Script" "commands" "I", Cond.fieldLink RX1 19 "KiteRegisters$Script" "verbs" "[I", Cond.fieldLink RX1 35 "KiteRegisters$Script" "verb" "I", Cond.fieldLink RX1 23 "KiteRegisters$Script" "firsts" "[I", Cond.fieldLink RX1 38 "KiteRegisters$Script" "number" "I", Cond.fieldLink RX1 26 "KiteRegisters$Script" "seconds" "[I", Cond.methodLink RX1 57 yX1_scanWord, Cond.instanceMethod yX1_scanWord, Cond.selects RX1 yX1_scanWord yX1_scanWord, Cond.initialized RX1, Cond.code yX1_scanWord cX1_scanWord 5 (some .boolean), Cond.fieldLink RX1 32 "KiteRegisters$Script" "place" "I", Cond.methodLink RX1 79 Lib.Math.max.name, Cond.static Lib.Math.max.name, Cond.initialized "java/lang/Math", Cond.code Lib.Math.max.name Lib.Math.max.code 2 (some .int), Cond.methodLink RX1 66 yX1_wordOf, Cond.static yX1_wordOf, Cond.code yX1_wordOf cX1_wordOf 1 (some (.object "java/lang/String")), Cond.methodLink RX1 70 yX1_charactersAlike, Cond.instanceMethod yX1_charactersAlike, Cond.selects RX1 yX1_charactersAlike yX1_charactersAlike, Cond.code yX1_charactersAlike cX1_charactersAlike 3 (some .int), Cond.methodLink RX1 74 yJ0_length_8abf5]
def wsX1_scanCommand_r2 : List Cond := [Cond.instanceMethod yJ0_length_8abf5, Cond.selects RJ0 yJ0_length_8abf5 yJ0_length_8abf5, Cond.initialized RJ0, Cond.code yJ0_length_8abf5 cJ0_length_8abf5 1 (some .int), Cond.fieldLink RJ0 9 "java/lang/String" "value" "[B", Cond.methodLink RJ0 335 yJ0_coder_7d493, Cond.instanceMethod yJ0_coder_7d493, Cond.selects RJ0 yJ0_coder_7d493 yJ0_coder_7d493, Cond.code yJ0_coder_7d493 cJ0_coder_7d493 1 (some .byte), Cond.fieldLink RJ0 38 "java/lang/String" "COMPACT_STRINGS" "Z", Cond.fieldLink RJ0 15 "java/lang/String" "coder" "B", Cond.methodLink RX1 49 yX1_signAt, Cond.instanceMethod yX1_signAt, Cond.selects RX1 yX1_signAt yX1_signAt, Cond.code yX1_signAt cX1_signAt 2 (some .int), Cond.fieldLink RX1 15 "KiteRegisters$Script" "length" "I", Cond.fieldLink RX1 9 "KiteRegisters$Script" "signs" "[C", Cond.methodLink RX1 85 yJ0_charAt_5068e, Cond.instanceMethod yJ0_charAt_5068e, Cond.selects RJ0 yJ0_charAt_5068e yJ0_charAt_5068e, Cond.code yJ0_charAt_5068e cJ0_charAt_5068e 2 (some .char), Cond.methodLink RJ0 492 yJ0_isLatin1_aae02, Cond.instanceMethod yJ0_isLatin1_aae02, Cond.selects RJ0 yJ0_isLatin1_aae02 yJ0_isLatin1_aae02]
def wsX1_scanCommand_r3 : List Cond := [Cond.code yJ0_isLatin1_aae02 cJ0_isLatin1_aae02 1 (some .boolean), Cond.methodLink RJ0 495 yJ1_charAt_3b067, Cond.static yJ1_charAt_3b067, Cond.initialized RJ1, Cond.code yJ1_charAt_3b067 cJ1_charAt_3b067 2 (some .char), Cond.methodLink RJ1 9 yJ0_checkIndex_df160, Cond.static yJ0_checkIndex_df160, Cond.code yJ0_checkIndex_df160 cJ0_checkIndex_df160 2 none, Cond.fieldLink RJ0 1053 "jdk/internal/util/Preconditions" "SIOOBE_FORMATTER" "Ljava/util/function/BiFunction;", Cond.methodLink RJ0 1059 yJ3_checkIndex_8e157, Cond.static yJ3_checkIndex_8e157, Cond.initialized RJ3, Cond.code yJ3_checkIndex_8e157 cJ3_checkIndex_8e157 3 (some .int), Cond.methodLink RJ0 498 yJ2_charAt_3b067, Cond.static yJ2_charAt_3b067, Cond.initialized RJ2, Cond.code yJ2_charAt_3b067 cJ2_charAt_3b067 2 (some .char), Cond.methodLink RJ2 67 yJ2_checkIndex_2214a, Cond.static yJ2_checkIndex_2214a, Cond.code yJ2_checkIndex_2214a cJ2_checkIndex_2214a 2 none, Cond.methodLink RJ2 48 yJ2_length_9d52b, Cond.static yJ2_length_9d52b, Cond.code yJ2_length_9d52b cJ2_length_9d52b 1 (some .int), Cond.methodLink RJ2 414 yJ0_checkIndex_df160]
def wsX1_scanCommand_r4 : List Cond := [Cond.methodLink RJ2 71 yJ2_getChar_3b067, Cond.static yJ2_getChar_3b067, Cond.code yJ2_getChar_3b067 cJ2_getChar_3b067 2 (some .char), Cond.fieldLink RJ2 44 "java/lang/StringUTF16" "$assertionsDisabled" "Z", Cond.fieldLink RJ2 59 "java/lang/StringUTF16" "HI_BYTE_SHIFT" "I", Cond.fieldLink RJ2 63 "java/lang/StringUTF16" "LO_BYTE_SHIFT" "I", Cond.methodLink RX1 60 yX1_scanFirst, Cond.instanceMethod yX1_scanFirst, Cond.selects RX1 yX1_scanFirst yX1_scanFirst, Cond.code yX1_scanFirst cX1_scanFirst 1 (some .boolean), Cond.methodLink RX1 99 yX1_scanNumber, Cond.instanceMethod yX1_scanNumber, Cond.selects RX1 yX1_scanNumber yX1_scanNumber, Cond.code yX1_scanNumber cX1_scanNumber 8 (some .boolean), Cond.methodLink RX1 53 yX1_skip, Cond.instanceMethod yX1_skip, Cond.selects RX1 yX1_skip yX1_skip, Cond.code yX1_skip cX1_skip 2 (some .boolean), Cond.methodLink RX1 103 yX1_digitAt, Cond.instanceMethod yX1_digitAt, Cond.selects RX1 yX1_digitAt yX1_digitAt, Cond.code yX1_digitAt cX1_digitAt 3 (some .int), Cond.methodLink RX1 63 yX1_scanSecond, Cond.instanceMethod yX1_scanSecond]
def wsX1_scanCommand_r5 : List Cond := [Cond.selects RX1 yX1_scanSecond yX1_scanSecond, Cond.code yX1_scanSecond cX1_scanSecond 1 (some .boolean)]
def wsX1_scanCommand : List Cond := .code yX1_scanCommand cX1_scanCommand 2 (some .boolean) :: ((wsX1_scanCommand_r1 ++ (wsX1_scanCommand_r2 ++ (wsX1_scanCommand_r3 ++ (wsX1_scanCommand_r4 ++ wsX1_scanCommand_r5)))) ++ wsX10)
def wsX1_scan_r1 : List Cond := [Cond.fieldLink RX1 32 "KiteRegisters$Script" "place" "I", Cond.fieldLink RX1 29 "KiteRegisters$Script" "commands" "I", Cond.methodLink RX1 45 yX1_scanCommand, Cond.instanceMethod yX1_scanCommand, Cond.selects RX1 yX1_scanCommand yX1_scanCommand, Cond.initialized RX1, Cond.code yX1_scanCommand cX1_scanCommand 2 (some .boolean), Cond.fieldLink RX1 19 "KiteRegisters$Script" "verbs" "[I", Cond.fieldLink RX1 35 "KiteRegisters$Script" "verb" "I", Cond.fieldLink RX1 23 "KiteRegisters$Script" "firsts" "[I", Cond.fieldLink RX1 38 "KiteRegisters$Script" "number" "I", Cond.fieldLink RX1 26 "KiteRegisters$Script" "seconds" "[I", Cond.methodLink RX1 57 yX1_scanWord, Cond.instanceMethod yX1_scanWord, Cond.selects RX1 yX1_scanWord yX1_scanWord, Cond.code yX1_scanWord cX1_scanWord 5 (some .boolean), Cond.methodLink RX1 79 Lib.Math.max.name, Cond.static Lib.Math.max.name, Cond.initialized "java/lang/Math", Cond.code Lib.Math.max.name Lib.Math.max.code 2 (some .int), Cond.methodLink RX1 66 yX1_wordOf, Cond.static yX1_wordOf, Cond.code yX1_wordOf cX1_wordOf 1 (some (.object "java/lang/String")), Cond.methodLink RX1 70 yX1_charactersAlike]
def wsX1_scan_r2 : List Cond := [Cond.instanceMethod yX1_charactersAlike, Cond.selects RX1 yX1_charactersAlike yX1_charactersAlike, Cond.code yX1_charactersAlike cX1_charactersAlike 3 (some .int), Cond.methodLink RX1 74 yJ0_length_8abf5, Cond.instanceMethod yJ0_length_8abf5, Cond.selects RJ0 yJ0_length_8abf5 yJ0_length_8abf5, Cond.initialized RJ0, Cond.code yJ0_length_8abf5 cJ0_length_8abf5 1 (some .int), Cond.fieldLink RJ0 9 "java/lang/String" "value" "[B", Cond.methodLink RJ0 335 yJ0_coder_7d493, Cond.instanceMethod yJ0_coder_7d493, Cond.selects RJ0 yJ0_coder_7d493 yJ0_coder_7d493, Cond.code yJ0_coder_7d493 cJ0_coder_7d493 1 (some .byte), Cond.fieldLink RJ0 38 "java/lang/String" "COMPACT_STRINGS" "Z", Cond.fieldLink RJ0 15 "java/lang/String" "coder" "B", Cond.methodLink RX1 49 yX1_signAt, Cond.instanceMethod yX1_signAt, Cond.selects RX1 yX1_signAt yX1_signAt, Cond.code yX1_signAt cX1_signAt 2 (some .int), Cond.fieldLink RX1 15 "KiteRegisters$Script" "length" "I", Cond.fieldLink RX1 9 "KiteRegisters$Script" "signs" "[C", Cond.methodLink RX1 85 yJ0_charAt_5068e, Cond.instanceMethod yJ0_charAt_5068e, Cond.selects RJ0 yJ0_charAt_5068e yJ0_charAt_5068e]
def wsX1_scan_r3 : List Cond := [Cond.code yJ0_charAt_5068e cJ0_charAt_5068e 2 (some .char), Cond.methodLink RJ0 492 yJ0_isLatin1_aae02, Cond.instanceMethod yJ0_isLatin1_aae02, Cond.selects RJ0 yJ0_isLatin1_aae02 yJ0_isLatin1_aae02, Cond.code yJ0_isLatin1_aae02 cJ0_isLatin1_aae02 1 (some .boolean), Cond.methodLink RJ0 495 yJ1_charAt_3b067, Cond.static yJ1_charAt_3b067, Cond.initialized RJ1, Cond.code yJ1_charAt_3b067 cJ1_charAt_3b067 2 (some .char), Cond.methodLink RJ1 9 yJ0_checkIndex_df160, Cond.static yJ0_checkIndex_df160, Cond.code yJ0_checkIndex_df160 cJ0_checkIndex_df160 2 none, Cond.fieldLink RJ0 1053 "jdk/internal/util/Preconditions" "SIOOBE_FORMATTER" "Ljava/util/function/BiFunction;", Cond.methodLink RJ0 1059 yJ3_checkIndex_8e157, Cond.static yJ3_checkIndex_8e157, Cond.initialized RJ3, Cond.code yJ3_checkIndex_8e157 cJ3_checkIndex_8e157 3 (some .int), Cond.methodLink RJ0 498 yJ2_charAt_3b067, Cond.static yJ2_charAt_3b067, Cond.initialized RJ2, Cond.code yJ2_charAt_3b067 cJ2_charAt_3b067 2 (some .char), Cond.methodLink RJ2 67 yJ2_checkIndex_2214a, Cond.static yJ2_checkIndex_2214a, Cond.code yJ2_checkIndex_2214a cJ2_checkIndex_2214a 2 none]
def wsX1_scan_r4 : List Cond := [Cond.methodLink RJ2 48 yJ2_length_9d52b, Cond.static yJ2_length_9d52b, Cond.code yJ2_length_9d52b cJ2_length_9d52b 1 (some .int), Cond.methodLink RJ2 414 yJ0_checkIndex_df160, Cond.methodLink RJ2 71 yJ2_getChar_3b067, Cond.static yJ2_getChar_3b067, Cond.code yJ2_getChar_3b067 cJ2_getChar_3b067 2 (some .char), Cond.fieldLink RJ2 44 "java/lang/StringUTF16" "$assertionsDisabled" "Z", Cond.fieldLink RJ2 59 "java/lang/StringUTF16" "HI_BYTE_SHIFT" "I", Cond.fieldLink RJ2 63 "java/lang/StringUTF16" "LO_BYTE_SHIFT" "I", Cond.methodLink RX1 60 yX1_scanFirst, Cond.instanceMethod yX1_scanFirst, Cond.selects RX1 yX1_scanFirst yX1_scanFirst, Cond.code yX1_scanFirst cX1_scanFirst 1 (some .boolean), Cond.methodLink RX1 99 yX1_scanNumber, Cond.instanceMethod yX1_scanNumber, Cond.selects RX1 yX1_scanNumber yX1_scanNumber, Cond.code yX1_scanNumber cX1_scanNumber 8 (some .boolean), Cond.methodLink RX1 53 yX1_skip, Cond.instanceMethod yX1_skip, Cond.selects RX1 yX1_skip yX1_skip, Cond.code yX1_skip cX1_skip 2 (some .boolean), Cond.methodLink RX1 103 yX1_digitAt, Cond.instanceMethod yX1_digitAt]
def wsX1_scan_r5 : List Cond := [Cond.selects RX1 yX1_digitAt yX1_digitAt, Cond.code yX1_digitAt cX1_digitAt 3 (some .int), Cond.methodLink RX1 63 yX1_scanSecond, Cond.instanceMethod yX1_scanSecond, Cond.selects RX1 yX1_scanSecond yX1_scanSecond, Cond.code yX1_scanSecond cX1_scanSecond 1 (some .boolean)]
def wsX1_scan : List Cond := .code yX1_scan cX1_scan 2 (some .int) :: ((wsX1_scan_r1 ++ (wsX1_scan_r2 ++ (wsX1_scan_r3 ++ (wsX1_scan_r4 ++ wsX1_scan_r5)))) ++ wsX10)
def wsX3_isString : List Cond := .code yX3_isString cX3_isString 1 (some .boolean) :: ([])
def wsX3_isNumber : List Cond := .code yX3_isNumber cX3_isNumber 1 (some .boolean) :: ([])
def wsX2_isTaken : List Cond := .code yX2_isTaken cX2_isTaken 4 (some .boolean) :: ([.fieldLink RX2 15 "KiteRegisters$Sky" "strings" "[I", .fieldLink RX2 18 "KiteRegisters$Sky" "heights" "[I"] ++ wsX20)
def wsX2_landing : List Cond := .code yX2_landing cX2_landing 5 (some .int) :: ([.methodLink RX2 121 yX2_isTaken, .instanceMethod yX2_isTaken, .selects RX2 yX2_isTaken yX2_isTaken, .initialized RX2, .code yX2_isTaken cX2_isTaken 4 (some .boolean), .fieldLink RX2 15 "KiteRegisters$Sky" "strings" "[I", .fieldLink RX2 18 "KiteRegisters$Sky" "heights" "[I"] ++ wsX20)
def wsX2_launch : List Cond := .code yX2_launch cX2_launch 4 (some .int) :: ([.fieldLink RX2 15 "KiteRegisters$Sky" "strings" "[I", .fieldLink RX2 18 "KiteRegisters$Sky" "heights" "[I", .fieldLink RX2 9 "KiteRegisters$Sky" "numbers" "[I", .fieldLink RX2 21 "KiteRegisters$Sky" "fresh" "[Z", .fieldLink RX2 25 "KiteRegisters$Sky" "readings" "[I", .fieldLink RX2 28 "KiteRegisters$Sky" "cuts" "[I", .static yX3_isString, .initialized RX3, .code yX3_isString cX3_isString 1 (some .boolean), .static yX3_isNumber, .code yX3_isNumber cX3_isNumber 1 (some .boolean), .methodLink RX2 57 yX2_landing, .instanceMethod yX2_landing, .selects RX2 yX2_landing yX2_landing, .initialized RX2, .code yX2_landing cX2_landing 5 (some .int), .methodLink RX2 121 yX2_isTaken, .instanceMethod yX2_isTaken, .selects RX2 yX2_isTaken yX2_isTaken, .code yX2_isTaken cX2_isTaken 4 (some .boolean)] ++ wsX20)
def wsX2_isKite : List Cond := .code yX2_isKite cX2_isKite 2 (some .boolean) :: ([.fieldLink RX2 15 "KiteRegisters$Sky" "strings" "[I"] ++ wsX20)
def wsX2_remove : List Cond := .code yX2_remove cX2_remove 2 (some .int) :: ([.fieldLink RX2 15 "KiteRegisters$Sky" "strings" "[I", .fieldLink RX2 9 "KiteRegisters$Sky" "numbers" "[I", .methodLink RX2 61 yX2_isKite, .instanceMethod yX2_isKite, .selects RX2 yX2_isKite yX2_isKite, .initialized RX2, .code yX2_isKite cX2_isKite 2 (some .boolean)] ++ wsX20)
def wsJ9_floorMod_7cf53 : List Cond := .code yJ9_floorMod_7cf53 cJ9_floorMod_7cf53 3 (some .int) :: ([])
def wsX2_windNow : List Cond := .code yX2_windNow cX2_windNow 1 (some .int) :: ([.fieldLink RX2 31 "KiteRegisters$Sky" "winds" "[I", .fieldLink RX2 37 "KiteRegisters$Sky" "beatsSoFar" "I", .methodLink RX2 140 yJ9_floorMod_7cf53, .static yJ9_floorMod_7cf53, .initialized RJ9, .code yJ9_floorMod_7cf53 cJ9_floorMod_7cf53 3 (some .int)] ++ wsX20)
def wsX2_risen : List Cond := .code yX2_risen cX2_risen 4 (some .int) :: ([.methodLink RX2 57 yX2_landing, .instanceMethod yX2_landing, .selects RX2 yX2_landing yX2_landing, .initialized RX2, .code yX2_landing cX2_landing 5 (some .int), .methodLink RX2 121 yX2_isTaken, .instanceMethod yX2_isTaken, .selects RX2 yX2_isTaken yX2_isTaken, .code yX2_isTaken cX2_isTaken 4 (some .boolean), .fieldLink RX2 15 "KiteRegisters$Sky" "strings" "[I", .fieldLink RX2 18 "KiteRegisters$Sky" "heights" "[I"] ++ wsX20)
def wsX2_countCutFrom : List Cond := .code yX2_countCutFrom cX2_countCutFrom 2 none :: ([.fieldLink RX2 34 "KiteRegisters$Sky" "cutsFrom" "[I", .static yX3_isString, .initialized RX3, .code yX3_isString cX3_isString 1 (some .boolean)] ++ wsX20)
def wsX2_behind : List Cond := .code yX2_behind cX2_behind 1 (some .int) :: ([])
def wsX2_raise_r1 : List Cond := [Cond.fieldLink RX2 15 "KiteRegisters$Sky" "strings" "[I", Cond.fieldLink RX2 18 "KiteRegisters$Sky" "heights" "[I", Cond.fieldLink RX2 44 "KiteRegisters$Sky" "cutHeight" "I", Cond.fieldLink RX2 28 "KiteRegisters$Sky" "cuts" "[I", Cond.fieldLink RX2 21 "KiteRegisters$Sky" "fresh" "[Z", Cond.fieldLink RX2 25 "KiteRegisters$Sky" "readings" "[I", Cond.fieldLink RX2 41 "KiteRegisters$Sky" "readingsSoFar" "I", Cond.fieldLink RX2 9 "KiteRegisters$Sky" "numbers" "[I", Cond.methodLink RX2 61 yX2_isKite, Cond.instanceMethod yX2_isKite, Cond.selects RX2 yX2_isKite yX2_isKite, Cond.initialized RX2, Cond.code yX2_isKite cX2_isKite 2 (some .boolean), Cond.methodLink RX2 64 yX2_windNow, Cond.instanceMethod yX2_windNow, Cond.selects RX2 yX2_windNow yX2_windNow, Cond.code yX2_windNow cX2_windNow 1 (some .int), Cond.fieldLink RX2 31 "KiteRegisters$Sky" "winds" "[I", Cond.fieldLink RX2 37 "KiteRegisters$Sky" "beatsSoFar" "I", Cond.methodLink RX2 140 yJ9_floorMod_7cf53, Cond.static yJ9_floorMod_7cf53, Cond.initialized RJ9, Cond.code yJ9_floorMod_7cf53 cJ9_floorMod_7cf53 3 (some .int), Cond.methodLink RX2 68 yX2_risen]
def wsX2_raise_r2 : List Cond := [Cond.instanceMethod yX2_risen, Cond.selects RX2 yX2_risen yX2_risen, Cond.code yX2_risen cX2_risen 4 (some .int), Cond.methodLink RX2 57 yX2_landing, Cond.instanceMethod yX2_landing, Cond.selects RX2 yX2_landing yX2_landing, Cond.code yX2_landing cX2_landing 5 (some .int), Cond.methodLink RX2 121 yX2_isTaken, Cond.instanceMethod yX2_isTaken, Cond.selects RX2 yX2_isTaken yX2_isTaken, Cond.code yX2_isTaken cX2_isTaken 4 (some .boolean), Cond.methodLink RX2 72 yX2_countCutFrom, Cond.instanceMethod yX2_countCutFrom, Cond.selects RX2 yX2_countCutFrom yX2_countCutFrom, Cond.code yX2_countCutFrom cX2_countCutFrom 2 none, Cond.fieldLink RX2 34 "KiteRegisters$Sky" "cutsFrom" "[I", Cond.static yX3_isString, Cond.initialized RX3, Cond.code yX3_isString cX3_isString 1 (some .boolean), Cond.methodLink RX2 76 yX2_behind, Cond.static yX2_behind, Cond.code yX2_behind cX2_behind 1 (some .int)]
def wsX2_raise : List Cond := .code yX2_raise cX2_raise 4 (some .int) :: ((wsX2_raise_r1 ++ wsX2_raise_r2) ++ wsX20)
def wsX2_renumber : List Cond := .code yX2_renumber cX2_renumber 4 (some .int) :: ([.fieldLink RX2 9 "KiteRegisters$Sky" "numbers" "[I", .fieldLink RX2 21 "KiteRegisters$Sky" "fresh" "[Z", .methodLink RX2 61 yX2_isKite, .instanceMethod yX2_isKite, .selects RX2 yX2_isKite yX2_isKite, .initialized RX2, .code yX2_isKite cX2_isKite 2 (some .boolean), .fieldLink RX2 15 "KiteRegisters$Sky" "strings" "[I", .static yX3_isNumber, .initialized RX3, .code yX3_isNumber cX3_isNumber 1 (some .boolean)] ++ wsX20)
def wsX2_shift : List Cond := .code yX2_shift cX2_shift 3 (some .int) :: ([.fieldLink RX2 15 "KiteRegisters$Sky" "strings" "[I", .fieldLink RX2 18 "KiteRegisters$Sky" "heights" "[I", .methodLink RX2 61 yX2_isKite, .instanceMethod yX2_isKite, .selects RX2 yX2_isKite yX2_isKite, .initialized RX2, .code yX2_isKite cX2_isKite 2 (some .boolean), .static yX3_isString, .initialized RX3, .code yX3_isString cX3_isString 1 (some .boolean), .methodLink RX2 57 yX2_landing, .instanceMethod yX2_landing, .selects RX2 yX2_landing yX2_landing, .code yX2_landing cX2_landing 5 (some .int), .methodLink RX2 121 yX2_isTaken, .instanceMethod yX2_isTaken, .selects RX2 yX2_isTaken yX2_isTaken, .code yX2_isTaken cX2_isTaken 4 (some .boolean)] ++ wsX20)
def wsX2_lowestAbove : List Cond := .code yX2_lowestAbove cX2_lowestAbove 6 (some .int) :: ([.constant RX2 127 (2147483647), .fieldLink RX2 15 "KiteRegisters$Sky" "strings" "[I", .fieldLink RX2 18 "KiteRegisters$Sky" "heights" "[I"] ++ wsX20)
def wsX2_sinkString : List Cond := .code yX2_sinkString cX2_sinkString 6 none :: ([.fieldLink RX2 18 "KiteRegisters$Sky" "heights" "[I", .fieldLink RX2 21 "KiteRegisters$Sky" "fresh" "[Z", .fieldLink RX2 47 "KiteRegisters$Sky" "sinking" "I", .methodLink RX2 116 Lib.Math.max.name, .static Lib.Math.max.name, .initialized "java/lang/Math", .code Lib.Math.max.name Lib.Math.max.code 2 (some .int), .methodLink RX2 113 yX2_lowestAbove, .instanceMethod yX2_lowestAbove, .selects RX2 yX2_lowestAbove yX2_lowestAbove, .initialized RX2, .code yX2_lowestAbove cX2_lowestAbove 6 (some .int), .constant RX2 127 (2147483647), .fieldLink RX2 15 "KiteRegisters$Sky" "strings" "[I", .methodLink RX2 61 yX2_isKite, .instanceMethod yX2_isKite, .selects RX2 yX2_isKite yX2_isKite, .code yX2_isKite cX2_isKite 2 (some .boolean)] ++ wsX20)
def wsX2_endFreshness : List Cond := .code yX2_endFreshness cX2_endFreshness 2 none :: ([.fieldLink RX2 21 "KiteRegisters$Sky" "fresh" "[Z"] ++ wsX20)
def wsX2_beatNow : List Cond := .code yX2_beatNow cX2_beatNow 1 (some .int) :: ([.fieldLink RX2 37 "KiteRegisters$Sky" "beatsSoFar" "I", .methodLink RX2 140 yJ9_floorMod_7cf53, .static yJ9_floorMod_7cf53, .initialized RJ9, .code yJ9_floorMod_7cf53 cJ9_floorMod_7cf53 3 (some .int)] ++ wsX20)
def wsX2_passBeats_r1 : List Cond := [Cond.fieldLink RX2 37 "KiteRegisters$Sky" "beatsSoFar" "I", Cond.methodLink RX2 80 yX2_sinkString, Cond.instanceMethod yX2_sinkString, Cond.selects RX2 yX2_sinkString yX2_sinkString, Cond.initialized RX2, Cond.code yX2_sinkString cX2_sinkString 6 none, Cond.fieldLink RX2 18 "KiteRegisters$Sky" "heights" "[I", Cond.fieldLink RX2 21 "KiteRegisters$Sky" "fresh" "[Z", Cond.fieldLink RX2 47 "KiteRegisters$Sky" "sinking" "I", Cond.methodLink RX2 116 Lib.Math.max.name, Cond.static Lib.Math.max.name, Cond.initialized "java/lang/Math", Cond.code Lib.Math.max.name Lib.Math.max.code 2 (some .int), Cond.methodLink RX2 113 yX2_lowestAbove, Cond.instanceMethod yX2_lowestAbove, Cond.selects RX2 yX2_lowestAbove yX2_lowestAbove, Cond.code yX2_lowestAbove cX2_lowestAbove 6 (some .int), Cond.constant RX2 127 (2147483647), Cond.fieldLink RX2 15 "KiteRegisters$Sky" "strings" "[I", Cond.methodLink RX2 61 yX2_isKite, Cond.instanceMethod yX2_isKite, Cond.selects RX2 yX2_isKite yX2_isKite, Cond.code yX2_isKite cX2_isKite 2 (some .boolean), Cond.methodLink RX2 83 yX2_endFreshness]
def wsX2_passBeats_r2 : List Cond := [Cond.instanceMethod yX2_endFreshness, Cond.selects RX2 yX2_endFreshness yX2_endFreshness, Cond.code yX2_endFreshness cX2_endFreshness 2 none, Cond.methodLink RX2 86 yX2_beatNow, Cond.instanceMethod yX2_beatNow, Cond.selects RX2 yX2_beatNow yX2_beatNow, Cond.code yX2_beatNow cX2_beatNow 1 (some .int), Cond.methodLink RX2 140 yJ9_floorMod_7cf53, Cond.static yJ9_floorMod_7cf53, Cond.initialized RJ9, Cond.code yJ9_floorMod_7cf53 cJ9_floorMod_7cf53 3 (some .int)]
def wsX2_passBeats : List Cond := .code yX2_passBeats cX2_passBeats 4 (some .int) :: ((wsX2_passBeats_r1 ++ wsX2_passBeats_r2) ++ wsX20)
def wsX3_isBeat : List Cond := .code yX3_isBeat cX3_isBeat 1 (some .boolean) :: ([])
def wsX2_changeWind : List Cond := .code yX2_changeWind cX2_changeWind 4 (some .int) :: ([.fieldLink RX2 31 "KiteRegisters$Sky" "winds" "[I", .static yX3_isBeat, .initialized RX3, .code yX3_isBeat cX3_isBeat 1 (some .boolean)] ++ wsX20)
def wsX2_changeCut : List Cond := .code yX2_changeCut cX2_changeCut 3 (some .int) :: ([.fieldLink RX2 44 "KiteRegisters$Sky" "cutHeight" "I"] ++ wsX20)
def wsX2_changeSinking : List Cond := .code yX2_changeSinking cX2_changeSinking 3 (some .int) :: ([.fieldLink RX2 47 "KiteRegisters$Sky" "sinking" "I"] ++ wsX20)
def wsX2_changeSetting : List Cond := .code yX2_changeSetting cX2_changeSetting 3 (some .int) :: ([.methodLink RX2 92 yX2_changeCut, .instanceMethod yX2_changeCut, .selects RX2 yX2_changeCut yX2_changeCut, .initialized RX2, .code yX2_changeCut cX2_changeCut 3 (some .int), .fieldLink RX2 44 "KiteRegisters$Sky" "cutHeight" "I", .methodLink RX2 95 yX2_changeSinking, .instanceMethod yX2_changeSinking, .selects RX2 yX2_changeSinking yX2_changeSinking, .code yX2_changeSinking cX2_changeSinking 3 (some .int), .fieldLink RX2 47 "KiteRegisters$Sky" "sinking" "I"] ++ wsX20)
def wsX2_carryOut_r1 : List Cond := [Cond.methodLink RX2 98 yX2_launch, Cond.instanceMethod yX2_launch, Cond.selects RX2 yX2_launch yX2_launch, Cond.initialized RX2, Cond.code yX2_launch cX2_launch 4 (some .int), Cond.fieldLink RX2 15 "KiteRegisters$Sky" "strings" "[I", Cond.fieldLink RX2 18 "KiteRegisters$Sky" "heights" "[I", Cond.fieldLink RX2 9 "KiteRegisters$Sky" "numbers" "[I", Cond.fieldLink RX2 21 "KiteRegisters$Sky" "fresh" "[Z", Cond.fieldLink RX2 25 "KiteRegisters$Sky" "readings" "[I", Cond.fieldLink RX2 28 "KiteRegisters$Sky" "cuts" "[I", Cond.static yX3_isString, Cond.initialized RX3, Cond.code yX3_isString cX3_isString 1 (some .boolean), Cond.static yX3_isNumber, Cond.code yX3_isNumber cX3_isNumber 1 (some .boolean), Cond.methodLink RX2 57 yX2_landing, Cond.instanceMethod yX2_landing, Cond.selects RX2 yX2_landing yX2_landing, Cond.code yX2_landing cX2_landing 5 (some .int), Cond.methodLink RX2 121 yX2_isTaken, Cond.instanceMethod yX2_isTaken, Cond.selects RX2 yX2_isTaken yX2_isTaken, Cond.code yX2_isTaken cX2_isTaken 4 (some .boolean)]
def wsX2_carryOut_r2 : List Cond := [Cond.methodLink RX2 101 yX2_raise, Cond.instanceMethod yX2_raise, Cond.selects RX2 yX2_raise yX2_raise, Cond.code yX2_raise cX2_raise 4 (some .int), Cond.fieldLink RX2 44 "KiteRegisters$Sky" "cutHeight" "I", Cond.fieldLink RX2 41 "KiteRegisters$Sky" "readingsSoFar" "I", Cond.methodLink RX2 61 yX2_isKite, Cond.instanceMethod yX2_isKite, Cond.selects RX2 yX2_isKite yX2_isKite, Cond.code yX2_isKite cX2_isKite 2 (some .boolean), Cond.methodLink RX2 64 yX2_windNow, Cond.instanceMethod yX2_windNow, Cond.selects RX2 yX2_windNow yX2_windNow, Cond.code yX2_windNow cX2_windNow 1 (some .int), Cond.fieldLink RX2 31 "KiteRegisters$Sky" "winds" "[I", Cond.fieldLink RX2 37 "KiteRegisters$Sky" "beatsSoFar" "I", Cond.methodLink RX2 140 yJ9_floorMod_7cf53, Cond.static yJ9_floorMod_7cf53, Cond.initialized RJ9, Cond.code yJ9_floorMod_7cf53 cJ9_floorMod_7cf53 3 (some .int), Cond.methodLink RX2 68 yX2_risen, Cond.instanceMethod yX2_risen, Cond.selects RX2 yX2_risen yX2_risen, Cond.code yX2_risen cX2_risen 4 (some .int)]
def wsX2_carryOut_r3 : List Cond := [Cond.methodLink RX2 72 yX2_countCutFrom, Cond.instanceMethod yX2_countCutFrom, Cond.selects RX2 yX2_countCutFrom yX2_countCutFrom, Cond.code yX2_countCutFrom cX2_countCutFrom 2 none, Cond.fieldLink RX2 34 "KiteRegisters$Sky" "cutsFrom" "[I", Cond.methodLink RX2 76 yX2_behind, Cond.static yX2_behind, Cond.code yX2_behind cX2_behind 1 (some .int), Cond.methodLink RX2 104 yX2_renumber, Cond.instanceMethod yX2_renumber, Cond.selects RX2 yX2_renumber yX2_renumber, Cond.code yX2_renumber cX2_renumber 4 (some .int), Cond.methodLink RX2 107 yX2_passBeats, Cond.instanceMethod yX2_passBeats, Cond.selects RX2 yX2_passBeats yX2_passBeats, Cond.code yX2_passBeats cX2_passBeats 4 (some .int), Cond.methodLink RX2 80 yX2_sinkString, Cond.instanceMethod yX2_sinkString, Cond.selects RX2 yX2_sinkString yX2_sinkString, Cond.code yX2_sinkString cX2_sinkString 6 none, Cond.fieldLink RX2 47 "KiteRegisters$Sky" "sinking" "I", Cond.methodLink RX2 116 Lib.Math.max.name, Cond.static Lib.Math.max.name, Cond.initialized "java/lang/Math"]
def wsX2_carryOut_r4 : List Cond := [Cond.code Lib.Math.max.name Lib.Math.max.code 2 (some .int), Cond.methodLink RX2 113 yX2_lowestAbove, Cond.instanceMethod yX2_lowestAbove, Cond.selects RX2 yX2_lowestAbove yX2_lowestAbove, Cond.code yX2_lowestAbove cX2_lowestAbove 6 (some .int), Cond.constant RX2 127 (2147483647), Cond.methodLink RX2 83 yX2_endFreshness, Cond.instanceMethod yX2_endFreshness, Cond.selects RX2 yX2_endFreshness yX2_endFreshness, Cond.code yX2_endFreshness cX2_endFreshness 2 none, Cond.methodLink RX2 86 yX2_beatNow, Cond.instanceMethod yX2_beatNow, Cond.selects RX2 yX2_beatNow yX2_beatNow, Cond.code yX2_beatNow cX2_beatNow 1 (some .int), Cond.methodLink RX2 110 yX2_changeWind, Cond.instanceMethod yX2_changeWind, Cond.selects RX2 yX2_changeWind yX2_changeWind, Cond.code yX2_changeWind cX2_changeWind 4 (some .int), Cond.static yX3_isBeat, Cond.code yX3_isBeat cX3_isBeat 1 (some .boolean)]
def wsX2_carryOut : List Cond := .code yX2_carryOut cX2_carryOut 4 (some .int) :: ((wsX2_carryOut_r1 ++ (wsX2_carryOut_r2 ++ (wsX2_carryOut_r3 ++ wsX2_carryOut_r4))) ++ wsX20)
def wsX2_sinkUntil_r1 : List Cond := [Cond.fieldLink RX2 18 "KiteRegisters$Sky" "heights" "[I", Cond.fieldLink RX2 15 "KiteRegisters$Sky" "strings" "[I", Cond.methodLink RX2 61 yX2_isKite, Cond.instanceMethod yX2_isKite, Cond.selects RX2 yX2_isKite yX2_isKite, Cond.initialized RX2, Cond.code yX2_isKite cX2_isKite 2 (some .boolean), Cond.methodLink RX2 80 yX2_sinkString, Cond.instanceMethod yX2_sinkString, Cond.selects RX2 yX2_sinkString yX2_sinkString, Cond.code yX2_sinkString cX2_sinkString 6 none, Cond.fieldLink RX2 21 "KiteRegisters$Sky" "fresh" "[Z", Cond.fieldLink RX2 47 "KiteRegisters$Sky" "sinking" "I", Cond.methodLink RX2 116 Lib.Math.max.name, Cond.static Lib.Math.max.name, Cond.initialized "java/lang/Math", Cond.code Lib.Math.max.name Lib.Math.max.code 2 (some .int), Cond.methodLink RX2 113 yX2_lowestAbove, Cond.instanceMethod yX2_lowestAbove, Cond.selects RX2 yX2_lowestAbove yX2_lowestAbove, Cond.code yX2_lowestAbove cX2_lowestAbove 6 (some .int), Cond.constant RX2 127 (2147483647), Cond.methodLink RX2 83 yX2_endFreshness, Cond.instanceMethod yX2_endFreshness]
def wsX2_sinkUntil_r2 : List Cond := [Cond.selects RX2 yX2_endFreshness yX2_endFreshness, Cond.code yX2_endFreshness cX2_endFreshness 2 none]
def wsX2_sinkUntil : List Cond := .code yX2_sinkUntil cX2_sinkUntil 4 (some .int) :: ((wsX2_sinkUntil_r1 ++ wsX2_sinkUntil_r2) ++ wsX20)
def wsX2_kitesBetween : List Cond := .code yX2_kitesBetween cX2_kitesBetween 6 (some .int) :: ([.fieldLink RX2 15 "KiteRegisters$Sky" "strings" "[I", .fieldLink RX2 18 "KiteRegisters$Sky" "heights" "[I"] ++ wsX20)
def wsX2_highestBelow : List Cond := .code yX2_highestBelow cX2_highestBelow 6 (some .int) :: ([.fieldLink RX2 15 "KiteRegisters$Sky" "strings" "[I", .fieldLink RX2 18 "KiteRegisters$Sky" "heights" "[I"] ++ wsX20)
def wsX2_aboutKite : List Cond := .code yX2_aboutKite cX2_aboutKite 3 (some .int) :: ([.fieldLink RX2 9 "KiteRegisters$Sky" "numbers" "[I", .fieldLink RX2 15 "KiteRegisters$Sky" "strings" "[I", .fieldLink RX2 18 "KiteRegisters$Sky" "heights" "[I", .fieldLink RX2 21 "KiteRegisters$Sky" "fresh" "[Z", .fieldLink RX2 25 "KiteRegisters$Sky" "readings" "[I", .fieldLink RX2 28 "KiteRegisters$Sky" "cuts" "[I", .constant RX2 127 (2147483647), .methodLink RX2 61 yX2_isKite, .instanceMethod yX2_isKite, .selects RX2 yX2_isKite yX2_isKite, .initialized RX2, .code yX2_isKite cX2_isKite 2 (some .boolean), .methodLink RX2 128 yX2_kitesBetween, .instanceMethod yX2_kitesBetween, .selects RX2 yX2_kitesBetween yX2_kitesBetween, .code yX2_kitesBetween cX2_kitesBetween 6 (some .int), .methodLink RX2 113 yX2_lowestAbove, .instanceMethod yX2_lowestAbove, .selects RX2 yX2_lowestAbove yX2_lowestAbove, .code yX2_lowestAbove cX2_lowestAbove 6 (some .int), .methodLink RX2 131 yX2_highestBelow, .instanceMethod yX2_highestBelow, .selects RX2 yX2_highestBelow yX2_highestBelow, .code yX2_highestBelow cX2_highestBelow 6 (some .int)] ++ wsX20)
def wsX2_aboutReading_r1 : List Cond := [Cond.fieldLink RX2 15 "KiteRegisters$Sky" "strings" "[I", Cond.fieldLink RX2 18 "KiteRegisters$Sky" "heights" "[I", Cond.fieldLink RX2 44 "KiteRegisters$Sky" "cutHeight" "I", Cond.methodLink RX2 61 yX2_isKite, Cond.instanceMethod yX2_isKite, Cond.selects RX2 yX2_isKite yX2_isKite, Cond.initialized RX2, Cond.code yX2_isKite cX2_isKite 2 (some .boolean), Cond.methodLink RX2 64 yX2_windNow, Cond.instanceMethod yX2_windNow, Cond.selects RX2 yX2_windNow yX2_windNow, Cond.code yX2_windNow cX2_windNow 1 (some .int), Cond.fieldLink RX2 31 "KiteRegisters$Sky" "winds" "[I", Cond.fieldLink RX2 37 "KiteRegisters$Sky" "beatsSoFar" "I", Cond.methodLink RX2 140 yJ9_floorMod_7cf53, Cond.static yJ9_floorMod_7cf53, Cond.initialized RJ9, Cond.code yJ9_floorMod_7cf53 cJ9_floorMod_7cf53 3 (some .int), Cond.methodLink RX2 68 yX2_risen, Cond.instanceMethod yX2_risen, Cond.selects RX2 yX2_risen yX2_risen, Cond.code yX2_risen cX2_risen 4 (some .int), Cond.methodLink RX2 57 yX2_landing, Cond.instanceMethod yX2_landing]
def wsX2_aboutReading_r2 : List Cond := [Cond.selects RX2 yX2_landing yX2_landing, Cond.code yX2_landing cX2_landing 5 (some .int), Cond.methodLink RX2 121 yX2_isTaken, Cond.instanceMethod yX2_isTaken, Cond.selects RX2 yX2_isTaken yX2_isTaken, Cond.code yX2_isTaken cX2_isTaken 4 (some .boolean), Cond.methodLink RX2 76 yX2_behind, Cond.static yX2_behind, Cond.code yX2_behind cX2_behind 1 (some .int), Cond.methodLink RX2 128 yX2_kitesBetween, Cond.instanceMethod yX2_kitesBetween, Cond.selects RX2 yX2_kitesBetween yX2_kitesBetween, Cond.code yX2_kitesBetween cX2_kitesBetween 6 (some .int)]
def wsX2_aboutReading : List Cond := .code yX2_aboutReading cX2_aboutReading 6 (some .int) :: ((wsX2_aboutReading_r1 ++ wsX2_aboutReading_r2) ++ wsX20)
def wsX2_readingsUntilCut_r1 : List Cond := [Cond.fieldLink RX2 18 "KiteRegisters$Sky" "heights" "[I", Cond.fieldLink RX2 15 "KiteRegisters$Sky" "strings" "[I", Cond.fieldLink RX2 44 "KiteRegisters$Sky" "cutHeight" "I", Cond.methodLink RX2 61 yX2_isKite, Cond.instanceMethod yX2_isKite, Cond.selects RX2 yX2_isKite yX2_isKite, Cond.initialized RX2, Cond.code yX2_isKite cX2_isKite 2 (some .boolean), Cond.methodLink RX2 64 yX2_windNow, Cond.instanceMethod yX2_windNow, Cond.selects RX2 yX2_windNow yX2_windNow, Cond.code yX2_windNow cX2_windNow 1 (some .int), Cond.fieldLink RX2 31 "KiteRegisters$Sky" "winds" "[I", Cond.fieldLink RX2 37 "KiteRegisters$Sky" "beatsSoFar" "I", Cond.methodLink RX2 140 yJ9_floorMod_7cf53, Cond.static yJ9_floorMod_7cf53, Cond.initialized RJ9, Cond.code yJ9_floorMod_7cf53 cJ9_floorMod_7cf53 3 (some .int), Cond.methodLink RX2 68 yX2_risen, Cond.instanceMethod yX2_risen, Cond.selects RX2 yX2_risen yX2_risen, Cond.code yX2_risen cX2_risen 4 (some .int), Cond.methodLink RX2 57 yX2_landing, Cond.instanceMethod yX2_landing]
def wsX2_readingsUntilCut_r2 : List Cond := [Cond.selects RX2 yX2_landing yX2_landing, Cond.code yX2_landing cX2_landing 5 (some .int), Cond.methodLink RX2 121 yX2_isTaken, Cond.instanceMethod yX2_isTaken, Cond.selects RX2 yX2_isTaken yX2_isTaken, Cond.code yX2_isTaken cX2_isTaken 4 (some .boolean)]
def wsX2_readingsUntilCut : List Cond := .code yX2_readingsUntilCut cX2_readingsUntilCut 5 (some .int) :: ((wsX2_readingsUntilCut_r1 ++ wsX2_readingsUntilCut_r2) ++ wsX20)
def wsX2_weightsOn : List Cond := .code yX2_weightsOn cX2_weightsOn 4 (some .int) :: ([.fieldLink RX2 15 "KiteRegisters$Sky" "strings" "[I", .fieldLink RX2 18 "KiteRegisters$Sky" "heights" "[I"] ++ wsX20)
def wsX2_thousandthsOf : List Cond := .code yX2_thousandthsOf cX2_thousandthsOf 3 (some .int) :: ([.fieldLink RX2 15 "KiteRegisters$Sky" "strings" "[I", .fieldLink RX2 18 "KiteRegisters$Sky" "heights" "[I", .methodLink RX2 61 yX2_isKite, .instanceMethod yX2_isKite, .selects RX2 yX2_isKite yX2_isKite, .initialized RX2, .code yX2_isKite cX2_isKite 2 (some .boolean), .methodLink RX2 134 yX2_weightsOn, .instanceMethod yX2_weightsOn, .selects RX2 yX2_weightsOn yX2_weightsOn, .code yX2_weightsOn cX2_weightsOn 4 (some .int)] ++ wsX20)
def wsX2_numbersOn : List Cond := .code yX2_numbersOn cX2_numbersOn 4 (some .int) :: ([.fieldLink RX2 15 "KiteRegisters$Sky" "strings" "[I", .fieldLink RX2 9 "KiteRegisters$Sky" "numbers" "[I"] ++ wsX20)
def wsX2_aboutString_r1 : List Cond := [Cond.constant RX2 127 (2147483647), Cond.fieldLink RX2 34 "KiteRegisters$Sky" "cutsFrom" "[I", Cond.static yX3_isString, Cond.initialized RX3, Cond.code yX3_isString cX3_isString 1 (some .boolean), Cond.methodLink RX2 128 yX2_kitesBetween, Cond.instanceMethod yX2_kitesBetween, Cond.selects RX2 yX2_kitesBetween yX2_kitesBetween, Cond.initialized RX2, Cond.code yX2_kitesBetween cX2_kitesBetween 6 (some .int), Cond.fieldLink RX2 15 "KiteRegisters$Sky" "strings" "[I", Cond.fieldLink RX2 18 "KiteRegisters$Sky" "heights" "[I", Cond.methodLink RX2 134 yX2_weightsOn, Cond.instanceMethod yX2_weightsOn, Cond.selects RX2 yX2_weightsOn yX2_weightsOn, Cond.code yX2_weightsOn cX2_weightsOn 4 (some .int), Cond.methodLink RX2 131 yX2_highestBelow, Cond.instanceMethod yX2_highestBelow, Cond.selects RX2 yX2_highestBelow yX2_highestBelow, Cond.code yX2_highestBelow cX2_highestBelow 6 (some .int), Cond.methodLink RX2 113 yX2_lowestAbove, Cond.instanceMethod yX2_lowestAbove, Cond.selects RX2 yX2_lowestAbove yX2_lowestAbove, Cond.code yX2_lowestAbove cX2_lowestAbove 6 (some .int)]
def wsX2_aboutString_r2 : List Cond := [Cond.methodLink RX2 137 yX2_numbersOn, Cond.instanceMethod yX2_numbersOn, Cond.selects RX2 yX2_numbersOn yX2_numbersOn, Cond.code yX2_numbersOn cX2_numbersOn 4 (some .int), Cond.fieldLink RX2 9 "KiteRegisters$Sky" "numbers" "[I"]
def wsX2_aboutString : List Cond := .code yX2_aboutString cX2_aboutString 3 (some .int) :: ((wsX2_aboutString_r1 ++ wsX2_aboutString_r2) ++ wsX20)
def wsX2_kiteAtPoint : List Cond := .code yX2_kiteAtPoint cX2_kiteAtPoint 5 (some .int) :: ([.fieldLink RX2 15 "KiteRegisters$Sky" "strings" "[I", .fieldLink RX2 18 "KiteRegisters$Sky" "heights" "[I", .static yX3_isString, .initialized RX3, .code yX3_isString cX3_isString 1 (some .boolean)] ++ wsX20)
def wsX2_windAt : List Cond := .code yX2_windAt cX2_windAt 2 (some .int) :: ([.fieldLink RX2 31 "KiteRegisters$Sky" "winds" "[I", .static yX3_isBeat, .initialized RX3, .code yX3_isBeat cX3_isBeat 1 (some .boolean)] ++ wsX20)
def wsX2_isSafe : List Cond := .code yX2_isSafe cX2_isSafe 3 (some .boolean) :: ([.fieldLink RX2 15 "KiteRegisters$Sky" "strings" "[I", .fieldLink RX2 18 "KiteRegisters$Sky" "heights" "[I", .fieldLink RX2 44 "KiteRegisters$Sky" "cutHeight" "I", .methodLink RX2 68 yX2_risen, .instanceMethod yX2_risen, .selects RX2 yX2_risen yX2_risen, .initialized RX2, .code yX2_risen cX2_risen 4 (some .int), .methodLink RX2 57 yX2_landing, .instanceMethod yX2_landing, .selects RX2 yX2_landing yX2_landing, .code yX2_landing cX2_landing 5 (some .int), .methodLink RX2 121 yX2_isTaken, .instanceMethod yX2_isTaken, .selects RX2 yX2_isTaken yX2_isTaken, .code yX2_isTaken cX2_isTaken 4 (some .boolean)] ++ wsX20)
def wsX2_greatestSafeWind : List Cond := .code yX2_greatestSafeWind cX2_greatestSafeWind 2 (some .int) :: ([.methodLink RX2 143 yX2_isSafe, .instanceMethod yX2_isSafe, .selects RX2 yX2_isSafe yX2_isSafe, .initialized RX2, .code yX2_isSafe cX2_isSafe 3 (some .boolean), .fieldLink RX2 15 "KiteRegisters$Sky" "strings" "[I", .fieldLink RX2 18 "KiteRegisters$Sky" "heights" "[I", .fieldLink RX2 44 "KiteRegisters$Sky" "cutHeight" "I", .methodLink RX2 68 yX2_risen, .instanceMethod yX2_risen, .selects RX2 yX2_risen yX2_risen, .code yX2_risen cX2_risen 4 (some .int), .methodLink RX2 57 yX2_landing, .instanceMethod yX2_landing, .selects RX2 yX2_landing yX2_landing, .code yX2_landing cX2_landing 5 (some .int), .methodLink RX2 121 yX2_isTaken, .instanceMethod yX2_isTaken, .selects RX2 yX2_isTaken yX2_isTaken, .code yX2_isTaken cX2_isTaken 4 (some .boolean)] ++ wsX20)
def wsX2_isCalmer : List Cond := .code yX2_isCalmer cX2_isCalmer 5 (some .boolean) :: ([.methodLink RX2 57 yX2_landing, .instanceMethod yX2_landing, .selects RX2 yX2_landing yX2_landing, .initialized RX2, .code yX2_landing cX2_landing 5 (some .int), .methodLink RX2 121 yX2_isTaken, .instanceMethod yX2_isTaken, .selects RX2 yX2_isTaken yX2_isTaken, .code yX2_isTaken cX2_isTaken 4 (some .boolean), .fieldLink RX2 15 "KiteRegisters$Sky" "strings" "[I", .fieldLink RX2 18 "KiteRegisters$Sky" "heights" "[I", .methodLink RX2 134 yX2_weightsOn, .instanceMethod yX2_weightsOn, .selects RX2 yX2_weightsOn yX2_weightsOn, .code yX2_weightsOn cX2_weightsOn 4 (some .int)] ++ wsX20)
def wsX2_calmestString : List Cond := .code yX2_calmestString cX2_calmestString 3 (some .int) :: ([.methodLink RX2 146 yX2_isCalmer, .instanceMethod yX2_isCalmer, .selects RX2 yX2_isCalmer yX2_isCalmer, .initialized RX2, .code yX2_isCalmer cX2_isCalmer 5 (some .boolean), .methodLink RX2 57 yX2_landing, .instanceMethod yX2_landing, .selects RX2 yX2_landing yX2_landing, .code yX2_landing cX2_landing 5 (some .int), .methodLink RX2 121 yX2_isTaken, .instanceMethod yX2_isTaken, .selects RX2 yX2_isTaken yX2_isTaken, .code yX2_isTaken cX2_isTaken 4 (some .boolean), .fieldLink RX2 15 "KiteRegisters$Sky" "strings" "[I", .fieldLink RX2 18 "KiteRegisters$Sky" "heights" "[I", .methodLink RX2 134 yX2_weightsOn, .instanceMethod yX2_weightsOn, .selects RX2 yX2_weightsOn yX2_weightsOn, .code yX2_weightsOn cX2_weightsOn 4 (some .int)] ++ wsX20)
def wsX2_kitesInAll : List Cond := .code yX2_kitesInAll cX2_kitesInAll 3 (some .int) :: ([.fieldLink RX2 15 "KiteRegisters$Sky" "strings" "[I"] ++ wsX20)
def wsX2_cutsSoFar : List Cond := .code yX2_cutsSoFar cX2_cutsSoFar 3 (some .int) :: ([.fieldLink RX2 34 "KiteRegisters$Sky" "cutsFrom" "[I"] ++ wsX20)
def wsX2_freshKites : List Cond := .code yX2_freshKites cX2_freshKites 3 (some .int) :: ([.fieldLink RX2 15 "KiteRegisters$Sky" "strings" "[I", .fieldLink RX2 21 "KiteRegisters$Sky" "fresh" "[Z"] ++ wsX20)
def wsX2_greatestHeight : List Cond := .code yX2_greatestHeight cX2_greatestHeight 3 (some .int) :: ([.fieldLink RX2 15 "KiteRegisters$Sky" "strings" "[I", .fieldLink RX2 18 "KiteRegisters$Sky" "heights" "[I", .methodLink RX2 116 Lib.Math.max.name, .static Lib.Math.max.name, .initialized "java/lang/Math", .code Lib.Math.max.name Lib.Math.max.code 2 (some .int)] ++ wsX20)
def wsX2_weightsInAll : List Cond := .code yX2_weightsInAll cX2_weightsInAll 3 (some .int) :: ([.methodLink RX2 134 yX2_weightsOn, .instanceMethod yX2_weightsOn, .selects RX2 yX2_weightsOn yX2_weightsOn, .initialized RX2, .code yX2_weightsOn cX2_weightsOn 4 (some .int), .fieldLink RX2 15 "KiteRegisters$Sky" "strings" "[I", .fieldLink RX2 18 "KiteRegisters$Sky" "heights" "[I"] ++ wsX20)
def wsX2_aboutAll_r1 : List Cond := [Cond.fieldLink RX2 41 "KiteRegisters$Sky" "readingsSoFar" "I", Cond.fieldLink RX2 44 "KiteRegisters$Sky" "cutHeight" "I", Cond.fieldLink RX2 47 "KiteRegisters$Sky" "sinking" "I", Cond.fieldLink RX2 37 "KiteRegisters$Sky" "beatsSoFar" "I", Cond.methodLink RX2 149 yX2_kitesInAll, Cond.instanceMethod yX2_kitesInAll, Cond.selects RX2 yX2_kitesInAll yX2_kitesInAll, Cond.initialized RX2, Cond.code yX2_kitesInAll cX2_kitesInAll 3 (some .int), Cond.fieldLink RX2 15 "KiteRegisters$Sky" "strings" "[I", Cond.methodLink RX2 86 yX2_beatNow, Cond.instanceMethod yX2_beatNow, Cond.selects RX2 yX2_beatNow yX2_beatNow, Cond.code yX2_beatNow cX2_beatNow 1 (some .int), Cond.methodLink RX2 140 yJ9_floorMod_7cf53, Cond.static yJ9_floorMod_7cf53, Cond.initialized RJ9, Cond.code yJ9_floorMod_7cf53 cJ9_floorMod_7cf53 3 (some .int), Cond.methodLink RX2 64 yX2_windNow, Cond.instanceMethod yX2_windNow, Cond.selects RX2 yX2_windNow yX2_windNow, Cond.code yX2_windNow cX2_windNow 1 (some .int), Cond.fieldLink RX2 31 "KiteRegisters$Sky" "winds" "[I", Cond.methodLink RX2 152 yX2_cutsSoFar]
def wsX2_aboutAll_r2 : List Cond := [Cond.instanceMethod yX2_cutsSoFar, Cond.selects RX2 yX2_cutsSoFar yX2_cutsSoFar, Cond.code yX2_cutsSoFar cX2_cutsSoFar 3 (some .int), Cond.fieldLink RX2 34 "KiteRegisters$Sky" "cutsFrom" "[I", Cond.methodLink RX2 155 yX2_freshKites, Cond.instanceMethod yX2_freshKites, Cond.selects RX2 yX2_freshKites yX2_freshKites, Cond.code yX2_freshKites cX2_freshKites 3 (some .int), Cond.fieldLink RX2 21 "KiteRegisters$Sky" "fresh" "[Z", Cond.methodLink RX2 158 yX2_greatestHeight, Cond.instanceMethod yX2_greatestHeight, Cond.selects RX2 yX2_greatestHeight yX2_greatestHeight, Cond.code yX2_greatestHeight cX2_greatestHeight 3 (some .int), Cond.fieldLink RX2 18 "KiteRegisters$Sky" "heights" "[I", Cond.methodLink RX2 116 Lib.Math.max.name, Cond.static Lib.Math.max.name, Cond.initialized "java/lang/Math", Cond.code Lib.Math.max.name Lib.Math.max.code 2 (some .int), Cond.methodLink RX2 161 yX2_weightsInAll, Cond.instanceMethod yX2_weightsInAll, Cond.selects RX2 yX2_weightsInAll yX2_weightsInAll, Cond.code yX2_weightsInAll cX2_weightsInAll 3 (some .int), Cond.methodLink RX2 134 yX2_weightsOn, Cond.instanceMethod yX2_weightsOn]
def wsX2_aboutAll_r3 : List Cond := [Cond.selects RX2 yX2_weightsOn yX2_weightsOn, Cond.code yX2_weightsOn cX2_weightsOn 4 (some .int)]
def wsX2_aboutAll : List Cond := .code yX2_aboutAll cX2_aboutAll 2 (some .int) :: ((wsX2_aboutAll_r1 ++ (wsX2_aboutAll_r2 ++ wsX2_aboutAll_r3)) ++ wsX20)
def wsX3_init_r1 : List Cond := [Cond.methodLink RX3 1 objectInit, Cond.instanceMethod objectInit, Cond.code objectInit ⟨#[0xb1]⟩ 1 none, Cond.classLink RX3 7 RX2, Cond.instantiable RX2 12, Cond.initialized RX2, Cond.fieldLink RX3 10 "KiteRegisters" "sky" "LKiteRegisters$Sky;", Cond.fieldLink RX3 16 "KiteRegisters" "before" "LKiteRegisters$Sky;", Cond.fieldLink RX3 19 "KiteRegisters" "trial" "LKiteRegisters$Sky;", Cond.fieldLink RX3 22 "KiteRegisters" "snapshot" "LKiteRegisters$Sky;", Cond.fieldLink RX3 25 "KiteRegisters" "hasSnapshot" "Z", Cond.classLink RX3 29 RX0, Cond.instantiable RX0 3, Cond.initialized RX0, Cond.fieldLink RX3 32 "KiteRegisters" "history" "LKiteRegisters$History;", Cond.classLink RX3 36 RX1, Cond.instantiable RX1 9, Cond.initialized RX1, Cond.fieldLink RX3 39 "KiteRegisters" "script" "LKiteRegisters$Script;", Cond.fieldLink RX3 43 "KiteRegisters" "stopCommand" "I", Cond.fieldLink RX3 47 "KiteRegisters" "stopError" "I", Cond.instanceMethod yX2_init, Cond.code yX2_init cX2_init 2 none, Cond.methodLink RX2 3 objectInit]
def wsX3_init_r2 : List Cond := [Cond.arrayClass .int, Cond.fieldLink RX2 9 "KiteRegisters$Sky" "numbers" "[I", Cond.fieldLink RX2 15 "KiteRegisters$Sky" "strings" "[I", Cond.fieldLink RX2 18 "KiteRegisters$Sky" "heights" "[I", Cond.arrayClass .boolean, Cond.fieldLink RX2 21 "KiteRegisters$Sky" "fresh" "[Z", Cond.fieldLink RX2 25 "KiteRegisters$Sky" "readings" "[I", Cond.fieldLink RX2 28 "KiteRegisters$Sky" "cuts" "[I", Cond.fieldLink RX2 31 "KiteRegisters$Sky" "winds" "[I", Cond.fieldLink RX2 34 "KiteRegisters$Sky" "cutsFrom" "[I", Cond.fieldLink RX2 37 "KiteRegisters$Sky" "beatsSoFar" "I", Cond.fieldLink RX2 41 "KiteRegisters$Sky" "readingsSoFar" "I", Cond.fieldLink RX2 44 "KiteRegisters$Sky" "cutHeight" "I", Cond.fieldLink RX2 47 "KiteRegisters$Sky" "sinking" "I", Cond.instanceMethod yX0_init, Cond.code yX0_init cX0_init 2 none, Cond.methodLink RX0 3 objectInit, Cond.classLink RX0 9 RX2, Cond.fieldLink RX0 11 "KiteRegisters$History" "states" "[LKiteRegisters$Sky;", Cond.fieldLink RX0 17 "KiteRegisters$History" "next" "I", Cond.fieldLink RX0 21 "KiteRegisters$History" "size" "I", Cond.instanceMethod yX1_init, Cond.code yX1_init cX1_init 1 none, Cond.methodLink RX1 3 objectInit]
def wsX3_init_r3 : List Cond := [Cond.arrayClass .char, Cond.fieldLink RX1 9 "KiteRegisters$Script" "signs" "[C", Cond.fieldLink RX1 15 "KiteRegisters$Script" "length" "I", Cond.fieldLink RX1 19 "KiteRegisters$Script" "verbs" "[I", Cond.fieldLink RX1 23 "KiteRegisters$Script" "firsts" "[I", Cond.fieldLink RX1 26 "KiteRegisters$Script" "seconds" "[I", Cond.fieldLink RX1 29 "KiteRegisters$Script" "commands" "I", Cond.fieldLink RX1 32 "KiteRegisters$Script" "place" "I", Cond.fieldLink RX1 35 "KiteRegisters$Script" "verb" "I", Cond.fieldLink RX1 38 "KiteRegisters$Script" "number" "I"]
def wsX3_init : List Cond := .code yX3_init cX3_init 1 none :: ((wsX3_init_r1 ++ (wsX3_init_r2 ++ wsX3_init_r3)) ++ wsX20 ++ wsX30 ++ wsX00 ++ wsX10)
def wsX3_isError : List Cond := .code yX3_isError cX3_isError 1 (some .boolean) :: ([])
def wsX3_recorded_r1 : List Cond := [Cond.fieldLink RX3 32 "KiteRegisters" "history" "LKiteRegisters$History;", Cond.fieldLink RX3 16 "KiteRegisters" "before" "LKiteRegisters$Sky;", Cond.methodLink RX3 110 yX3_isError, Cond.static yX3_isError, Cond.initialized RX3, Cond.code yX3_isError cX3_isError 1 (some .boolean), Cond.instanceMethod yX0_add, Cond.initialized RX0, Cond.selects RX0 yX0_add yX0_add, Cond.code yX0_add cX0_add 3 none, Cond.fieldLink RX0 17 "KiteRegisters$History" "next" "I", Cond.fieldLink RX0 21 "KiteRegisters$History" "size" "I", Cond.methodLink RX0 33 Lib.Math.min.name, Cond.static Lib.Math.min.name, Cond.initialized "java/lang/Math", Cond.code Lib.Math.min.name Lib.Math.min.code 2 (some .int), Cond.methodLink RX0 25 yX0_rowAt, Cond.instanceMethod yX0_rowAt, Cond.selects RX0 yX0_rowAt yX0_rowAt, Cond.code yX0_rowAt cX0_rowAt 2 (some (.object "KiteRegisters$Sky")), Cond.fieldLink RX0 11 "KiteRegisters$History" "states" "[LKiteRegisters$Sky;", Cond.instanceMethod yX2_copyFrom, Cond.initialized RX2, Cond.selects RX2 yX2_copyFrom yX2_copyFrom]
def wsX3_recorded_r2 : List Cond := [Cond.code yX2_copyFrom cX2_copyFrom 3 none, Cond.fieldLink RX2 9 "KiteRegisters$Sky" "numbers" "[I", Cond.fieldLink RX2 15 "KiteRegisters$Sky" "strings" "[I", Cond.fieldLink RX2 18 "KiteRegisters$Sky" "heights" "[I", Cond.fieldLink RX2 21 "KiteRegisters$Sky" "fresh" "[Z", Cond.fieldLink RX2 25 "KiteRegisters$Sky" "readings" "[I", Cond.fieldLink RX2 28 "KiteRegisters$Sky" "cuts" "[I", Cond.fieldLink RX2 31 "KiteRegisters$Sky" "winds" "[I", Cond.fieldLink RX2 34 "KiteRegisters$Sky" "cutsFrom" "[I", Cond.fieldLink RX2 37 "KiteRegisters$Sky" "beatsSoFar" "I", Cond.fieldLink RX2 41 "KiteRegisters$Sky" "readingsSoFar" "I", Cond.fieldLink RX2 44 "KiteRegisters$Sky" "cutHeight" "I", Cond.fieldLink RX2 47 "KiteRegisters$Sky" "sinking" "I"]
def wsX3_recorded : List Cond := .code yX3_recorded cX3_recorded 2 (some .int) :: ((wsX3_recorded_r1 ++ wsX3_recorded_r2) ++ wsX30 ++ wsX00 ++ wsX20)
def wsX3_fly_r1 : List Cond := [Cond.fieldLink RX3 16 "KiteRegisters" "before" "LKiteRegisters$Sky;", Cond.fieldLink RX3 10 "KiteRegisters" "sky" "LKiteRegisters$Sky;", Cond.instanceMethod yX2_copyFrom, Cond.initialized RX2, Cond.selects RX2 yX2_copyFrom yX2_copyFrom, Cond.code yX2_copyFrom cX2_copyFrom 3 none, Cond.fieldLink RX2 9 "KiteRegisters$Sky" "numbers" "[I", Cond.fieldLink RX2 15 "KiteRegisters$Sky" "strings" "[I", Cond.fieldLink RX2 18 "KiteRegisters$Sky" "heights" "[I", Cond.fieldLink RX2 21 "KiteRegisters$Sky" "fresh" "[Z", Cond.fieldLink RX2 25 "KiteRegisters$Sky" "readings" "[I", Cond.fieldLink RX2 28 "KiteRegisters$Sky" "cuts" "[I", Cond.fieldLink RX2 31 "KiteRegisters$Sky" "winds" "[I", Cond.fieldLink RX2 34 "KiteRegisters$Sky" "cutsFrom" "[I", Cond.fieldLink RX2 37 "KiteRegisters$Sky" "beatsSoFar" "I", Cond.fieldLink RX2 41 "KiteRegisters$Sky" "readingsSoFar" "I", Cond.fieldLink RX2 44 "KiteRegisters$Sky" "cutHeight" "I", Cond.fieldLink RX2 47 "KiteRegisters$Sky" "sinking" "I", Cond.instanceMethod yX2_launch, Cond.selects RX2 yX2_launch yX2_launch, Cond.code yX2_launch cX2_launch 4 (some .int), Cond.static yX3_isString, Cond.initialized RX3, Cond.code yX3_isString cX3_isString 1 (some .boolean)]
def wsX3_fly_r2 : List Cond := [Cond.static yX3_isNumber, Cond.code yX3_isNumber cX3_isNumber 1 (some .boolean), Cond.methodLink RX2 57 yX2_landing, Cond.instanceMethod yX2_landing, Cond.selects RX2 yX2_landing yX2_landing, Cond.code yX2_landing cX2_landing 5 (some .int), Cond.methodLink RX2 121 yX2_isTaken, Cond.instanceMethod yX2_isTaken, Cond.selects RX2 yX2_isTaken yX2_isTaken, Cond.code yX2_isTaken cX2_isTaken 4 (some .boolean), Cond.methodLink RX3 58 yX3_recorded, Cond.instanceMethod yX3_recorded, Cond.selects RX3 yX3_recorded yX3_recorded, Cond.code yX3_recorded cX3_recorded 2 (some .int), Cond.fieldLink RX3 32 "KiteRegisters" "history" "LKiteRegisters$History;", Cond.methodLink RX3 110 yX3_isError, Cond.static yX3_isError, Cond.code yX3_isError cX3_isError 1 (some .boolean), Cond.instanceMethod yX0_add, Cond.initialized RX0, Cond.selects RX0 yX0_add yX0_add, Cond.code yX0_add cX0_add 3 none, Cond.fieldLink RX0 17 "KiteRegisters$History" "next" "I", Cond.fieldLink RX0 21 "KiteRegisters$History" "size" "I"]
def wsX3_fly_r3 : List Cond := [Cond.methodLink RX0 33 Lib.Math.min.name, Cond.static Lib.Math.min.name, Cond.initialized "java/lang/Math", Cond.code Lib.Math.min.name Lib.Math.min.code 2 (some .int), Cond.methodLink RX0 25 yX0_rowAt, Cond.instanceMethod yX0_rowAt, Cond.selects RX0 yX0_rowAt yX0_rowAt, Cond.code yX0_rowAt cX0_rowAt 2 (some (.object "KiteRegisters$Sky")), Cond.fieldLink RX0 11 "KiteRegisters$History" "states" "[LKiteRegisters$Sky;"]
def wsX3_fly : List Cond := .code yX3_fly cX3_fly 3 (some .int) :: ((wsX3_fly_r1 ++ (wsX3_fly_r2 ++ wsX3_fly_r3)) ++ wsX30 ++ wsX20 ++ wsX00)
def wsX3_takeDown_r1 : List Cond := [Cond.fieldLink RX3 16 "KiteRegisters" "before" "LKiteRegisters$Sky;", Cond.fieldLink RX3 10 "KiteRegisters" "sky" "LKiteRegisters$Sky;", Cond.instanceMethod yX2_copyFrom, Cond.initialized RX2, Cond.selects RX2 yX2_copyFrom yX2_copyFrom, Cond.code yX2_copyFrom cX2_copyFrom 3 none, Cond.fieldLink RX2 9 "KiteRegisters$Sky" "numbers" "[I", Cond.fieldLink RX2 15 "KiteRegisters$Sky" "strings" "[I", Cond.fieldLink RX2 18 "KiteRegisters$Sky" "heights" "[I", Cond.fieldLink RX2 21 "KiteRegisters$Sky" "fresh" "[Z", Cond.fieldLink RX2 25 "KiteRegisters$Sky" "readings" "[I", Cond.fieldLink RX2 28 "KiteRegisters$Sky" "cuts" "[I", Cond.fieldLink RX2 31 "KiteRegisters$Sky" "winds" "[I", Cond.fieldLink RX2 34 "KiteRegisters$Sky" "cutsFrom" "[I", Cond.fieldLink RX2 37 "KiteRegisters$Sky" "beatsSoFar" "I", Cond.fieldLink RX2 41 "KiteRegisters$Sky" "readingsSoFar" "I", Cond.fieldLink RX2 44 "KiteRegisters$Sky" "cutHeight" "I", Cond.fieldLink RX2 47 "KiteRegisters$Sky" "sinking" "I", Cond.instanceMethod yX2_remove, Cond.selects RX2 yX2_remove yX2_remove, Cond.code yX2_remove cX2_remove 2 (some .int), Cond.methodLink RX2 61 yX2_isKite, Cond.instanceMethod yX2_isKite, Cond.selects RX2 yX2_isKite yX2_isKite]
def wsX3_takeDown_r2 : List Cond := [Cond.code yX2_isKite cX2_isKite 2 (some .boolean), Cond.methodLink RX3 58 yX3_recorded, Cond.instanceMethod yX3_recorded, Cond.selects RX3 yX3_recorded yX3_recorded, Cond.initialized RX3, Cond.code yX3_recorded cX3_recorded 2 (some .int), Cond.fieldLink RX3 32 "KiteRegisters" "history" "LKiteRegisters$History;", Cond.methodLink RX3 110 yX3_isError, Cond.static yX3_isError, Cond.code yX3_isError cX3_isError 1 (some .boolean), Cond.instanceMethod yX0_add, Cond.initialized RX0, Cond.selects RX0 yX0_add yX0_add, Cond.code yX0_add cX0_add 3 none, Cond.fieldLink RX0 17 "KiteRegisters$History" "next" "I", Cond.fieldLink RX0 21 "KiteRegisters$History" "size" "I", Cond.methodLink RX0 33 Lib.Math.min.name, Cond.static Lib.Math.min.name, Cond.initialized "java/lang/Math", Cond.code Lib.Math.min.name Lib.Math.min.code 2 (some .int), Cond.methodLink RX0 25 yX0_rowAt, Cond.instanceMethod yX0_rowAt, Cond.selects RX0 yX0_rowAt yX0_rowAt, Cond.code yX0_rowAt cX0_rowAt 2 (some (.object "KiteRegisters$Sky"))]
def wsX3_takeDown_r3 : List Cond := [Cond.fieldLink RX0 11 "KiteRegisters$History" "states" "[LKiteRegisters$Sky;"]
def wsX3_takeDown : List Cond := .code yX3_takeDown cX3_takeDown 2 (some .int) :: ((wsX3_takeDown_r1 ++ (wsX3_takeDown_r2 ++ wsX3_takeDown_r3)) ++ wsX30 ++ wsX20 ++ wsX00)
def wsX3_read_r1 : List Cond := [Cond.fieldLink RX3 16 "KiteRegisters" "before" "LKiteRegisters$Sky;", Cond.fieldLink RX3 10 "KiteRegisters" "sky" "LKiteRegisters$Sky;", Cond.instanceMethod yX2_copyFrom, Cond.initialized RX2, Cond.selects RX2 yX2_copyFrom yX2_copyFrom, Cond.code yX2_copyFrom cX2_copyFrom 3 none, Cond.fieldLink RX2 9 "KiteRegisters$Sky" "numbers" "[I", Cond.fieldLink RX2 15 "KiteRegisters$Sky" "strings" "[I", Cond.fieldLink RX2 18 "KiteRegisters$Sky" "heights" "[I", Cond.fieldLink RX2 21 "KiteRegisters$Sky" "fresh" "[Z", Cond.fieldLink RX2 25 "KiteRegisters$Sky" "readings" "[I", Cond.fieldLink RX2 28 "KiteRegisters$Sky" "cuts" "[I", Cond.fieldLink RX2 31 "KiteRegisters$Sky" "winds" "[I", Cond.fieldLink RX2 34 "KiteRegisters$Sky" "cutsFrom" "[I", Cond.fieldLink RX2 37 "KiteRegisters$Sky" "beatsSoFar" "I", Cond.fieldLink RX2 41 "KiteRegisters$Sky" "readingsSoFar" "I", Cond.fieldLink RX2 44 "KiteRegisters$Sky" "cutHeight" "I", Cond.fieldLink RX2 47 "KiteRegisters$Sky" "sinking" "I", Cond.instanceMethod yX2_raise, Cond.selects RX2 yX2_raise yX2_raise, Cond.code yX2_raise cX2_raise 4 (some .int), Cond.methodLink RX2 61 yX2_isKite, Cond.instanceMethod yX2_isKite, Cond.selects RX2 yX2_isKite yX2_isKite]
def wsX3_read_r2 : List Cond := [Cond.code yX2_isKite cX2_isKite 2 (some .boolean), Cond.methodLink RX2 64 yX2_windNow, Cond.instanceMethod yX2_windNow, Cond.selects RX2 yX2_windNow yX2_windNow, Cond.code yX2_windNow cX2_windNow 1 (some .int), Cond.methodLink RX2 140 yJ9_floorMod_7cf53, Cond.static yJ9_floorMod_7cf53, Cond.initialized RJ9, Cond.code yJ9_floorMod_7cf53 cJ9_floorMod_7cf53 3 (some .int), Cond.methodLink RX2 68 yX2_risen, Cond.instanceMethod yX2_risen, Cond.selects RX2 yX2_risen yX2_risen, Cond.code yX2_risen cX2_risen 4 (some .int), Cond.methodLink RX2 57 yX2_landing, Cond.instanceMethod yX2_landing, Cond.selects RX2 yX2_landing yX2_landing, Cond.code yX2_landing cX2_landing 5 (some .int), Cond.methodLink RX2 121 yX2_isTaken, Cond.instanceMethod yX2_isTaken, Cond.selects RX2 yX2_isTaken yX2_isTaken, Cond.code yX2_isTaken cX2_isTaken 4 (some .boolean), Cond.methodLink RX2 72 yX2_countCutFrom, Cond.instanceMethod yX2_countCutFrom, Cond.selects RX2 yX2_countCutFrom yX2_countCutFrom]
def wsX3_read_r3 : List Cond := [Cond.code yX2_countCutFrom cX2_countCutFrom 2 none, Cond.static yX3_isString, Cond.initialized RX3, Cond.code yX3_isString cX3_isString 1 (some .boolean), Cond.methodLink RX2 76 yX2_behind, Cond.static yX2_behind, Cond.code yX2_behind cX2_behind 1 (some .int), Cond.methodLink RX3 58 yX3_recorded, Cond.instanceMethod yX3_recorded, Cond.selects RX3 yX3_recorded yX3_recorded, Cond.code yX3_recorded cX3_recorded 2 (some .int), Cond.fieldLink RX3 32 "KiteRegisters" "history" "LKiteRegisters$History;", Cond.methodLink RX3 110 yX3_isError, Cond.static yX3_isError, Cond.code yX3_isError cX3_isError 1 (some .boolean), Cond.instanceMethod yX0_add, Cond.initialized RX0, Cond.selects RX0 yX0_add yX0_add, Cond.code yX0_add cX0_add 3 none, Cond.fieldLink RX0 17 "KiteRegisters$History" "next" "I", Cond.fieldLink RX0 21 "KiteRegisters$History" "size" "I", Cond.methodLink RX0 33 Lib.Math.min.name, Cond.static Lib.Math.min.name, Cond.initialized "java/lang/Math"]
def wsX3_read_r4 : List Cond := [Cond.code Lib.Math.min.name Lib.Math.min.code 2 (some .int), Cond.methodLink RX0 25 yX0_rowAt, Cond.instanceMethod yX0_rowAt, Cond.selects RX0 yX0_rowAt yX0_rowAt, Cond.code yX0_rowAt cX0_rowAt 2 (some (.object "KiteRegisters$Sky")), Cond.fieldLink RX0 11 "KiteRegisters$History" "states" "[LKiteRegisters$Sky;"]
def wsX3_read : List Cond := .code yX3_read cX3_read 2 (some .int) :: ((wsX3_read_r1 ++ (wsX3_read_r2 ++ (wsX3_read_r3 ++ wsX3_read_r4))) ++ wsX30 ++ wsX20 ++ wsX00)
def wsX3_write_r1 : List Cond := [Cond.fieldLink RX3 16 "KiteRegisters" "before" "LKiteRegisters$Sky;", Cond.fieldLink RX3 10 "KiteRegisters" "sky" "LKiteRegisters$Sky;", Cond.instanceMethod yX2_copyFrom, Cond.initialized RX2, Cond.selects RX2 yX2_copyFrom yX2_copyFrom, Cond.code yX2_copyFrom cX2_copyFrom 3 none, Cond.fieldLink RX2 9 "KiteRegisters$Sky" "numbers" "[I", Cond.fieldLink RX2 15 "KiteRegisters$Sky" "strings" "[I", Cond.fieldLink RX2 18 "KiteRegisters$Sky" "heights" "[I", Cond.fieldLink RX2 21 "KiteRegisters$Sky" "fresh" "[Z", Cond.fieldLink RX2 25 "KiteRegisters$Sky" "readings" "[I", Cond.fieldLink RX2 28 "KiteRegisters$Sky" "cuts" "[I", Cond.fieldLink RX2 31 "KiteRegisters$Sky" "winds" "[I", Cond.fieldLink RX2 34 "KiteRegisters$Sky" "cutsFrom" "[I", Cond.fieldLink RX2 37 "KiteRegisters$Sky" "beatsSoFar" "I", Cond.fieldLink RX2 41 "KiteRegisters$Sky" "readingsSoFar" "I", Cond.fieldLink RX2 44 "KiteRegisters$Sky" "cutHeight" "I", Cond.fieldLink RX2 47 "KiteRegisters$Sky" "sinking" "I", Cond.instanceMethod yX2_renumber, Cond.selects RX2 yX2_renumber yX2_renumber, Cond.code yX2_renumber cX2_renumber 4 (some .int), Cond.methodLink RX2 61 yX2_isKite, Cond.instanceMethod yX2_isKite, Cond.selects RX2 yX2_isKite yX2_isKite]
def wsX3_write_r2 : List Cond := [Cond.code yX2_isKite cX2_isKite 2 (some .boolean), Cond.static yX3_isNumber, Cond.initialized RX3, Cond.code yX3_isNumber cX3_isNumber 1 (some .boolean), Cond.methodLink RX3 58 yX3_recorded, Cond.instanceMethod yX3_recorded, Cond.selects RX3 yX3_recorded yX3_recorded, Cond.code yX3_recorded cX3_recorded 2 (some .int), Cond.fieldLink RX3 32 "KiteRegisters" "history" "LKiteRegisters$History;", Cond.methodLink RX3 110 yX3_isError, Cond.static yX3_isError, Cond.code yX3_isError cX3_isError 1 (some .boolean), Cond.instanceMethod yX0_add, Cond.initialized RX0, Cond.selects RX0 yX0_add yX0_add, Cond.code yX0_add cX0_add 3 none, Cond.fieldLink RX0 17 "KiteRegisters$History" "next" "I", Cond.fieldLink RX0 21 "KiteRegisters$History" "size" "I", Cond.methodLink RX0 33 Lib.Math.min.name, Cond.static Lib.Math.min.name, Cond.initialized "java/lang/Math", Cond.code Lib.Math.min.name Lib.Math.min.code 2 (some .int), Cond.methodLink RX0 25 yX0_rowAt, Cond.instanceMethod yX0_rowAt]
def wsX3_write_r3 : List Cond := [Cond.selects RX0 yX0_rowAt yX0_rowAt, Cond.code yX0_rowAt cX0_rowAt 2 (some (.object "KiteRegisters$Sky")), Cond.fieldLink RX0 11 "KiteRegisters$History" "states" "[LKiteRegisters$Sky;"]
def wsX3_write : List Cond := .code yX3_write cX3_write 3 (some .int) :: ((wsX3_write_r1 ++ (wsX3_write_r2 ++ wsX3_write_r3)) ++ wsX30 ++ wsX20 ++ wsX00)
def wsX3_move_r1 : List Cond := [Cond.fieldLink RX3 16 "KiteRegisters" "before" "LKiteRegisters$Sky;", Cond.fieldLink RX3 10 "KiteRegisters" "sky" "LKiteRegisters$Sky;", Cond.instanceMethod yX2_copyFrom, Cond.initialized RX2, Cond.selects RX2 yX2_copyFrom yX2_copyFrom, Cond.code yX2_copyFrom cX2_copyFrom 3 none, Cond.fieldLink RX2 9 "KiteRegisters$Sky" "numbers" "[I", Cond.fieldLink RX2 15 "KiteRegisters$Sky" "strings" "[I", Cond.fieldLink RX2 18 "KiteRegisters$Sky" "heights" "[I", Cond.fieldLink RX2 21 "KiteRegisters$Sky" "fresh" "[Z", Cond.fieldLink RX2 25 "KiteRegisters$Sky" "readings" "[I", Cond.fieldLink RX2 28 "KiteRegisters$Sky" "cuts" "[I", Cond.fieldLink RX2 31 "KiteRegisters$Sky" "winds" "[I", Cond.fieldLink RX2 34 "KiteRegisters$Sky" "cutsFrom" "[I", Cond.fieldLink RX2 37 "KiteRegisters$Sky" "beatsSoFar" "I", Cond.fieldLink RX2 41 "KiteRegisters$Sky" "readingsSoFar" "I", Cond.fieldLink RX2 44 "KiteRegisters$Sky" "cutHeight" "I", Cond.fieldLink RX2 47 "KiteRegisters$Sky" "sinking" "I", Cond.instanceMethod yX2_shift, Cond.selects RX2 yX2_shift yX2_shift, Cond.code yX2_shift cX2_shift 3 (some .int), Cond.methodLink RX2 61 yX2_isKite, Cond.instanceMethod yX2_isKite, Cond.selects RX2 yX2_isKite yX2_isKite]
def wsX3_move_r2 : List Cond := [Cond.code yX2_isKite cX2_isKite 2 (some .boolean), Cond.static yX3_isString, Cond.initialized RX3, Cond.code yX3_isString cX3_isString 1 (some .boolean), Cond.methodLink RX2 57 yX2_landing, Cond.instanceMethod yX2_landing, Cond.selects RX2 yX2_landing yX2_landing, Cond.code yX2_landing cX2_landing 5 (some .int), Cond.methodLink RX2 121 yX2_isTaken, Cond.instanceMethod yX2_isTaken, Cond.selects RX2 yX2_isTaken yX2_isTaken, Cond.code yX2_isTaken cX2_isTaken 4 (some .boolean), Cond.methodLink RX3 58 yX3_recorded, Cond.instanceMethod yX3_recorded, Cond.selects RX3 yX3_recorded yX3_recorded, Cond.code yX3_recorded cX3_recorded 2 (some .int), Cond.fieldLink RX3 32 "KiteRegisters" "history" "LKiteRegisters$History;", Cond.methodLink RX3 110 yX3_isError, Cond.static yX3_isError, Cond.code yX3_isError cX3_isError 1 (some .boolean), Cond.instanceMethod yX0_add, Cond.initialized RX0, Cond.selects RX0 yX0_add yX0_add, Cond.code yX0_add cX0_add 3 none]
def wsX3_move_r3 : List Cond := [Cond.fieldLink RX0 17 "KiteRegisters$History" "next" "I", Cond.fieldLink RX0 21 "KiteRegisters$History" "size" "I", Cond.methodLink RX0 33 Lib.Math.min.name, Cond.static Lib.Math.min.name, Cond.initialized "java/lang/Math", Cond.code Lib.Math.min.name Lib.Math.min.code 2 (some .int), Cond.methodLink RX0 25 yX0_rowAt, Cond.instanceMethod yX0_rowAt, Cond.selects RX0 yX0_rowAt yX0_rowAt, Cond.code yX0_rowAt cX0_rowAt 2 (some (.object "KiteRegisters$Sky")), Cond.fieldLink RX0 11 "KiteRegisters$History" "states" "[LKiteRegisters$Sky;"]
def wsX3_move : List Cond := .code yX3_move cX3_move 3 (some .int) :: ((wsX3_move_r1 ++ (wsX3_move_r2 ++ wsX3_move_r3)) ++ wsX30 ++ wsX20 ++ wsX00)
def wsX3_beat_r1 : List Cond := [Cond.fieldLink RX3 16 "KiteRegisters" "before" "LKiteRegisters$Sky;", Cond.fieldLink RX3 10 "KiteRegisters" "sky" "LKiteRegisters$Sky;", Cond.instanceMethod yX2_copyFrom, Cond.initialized RX2, Cond.selects RX2 yX2_copyFrom yX2_copyFrom, Cond.code yX2_copyFrom cX2_copyFrom 3 none, Cond.fieldLink RX2 9 "KiteRegisters$Sky" "numbers" "[I", Cond.fieldLink RX2 15 "KiteRegisters$Sky" "strings" "[I", Cond.fieldLink RX2 18 "KiteRegisters$Sky" "heights" "[I", Cond.fieldLink RX2 21 "KiteRegisters$Sky" "fresh" "[Z", Cond.fieldLink RX2 25 "KiteRegisters$Sky" "readings" "[I", Cond.fieldLink RX2 28 "KiteRegisters$Sky" "cuts" "[I", Cond.fieldLink RX2 31 "KiteRegisters$Sky" "winds" "[I", Cond.fieldLink RX2 34 "KiteRegisters$Sky" "cutsFrom" "[I", Cond.fieldLink RX2 37 "KiteRegisters$Sky" "beatsSoFar" "I", Cond.fieldLink RX2 41 "KiteRegisters$Sky" "readingsSoFar" "I", Cond.fieldLink RX2 44 "KiteRegisters$Sky" "cutHeight" "I", Cond.fieldLink RX2 47 "KiteRegisters$Sky" "sinking" "I", Cond.instanceMethod yX2_passBeats, Cond.selects RX2 yX2_passBeats yX2_passBeats, Cond.code yX2_passBeats cX2_passBeats 4 (some .int), Cond.methodLink RX2 80 yX2_sinkString, Cond.instanceMethod yX2_sinkString, Cond.selects RX2 yX2_sinkString yX2_sinkString]
def wsX3_beat_r2 : List Cond := [Cond.code yX2_sinkString cX2_sinkString 6 none, Cond.methodLink RX2 116 Lib.Math.max.name, Cond.static Lib.Math.max.name, Cond.initialized "java/lang/Math", Cond.code Lib.Math.max.name Lib.Math.max.code 2 (some .int), Cond.methodLink RX2 113 yX2_lowestAbove, Cond.instanceMethod yX2_lowestAbove, Cond.selects RX2 yX2_lowestAbove yX2_lowestAbove, Cond.code yX2_lowestAbove cX2_lowestAbove 6 (some .int), Cond.constant RX2 127 (2147483647), Cond.methodLink RX2 61 yX2_isKite, Cond.instanceMethod yX2_isKite, Cond.selects RX2 yX2_isKite yX2_isKite, Cond.code yX2_isKite cX2_isKite 2 (some .boolean), Cond.methodLink RX2 83 yX2_endFreshness, Cond.instanceMethod yX2_endFreshness, Cond.selects RX2 yX2_endFreshness yX2_endFreshness, Cond.code yX2_endFreshness cX2_endFreshness 2 none, Cond.methodLink RX2 86 yX2_beatNow, Cond.instanceMethod yX2_beatNow, Cond.selects RX2 yX2_beatNow yX2_beatNow, Cond.code yX2_beatNow cX2_beatNow 1 (some .int), Cond.methodLink RX2 140 yJ9_floorMod_7cf53, Cond.static yJ9_floorMod_7cf53]
def wsX3_beat_r3 : List Cond := [Cond.initialized RJ9, Cond.code yJ9_floorMod_7cf53 cJ9_floorMod_7cf53 3 (some .int), Cond.methodLink RX3 58 yX3_recorded, Cond.instanceMethod yX3_recorded, Cond.selects RX3 yX3_recorded yX3_recorded, Cond.initialized RX3, Cond.code yX3_recorded cX3_recorded 2 (some .int), Cond.fieldLink RX3 32 "KiteRegisters" "history" "LKiteRegisters$History;", Cond.methodLink RX3 110 yX3_isError, Cond.static yX3_isError, Cond.code yX3_isError cX3_isError 1 (some .boolean), Cond.instanceMethod yX0_add, Cond.initialized RX0, Cond.selects RX0 yX0_add yX0_add, Cond.code yX0_add cX0_add 3 none, Cond.fieldLink RX0 17 "KiteRegisters$History" "next" "I", Cond.fieldLink RX0 21 "KiteRegisters$History" "size" "I", Cond.methodLink RX0 33 Lib.Math.min.name, Cond.static Lib.Math.min.name, Cond.code Lib.Math.min.name Lib.Math.min.code 2 (some .int), Cond.methodLink RX0 25 yX0_rowAt, Cond.instanceMethod yX0_rowAt, Cond.selects RX0 yX0_rowAt yX0_rowAt, Cond.code yX0_rowAt cX0_rowAt 2 (some (.object "KiteRegisters$Sky"))]
def wsX3_beat_r4 : List Cond := [Cond.fieldLink RX0 11 "KiteRegisters$History" "states" "[LKiteRegisters$Sky;"]
def wsX3_beat : List Cond := .code yX3_beat cX3_beat 2 (some .int) :: ((wsX3_beat_r1 ++ (wsX3_beat_r2 ++ (wsX3_beat_r3 ++ wsX3_beat_r4))) ++ wsX30 ++ wsX20 ++ wsX00)
def wsX3_wind_r1 : List Cond := [Cond.fieldLink RX3 16 "KiteRegisters" "before" "LKiteRegisters$Sky;", Cond.fieldLink RX3 10 "KiteRegisters" "sky" "LKiteRegisters$Sky;", Cond.instanceMethod yX2_copyFrom, Cond.initialized RX2, Cond.selects RX2 yX2_copyFrom yX2_copyFrom, Cond.code yX2_copyFrom cX2_copyFrom 3 none, Cond.fieldLink RX2 9 "KiteRegisters$Sky" "numbers" "[I", Cond.fieldLink RX2 15 "KiteRegisters$Sky" "strings" "[I", Cond.fieldLink RX2 18 "KiteRegisters$Sky" "heights" "[I", Cond.fieldLink RX2 21 "KiteRegisters$Sky" "fresh" "[Z", Cond.fieldLink RX2 25 "KiteRegisters$Sky" "readings" "[I", Cond.fieldLink RX2 28 "KiteRegisters$Sky" "cuts" "[I", Cond.fieldLink RX2 31 "KiteRegisters$Sky" "winds" "[I", Cond.fieldLink RX2 34 "KiteRegisters$Sky" "cutsFrom" "[I", Cond.fieldLink RX2 37 "KiteRegisters$Sky" "beatsSoFar" "I", Cond.fieldLink RX2 41 "KiteRegisters$Sky" "readingsSoFar" "I", Cond.fieldLink RX2 44 "KiteRegisters$Sky" "cutHeight" "I", Cond.fieldLink RX2 47 "KiteRegisters$Sky" "sinking" "I", Cond.instanceMethod yX2_changeWind, Cond.selects RX2 yX2_changeWind yX2_changeWind, Cond.code yX2_changeWind cX2_changeWind 4 (some .int), Cond.static yX3_isBeat, Cond.initialized RX3, Cond.code yX3_isBeat cX3_isBeat 1 (some .boolean)]
def wsX3_wind_r2 : List Cond := [Cond.methodLink RX3 58 yX3_recorded, Cond.instanceMethod yX3_recorded, Cond.selects RX3 yX3_recorded yX3_recorded, Cond.code yX3_recorded cX3_recorded 2 (some .int), Cond.fieldLink RX3 32 "KiteRegisters" "history" "LKiteRegisters$History;", Cond.methodLink RX3 110 yX3_isError, Cond.static yX3_isError, Cond.code yX3_isError cX3_isError 1 (some .boolean), Cond.instanceMethod yX0_add, Cond.initialized RX0, Cond.selects RX0 yX0_add yX0_add, Cond.code yX0_add cX0_add 3 none, Cond.fieldLink RX0 17 "KiteRegisters$History" "next" "I", Cond.fieldLink RX0 21 "KiteRegisters$History" "size" "I", Cond.methodLink RX0 33 Lib.Math.min.name, Cond.static Lib.Math.min.name, Cond.initialized "java/lang/Math", Cond.code Lib.Math.min.name Lib.Math.min.code 2 (some .int), Cond.methodLink RX0 25 yX0_rowAt, Cond.instanceMethod yX0_rowAt, Cond.selects RX0 yX0_rowAt yX0_rowAt, Cond.code yX0_rowAt cX0_rowAt 2 (some (.object "KiteRegisters$Sky")), Cond.fieldLink RX0 11 "KiteRegisters$History" "states" "[LKiteRegisters$Sky;"]
def wsX3_wind : List Cond := .code yX3_wind cX3_wind 3 (some .int) :: ((wsX3_wind_r1 ++ wsX3_wind_r2) ++ wsX30 ++ wsX20 ++ wsX00)
def wsX3_set_r1 : List Cond := [Cond.fieldLink RX3 16 "KiteRegisters" "before" "LKiteRegisters$Sky;", Cond.fieldLink RX3 10 "KiteRegisters" "sky" "LKiteRegisters$Sky;", Cond.instanceMethod yX2_copyFrom, Cond.initialized RX2, Cond.selects RX2 yX2_copyFrom yX2_copyFrom, Cond.code yX2_copyFrom cX2_copyFrom 3 none, Cond.fieldLink RX2 9 "KiteRegisters$Sky" "numbers" "[I", Cond.fieldLink RX2 15 "KiteRegisters$Sky" "strings" "[I", Cond.fieldLink RX2 18 "KiteRegisters$Sky" "heights" "[I", Cond.fieldLink RX2 21 "KiteRegisters$Sky" "fresh" "[Z", Cond.fieldLink RX2 25 "KiteRegisters$Sky" "readings" "[I", Cond.fieldLink RX2 28 "KiteRegisters$Sky" "cuts" "[I", Cond.fieldLink RX2 31 "KiteRegisters$Sky" "winds" "[I", Cond.fieldLink RX2 34 "KiteRegisters$Sky" "cutsFrom" "[I", Cond.fieldLink RX2 37 "KiteRegisters$Sky" "beatsSoFar" "I", Cond.fieldLink RX2 41 "KiteRegisters$Sky" "readingsSoFar" "I", Cond.fieldLink RX2 44 "KiteRegisters$Sky" "cutHeight" "I", Cond.fieldLink RX2 47 "KiteRegisters$Sky" "sinking" "I", Cond.instanceMethod yX2_changeSetting, Cond.selects RX2 yX2_changeSetting yX2_changeSetting, Cond.code yX2_changeSetting cX2_changeSetting 3 (some .int), Cond.methodLink RX2 92 yX2_changeCut, Cond.instanceMethod yX2_changeCut, Cond.selects RX2 yX2_changeCut yX2_changeCut]
def wsX3_set_r2 : List Cond := [Cond.code yX2_changeCut cX2_changeCut 3 (some .int), Cond.methodLink RX2 95 yX2_changeSinking, Cond.instanceMethod yX2_changeSinking, Cond.selects RX2 yX2_changeSinking yX2_changeSinking, Cond.code yX2_changeSinking cX2_changeSinking 3 (some .int), Cond.methodLink RX3 58 yX3_recorded, Cond.instanceMethod yX3_recorded, Cond.selects RX3 yX3_recorded yX3_recorded, Cond.initialized RX3, Cond.code yX3_recorded cX3_recorded 2 (some .int), Cond.fieldLink RX3 32 "KiteRegisters" "history" "LKiteRegisters$History;", Cond.methodLink RX3 110 yX3_isError, Cond.static yX3_isError, Cond.code yX3_isError cX3_isError 1 (some .boolean), Cond.instanceMethod yX0_add, Cond.initialized RX0, Cond.selects RX0 yX0_add yX0_add, Cond.code yX0_add cX0_add 3 none, Cond.fieldLink RX0 17 "KiteRegisters$History" "next" "I", Cond.fieldLink RX0 21 "KiteRegisters$History" "size" "I", Cond.methodLink RX0 33 Lib.Math.min.name, Cond.static Lib.Math.min.name, Cond.initialized "java/lang/Math", Cond.code Lib.Math.min.name Lib.Math.min.code 2 (some .int)]
def wsX3_set_r3 : List Cond := [Cond.methodLink RX0 25 yX0_rowAt, Cond.instanceMethod yX0_rowAt, Cond.selects RX0 yX0_rowAt yX0_rowAt, Cond.code yX0_rowAt cX0_rowAt 2 (some (.object "KiteRegisters$Sky")), Cond.fieldLink RX0 11 "KiteRegisters$History" "states" "[LKiteRegisters$Sky;"]
def wsX3_set : List Cond := .code yX3_set cX3_set 3 (some .int) :: ((wsX3_set_r1 ++ (wsX3_set_r2 ++ wsX3_set_r3)) ++ wsX30 ++ wsX20 ++ wsX00)
def wsX3_type : List Cond := .code yX3_type cX3_type 2 (some .int) :: ([.fieldLink RX3 39 "KiteRegisters" "script" "LKiteRegisters$Script;", .instanceMethod yX1_append, .initialized RX1, .selects RX1 yX1_append yX1_append, .code yX1_append cX1_append 2 (some .int), .fieldLink RX1 15 "KiteRegisters$Script" "length" "I", .fieldLink RX1 9 "KiteRegisters$Script" "signs" "[C"] ++ wsX30 ++ wsX10)
def wsX3_clearText : List Cond := .code yX3_clearText cX3_clearText 1 (some .int) :: ([.fieldLink RX3 39 "KiteRegisters" "script" "LKiteRegisters$Script;", .instanceMethod yX1_empty, .initialized RX1, .selects RX1 yX1_empty yX1_empty, .code yX1_empty cX1_empty 2 (some .int), .fieldLink RX1 15 "KiteRegisters$Script" "length" "I"] ++ wsX30 ++ wsX10)
def wsX3_perform_r1 : List Cond := [Cond.fieldLink RX3 39 "KiteRegisters" "script" "LKiteRegisters$Script;", Cond.fieldLink RX3 16 "KiteRegisters" "before" "LKiteRegisters$Sky;", Cond.fieldLink RX3 10 "KiteRegisters" "sky" "LKiteRegisters$Sky;", Cond.fieldLink RX3 43 "KiteRegisters" "stopCommand" "I", Cond.fieldLink RX3 47 "KiteRegisters" "stopError" "I", Cond.instanceMethod yX1_scan, Cond.initialized RX1, Cond.selects RX1 yX1_scan yX1_scan, Cond.code yX1_scan cX1_scan 2 (some .int), Cond.fieldLink RX1 32 "KiteRegisters$Script" "place" "I", Cond.fieldLink RX1 29 "KiteRegisters$Script" "commands" "I", Cond.methodLink RX1 45 yX1_scanCommand, Cond.instanceMethod yX1_scanCommand, Cond.selects RX1 yX1_scanCommand yX1_scanCommand, Cond.code yX1_scanCommand cX1_scanCommand 2 (some .boolean), Cond.fieldLink RX1 19 "KiteRegisters$Script" "verbs" "[I", Cond.fieldLink RX1 35 "KiteRegisters$Script" "verb" "I", Cond.fieldLink RX1 23 "KiteRegisters$Script" "firsts" "[I", Cond.fieldLink RX1 38 "KiteRegisters$Script" "number" "I", Cond.fieldLink RX1 26 "KiteRegisters$Script" "seconds" "[I", Cond.methodLink RX1 57 yX1_scanWord, Cond.instanceMethod yX1_scanWord, Cond.selects RX1 yX1_scanWord yX1_scanWord, Cond.code yX1_scanWord cX1_scanWord 5 (some .boolean)]
def wsX3_perform_r2 : List Cond := [Cond.methodLink RX1 79 Lib.Math.max.name, Cond.static Lib.Math.max.name, Cond.initialized "java/lang/Math", Cond.code Lib.Math.max.name Lib.Math.max.code 2 (some .int), Cond.methodLink RX1 66 yX1_wordOf, Cond.static yX1_wordOf, Cond.code yX1_wordOf cX1_wordOf 1 (some (.object "java/lang/String")), Cond.methodLink RX1 70 yX1_charactersAlike, Cond.instanceMethod yX1_charactersAlike, Cond.selects RX1 yX1_charactersAlike yX1_charactersAlike, Cond.code yX1_charactersAlike cX1_charactersAlike 3 (some .int), Cond.methodLink RX1 74 yJ0_length_8abf5, Cond.instanceMethod yJ0_length_8abf5, Cond.selects RJ0 yJ0_length_8abf5 yJ0_length_8abf5, Cond.initialized RJ0, Cond.code yJ0_length_8abf5 cJ0_length_8abf5 1 (some .int), Cond.fieldLink RJ0 9 "java/lang/String" "value" "[B", Cond.methodLink RJ0 335 yJ0_coder_7d493, Cond.instanceMethod yJ0_coder_7d493, Cond.selects RJ0 yJ0_coder_7d493 yJ0_coder_7d493, Cond.code yJ0_coder_7d493 cJ0_coder_7d493 1 (some .byte), Cond.fieldLink RJ0 38 "java/lang/String" "COMPACT_STRINGS" "Z", Cond.fieldLink RJ0 15 "java/lang/String" "coder" "B", Cond.methodLink RX1 49 yX1_signAt]
def wsX3_perform_r3 : List Cond := [Cond.instanceMethod yX1_signAt, Cond.selects RX1 yX1_signAt yX1_signAt, Cond.code yX1_signAt cX1_signAt 2 (some .int), Cond.fieldLink RX1 15 "KiteRegisters$Script" "length" "I", Cond.fieldLink RX1 9 "KiteRegisters$Script" "signs" "[C", Cond.methodLink RX1 85 yJ0_charAt_5068e, Cond.instanceMethod yJ0_charAt_5068e, Cond.selects RJ0 yJ0_charAt_5068e yJ0_charAt_5068e, Cond.code yJ0_charAt_5068e cJ0_charAt_5068e 2 (some .char), Cond.methodLink RJ0 492 yJ0_isLatin1_aae02, Cond.instanceMethod yJ0_isLatin1_aae02, Cond.selects RJ0 yJ0_isLatin1_aae02 yJ0_isLatin1_aae02, Cond.code yJ0_isLatin1_aae02 cJ0_isLatin1_aae02 1 (some .boolean), Cond.methodLink RJ0 495 yJ1_charAt_3b067, Cond.static yJ1_charAt_3b067, Cond.initialized RJ1, Cond.code yJ1_charAt_3b067 cJ1_charAt_3b067 2 (some .char), Cond.methodLink RJ1 9 yJ0_checkIndex_df160, Cond.static yJ0_checkIndex_df160, Cond.code yJ0_checkIndex_df160 cJ0_checkIndex_df160 2 none, Cond.fieldLink RJ0 1053 "jdk/internal/util/Preconditions" "SIOOBE_FORMATTER" "Ljava/util/function/BiFunction;", Cond.methodLink RJ0 1059 yJ3_checkIndex_8e157, Cond.static yJ3_checkIndex_8e157, Cond.initialized RJ3]
def wsX3_perform_r4 : List Cond := [Cond.code yJ3_checkIndex_8e157 cJ3_checkIndex_8e157 3 (some .int), Cond.methodLink RJ0 498 yJ2_charAt_3b067, Cond.static yJ2_charAt_3b067, Cond.initialized RJ2, Cond.code yJ2_charAt_3b067 cJ2_charAt_3b067 2 (some .char), Cond.methodLink RJ2 67 yJ2_checkIndex_2214a, Cond.static yJ2_checkIndex_2214a, Cond.code yJ2_checkIndex_2214a cJ2_checkIndex_2214a 2 none, Cond.methodLink RJ2 48 yJ2_length_9d52b, Cond.static yJ2_length_9d52b, Cond.code yJ2_length_9d52b cJ2_length_9d52b 1 (some .int), Cond.methodLink RJ2 414 yJ0_checkIndex_df160, Cond.methodLink RJ2 71 yJ2_getChar_3b067, Cond.static yJ2_getChar_3b067, Cond.code yJ2_getChar_3b067 cJ2_getChar_3b067 2 (some .char), Cond.fieldLink RJ2 44 "java/lang/StringUTF16" "$assertionsDisabled" "Z", Cond.fieldLink RJ2 59 "java/lang/StringUTF16" "HI_BYTE_SHIFT" "I", Cond.fieldLink RJ2 63 "java/lang/StringUTF16" "LO_BYTE_SHIFT" "I", Cond.methodLink RX1 60 yX1_scanFirst, Cond.instanceMethod yX1_scanFirst, Cond.selects RX1 yX1_scanFirst yX1_scanFirst, Cond.code yX1_scanFirst cX1_scanFirst 1 (some .boolean), Cond.methodLink RX1 99 yX1_scanNumber, Cond.instanceMethod yX1_scanNumber]
def wsX3_perform_r5 : List Cond := [Cond.selects RX1 yX1_scanNumber yX1_scanNumber, Cond.code yX1_scanNumber cX1_scanNumber 8 (some .boolean), Cond.methodLink RX1 53 yX1_skip, Cond.instanceMethod yX1_skip, Cond.selects RX1 yX1_skip yX1_skip, Cond.code yX1_skip cX1_skip 2 (some .boolean), Cond.methodLink RX1 103 yX1_digitAt, Cond.instanceMethod yX1_digitAt, Cond.selects RX1 yX1_digitAt yX1_digitAt, Cond.code yX1_digitAt cX1_digitAt 3 (some .int), Cond.methodLink RX1 63 yX1_scanSecond, Cond.instanceMethod yX1_scanSecond, Cond.selects RX1 yX1_scanSecond yX1_scanSecond, Cond.code yX1_scanSecond cX1_scanSecond 1 (some .boolean), Cond.instanceMethod yX2_copyFrom, Cond.initialized RX2, Cond.selects RX2 yX2_copyFrom yX2_copyFrom, Cond.code yX2_copyFrom cX2_copyFrom 3 none, Cond.fieldLink RX2 9 "KiteRegisters$Sky" "numbers" "[I", Cond.fieldLink RX2 15 "KiteRegisters$Sky" "strings" "[I", Cond.fieldLink RX2 18 "KiteRegisters$Sky" "heights" "[I", Cond.fieldLink RX2 21 "KiteRegisters$Sky" "fresh" "[Z", Cond.fieldLink RX2 25 "KiteRegisters$Sky" "readings" "[I", Cond.fieldLink RX2 28 "KiteRegisters$Sky" "cuts" "[I"]
def wsX3_perform_r6 : List Cond := [Cond.fieldLink RX2 31 "KiteRegisters$Sky" "winds" "[I", Cond.fieldLink RX2 34 "KiteRegisters$Sky" "cutsFrom" "[I", Cond.fieldLink RX2 37 "KiteRegisters$Sky" "beatsSoFar" "I", Cond.fieldLink RX2 41 "KiteRegisters$Sky" "readingsSoFar" "I", Cond.fieldLink RX2 44 "KiteRegisters$Sky" "cutHeight" "I", Cond.fieldLink RX2 47 "KiteRegisters$Sky" "sinking" "I", Cond.instanceMethod yX1_verbOf, Cond.selects RX1 yX1_verbOf yX1_verbOf, Cond.code yX1_verbOf cX1_verbOf 2 (some .int), Cond.methodLink RX1 41 yX1_isCommand, Cond.instanceMethod yX1_isCommand, Cond.selects RX1 yX1_isCommand yX1_isCommand, Cond.code yX1_isCommand cX1_isCommand 2 (some .boolean), Cond.instanceMethod yX1_firstOf, Cond.selects RX1 yX1_firstOf yX1_firstOf, Cond.code yX1_firstOf cX1_firstOf 2 (some .int), Cond.instanceMethod yX1_secondOf, Cond.selects RX1 yX1_secondOf yX1_secondOf, Cond.code yX1_secondOf cX1_secondOf 2 (some .int), Cond.instanceMethod yX2_carryOut, Cond.selects RX2 yX2_carryOut yX2_carryOut, Cond.code yX2_carryOut cX2_carryOut 4 (some .int), Cond.methodLink RX2 98 yX2_launch, Cond.instanceMethod yX2_launch]
def wsX3_perform_r7 : List Cond := [Cond.selects RX2 yX2_launch yX2_launch, Cond.code yX2_launch cX2_launch 4 (some .int), Cond.static yX3_isString, Cond.initialized RX3, Cond.code yX3_isString cX3_isString 1 (some .boolean), Cond.static yX3_isNumber, Cond.code yX3_isNumber cX3_isNumber 1 (some .boolean), Cond.methodLink RX2 57 yX2_landing, Cond.instanceMethod yX2_landing, Cond.selects RX2 yX2_landing yX2_landing, Cond.code yX2_landing cX2_landing 5 (some .int), Cond.methodLink RX2 121 yX2_isTaken, Cond.instanceMethod yX2_isTaken, Cond.selects RX2 yX2_isTaken yX2_isTaken, Cond.code yX2_isTaken cX2_isTaken 4 (some .boolean), Cond.methodLink RX2 101 yX2_raise, Cond.instanceMethod yX2_raise, Cond.selects RX2 yX2_raise yX2_raise, Cond.code yX2_raise cX2_raise 4 (some .int), Cond.methodLink RX2 61 yX2_isKite, Cond.instanceMethod yX2_isKite, Cond.selects RX2 yX2_isKite yX2_isKite, Cond.code yX2_isKite cX2_isKite 2 (some .boolean), Cond.methodLink RX2 64 yX2_windNow]
def wsX3_perform_r8 : List Cond := [Cond.instanceMethod yX2_windNow, Cond.selects RX2 yX2_windNow yX2_windNow, Cond.code yX2_windNow cX2_windNow 1 (some .int), Cond.methodLink RX2 140 yJ9_floorMod_7cf53, Cond.static yJ9_floorMod_7cf53, Cond.initialized RJ9, Cond.code yJ9_floorMod_7cf53 cJ9_floorMod_7cf53 3 (some .int), Cond.methodLink RX2 68 yX2_risen, Cond.instanceMethod yX2_risen, Cond.selects RX2 yX2_risen yX2_risen, Cond.code yX2_risen cX2_risen 4 (some .int), Cond.methodLink RX2 72 yX2_countCutFrom, Cond.instanceMethod yX2_countCutFrom, Cond.selects RX2 yX2_countCutFrom yX2_countCutFrom, Cond.code yX2_countCutFrom cX2_countCutFrom 2 none, Cond.methodLink RX2 76 yX2_behind, Cond.static yX2_behind, Cond.code yX2_behind cX2_behind 1 (some .int), Cond.methodLink RX2 104 yX2_renumber, Cond.instanceMethod yX2_renumber, Cond.selects RX2 yX2_renumber yX2_renumber, Cond.code yX2_renumber cX2_renumber 4 (some .int), Cond.methodLink RX2 107 yX2_passBeats, Cond.instanceMethod yX2_passBeats]
def wsX3_perform_r9 : List Cond := [Cond.selects RX2 yX2_passBeats yX2_passBeats, Cond.code yX2_passBeats cX2_passBeats 4 (some .int), Cond.methodLink RX2 80 yX2_sinkString, Cond.instanceMethod yX2_sinkString, Cond.selects RX2 yX2_sinkString yX2_sinkString, Cond.code yX2_sinkString cX2_sinkString 6 none, Cond.methodLink RX2 116 Lib.Math.max.name, Cond.methodLink RX2 113 yX2_lowestAbove, Cond.instanceMethod yX2_lowestAbove, Cond.selects RX2 yX2_lowestAbove yX2_lowestAbove, Cond.code yX2_lowestAbove cX2_lowestAbove 6 (some .int), Cond.constant RX2 127 (2147483647), Cond.methodLink RX2 83 yX2_endFreshness, Cond.instanceMethod yX2_endFreshness, Cond.selects RX2 yX2_endFreshness yX2_endFreshness, Cond.code yX2_endFreshness cX2_endFreshness 2 none, Cond.methodLink RX2 86 yX2_beatNow, Cond.instanceMethod yX2_beatNow, Cond.selects RX2 yX2_beatNow yX2_beatNow, Cond.code yX2_beatNow cX2_beatNow 1 (some .int), Cond.methodLink RX2 110 yX2_changeWind, Cond.instanceMethod yX2_changeWind, Cond.selects RX2 yX2_changeWind yX2_changeWind, Cond.code yX2_changeWind cX2_changeWind 4 (some .int)]
def wsX3_perform_r10 : List Cond := [Cond.static yX3_isBeat, Cond.code yX3_isBeat cX3_isBeat 1 (some .boolean), Cond.methodLink RX3 110 yX3_isError, Cond.static yX3_isError, Cond.code yX3_isError cX3_isError 1 (some .boolean), Cond.methodLink RX3 58 yX3_recorded, Cond.instanceMethod yX3_recorded, Cond.selects RX3 yX3_recorded yX3_recorded, Cond.code yX3_recorded cX3_recorded 2 (some .int), Cond.fieldLink RX3 32 "KiteRegisters" "history" "LKiteRegisters$History;", Cond.instanceMethod yX0_add, Cond.initialized RX0, Cond.selects RX0 yX0_add yX0_add, Cond.code yX0_add cX0_add 3 none, Cond.fieldLink RX0 17 "KiteRegisters$History" "next" "I", Cond.fieldLink RX0 21 "KiteRegisters$History" "size" "I", Cond.methodLink RX0 33 Lib.Math.min.name, Cond.static Lib.Math.min.name, Cond.code Lib.Math.min.name Lib.Math.min.code 2 (some .int), Cond.methodLink RX0 25 yX0_rowAt, Cond.instanceMethod yX0_rowAt, Cond.selects RX0 yX0_rowAt yX0_rowAt, Cond.code yX0_rowAt cX0_rowAt 2 (some (.object "KiteRegisters$Sky")), Cond.fieldLink RX0 11 "KiteRegisters$History" "states" "[LKiteRegisters$Sky;"]
def wsX3_perform : List Cond := .code yX3_perform cX3_perform 4 (some .int) :: ((wsX3_perform_r1 ++ (wsX3_perform_r2 ++ (wsX3_perform_r3 ++ (wsX3_perform_r4 ++ (wsX3_perform_r5 ++ (wsX3_perform_r6 ++ (wsX3_perform_r7 ++ (wsX3_perform_r8 ++ (wsX3_perform_r9 ++ wsX3_perform_r10))))))))) ++ wsX30 ++ wsX10 ++ wsX20 ++ wsX00)
def wsX3_stopped : List Cond := .code yX3_stopped cX3_stopped 2 (some .int) :: ([.fieldLink RX3 43 "KiteRegisters" "stopCommand" "I", .fieldLink RX3 47 "KiteRegisters" "stopError" "I"] ++ wsX30)
def wsX3_undo_r1 : List Cond := [Cond.fieldLink RX3 32 "KiteRegisters" "history" "LKiteRegisters$History;", Cond.fieldLink RX3 10 "KiteRegisters" "sky" "LKiteRegisters$Sky;", Cond.instanceMethod yX0_takeLatest, Cond.initialized RX0, Cond.selects RX0 yX0_takeLatest yX0_takeLatest, Cond.code yX0_takeLatest cX0_takeLatest 2 (some .int), Cond.fieldLink RX0 21 "KiteRegisters$History" "size" "I", Cond.fieldLink RX0 17 "KiteRegisters$History" "next" "I", Cond.methodLink RX0 25 yX0_rowAt, Cond.instanceMethod yX0_rowAt, Cond.selects RX0 yX0_rowAt yX0_rowAt, Cond.code yX0_rowAt cX0_rowAt 2 (some (.object "KiteRegisters$Sky")), Cond.fieldLink RX0 11 "KiteRegisters$History" "states" "[LKiteRegisters$Sky;", Cond.instanceMethod yX2_copyFrom, Cond.initialized RX2, Cond.selects RX2 yX2_copyFrom yX2_copyFrom, Cond.code yX2_copyFrom cX2_copyFrom 3 none, Cond.fieldLink RX2 9 "KiteRegisters$Sky" "numbers" "[I", Cond.fieldLink RX2 15 "KiteRegisters$Sky" "strings" "[I", Cond.fieldLink RX2 18 "KiteRegisters$Sky" "heights" "[I", Cond.fieldLink RX2 21 "KiteRegisters$Sky" "fresh" "[Z", Cond.fieldLink RX2 25 "KiteRegisters$Sky" "readings" "[I", Cond.fieldLink RX2 28 "KiteRegisters$Sky" "cuts" "[I", Cond.fieldLink RX2 31 "KiteRegisters$Sky" "winds" "[I"]
def wsX3_undo_r2 : List Cond := [Cond.fieldLink RX2 34 "KiteRegisters$Sky" "cutsFrom" "[I", Cond.fieldLink RX2 37 "KiteRegisters$Sky" "beatsSoFar" "I", Cond.fieldLink RX2 41 "KiteRegisters$Sky" "readingsSoFar" "I", Cond.fieldLink RX2 44 "KiteRegisters$Sky" "cutHeight" "I", Cond.fieldLink RX2 47 "KiteRegisters$Sky" "sinking" "I"]
def wsX3_undo : List Cond := .code yX3_undo cX3_undo 1 (some .int) :: ((wsX3_undo_r1 ++ wsX3_undo_r2) ++ wsX30 ++ wsX00 ++ wsX20)
def wsX3_keep : List Cond := .code yX3_keep cX3_keep 1 (some .int) :: ([.fieldLink RX3 22 "KiteRegisters" "snapshot" "LKiteRegisters$Sky;", .fieldLink RX3 10 "KiteRegisters" "sky" "LKiteRegisters$Sky;", .fieldLink RX3 25 "KiteRegisters" "hasSnapshot" "Z", .instanceMethod yX2_copyFrom, .initialized RX2, .selects RX2 yX2_copyFrom yX2_copyFrom, .code yX2_copyFrom cX2_copyFrom 3 none, .fieldLink RX2 9 "KiteRegisters$Sky" "numbers" "[I", .fieldLink RX2 15 "KiteRegisters$Sky" "strings" "[I", .fieldLink RX2 18 "KiteRegisters$Sky" "heights" "[I", .fieldLink RX2 21 "KiteRegisters$Sky" "fresh" "[Z", .fieldLink RX2 25 "KiteRegisters$Sky" "readings" "[I", .fieldLink RX2 28 "KiteRegisters$Sky" "cuts" "[I", .fieldLink RX2 31 "KiteRegisters$Sky" "winds" "[I", .fieldLink RX2 34 "KiteRegisters$Sky" "cutsFrom" "[I", .fieldLink RX2 37 "KiteRegisters$Sky" "beatsSoFar" "I", .fieldLink RX2 41 "KiteRegisters$Sky" "readingsSoFar" "I", .fieldLink RX2 44 "KiteRegisters$Sky" "cutHeight" "I", .fieldLink RX2 47 "KiteRegisters$Sky" "sinking" "I", .instanceMethod yX2_kitesInAll, .selects RX2 yX2_kitesInAll yX2_kitesInAll, .code yX2_kitesInAll cX2_kitesInAll 3 (some .int)] ++ wsX30 ++ wsX20)
def wsX3_restore_r1 : List Cond := [Cond.fieldLink RX3 25 "KiteRegisters" "hasSnapshot" "Z", Cond.fieldLink RX3 16 "KiteRegisters" "before" "LKiteRegisters$Sky;", Cond.fieldLink RX3 10 "KiteRegisters" "sky" "LKiteRegisters$Sky;", Cond.fieldLink RX3 22 "KiteRegisters" "snapshot" "LKiteRegisters$Sky;", Cond.instanceMethod yX2_copyFrom, Cond.initialized RX2, Cond.selects RX2 yX2_copyFrom yX2_copyFrom, Cond.code yX2_copyFrom cX2_copyFrom 3 none, Cond.fieldLink RX2 9 "KiteRegisters$Sky" "numbers" "[I", Cond.fieldLink RX2 15 "KiteRegisters$Sky" "strings" "[I", Cond.fieldLink RX2 18 "KiteRegisters$Sky" "heights" "[I", Cond.fieldLink RX2 21 "KiteRegisters$Sky" "fresh" "[Z", Cond.fieldLink RX2 25 "KiteRegisters$Sky" "readings" "[I", Cond.fieldLink RX2 28 "KiteRegisters$Sky" "cuts" "[I", Cond.fieldLink RX2 31 "KiteRegisters$Sky" "winds" "[I", Cond.fieldLink RX2 34 "KiteRegisters$Sky" "cutsFrom" "[I", Cond.fieldLink RX2 37 "KiteRegisters$Sky" "beatsSoFar" "I", Cond.fieldLink RX2 41 "KiteRegisters$Sky" "readingsSoFar" "I", Cond.fieldLink RX2 44 "KiteRegisters$Sky" "cutHeight" "I", Cond.fieldLink RX2 47 "KiteRegisters$Sky" "sinking" "I", Cond.instanceMethod yX2_kitesInAll, Cond.selects RX2 yX2_kitesInAll yX2_kitesInAll, Cond.code yX2_kitesInAll cX2_kitesInAll 3 (some .int), Cond.methodLink RX3 58 yX3_recorded]
def wsX3_restore_r2 : List Cond := [Cond.instanceMethod yX3_recorded, Cond.selects RX3 yX3_recorded yX3_recorded, Cond.initialized RX3, Cond.code yX3_recorded cX3_recorded 2 (some .int), Cond.fieldLink RX3 32 "KiteRegisters" "history" "LKiteRegisters$History;", Cond.methodLink RX3 110 yX3_isError, Cond.static yX3_isError, Cond.code yX3_isError cX3_isError 1 (some .boolean), Cond.instanceMethod yX0_add, Cond.initialized RX0, Cond.selects RX0 yX0_add yX0_add, Cond.code yX0_add cX0_add 3 none, Cond.fieldLink RX0 17 "KiteRegisters$History" "next" "I", Cond.fieldLink RX0 21 "KiteRegisters$History" "size" "I", Cond.methodLink RX0 33 Lib.Math.min.name, Cond.static Lib.Math.min.name, Cond.initialized "java/lang/Math", Cond.code Lib.Math.min.name Lib.Math.min.code 2 (some .int), Cond.methodLink RX0 25 yX0_rowAt, Cond.instanceMethod yX0_rowAt, Cond.selects RX0 yX0_rowAt yX0_rowAt, Cond.code yX0_rowAt cX0_rowAt 2 (some (.object "KiteRegisters$Sky")), Cond.fieldLink RX0 11 "KiteRegisters$History" "states" "[LKiteRegisters$Sky;"]
def wsX3_restore : List Cond := .code yX3_restore cX3_restore 1 (some .int) :: ((wsX3_restore_r1 ++ wsX3_restore_r2) ++ wsX30 ++ wsX20 ++ wsX00)
def wsX3_kite_r1 : List Cond := [Cond.fieldLink RX3 10 "KiteRegisters" "sky" "LKiteRegisters$Sky;", Cond.instanceMethod yX2_aboutKite, Cond.initialized RX2, Cond.selects RX2 yX2_aboutKite yX2_aboutKite, Cond.code yX2_aboutKite cX2_aboutKite 3 (some .int), Cond.fieldLink RX2 9 "KiteRegisters$Sky" "numbers" "[I", Cond.fieldLink RX2 15 "KiteRegisters$Sky" "strings" "[I", Cond.fieldLink RX2 18 "KiteRegisters$Sky" "heights" "[I", Cond.fieldLink RX2 21 "KiteRegisters$Sky" "fresh" "[Z", Cond.fieldLink RX2 25 "KiteRegisters$Sky" "readings" "[I", Cond.fieldLink RX2 28 "KiteRegisters$Sky" "cuts" "[I", Cond.constant RX2 127 (2147483647), Cond.methodLink RX2 61 yX2_isKite, Cond.instanceMethod yX2_isKite, Cond.selects RX2 yX2_isKite yX2_isKite, Cond.code yX2_isKite cX2_isKite 2 (some .boolean), Cond.methodLink RX2 128 yX2_kitesBetween, Cond.instanceMethod yX2_kitesBetween, Cond.selects RX2 yX2_kitesBetween yX2_kitesBetween, Cond.code yX2_kitesBetween cX2_kitesBetween 6 (some .int), Cond.methodLink RX2 113 yX2_lowestAbove, Cond.instanceMethod yX2_lowestAbove, Cond.selects RX2 yX2_lowestAbove yX2_lowestAbove, Cond.code yX2_lowestAbove cX2_lowestAbove 6 (some .int)]
def wsX3_kite_r2 : List Cond := [Cond.methodLink RX2 131 yX2_highestBelow, Cond.instanceMethod yX2_highestBelow, Cond.selects RX2 yX2_highestBelow yX2_highestBelow, Cond.code yX2_highestBelow cX2_highestBelow 6 (some .int)]
def wsX3_kite : List Cond := .code yX3_kite cX3_kite 3 (some .int) :: ((wsX3_kite_r1 ++ wsX3_kite_r2) ++ wsX30 ++ wsX20)
def wsX3_string_r1 : List Cond := [Cond.fieldLink RX3 10 "KiteRegisters" "sky" "LKiteRegisters$Sky;", Cond.instanceMethod yX2_aboutString, Cond.initialized RX2, Cond.selects RX2 yX2_aboutString yX2_aboutString, Cond.code yX2_aboutString cX2_aboutString 3 (some .int), Cond.constant RX2 127 (2147483647), Cond.fieldLink RX2 34 "KiteRegisters$Sky" "cutsFrom" "[I", Cond.static yX3_isString, Cond.initialized RX3, Cond.code yX3_isString cX3_isString 1 (some .boolean), Cond.methodLink RX2 128 yX2_kitesBetween, Cond.instanceMethod yX2_kitesBetween, Cond.selects RX2 yX2_kitesBetween yX2_kitesBetween, Cond.code yX2_kitesBetween cX2_kitesBetween 6 (some .int), Cond.fieldLink RX2 15 "KiteRegisters$Sky" "strings" "[I", Cond.fieldLink RX2 18 "KiteRegisters$Sky" "heights" "[I", Cond.methodLink RX2 134 yX2_weightsOn, Cond.instanceMethod yX2_weightsOn, Cond.selects RX2 yX2_weightsOn yX2_weightsOn, Cond.code yX2_weightsOn cX2_weightsOn 4 (some .int), Cond.methodLink RX2 131 yX2_highestBelow, Cond.instanceMethod yX2_highestBelow, Cond.selects RX2 yX2_highestBelow yX2_highestBelow, Cond.code yX2_highestBelow cX2_highestBelow 6 (some .int)]
def wsX3_string_r2 : List Cond := [Cond.methodLink RX2 113 yX2_lowestAbove, Cond.instanceMethod yX2_lowestAbove, Cond.selects RX2 yX2_lowestAbove yX2_lowestAbove, Cond.code yX2_lowestAbove cX2_lowestAbove 6 (some .int), Cond.methodLink RX2 137 yX2_numbersOn, Cond.instanceMethod yX2_numbersOn, Cond.selects RX2 yX2_numbersOn yX2_numbersOn, Cond.code yX2_numbersOn cX2_numbersOn 4 (some .int), Cond.fieldLink RX2 9 "KiteRegisters$Sky" "numbers" "[I"]
def wsX3_string : List Cond := .code yX3_string cX3_string 3 (some .int) :: ((wsX3_string_r1 ++ wsX3_string_r2) ++ wsX30 ++ wsX20)
def wsX3_drawn : List Cond := .code yX3_drawn cX3_drawn 3 (some .int) :: ([.fieldLink RX3 10 "KiteRegisters" "sky" "LKiteRegisters$Sky;", .instanceMethod yX2_kiteAtPoint, .initialized RX2, .selects RX2 yX2_kiteAtPoint yX2_kiteAtPoint, .code yX2_kiteAtPoint cX2_kiteAtPoint 5 (some .int), .fieldLink RX2 15 "KiteRegisters$Sky" "strings" "[I", .fieldLink RX2 18 "KiteRegisters$Sky" "heights" "[I", .static yX3_isString, .initialized RX3, .code yX3_isString cX3_isString 1 (some .boolean)] ++ wsX30 ++ wsX20)
def wsX3_share : List Cond := .code yX3_share cX3_share 2 (some .int) :: ([.fieldLink RX3 10 "KiteRegisters" "sky" "LKiteRegisters$Sky;", .instanceMethod yX2_thousandthsOf, .initialized RX2, .selects RX2 yX2_thousandthsOf yX2_thousandthsOf, .code yX2_thousandthsOf cX2_thousandthsOf 3 (some .int), .fieldLink RX2 15 "KiteRegisters$Sky" "strings" "[I", .fieldLink RX2 18 "KiteRegisters$Sky" "heights" "[I", .methodLink RX2 61 yX2_isKite, .instanceMethod yX2_isKite, .selects RX2 yX2_isKite yX2_isKite, .code yX2_isKite cX2_isKite 2 (some .boolean), .methodLink RX2 134 yX2_weightsOn, .instanceMethod yX2_weightsOn, .selects RX2 yX2_weightsOn yX2_weightsOn, .code yX2_weightsOn cX2_weightsOn 4 (some .int)] ++ wsX30 ++ wsX20)
def wsX3_windOf : List Cond := .code yX3_windOf cX3_windOf 2 (some .int) :: ([.fieldLink RX3 10 "KiteRegisters" "sky" "LKiteRegisters$Sky;", .instanceMethod yX2_windAt, .initialized RX2, .selects RX2 yX2_windAt yX2_windAt, .code yX2_windAt cX2_windAt 2 (some .int), .fieldLink RX2 31 "KiteRegisters$Sky" "winds" "[I", .static yX3_isBeat, .initialized RX3, .code yX3_isBeat cX3_isBeat 1 (some .boolean)] ++ wsX30 ++ wsX20)
def wsX3_ifRead_r1 : List Cond := [Cond.fieldLink RX3 10 "KiteRegisters" "sky" "LKiteRegisters$Sky;", Cond.instanceMethod yX2_aboutReading, Cond.initialized RX2, Cond.selects RX2 yX2_aboutReading yX2_aboutReading, Cond.code yX2_aboutReading cX2_aboutReading 6 (some .int), Cond.fieldLink RX2 15 "KiteRegisters$Sky" "strings" "[I", Cond.fieldLink RX2 18 "KiteRegisters$Sky" "heights" "[I", Cond.fieldLink RX2 44 "KiteRegisters$Sky" "cutHeight" "I", Cond.methodLink RX2 61 yX2_isKite, Cond.instanceMethod yX2_isKite, Cond.selects RX2 yX2_isKite yX2_isKite, Cond.code yX2_isKite cX2_isKite 2 (some .boolean), Cond.methodLink RX2 64 yX2_windNow, Cond.instanceMethod yX2_windNow, Cond.selects RX2 yX2_windNow yX2_windNow, Cond.code yX2_windNow cX2_windNow 1 (some .int), Cond.fieldLink RX2 31 "KiteRegisters$Sky" "winds" "[I", Cond.fieldLink RX2 37 "KiteRegisters$Sky" "beatsSoFar" "I", Cond.methodLink RX2 140 yJ9_floorMod_7cf53, Cond.static yJ9_floorMod_7cf53, Cond.initialized RJ9, Cond.code yJ9_floorMod_7cf53 cJ9_floorMod_7cf53 3 (some .int), Cond.methodLink RX2 68 yX2_risen, Cond.instanceMethod yX2_risen]
def wsX3_ifRead_r2 : List Cond := [Cond.selects RX2 yX2_risen yX2_risen, Cond.code yX2_risen cX2_risen 4 (some .int), Cond.methodLink RX2 57 yX2_landing, Cond.instanceMethod yX2_landing, Cond.selects RX2 yX2_landing yX2_landing, Cond.code yX2_landing cX2_landing 5 (some .int), Cond.methodLink RX2 121 yX2_isTaken, Cond.instanceMethod yX2_isTaken, Cond.selects RX2 yX2_isTaken yX2_isTaken, Cond.code yX2_isTaken cX2_isTaken 4 (some .boolean), Cond.methodLink RX2 76 yX2_behind, Cond.static yX2_behind, Cond.code yX2_behind cX2_behind 1 (some .int), Cond.methodLink RX2 128 yX2_kitesBetween, Cond.instanceMethod yX2_kitesBetween, Cond.selects RX2 yX2_kitesBetween yX2_kitesBetween, Cond.code yX2_kitesBetween cX2_kitesBetween 6 (some .int)]
def wsX3_ifRead : List Cond := .code yX3_ifRead cX3_ifRead 3 (some .int) :: ((wsX3_ifRead_r1 ++ wsX3_ifRead_r2) ++ wsX30 ++ wsX20)
def wsX3_readsToCut_r1 : List Cond := [Cond.fieldLink RX3 10 "KiteRegisters" "sky" "LKiteRegisters$Sky;", Cond.instanceMethod yX2_readingsUntilCut, Cond.initialized RX2, Cond.selects RX2 yX2_readingsUntilCut yX2_readingsUntilCut, Cond.code yX2_readingsUntilCut cX2_readingsUntilCut 5 (some .int), Cond.fieldLink RX2 18 "KiteRegisters$Sky" "heights" "[I", Cond.fieldLink RX2 15 "KiteRegisters$Sky" "strings" "[I", Cond.fieldLink RX2 44 "KiteRegisters$Sky" "cutHeight" "I", Cond.methodLink RX2 61 yX2_isKite, Cond.instanceMethod yX2_isKite, Cond.selects RX2 yX2_isKite yX2_isKite, Cond.code yX2_isKite cX2_isKite 2 (some .boolean), Cond.methodLink RX2 64 yX2_windNow, Cond.instanceMethod yX2_windNow, Cond.selects RX2 yX2_windNow yX2_windNow, Cond.code yX2_windNow cX2_windNow 1 (some .int), Cond.fieldLink RX2 31 "KiteRegisters$Sky" "winds" "[I", Cond.fieldLink RX2 37 "KiteRegisters$Sky" "beatsSoFar" "I", Cond.methodLink RX2 140 yJ9_floorMod_7cf53, Cond.static yJ9_floorMod_7cf53, Cond.initialized RJ9, Cond.code yJ9_floorMod_7cf53 cJ9_floorMod_7cf53 3 (some .int), Cond.methodLink RX2 68 yX2_risen, Cond.instanceMethod yX2_risen]
def wsX3_readsToCut_r2 : List Cond := [Cond.selects RX2 yX2_risen yX2_risen, Cond.code yX2_risen cX2_risen 4 (some .int), Cond.methodLink RX2 57 yX2_landing, Cond.instanceMethod yX2_landing, Cond.selects RX2 yX2_landing yX2_landing, Cond.code yX2_landing cX2_landing 5 (some .int), Cond.methodLink RX2 121 yX2_isTaken, Cond.instanceMethod yX2_isTaken, Cond.selects RX2 yX2_isTaken yX2_isTaken, Cond.code yX2_isTaken cX2_isTaken 4 (some .boolean)]
def wsX3_readsToCut : List Cond := .code yX3_readsToCut cX3_readsToCut 2 (some .int) :: ((wsX3_readsToCut_r1 ++ wsX3_readsToCut_r2) ++ wsX30 ++ wsX20)
def wsX3_downIn_r1 : List Cond := [Cond.fieldLink RX3 19 "KiteRegisters" "trial" "LKiteRegisters$Sky;", Cond.fieldLink RX3 10 "KiteRegisters" "sky" "LKiteRegisters$Sky;", Cond.instanceMethod yX2_copyFrom, Cond.initialized RX2, Cond.selects RX2 yX2_copyFrom yX2_copyFrom, Cond.code yX2_copyFrom cX2_copyFrom 3 none, Cond.fieldLink RX2 9 "KiteRegisters$Sky" "numbers" "[I", Cond.fieldLink RX2 15 "KiteRegisters$Sky" "strings" "[I", Cond.fieldLink RX2 18 "KiteRegisters$Sky" "heights" "[I", Cond.fieldLink RX2 21 "KiteRegisters$Sky" "fresh" "[Z", Cond.fieldLink RX2 25 "KiteRegisters$Sky" "readings" "[I", Cond.fieldLink RX2 28 "KiteRegisters$Sky" "cuts" "[I", Cond.fieldLink RX2 31 "KiteRegisters$Sky" "winds" "[I", Cond.fieldLink RX2 34 "KiteRegisters$Sky" "cutsFrom" "[I", Cond.fieldLink RX2 37 "KiteRegisters$Sky" "beatsSoFar" "I", Cond.fieldLink RX2 41 "KiteRegisters$Sky" "readingsSoFar" "I", Cond.fieldLink RX2 44 "KiteRegisters$Sky" "cutHeight" "I", Cond.fieldLink RX2 47 "KiteRegisters$Sky" "sinking" "I", Cond.instanceMethod yX2_sinkUntil, Cond.selects RX2 yX2_sinkUntil yX2_sinkUntil, Cond.code yX2_sinkUntil cX2_sinkUntil 4 (some .int), Cond.methodLink RX2 61 yX2_isKite, Cond.instanceMethod yX2_isKite, Cond.selects RX2 yX2_isKite yX2_isKite]
def wsX3_downIn_r2 : List Cond := [Cond.code yX2_isKite cX2_isKite 2 (some .boolean), Cond.methodLink RX2 80 yX2_sinkString, Cond.instanceMethod yX2_sinkString, Cond.selects RX2 yX2_sinkString yX2_sinkString, Cond.code yX2_sinkString cX2_sinkString 6 none, Cond.methodLink RX2 116 Lib.Math.max.name, Cond.static Lib.Math.max.name, Cond.initialized "java/lang/Math", Cond.code Lib.Math.max.name Lib.Math.max.code 2 (some .int), Cond.methodLink RX2 113 yX2_lowestAbove, Cond.instanceMethod yX2_lowestAbove, Cond.selects RX2 yX2_lowestAbove yX2_lowestAbove, Cond.code yX2_lowestAbove cX2_lowestAbove 6 (some .int), Cond.constant RX2 127 (2147483647), Cond.methodLink RX2 83 yX2_endFreshness, Cond.instanceMethod yX2_endFreshness, Cond.selects RX2 yX2_endFreshness yX2_endFreshness, Cond.code yX2_endFreshness cX2_endFreshness 2 none]
def wsX3_downIn : List Cond := .code yX3_downIn cX3_downIn 3 (some .int) :: ((wsX3_downIn_r1 ++ wsX3_downIn_r2) ++ wsX30 ++ wsX20)
def wsX3_safeWind : List Cond := .code yX3_safeWind cX3_safeWind 1 (some .int) :: ([.fieldLink RX3 10 "KiteRegisters" "sky" "LKiteRegisters$Sky;", .instanceMethod yX2_greatestSafeWind, .initialized RX2, .selects RX2 yX2_greatestSafeWind yX2_greatestSafeWind, .code yX2_greatestSafeWind cX2_greatestSafeWind 2 (some .int), .methodLink RX2 143 yX2_isSafe, .instanceMethod yX2_isSafe, .selects RX2 yX2_isSafe yX2_isSafe, .code yX2_isSafe cX2_isSafe 3 (some .boolean), .fieldLink RX2 15 "KiteRegisters$Sky" "strings" "[I", .fieldLink RX2 18 "KiteRegisters$Sky" "heights" "[I", .fieldLink RX2 44 "KiteRegisters$Sky" "cutHeight" "I", .methodLink RX2 68 yX2_risen, .instanceMethod yX2_risen, .selects RX2 yX2_risen yX2_risen, .code yX2_risen cX2_risen 4 (some .int), .methodLink RX2 57 yX2_landing, .instanceMethod yX2_landing, .selects RX2 yX2_landing yX2_landing, .code yX2_landing cX2_landing 5 (some .int), .methodLink RX2 121 yX2_isTaken, .instanceMethod yX2_isTaken, .selects RX2 yX2_isTaken yX2_isTaken, .code yX2_isTaken cX2_isTaken 4 (some .boolean)] ++ wsX30 ++ wsX20)
def wsX3_calmest : List Cond := .code yX3_calmest cX3_calmest 1 (some .int) :: ([.fieldLink RX3 10 "KiteRegisters" "sky" "LKiteRegisters$Sky;", .instanceMethod yX2_calmestString, .initialized RX2, .selects RX2 yX2_calmestString yX2_calmestString, .code yX2_calmestString cX2_calmestString 3 (some .int), .methodLink RX2 146 yX2_isCalmer, .instanceMethod yX2_isCalmer, .selects RX2 yX2_isCalmer yX2_isCalmer, .code yX2_isCalmer cX2_isCalmer 5 (some .boolean), .methodLink RX2 57 yX2_landing, .instanceMethod yX2_landing, .selects RX2 yX2_landing yX2_landing, .code yX2_landing cX2_landing 5 (some .int), .methodLink RX2 121 yX2_isTaken, .instanceMethod yX2_isTaken, .selects RX2 yX2_isTaken yX2_isTaken, .code yX2_isTaken cX2_isTaken 4 (some .boolean), .fieldLink RX2 15 "KiteRegisters$Sky" "strings" "[I", .fieldLink RX2 18 "KiteRegisters$Sky" "heights" "[I", .methodLink RX2 134 yX2_weightsOn, .instanceMethod yX2_weightsOn, .selects RX2 yX2_weightsOn yX2_weightsOn, .code yX2_weightsOn cX2_weightsOn 4 (some .int)] ++ wsX30 ++ wsX20)
def wsX3_count_r1 : List Cond := [Cond.fieldLink RX3 32 "KiteRegisters" "history" "LKiteRegisters$History;", Cond.fieldLink RX3 39 "KiteRegisters" "script" "LKiteRegisters$Script;", Cond.fieldLink RX3 10 "KiteRegisters" "sky" "LKiteRegisters$Sky;", Cond.instanceMethod yX2_aboutAll, Cond.initialized RX2, Cond.selects RX2 yX2_aboutAll yX2_aboutAll, Cond.code yX2_aboutAll cX2_aboutAll 2 (some .int), Cond.fieldLink RX2 41 "KiteRegisters$Sky" "readingsSoFar" "I", Cond.fieldLink RX2 44 "KiteRegisters$Sky" "cutHeight" "I", Cond.fieldLink RX2 47 "KiteRegisters$Sky" "sinking" "I", Cond.fieldLink RX2 37 "KiteRegisters$Sky" "beatsSoFar" "I", Cond.methodLink RX2 149 yX2_kitesInAll, Cond.instanceMethod yX2_kitesInAll, Cond.selects RX2 yX2_kitesInAll yX2_kitesInAll, Cond.code yX2_kitesInAll cX2_kitesInAll 3 (some .int), Cond.fieldLink RX2 15 "KiteRegisters$Sky" "strings" "[I", Cond.methodLink RX2 86 yX2_beatNow, Cond.instanceMethod yX2_beatNow, Cond.selects RX2 yX2_beatNow yX2_beatNow, Cond.code yX2_beatNow cX2_beatNow 1 (some .int), Cond.methodLink RX2 140 yJ9_floorMod_7cf53, Cond.static yJ9_floorMod_7cf53, Cond.initialized RJ9, Cond.code yJ9_floorMod_7cf53 cJ9_floorMod_7cf53 3 (some .int)]
def wsX3_count_r2 : List Cond := [Cond.methodLink RX2 64 yX2_windNow, Cond.instanceMethod yX2_windNow, Cond.selects RX2 yX2_windNow yX2_windNow, Cond.code yX2_windNow cX2_windNow 1 (some .int), Cond.fieldLink RX2 31 "KiteRegisters$Sky" "winds" "[I", Cond.methodLink RX2 152 yX2_cutsSoFar, Cond.instanceMethod yX2_cutsSoFar, Cond.selects RX2 yX2_cutsSoFar yX2_cutsSoFar, Cond.code yX2_cutsSoFar cX2_cutsSoFar 3 (some .int), Cond.fieldLink RX2 34 "KiteRegisters$Sky" "cutsFrom" "[I", Cond.methodLink RX2 155 yX2_freshKites, Cond.instanceMethod yX2_freshKites, Cond.selects RX2 yX2_freshKites yX2_freshKites, Cond.code yX2_freshKites cX2_freshKites 3 (some .int), Cond.fieldLink RX2 21 "KiteRegisters$Sky" "fresh" "[Z", Cond.methodLink RX2 158 yX2_greatestHeight, Cond.instanceMethod yX2_greatestHeight, Cond.selects RX2 yX2_greatestHeight yX2_greatestHeight, Cond.code yX2_greatestHeight cX2_greatestHeight 3 (some .int), Cond.fieldLink RX2 18 "KiteRegisters$Sky" "heights" "[I", Cond.methodLink RX2 116 Lib.Math.max.name, Cond.static Lib.Math.max.name, Cond.initialized "java/lang/Math", Cond.code Lib.Math.max.name Lib.Math.max.code 2 (some .int)]
def wsX3_count_r3 : List Cond := [Cond.methodLink RX2 161 yX2_weightsInAll, Cond.instanceMethod yX2_weightsInAll, Cond.selects RX2 yX2_weightsInAll yX2_weightsInAll, Cond.code yX2_weightsInAll cX2_weightsInAll 3 (some .int), Cond.methodLink RX2 134 yX2_weightsOn, Cond.instanceMethod yX2_weightsOn, Cond.selects RX2 yX2_weightsOn yX2_weightsOn, Cond.code yX2_weightsOn cX2_weightsOn 4 (some .int)]
def wsX3_count : List Cond := .code yX3_count cX3_count 2 (some .int) :: ((wsX3_count_r1 ++ (wsX3_count_r2 ++ wsX3_count_r3)) ++ wsX30 ++ wsX00 ++ wsX10 ++ wsX20)
def wsX4_init : List Cond := .code yX4_init cX4_init 2 none :: ([.methodLink RX4 1 objectInit, .instanceMethod objectInit, .code objectInit ⟨#[0xb1]⟩ 1 none, .arrayClass .int, .fieldLink RX4 7 "KiteRegistersModel" "all" "[I", .fieldLink RX4 13 "KiteRegistersModel" "kept" "[I", .fieldLink RX4 16 "KiteRegistersModel" "tried" "[I", .fieldLink RX4 19 "KiteRegistersModel" "history" "[I", .fieldLink RX4 22 "KiteRegistersModel" "snapshot" "[I", .fieldLink RX4 25 "KiteRegistersModel" "stopAt" "I", .fieldLink RX4 29 "KiteRegistersModel" "stopBy" "I", .fieldLink RX4 32 "KiteRegistersModel" "text" "[I"] ++ wsX40)
def wsX4_in : List Cond := .code yX4_in cX4_in 6 (some .boolean) :: ([])
def wsX4_copy : List Cond := .code yX4_copy cX4_copy 3 none :: ([])
def wsX4_remember : List Cond := .code yX4_remember cX4_remember 1 none :: ([.fieldLink RX4 7 "KiteRegistersModel" "all" "[I", .fieldLink RX4 13 "KiteRegistersModel" "kept" "[I", .methodLink RX4 35 yX4_copy, .static yX4_copy, .initialized RX4, .code yX4_copy cX4_copy 3 none] ++ wsX40)
def wsX4_acted : List Cond := .code yX4_acted cX4_acted 3 (some .int) :: ([.fieldLink RX4 39 "KiteRegistersModel" "historyLong" "I", .fieldLink RX4 19 "KiteRegistersModel" "history" "[I", .fieldLink RX4 13 "KiteRegistersModel" "kept" "[I"] ++ wsX40)
def wsX4_isString : List Cond := .code yX4_isString cX4_isString 1 (some .boolean) :: ([.constantLong RX4 42 (3), .methodLink RX4 44 yX4_in, .static yX4_in, .initialized RX4, .code yX4_in cX4_in 6 (some .boolean)])
def wsX4_isKite : List Cond := .code yX4_isKite cX4_isKite 2 (some .boolean) :: ([.constantLong RX4 48 (11), .fieldLink RX4 7 "KiteRegistersModel" "all" "[I", .methodLink RX4 44 yX4_in, .static yX4_in, .initialized RX4, .code yX4_in cX4_in 6 (some .boolean)] ++ wsX40)
def wsX4_heightOf : List Cond := .code yX4_heightOf cX4_heightOf 2 (some .int) :: ([.fieldLink RX4 7 "KiteRegistersModel" "all" "[I"] ++ wsX40)
def wsX4_weightOf : List Cond := .code yX4_weightOf cX4_weightOf 2 (some .int) :: ([.methodLink RX4 50 yX4_heightOf, .instanceMethod yX4_heightOf, .selects RX4 yX4_heightOf yX4_heightOf, .initialized RX4, .code yX4_heightOf cX4_heightOf 2 (some .int), .fieldLink RX4 7 "KiteRegistersModel" "all" "[I"] ++ wsX40)
def wsX4_kiteAt : List Cond := .code yX4_kiteAt cX4_kiteAt 4 (some .int) :: ([.fieldLink RX4 7 "KiteRegistersModel" "all" "[I", .methodLink RX4 50 yX4_heightOf, .instanceMethod yX4_heightOf, .selects RX4 yX4_heightOf yX4_heightOf, .initialized RX4, .code yX4_heightOf cX4_heightOf 2 (some .int)] ++ wsX40)
def wsX4_landing : List Cond := .code yX4_landing cX4_landing 4 (some .int) :: ([.methodLink RX4 54 yX4_kiteAt, .instanceMethod yX4_kiteAt, .selects RX4 yX4_kiteAt yX4_kiteAt, .initialized RX4, .code yX4_kiteAt cX4_kiteAt 4 (some .int), .fieldLink RX4 7 "KiteRegistersModel" "all" "[I", .methodLink RX4 50 yX4_heightOf, .instanceMethod yX4_heightOf, .selects RX4 yX4_heightOf yX4_heightOf, .code yX4_heightOf cX4_heightOf 2 (some .int)] ++ wsX40)
def wsX4_lands : List Cond := .code yX4_lands cX4_lands 5 none :: ([.fieldLink RX4 7 "KiteRegistersModel" "all" "[I", .methodLink RX4 58 yX4_landing, .instanceMethod yX4_landing, .selects RX4 yX4_landing yX4_landing, .initialized RX4, .code yX4_landing cX4_landing 4 (some .int), .methodLink RX4 54 yX4_kiteAt, .instanceMethod yX4_kiteAt, .selects RX4 yX4_kiteAt yX4_kiteAt, .code yX4_kiteAt cX4_kiteAt 4 (some .int), .methodLink RX4 50 yX4_heightOf, .instanceMethod yX4_heightOf, .selects RX4 yX4_heightOf yX4_heightOf, .code yX4_heightOf cX4_heightOf 2 (some .int)] ++ wsX40)
def wsX4_nextTo : List Cond := .code yX4_nextTo cX4_nextTo 8 (some .int) :: ([.fieldLink RX4 7 "KiteRegistersModel" "all" "[I", .methodLink RX4 50 yX4_heightOf, .instanceMethod yX4_heightOf, .selects RX4 yX4_heightOf yX4_heightOf, .initialized RX4, .code yX4_heightOf cX4_heightOf 2 (some .int)] ++ wsX40)
def wsX4_kitesOf : List Cond := .code yX4_kitesOf cX4_kitesOf 4 (some .int) :: ([.fieldLink RX4 7 "KiteRegistersModel" "all" "[I"] ++ wsX40)
def wsX4_weightsOf : List Cond := .code yX4_weightsOf cX4_weightsOf 4 (some .int) :: ([.fieldLink RX4 7 "KiteRegistersModel" "all" "[I", .methodLink RX4 61 yX4_weightOf, .instanceMethod yX4_weightOf, .selects RX4 yX4_weightOf yX4_weightOf, .initialized RX4, .code yX4_weightOf cX4_weightOf 2 (some .int), .methodLink RX4 50 yX4_heightOf, .instanceMethod yX4_heightOf, .selects RX4 yX4_heightOf yX4_heightOf, .code yX4_heightOf cX4_heightOf 2 (some .int)] ++ wsX40)
def wsX4_many : List Cond := .code yX4_many cX4_many 3 (some .int) :: ([.methodLink RX4 64 yX4_kitesOf, .instanceMethod yX4_kitesOf, .selects RX4 yX4_kitesOf yX4_kitesOf, .initialized RX4, .code yX4_kitesOf cX4_kitesOf 4 (some .int), .fieldLink RX4 7 "KiteRegistersModel" "all" "[I"] ++ wsX40)
def wsX4_windNow : List Cond := .code yX4_windNow cX4_windNow 1 (some .int) :: ([.fieldLink RX4 7 "KiteRegistersModel" "all" "[I"] ++ wsX40)
def wsX4_doFly : List Cond := .code yX4_doFly cX4_doFly 4 (some .int) :: ([.fieldLink RX4 7 "KiteRegistersModel" "all" "[I", .methodLink RX4 67 yX4_lands, .instanceMethod yX4_lands, .selects RX4 yX4_lands yX4_lands, .initialized RX4, .code yX4_lands cX4_lands 5 none, .methodLink RX4 58 yX4_landing, .instanceMethod yX4_landing, .selects RX4 yX4_landing yX4_landing, .code yX4_landing cX4_landing 4 (some .int), .methodLink RX4 54 yX4_kiteAt, .instanceMethod yX4_kiteAt, .selects RX4 yX4_kiteAt yX4_kiteAt, .code yX4_kiteAt cX4_kiteAt 4 (some .int), .methodLink RX4 50 yX4_heightOf, .instanceMethod yX4_heightOf, .selects RX4 yX4_heightOf yX4_heightOf, .code yX4_heightOf cX4_heightOf 2 (some .int)] ++ wsX40)
def wsX4_rises : List Cond := .code yX4_rises cX4_rises 4 (some .boolean) :: ([.fieldLink RX4 7 "KiteRegistersModel" "all" "[I", .methodLink RX4 50 yX4_heightOf, .instanceMethod yX4_heightOf, .selects RX4 yX4_heightOf yX4_heightOf, .initialized RX4, .code yX4_heightOf cX4_heightOf 2 (some .int), .methodLink RX4 67 yX4_lands, .instanceMethod yX4_lands, .selects RX4 yX4_lands yX4_lands, .code yX4_lands cX4_lands 5 none, .methodLink RX4 58 yX4_landing, .instanceMethod yX4_landing, .selects RX4 yX4_landing yX4_landing, .code yX4_landing cX4_landing 4 (some .int), .methodLink RX4 54 yX4_kiteAt, .instanceMethod yX4_kiteAt, .selects RX4 yX4_kiteAt yX4_kiteAt, .code yX4_kiteAt cX4_kiteAt 4 (some .int)] ++ wsX40)
def wsX4_doRead_r1 : List Cond := [Cond.fieldLink RX4 7 "KiteRegistersModel" "all" "[I", Cond.methodLink RX4 71 yX4_windNow, Cond.instanceMethod yX4_windNow, Cond.selects RX4 yX4_windNow yX4_windNow, Cond.initialized RX4, Cond.code yX4_windNow cX4_windNow 1 (some .int), Cond.methodLink RX4 75 yX4_rises, Cond.instanceMethod yX4_rises, Cond.selects RX4 yX4_rises yX4_rises, Cond.code yX4_rises cX4_rises 4 (some .boolean), Cond.methodLink RX4 50 yX4_heightOf, Cond.instanceMethod yX4_heightOf, Cond.selects RX4 yX4_heightOf yX4_heightOf, Cond.code yX4_heightOf cX4_heightOf 2 (some .int), Cond.methodLink RX4 67 yX4_lands, Cond.instanceMethod yX4_lands, Cond.selects RX4 yX4_lands yX4_lands, Cond.code yX4_lands cX4_lands 5 none, Cond.methodLink RX4 58 yX4_landing, Cond.instanceMethod yX4_landing, Cond.selects RX4 yX4_landing yX4_landing, Cond.code yX4_landing cX4_landing 4 (some .int), Cond.methodLink RX4 54 yX4_kiteAt, Cond.instanceMethod yX4_kiteAt]
def wsX4_doRead_r2 : List Cond := [Cond.selects RX4 yX4_kiteAt yX4_kiteAt, Cond.code yX4_kiteAt cX4_kiteAt 4 (some .int)]
def wsX4_doRead : List Cond := .code yX4_doRead cX4_doRead 3 (some .int) :: ((wsX4_doRead_r1 ++ wsX4_doRead_r2) ++ wsX40)
def wsX4_doWrite : List Cond := .code yX4_doWrite cX4_doWrite 4 (some .int) :: ([.fieldLink RX4 7 "KiteRegistersModel" "all" "[I"] ++ wsX40)
def wsX4_sinks : List Cond := .code yX4_sinks cX4_sinks 7 none :: ([.fieldLink RX4 7 "KiteRegistersModel" "all" "[I", .methodLink RX4 79 yX4_nextTo, .instanceMethod yX4_nextTo, .selects RX4 yX4_nextTo yX4_nextTo, .initialized RX4, .code yX4_nextTo cX4_nextTo 8 (some .int), .methodLink RX4 50 yX4_heightOf, .instanceMethod yX4_heightOf, .selects RX4 yX4_heightOf yX4_heightOf, .code yX4_heightOf cX4_heightOf 2 (some .int)] ++ wsX40)
def wsX4_beats : List Cond := .code yX4_beats cX4_beats 4 none :: ([.fieldLink RX4 7 "KiteRegistersModel" "all" "[I", .methodLink RX4 83 yX4_sinks, .instanceMethod yX4_sinks, .selects RX4 yX4_sinks yX4_sinks, .initialized RX4, .code yX4_sinks cX4_sinks 7 none, .methodLink RX4 79 yX4_nextTo, .instanceMethod yX4_nextTo, .selects RX4 yX4_nextTo yX4_nextTo, .code yX4_nextTo cX4_nextTo 8 (some .int), .methodLink RX4 50 yX4_heightOf, .instanceMethod yX4_heightOf, .selects RX4 yX4_heightOf yX4_heightOf, .code yX4_heightOf cX4_heightOf 2 (some .int)] ++ wsX40)
def wsX4_isNumber : List Cond := .code yX4_isNumber cX4_isNumber 1 (some .boolean) :: ([.constantLong RX4 87 (-999), .constantLong RX4 89 (999), .methodLink RX4 44 yX4_in, .static yX4_in, .initialized RX4, .code yX4_in cX4_in 6 (some .boolean)])
def wsX4_fly_r1 : List Cond := [Cond.methodLink RX4 91 yX4_isString, Cond.static yX4_isString, Cond.initialized RX4, Cond.code yX4_isString cX4_isString 1 (some .boolean), Cond.constantLong RX4 42 (3), Cond.methodLink RX4 44 yX4_in, Cond.static yX4_in, Cond.code yX4_in cX4_in 6 (some .boolean), Cond.methodLink RX4 95 yX4_isNumber, Cond.static yX4_isNumber, Cond.code yX4_isNumber cX4_isNumber 1 (some .boolean), Cond.constantLong RX4 87 (-999), Cond.constantLong RX4 89 (999), Cond.methodLink RX4 98 yX4_remember, Cond.instanceMethod yX4_remember, Cond.selects RX4 yX4_remember yX4_remember, Cond.code yX4_remember cX4_remember 1 none, Cond.fieldLink RX4 7 "KiteRegistersModel" "all" "[I", Cond.fieldLink RX4 13 "KiteRegistersModel" "kept" "[I", Cond.methodLink RX4 35 yX4_copy, Cond.static yX4_copy, Cond.code yX4_copy cX4_copy 3 none, Cond.methodLink RX4 101 yX4_doFly, Cond.instanceMethod yX4_doFly]
def wsX4_fly_r2 : List Cond := [Cond.selects RX4 yX4_doFly yX4_doFly, Cond.code yX4_doFly cX4_doFly 4 (some .int), Cond.methodLink RX4 67 yX4_lands, Cond.instanceMethod yX4_lands, Cond.selects RX4 yX4_lands yX4_lands, Cond.code yX4_lands cX4_lands 5 none, Cond.methodLink RX4 58 yX4_landing, Cond.instanceMethod yX4_landing, Cond.selects RX4 yX4_landing yX4_landing, Cond.code yX4_landing cX4_landing 4 (some .int), Cond.methodLink RX4 54 yX4_kiteAt, Cond.instanceMethod yX4_kiteAt, Cond.selects RX4 yX4_kiteAt yX4_kiteAt, Cond.code yX4_kiteAt cX4_kiteAt 4 (some .int), Cond.methodLink RX4 50 yX4_heightOf, Cond.instanceMethod yX4_heightOf, Cond.selects RX4 yX4_heightOf yX4_heightOf, Cond.code yX4_heightOf cX4_heightOf 2 (some .int), Cond.methodLink RX4 104 yX4_acted, Cond.instanceMethod yX4_acted, Cond.selects RX4 yX4_acted yX4_acted, Cond.code yX4_acted cX4_acted 3 (some .int), Cond.fieldLink RX4 39 "KiteRegistersModel" "historyLong" "I", Cond.fieldLink RX4 19 "KiteRegistersModel" "history" "[I"]
def wsX4_fly : List Cond := .code yX4_fly cX4_fly 4 (some .int) :: ((wsX4_fly_r1 ++ wsX4_fly_r2) ++ wsX40)
def wsX4_takeDown : List Cond := .code yX4_takeDown cX4_takeDown 2 (some .int) :: ([.fieldLink RX4 7 "KiteRegistersModel" "all" "[I", .methodLink RX4 107 yX4_isKite, .instanceMethod yX4_isKite, .selects RX4 yX4_isKite yX4_isKite, .initialized RX4, .code yX4_isKite cX4_isKite 2 (some .boolean), .constantLong RX4 48 (11), .methodLink RX4 44 yX4_in, .static yX4_in, .code yX4_in cX4_in 6 (some .boolean), .methodLink RX4 98 yX4_remember, .instanceMethod yX4_remember, .selects RX4 yX4_remember yX4_remember, .code yX4_remember cX4_remember 1 none, .fieldLink RX4 13 "KiteRegistersModel" "kept" "[I", .methodLink RX4 35 yX4_copy, .static yX4_copy, .code yX4_copy cX4_copy 3 none, .methodLink RX4 104 yX4_acted, .instanceMethod yX4_acted, .selects RX4 yX4_acted yX4_acted, .code yX4_acted cX4_acted 3 (some .int), .fieldLink RX4 39 "KiteRegistersModel" "historyLong" "I", .fieldLink RX4 19 "KiteRegistersModel" "history" "[I"] ++ wsX40)
def wsX4_read_r1 : List Cond := [Cond.methodLink RX4 107 yX4_isKite, Cond.instanceMethod yX4_isKite, Cond.selects RX4 yX4_isKite yX4_isKite, Cond.initialized RX4, Cond.code yX4_isKite cX4_isKite 2 (some .boolean), Cond.constantLong RX4 48 (11), Cond.fieldLink RX4 7 "KiteRegistersModel" "all" "[I", Cond.methodLink RX4 44 yX4_in, Cond.static yX4_in, Cond.code yX4_in cX4_in 6 (some .boolean), Cond.methodLink RX4 98 yX4_remember, Cond.instanceMethod yX4_remember, Cond.selects RX4 yX4_remember yX4_remember, Cond.code yX4_remember cX4_remember 1 none, Cond.fieldLink RX4 13 "KiteRegistersModel" "kept" "[I", Cond.methodLink RX4 35 yX4_copy, Cond.static yX4_copy, Cond.code yX4_copy cX4_copy 3 none, Cond.methodLink RX4 110 yX4_doRead, Cond.instanceMethod yX4_doRead, Cond.selects RX4 yX4_doRead yX4_doRead, Cond.code yX4_doRead cX4_doRead 3 (some .int), Cond.methodLink RX4 71 yX4_windNow, Cond.instanceMethod yX4_windNow]
def wsX4_read_r2 : List Cond := [Cond.selects RX4 yX4_windNow yX4_windNow, Cond.code yX4_windNow cX4_windNow 1 (some .int), Cond.methodLink RX4 75 yX4_rises, Cond.instanceMethod yX4_rises, Cond.selects RX4 yX4_rises yX4_rises, Cond.code yX4_rises cX4_rises 4 (some .boolean), Cond.methodLink RX4 50 yX4_heightOf, Cond.instanceMethod yX4_heightOf, Cond.selects RX4 yX4_heightOf yX4_heightOf, Cond.code yX4_heightOf cX4_heightOf 2 (some .int), Cond.methodLink RX4 67 yX4_lands, Cond.instanceMethod yX4_lands, Cond.selects RX4 yX4_lands yX4_lands, Cond.code yX4_lands cX4_lands 5 none, Cond.methodLink RX4 58 yX4_landing, Cond.instanceMethod yX4_landing, Cond.selects RX4 yX4_landing yX4_landing, Cond.code yX4_landing cX4_landing 4 (some .int), Cond.methodLink RX4 54 yX4_kiteAt, Cond.instanceMethod yX4_kiteAt, Cond.selects RX4 yX4_kiteAt yX4_kiteAt, Cond.code yX4_kiteAt cX4_kiteAt 4 (some .int), Cond.methodLink RX4 104 yX4_acted, Cond.instanceMethod yX4_acted]
def wsX4_read_r3 : List Cond := [Cond.selects RX4 yX4_acted yX4_acted, Cond.code yX4_acted cX4_acted 3 (some .int), Cond.fieldLink RX4 39 "KiteRegistersModel" "historyLong" "I", Cond.fieldLink RX4 19 "KiteRegistersModel" "history" "[I"]
def wsX4_read : List Cond := .code yX4_read cX4_read 2 (some .int) :: ((wsX4_read_r1 ++ (wsX4_read_r2 ++ wsX4_read_r3)) ++ wsX40)
def wsX4_write_r1 : List Cond := [Cond.methodLink RX4 107 yX4_isKite, Cond.instanceMethod yX4_isKite, Cond.selects RX4 yX4_isKite yX4_isKite, Cond.initialized RX4, Cond.code yX4_isKite cX4_isKite 2 (some .boolean), Cond.constantLong RX4 48 (11), Cond.fieldLink RX4 7 "KiteRegistersModel" "all" "[I", Cond.methodLink RX4 44 yX4_in, Cond.static yX4_in, Cond.code yX4_in cX4_in 6 (some .boolean), Cond.methodLink RX4 95 yX4_isNumber, Cond.static yX4_isNumber, Cond.code yX4_isNumber cX4_isNumber 1 (some .boolean), Cond.constantLong RX4 87 (-999), Cond.constantLong RX4 89 (999), Cond.methodLink RX4 98 yX4_remember, Cond.instanceMethod yX4_remember, Cond.selects RX4 yX4_remember yX4_remember, Cond.code yX4_remember cX4_remember 1 none, Cond.fieldLink RX4 13 "KiteRegistersModel" "kept" "[I", Cond.methodLink RX4 35 yX4_copy, Cond.static yX4_copy, Cond.code yX4_copy cX4_copy 3 none, Cond.methodLink RX4 113 yX4_doWrite]
def wsX4_write_r2 : List Cond := [Cond.instanceMethod yX4_doWrite, Cond.selects RX4 yX4_doWrite yX4_doWrite, Cond.code yX4_doWrite cX4_doWrite 4 (some .int), Cond.methodLink RX4 104 yX4_acted, Cond.instanceMethod yX4_acted, Cond.selects RX4 yX4_acted yX4_acted, Cond.code yX4_acted cX4_acted 3 (some .int), Cond.fieldLink RX4 39 "KiteRegistersModel" "historyLong" "I", Cond.fieldLink RX4 19 "KiteRegistersModel" "history" "[I"]
def wsX4_write : List Cond := .code yX4_write cX4_write 3 (some .int) :: ((wsX4_write_r1 ++ wsX4_write_r2) ++ wsX40)
def wsX4_move_r1 : List Cond := [Cond.fieldLink RX4 7 "KiteRegistersModel" "all" "[I", Cond.methodLink RX4 107 yX4_isKite, Cond.instanceMethod yX4_isKite, Cond.selects RX4 yX4_isKite yX4_isKite, Cond.initialized RX4, Cond.code yX4_isKite cX4_isKite 2 (some .boolean), Cond.constantLong RX4 48 (11), Cond.methodLink RX4 44 yX4_in, Cond.static yX4_in, Cond.code yX4_in cX4_in 6 (some .boolean), Cond.methodLink RX4 91 yX4_isString, Cond.static yX4_isString, Cond.code yX4_isString cX4_isString 1 (some .boolean), Cond.constantLong RX4 42 (3), Cond.methodLink RX4 98 yX4_remember, Cond.instanceMethod yX4_remember, Cond.selects RX4 yX4_remember yX4_remember, Cond.code yX4_remember cX4_remember 1 none, Cond.fieldLink RX4 13 "KiteRegistersModel" "kept" "[I", Cond.methodLink RX4 35 yX4_copy, Cond.static yX4_copy, Cond.code yX4_copy cX4_copy 3 none, Cond.methodLink RX4 50 yX4_heightOf, Cond.instanceMethod yX4_heightOf]
def wsX4_move_r2 : List Cond := [Cond.selects RX4 yX4_heightOf yX4_heightOf, Cond.code yX4_heightOf cX4_heightOf 2 (some .int), Cond.methodLink RX4 67 yX4_lands, Cond.instanceMethod yX4_lands, Cond.selects RX4 yX4_lands yX4_lands, Cond.code yX4_lands cX4_lands 5 none, Cond.methodLink RX4 58 yX4_landing, Cond.instanceMethod yX4_landing, Cond.selects RX4 yX4_landing yX4_landing, Cond.code yX4_landing cX4_landing 4 (some .int), Cond.methodLink RX4 54 yX4_kiteAt, Cond.instanceMethod yX4_kiteAt, Cond.selects RX4 yX4_kiteAt yX4_kiteAt, Cond.code yX4_kiteAt cX4_kiteAt 4 (some .int), Cond.methodLink RX4 104 yX4_acted, Cond.instanceMethod yX4_acted, Cond.selects RX4 yX4_acted yX4_acted, Cond.code yX4_acted cX4_acted 3 (some .int), Cond.fieldLink RX4 39 "KiteRegistersModel" "historyLong" "I", Cond.fieldLink RX4 19 "KiteRegistersModel" "history" "[I"]
def wsX4_move : List Cond := .code yX4_move cX4_move 3 (some .int) :: ((wsX4_move_r1 ++ wsX4_move_r2) ++ wsX40)
def wsX4_beat_r1 : List Cond := [Cond.constantLong RX4 116 (100), Cond.fieldLink RX4 7 "KiteRegistersModel" "all" "[I", Cond.methodLink RX4 44 yX4_in, Cond.static yX4_in, Cond.initialized RX4, Cond.code yX4_in cX4_in 6 (some .boolean), Cond.methodLink RX4 98 yX4_remember, Cond.instanceMethod yX4_remember, Cond.selects RX4 yX4_remember yX4_remember, Cond.code yX4_remember cX4_remember 1 none, Cond.fieldLink RX4 13 "KiteRegistersModel" "kept" "[I", Cond.methodLink RX4 35 yX4_copy, Cond.static yX4_copy, Cond.code yX4_copy cX4_copy 3 none, Cond.methodLink RX4 118 yX4_beats, Cond.instanceMethod yX4_beats, Cond.selects RX4 yX4_beats yX4_beats, Cond.code yX4_beats cX4_beats 4 none, Cond.methodLink RX4 83 yX4_sinks, Cond.instanceMethod yX4_sinks, Cond.selects RX4 yX4_sinks yX4_sinks, Cond.code yX4_sinks cX4_sinks 7 none, Cond.methodLink RX4 79 yX4_nextTo, Cond.instanceMethod yX4_nextTo]
def wsX4_beat_r2 : List Cond := [Cond.selects RX4 yX4_nextTo yX4_nextTo, Cond.code yX4_nextTo cX4_nextTo 8 (some .int), Cond.methodLink RX4 50 yX4_heightOf, Cond.instanceMethod yX4_heightOf, Cond.selects RX4 yX4_heightOf yX4_heightOf, Cond.code yX4_heightOf cX4_heightOf 2 (some .int), Cond.methodLink RX4 104 yX4_acted, Cond.instanceMethod yX4_acted, Cond.selects RX4 yX4_acted yX4_acted, Cond.code yX4_acted cX4_acted 3 (some .int), Cond.fieldLink RX4 39 "KiteRegistersModel" "historyLong" "I", Cond.fieldLink RX4 19 "KiteRegistersModel" "history" "[I"]
def wsX4_beat : List Cond := .code yX4_beat cX4_beat 2 (some .int) :: ((wsX4_beat_r1 ++ wsX4_beat_r2) ++ wsX40)
def wsX4_isBeat : List Cond := .code yX4_isBeat cX4_isBeat 1 (some .boolean) :: ([.constantLong RX4 121 (7), .methodLink RX4 44 yX4_in, .static yX4_in, .initialized RX4, .code yX4_in cX4_in 6 (some .boolean)])
def wsX4_wind : List Cond := .code yX4_wind cX4_wind 4 (some .int) :: ([.constantLong RX4 126 (9), .fieldLink RX4 7 "KiteRegistersModel" "all" "[I", .methodLink RX4 123 yX4_isBeat, .static yX4_isBeat, .initialized RX4, .code yX4_isBeat cX4_isBeat 1 (some .boolean), .constantLong RX4 121 (7), .methodLink RX4 44 yX4_in, .static yX4_in, .code yX4_in cX4_in 6 (some .boolean), .methodLink RX4 98 yX4_remember, .instanceMethod yX4_remember, .selects RX4 yX4_remember yX4_remember, .code yX4_remember cX4_remember 1 none, .fieldLink RX4 13 "KiteRegistersModel" "kept" "[I", .methodLink RX4 35 yX4_copy, .static yX4_copy, .code yX4_copy cX4_copy 3 none, .methodLink RX4 104 yX4_acted, .instanceMethod yX4_acted, .selects RX4 yX4_acted yX4_acted, .code yX4_acted cX4_acted 3 (some .int), .fieldLink RX4 39 "KiteRegistersModel" "historyLong" "I", .fieldLink RX4 19 "KiteRegistersModel" "history" "[I"] ++ wsX40)
def wsX4_set : List Cond := .code yX4_set cX4_set 4 (some .int) :: ([.constantLong RX4 128 (5), .constantLong RX4 130 (80), .constantLong RX4 126 (9), .fieldLink RX4 7 "KiteRegistersModel" "all" "[I", .methodLink RX4 44 yX4_in, .static yX4_in, .initialized RX4, .code yX4_in cX4_in 6 (some .boolean), .methodLink RX4 98 yX4_remember, .instanceMethod yX4_remember, .selects RX4 yX4_remember yX4_remember, .code yX4_remember cX4_remember 1 none, .fieldLink RX4 13 "KiteRegistersModel" "kept" "[I", .methodLink RX4 35 yX4_copy, .static yX4_copy, .code yX4_copy cX4_copy 3 none, .methodLink RX4 104 yX4_acted, .instanceMethod yX4_acted, .selects RX4 yX4_acted yX4_acted, .code yX4_acted cX4_acted 3 (some .int), .fieldLink RX4 39 "KiteRegistersModel" "historyLong" "I", .fieldLink RX4 19 "KiteRegistersModel" "history" "[I"] ++ wsX40)
def wsX4_type : List Cond := .code yX4_type cX4_type 2 (some .int) :: ([.fieldLink RX4 132 "KiteRegistersModel" "textLong" "I", .fieldLink RX4 32 "KiteRegistersModel" "text" "[I"] ++ wsX40)
def wsX4_clearText : List Cond := .code yX4_clearText cX4_clearText 2 (some .int) :: ([.fieldLink RX4 132 "KiteRegistersModel" "textLong" "I"] ++ wsX40)
def wsX4_isHere : List Cond := .code yX4_isHere cX4_isHere 3 (some .boolean) :: ([.fieldLink RX4 135 "KiteRegistersModel" "spot" "I", .fieldLink RX4 132 "KiteRegistersModel" "textLong" "I", .fieldLink RX4 32 "KiteRegistersModel" "text" "[I", .methodLink RX4 44 yX4_in, .static yX4_in, .initialized RX4, .code yX4_in cX4_in 6 (some .boolean)] ++ wsX40)
def wsX4_takes : List Cond := .code yX4_takes cX4_takes 3 (some .boolean) :: ([.fieldLink RX4 135 "KiteRegistersModel" "spot" "I", .methodLink RX4 138 yX4_isHere, .instanceMethod yX4_isHere, .selects RX4 yX4_isHere yX4_isHere, .initialized RX4, .code yX4_isHere cX4_isHere 3 (some .boolean), .fieldLink RX4 132 "KiteRegistersModel" "textLong" "I", .fieldLink RX4 32 "KiteRegistersModel" "text" "[I", .methodLink RX4 44 yX4_in, .static yX4_in, .code yX4_in cX4_in 6 (some .boolean)] ++ wsX40)
def wsX4_readsLetters : List Cond := .code yX4_readsLetters cX4_readsLetters 6 (some .boolean) :: ([.constantLong RX4 141 (255), .methodLink RX4 143 yX4_takes, .instanceMethod yX4_takes, .selects RX4 yX4_takes yX4_takes, .initialized RX4, .code yX4_takes cX4_takes 3 (some .boolean), .fieldLink RX4 135 "KiteRegistersModel" "spot" "I", .methodLink RX4 138 yX4_isHere, .instanceMethod yX4_isHere, .selects RX4 yX4_isHere yX4_isHere, .code yX4_isHere cX4_isHere 3 (some .boolean), .fieldLink RX4 132 "KiteRegistersModel" "textLong" "I", .fieldLink RX4 32 "KiteRegistersModel" "text" "[I", .methodLink RX4 44 yX4_in, .static yX4_in, .code yX4_in cX4_in 6 (some .boolean)] ++ wsX40)
def wsX4_readsNumber : List Cond := .code yX4_readsNumber cX4_readsNumber 4 (some .boolean) :: ([.fieldLink RX4 32 "KiteRegistersModel" "text" "[I", .fieldLink RX4 135 "KiteRegistersModel" "spot" "I", .fieldLink RX4 146 "KiteRegistersModel" "number" "I", .methodLink RX4 143 yX4_takes, .instanceMethod yX4_takes, .selects RX4 yX4_takes yX4_takes, .initialized RX4, .code yX4_takes cX4_takes 3 (some .boolean), .methodLink RX4 138 yX4_isHere, .instanceMethod yX4_isHere, .selects RX4 yX4_isHere yX4_isHere, .code yX4_isHere cX4_isHere 3 (some .boolean), .fieldLink RX4 132 "KiteRegistersModel" "textLong" "I", .methodLink RX4 44 yX4_in, .static yX4_in, .code yX4_in cX4_in 6 (some .boolean)] ++ wsX40)
def wsX4_readsNumbers : List Cond := .code yX4_readsNumbers cX4_readsNumbers 2 (some .boolean) :: ([.fieldLink RX4 149 "KiteRegistersModel" "command" "I", .fieldLink RX4 146 "KiteRegistersModel" "number" "I", .fieldLink RX4 155 "KiteRegistersModel" "first" "I", .fieldLink RX4 158 "KiteRegistersModel" "second" "I", .methodLink RX4 152 yX4_readsNumber, .instanceMethod yX4_readsNumber, .selects RX4 yX4_readsNumber yX4_readsNumber, .initialized RX4, .code yX4_readsNumber cX4_readsNumber 4 (some .boolean), .fieldLink RX4 32 "KiteRegistersModel" "text" "[I", .fieldLink RX4 135 "KiteRegistersModel" "spot" "I", .methodLink RX4 143 yX4_takes, .instanceMethod yX4_takes, .selects RX4 yX4_takes yX4_takes, .code yX4_takes cX4_takes 3 (some .boolean), .methodLink RX4 138 yX4_isHere, .instanceMethod yX4_isHere, .selects RX4 yX4_isHere yX4_isHere, .code yX4_isHere cX4_isHere 3 (some .boolean), .fieldLink RX4 132 "KiteRegistersModel" "textLong" "I", .methodLink RX4 44 yX4_in, .static yX4_in, .code yX4_in cX4_in 6 (some .boolean)] ++ wsX40)
def wsX4_readsCommand_r1 : List Cond := [Cond.fieldLink RX4 149 "KiteRegistersModel" "command" "I", Cond.constantLong RX4 161 (27769), Cond.constantLong RX4 171 (6644068), Cond.constantLong RX4 173 (6644084), Cond.constantLong RX4 175 (1919513701), Cond.constantLong RX4 177 (6909540), Cond.methodLink RX4 143 yX4_takes, Cond.instanceMethod yX4_takes, Cond.selects RX4 yX4_takes yX4_takes, Cond.initialized RX4, Cond.code yX4_takes cX4_takes 3 (some .boolean), Cond.fieldLink RX4 135 "KiteRegistersModel" "spot" "I", Cond.methodLink RX4 138 yX4_isHere, Cond.instanceMethod yX4_isHere, Cond.selects RX4 yX4_isHere yX4_isHere, Cond.code yX4_isHere cX4_isHere 3 (some .boolean), Cond.fieldLink RX4 132 "KiteRegistersModel" "textLong" "I", Cond.fieldLink RX4 32 "KiteRegistersModel" "text" "[I", Cond.methodLink RX4 44 yX4_in, Cond.static yX4_in, Cond.code yX4_in cX4_in 6 (some .boolean), Cond.methodLink RX4 163 yX4_readsLetters, Cond.instanceMethod yX4_readsLetters, Cond.selects RX4 yX4_readsLetters yX4_readsLetters]
def wsX4_readsCommand_r2 : List Cond := [Cond.code yX4_readsLetters cX4_readsLetters 6 (some .boolean), Cond.constantLong RX4 141 (255), Cond.methodLink RX4 167 yX4_readsNumbers, Cond.instanceMethod yX4_readsNumbers, Cond.selects RX4 yX4_readsNumbers yX4_readsNumbers, Cond.code yX4_readsNumbers cX4_readsNumbers 2 (some .boolean), Cond.fieldLink RX4 146 "KiteRegistersModel" "number" "I", Cond.fieldLink RX4 155 "KiteRegistersModel" "first" "I", Cond.fieldLink RX4 158 "KiteRegistersModel" "second" "I", Cond.methodLink RX4 152 yX4_readsNumber, Cond.instanceMethod yX4_readsNumber, Cond.selects RX4 yX4_readsNumber yX4_readsNumber, Cond.code yX4_readsNumber cX4_readsNumber 4 (some .boolean)]
def wsX4_readsCommand : List Cond := .code yX4_readsCommand cX4_readsCommand 1 (some .boolean) :: ((wsX4_readsCommand_r1 ++ wsX4_readsCommand_r2) ++ wsX40)
def wsX4_fault_r1 : List Cond := [Cond.fieldLink RX4 135 "KiteRegistersModel" "spot" "I", Cond.fieldLink RX4 132 "KiteRegistersModel" "textLong" "I", Cond.methodLink RX4 179 yX4_readsCommand, Cond.instanceMethod yX4_readsCommand, Cond.selects RX4 yX4_readsCommand yX4_readsCommand, Cond.initialized RX4, Cond.code yX4_readsCommand cX4_readsCommand 1 (some .boolean), Cond.fieldLink RX4 149 "KiteRegistersModel" "command" "I", Cond.constantLong RX4 161 (27769), Cond.constantLong RX4 171 (6644068), Cond.constantLong RX4 173 (6644084), Cond.constantLong RX4 175 (1919513701), Cond.constantLong RX4 177 (6909540), Cond.methodLink RX4 143 yX4_takes, Cond.instanceMethod yX4_takes, Cond.selects RX4 yX4_takes yX4_takes, Cond.code yX4_takes cX4_takes 3 (some .boolean), Cond.methodLink RX4 138 yX4_isHere, Cond.instanceMethod yX4_isHere, Cond.selects RX4 yX4_isHere yX4_isHere, Cond.code yX4_isHere cX4_isHere 3 (some .boolean), Cond.fieldLink RX4 32 "KiteRegistersModel" "text" "[I", Cond.methodLink RX4 44 yX4_in, Cond.static yX4_in]
def wsX4_fault_r2 : List Cond := [Cond.code yX4_in cX4_in 6 (some .boolean), Cond.methodLink RX4 163 yX4_readsLetters, Cond.instanceMethod yX4_readsLetters, Cond.selects RX4 yX4_readsLetters yX4_readsLetters, Cond.code yX4_readsLetters cX4_readsLetters 6 (some .boolean), Cond.constantLong RX4 141 (255), Cond.methodLink RX4 167 yX4_readsNumbers, Cond.instanceMethod yX4_readsNumbers, Cond.selects RX4 yX4_readsNumbers yX4_readsNumbers, Cond.code yX4_readsNumbers cX4_readsNumbers 2 (some .boolean), Cond.fieldLink RX4 146 "KiteRegistersModel" "number" "I", Cond.fieldLink RX4 155 "KiteRegistersModel" "first" "I", Cond.fieldLink RX4 158 "KiteRegistersModel" "second" "I", Cond.methodLink RX4 152 yX4_readsNumber, Cond.instanceMethod yX4_readsNumber, Cond.selects RX4 yX4_readsNumber yX4_readsNumber, Cond.code yX4_readsNumber cX4_readsNumber 4 (some .boolean)]
def wsX4_fault : List Cond := .code yX4_fault cX4_fault 2 (some .int) :: ((wsX4_fault_r1 ++ wsX4_fault_r2) ++ wsX40)
def wsX4_carriesOut_r1 : List Cond := [Cond.fieldLink RX4 149 "KiteRegistersModel" "command" "I", Cond.fieldLink RX4 155 "KiteRegistersModel" "first" "I", Cond.fieldLink RX4 158 "KiteRegistersModel" "second" "I", Cond.fieldLink RX4 7 "KiteRegistersModel" "all" "[I", Cond.methodLink RX4 101 yX4_doFly, Cond.instanceMethod yX4_doFly, Cond.selects RX4 yX4_doFly yX4_doFly, Cond.initialized RX4, Cond.code yX4_doFly cX4_doFly 4 (some .int), Cond.methodLink RX4 67 yX4_lands, Cond.instanceMethod yX4_lands, Cond.selects RX4 yX4_lands yX4_lands, Cond.code yX4_lands cX4_lands 5 none, Cond.methodLink RX4 58 yX4_landing, Cond.instanceMethod yX4_landing, Cond.selects RX4 yX4_landing yX4_landing, Cond.code yX4_landing cX4_landing 4 (some .int), Cond.methodLink RX4 54 yX4_kiteAt, Cond.instanceMethod yX4_kiteAt, Cond.selects RX4 yX4_kiteAt yX4_kiteAt, Cond.code yX4_kiteAt cX4_kiteAt 4 (some .int), Cond.methodLink RX4 50 yX4_heightOf, Cond.instanceMethod yX4_heightOf, Cond.selects RX4 yX4_heightOf yX4_heightOf]
def wsX4_carriesOut_r2 : List Cond := [Cond.code yX4_heightOf cX4_heightOf 2 (some .int), Cond.methodLink RX4 107 yX4_isKite, Cond.instanceMethod yX4_isKite, Cond.selects RX4 yX4_isKite yX4_isKite, Cond.code yX4_isKite cX4_isKite 2 (some .boolean), Cond.constantLong RX4 48 (11), Cond.methodLink RX4 44 yX4_in, Cond.static yX4_in, Cond.code yX4_in cX4_in 6 (some .boolean), Cond.methodLink RX4 110 yX4_doRead, Cond.instanceMethod yX4_doRead, Cond.selects RX4 yX4_doRead yX4_doRead, Cond.code yX4_doRead cX4_doRead 3 (some .int), Cond.methodLink RX4 71 yX4_windNow, Cond.instanceMethod yX4_windNow, Cond.selects RX4 yX4_windNow yX4_windNow, Cond.code yX4_windNow cX4_windNow 1 (some .int), Cond.methodLink RX4 75 yX4_rises, Cond.instanceMethod yX4_rises, Cond.selects RX4 yX4_rises yX4_rises, Cond.code yX4_rises cX4_rises 4 (some .boolean), Cond.methodLink RX4 113 yX4_doWrite, Cond.instanceMethod yX4_doWrite, Cond.selects RX4 yX4_doWrite yX4_doWrite]
def wsX4_carriesOut_r3 : List Cond := [Cond.code yX4_doWrite cX4_doWrite 4 (some .int), Cond.methodLink RX4 118 yX4_beats, Cond.instanceMethod yX4_beats, Cond.selects RX4 yX4_beats yX4_beats, Cond.code yX4_beats cX4_beats 4 none, Cond.methodLink RX4 83 yX4_sinks, Cond.instanceMethod yX4_sinks, Cond.selects RX4 yX4_sinks yX4_sinks, Cond.code yX4_sinks cX4_sinks 7 none, Cond.methodLink RX4 79 yX4_nextTo, Cond.instanceMethod yX4_nextTo, Cond.selects RX4 yX4_nextTo yX4_nextTo, Cond.code yX4_nextTo cX4_nextTo 8 (some .int)]
def wsX4_carriesOut : List Cond := .code yX4_carriesOut cX4_carriesOut 2 (some .int) :: ((wsX4_carriesOut_r1 ++ (wsX4_carriesOut_r2 ++ wsX4_carriesOut_r3)) ++ wsX40)
def wsX4_perform_r1 : List Cond := [Cond.fieldLink RX4 135 "KiteRegistersModel" "spot" "I", Cond.fieldLink RX4 13 "KiteRegistersModel" "kept" "[I", Cond.fieldLink RX4 7 "KiteRegistersModel" "all" "[I", Cond.fieldLink RX4 25 "KiteRegistersModel" "stopAt" "I", Cond.fieldLink RX4 29 "KiteRegistersModel" "stopBy" "I", Cond.methodLink RX4 182 yX4_fault, Cond.instanceMethod yX4_fault, Cond.selects RX4 yX4_fault yX4_fault, Cond.initialized RX4, Cond.code yX4_fault cX4_fault 2 (some .int), Cond.fieldLink RX4 132 "KiteRegistersModel" "textLong" "I", Cond.methodLink RX4 179 yX4_readsCommand, Cond.instanceMethod yX4_readsCommand, Cond.selects RX4 yX4_readsCommand yX4_readsCommand, Cond.code yX4_readsCommand cX4_readsCommand 1 (some .boolean), Cond.fieldLink RX4 149 "KiteRegistersModel" "command" "I", Cond.constantLong RX4 161 (27769), Cond.constantLong RX4 171 (6644068), Cond.constantLong RX4 173 (6644084), Cond.constantLong RX4 175 (1919513701), Cond.constantLong RX4 177 (6909540), Cond.methodLink RX4 143 yX4_takes, Cond.instanceMethod yX4_takes, Cond.selects RX4 yX4_takes yX4_takes]
def wsX4_perform_r2 : List Cond := [Cond.code yX4_takes cX4_takes 3 (some .boolean), Cond.methodLink RX4 138 yX4_isHere, Cond.instanceMethod yX4_isHere, Cond.selects RX4 yX4_isHere yX4_isHere, Cond.code yX4_isHere cX4_isHere 3 (some .boolean), Cond.fieldLink RX4 32 "KiteRegistersModel" "text" "[I", Cond.methodLink RX4 44 yX4_in, Cond.static yX4_in, Cond.code yX4_in cX4_in 6 (some .boolean), Cond.methodLink RX4 163 yX4_readsLetters, Cond.instanceMethod yX4_readsLetters, Cond.selects RX4 yX4_readsLetters yX4_readsLetters, Cond.code yX4_readsLetters cX4_readsLetters 6 (some .boolean), Cond.constantLong RX4 141 (255), Cond.methodLink RX4 167 yX4_readsNumbers, Cond.instanceMethod yX4_readsNumbers, Cond.selects RX4 yX4_readsNumbers yX4_readsNumbers, Cond.code yX4_readsNumbers cX4_readsNumbers 2 (some .boolean), Cond.fieldLink RX4 146 "KiteRegistersModel" "number" "I", Cond.fieldLink RX4 155 "KiteRegistersModel" "first" "I", Cond.fieldLink RX4 158 "KiteRegistersModel" "second" "I", Cond.methodLink RX4 152 yX4_readsNumber, Cond.instanceMethod yX4_readsNumber, Cond.selects RX4 yX4_readsNumber yX4_readsNumber]
def wsX4_perform_r3 : List Cond := [Cond.code yX4_readsNumber cX4_readsNumber 4 (some .boolean), Cond.methodLink RX4 98 yX4_remember, Cond.instanceMethod yX4_remember, Cond.selects RX4 yX4_remember yX4_remember, Cond.code yX4_remember cX4_remember 1 none, Cond.methodLink RX4 35 yX4_copy, Cond.static yX4_copy, Cond.code yX4_copy cX4_copy 3 none, Cond.methodLink RX4 185 yX4_carriesOut, Cond.instanceMethod yX4_carriesOut, Cond.selects RX4 yX4_carriesOut yX4_carriesOut, Cond.code yX4_carriesOut cX4_carriesOut 2 (some .int), Cond.methodLink RX4 101 yX4_doFly, Cond.instanceMethod yX4_doFly, Cond.selects RX4 yX4_doFly yX4_doFly, Cond.code yX4_doFly cX4_doFly 4 (some .int), Cond.methodLink RX4 67 yX4_lands, Cond.instanceMethod yX4_lands, Cond.selects RX4 yX4_lands yX4_lands, Cond.code yX4_lands cX4_lands 5 none, Cond.methodLink RX4 58 yX4_landing, Cond.instanceMethod yX4_landing, Cond.selects RX4 yX4_landing yX4_landing, Cond.code yX4_landing cX4_landing 4 (some .int)]
def wsX4_perform_r4 : List Cond := [Cond.methodLink RX4 54 yX4_kiteAt, Cond.instanceMethod yX4_kiteAt, Cond.selects RX4 yX4_kiteAt yX4_kiteAt, Cond.code yX4_kiteAt cX4_kiteAt 4 (some .int), Cond.methodLink RX4 50 yX4_heightOf, Cond.instanceMethod yX4_heightOf, Cond.selects RX4 yX4_heightOf yX4_heightOf, Cond.code yX4_heightOf cX4_heightOf 2 (some .int), Cond.methodLink RX4 107 yX4_isKite, Cond.instanceMethod yX4_isKite, Cond.selects RX4 yX4_isKite yX4_isKite, Cond.code yX4_isKite cX4_isKite 2 (some .boolean), Cond.constantLong RX4 48 (11), Cond.methodLink RX4 110 yX4_doRead, Cond.instanceMethod yX4_doRead, Cond.selects RX4 yX4_doRead yX4_doRead, Cond.code yX4_doRead cX4_doRead 3 (some .int), Cond.methodLink RX4 71 yX4_windNow, Cond.instanceMethod yX4_windNow, Cond.selects RX4 yX4_windNow yX4_windNow, Cond.code yX4_windNow cX4_windNow 1 (some .int), Cond.methodLink RX4 75 yX4_rises, Cond.instanceMethod yX4_rises, Cond.selects RX4 yX4_rises yX4_rises]
def wsX4_perform_r5 : List Cond := [Cond.code yX4_rises cX4_rises 4 (some .boolean), Cond.methodLink RX4 113 yX4_doWrite, Cond.instanceMethod yX4_doWrite, Cond.selects RX4 yX4_doWrite yX4_doWrite, Cond.code yX4_doWrite cX4_doWrite 4 (some .int), Cond.methodLink RX4 118 yX4_beats, Cond.instanceMethod yX4_beats, Cond.selects RX4 yX4_beats yX4_beats, Cond.code yX4_beats cX4_beats 4 none, Cond.methodLink RX4 83 yX4_sinks, Cond.instanceMethod yX4_sinks, Cond.selects RX4 yX4_sinks yX4_sinks, Cond.code yX4_sinks cX4_sinks 7 none, Cond.methodLink RX4 79 yX4_nextTo, Cond.instanceMethod yX4_nextTo, Cond.selects RX4 yX4_nextTo yX4_nextTo, Cond.code yX4_nextTo cX4_nextTo 8 (some .int), Cond.methodLink RX4 104 yX4_acted, Cond.instanceMethod yX4_acted, Cond.selects RX4 yX4_acted yX4_acted, Cond.code yX4_acted cX4_acted 3 (some .int), Cond.fieldLink RX4 39 "KiteRegistersModel" "historyLong" "I", Cond.fieldLink RX4 19 "KiteRegistersModel" "history" "[I"]
def wsX4_perform : List Cond := .code yX4_perform cX4_perform 6 (some .int) :: ((wsX4_perform_r1 ++ (wsX4_perform_r2 ++ (wsX4_perform_r3 ++ (wsX4_perform_r4 ++ wsX4_perform_r5)))) ++ wsX40)
def wsX4_stopped : List Cond := .code yX4_stopped cX4_stopped 2 (some .int) :: ([.fieldLink RX4 25 "KiteRegistersModel" "stopAt" "I", .fieldLink RX4 29 "KiteRegistersModel" "stopBy" "I"] ++ wsX40)
def wsX4_undo : List Cond := .code yX4_undo cX4_undo 2 (some .int) :: ([.fieldLink RX4 39 "KiteRegistersModel" "historyLong" "I", .fieldLink RX4 7 "KiteRegistersModel" "all" "[I", .fieldLink RX4 19 "KiteRegistersModel" "history" "[I"] ++ wsX40)
def wsX4_keep : List Cond := .code yX4_keep cX4_keep 1 (some .int) :: ([.fieldLink RX4 7 "KiteRegistersModel" "all" "[I", .fieldLink RX4 22 "KiteRegistersModel" "snapshot" "[I", .fieldLink RX4 188 "KiteRegistersModel" "isTaken" "I", .methodLink RX4 35 yX4_copy, .static yX4_copy, .initialized RX4, .code yX4_copy cX4_copy 3 none, .methodLink RX4 191 yX4_many, .instanceMethod yX4_many, .selects RX4 yX4_many yX4_many, .code yX4_many cX4_many 3 (some .int), .methodLink RX4 64 yX4_kitesOf, .instanceMethod yX4_kitesOf, .selects RX4 yX4_kitesOf yX4_kitesOf, .code yX4_kitesOf cX4_kitesOf 4 (some .int)] ++ wsX40)
def wsX4_restore_r1 : List Cond := [Cond.fieldLink RX4 188 "KiteRegistersModel" "isTaken" "I", Cond.fieldLink RX4 22 "KiteRegistersModel" "snapshot" "[I", Cond.fieldLink RX4 7 "KiteRegistersModel" "all" "[I", Cond.methodLink RX4 98 yX4_remember, Cond.instanceMethod yX4_remember, Cond.selects RX4 yX4_remember yX4_remember, Cond.initialized RX4, Cond.code yX4_remember cX4_remember 1 none, Cond.fieldLink RX4 13 "KiteRegistersModel" "kept" "[I", Cond.methodLink RX4 35 yX4_copy, Cond.static yX4_copy, Cond.code yX4_copy cX4_copy 3 none, Cond.methodLink RX4 191 yX4_many, Cond.instanceMethod yX4_many, Cond.selects RX4 yX4_many yX4_many, Cond.code yX4_many cX4_many 3 (some .int), Cond.methodLink RX4 64 yX4_kitesOf, Cond.instanceMethod yX4_kitesOf, Cond.selects RX4 yX4_kitesOf yX4_kitesOf, Cond.code yX4_kitesOf cX4_kitesOf 4 (some .int), Cond.methodLink RX4 104 yX4_acted, Cond.instanceMethod yX4_acted, Cond.selects RX4 yX4_acted yX4_acted, Cond.code yX4_acted cX4_acted 3 (some .int)]
def wsX4_restore_r2 : List Cond := [Cond.fieldLink RX4 39 "KiteRegistersModel" "historyLong" "I", Cond.fieldLink RX4 19 "KiteRegistersModel" "history" "[I"]
def wsX4_restore : List Cond := .code yX4_restore cX4_restore 1 (some .int) :: ((wsX4_restore_r1 ++ wsX4_restore_r2) ++ wsX40)
def wsX4_rankOf : List Cond := .code yX4_rankOf cX4_rankOf 4 (some .int) :: ([.fieldLink RX4 7 "KiteRegistersModel" "all" "[I", .methodLink RX4 50 yX4_heightOf, .instanceMethod yX4_heightOf, .selects RX4 yX4_heightOf yX4_heightOf, .initialized RX4, .code yX4_heightOf cX4_heightOf 2 (some .int)] ++ wsX40)
def wsX4_kite : List Cond := .code yX4_kite cX4_kite 3 (some .int) :: ([.fieldLink RX4 7 "KiteRegistersModel" "all" "[I", .methodLink RX4 107 yX4_isKite, .instanceMethod yX4_isKite, .selects RX4 yX4_isKite yX4_isKite, .initialized RX4, .code yX4_isKite cX4_isKite 2 (some .boolean), .constantLong RX4 48 (11), .methodLink RX4 44 yX4_in, .static yX4_in, .code yX4_in cX4_in 6 (some .boolean), .methodLink RX4 50 yX4_heightOf, .instanceMethod yX4_heightOf, .selects RX4 yX4_heightOf yX4_heightOf, .code yX4_heightOf cX4_heightOf 2 (some .int), .methodLink RX4 194 yX4_rankOf, .instanceMethod yX4_rankOf, .selects RX4 yX4_rankOf yX4_rankOf, .code yX4_rankOf cX4_rankOf 4 (some .int), .methodLink RX4 79 yX4_nextTo, .instanceMethod yX4_nextTo, .selects RX4 yX4_nextTo yX4_nextTo, .code yX4_nextTo cX4_nextTo 8 (some .int)] ++ wsX40)
def wsX4_sumOf : List Cond := .code yX4_sumOf cX4_sumOf 4 (some .int) :: ([.fieldLink RX4 7 "KiteRegistersModel" "all" "[I"] ++ wsX40)
def wsX4_highestOf : List Cond := .code yX4_highestOf cX4_highestOf 4 (some .int) :: ([.methodLink RX4 79 yX4_nextTo, .instanceMethod yX4_nextTo, .selects RX4 yX4_nextTo yX4_nextTo, .initialized RX4, .code yX4_nextTo cX4_nextTo 8 (some .int), .fieldLink RX4 7 "KiteRegistersModel" "all" "[I", .methodLink RX4 50 yX4_heightOf, .instanceMethod yX4_heightOf, .selects RX4 yX4_heightOf yX4_heightOf, .code yX4_heightOf cX4_heightOf 2 (some .int)] ++ wsX40)
def wsX4_string_r1 : List Cond := [Cond.fieldLink RX4 7 "KiteRegistersModel" "all" "[I", Cond.methodLink RX4 91 yX4_isString, Cond.static yX4_isString, Cond.initialized RX4, Cond.code yX4_isString cX4_isString 1 (some .boolean), Cond.constantLong RX4 42 (3), Cond.methodLink RX4 44 yX4_in, Cond.static yX4_in, Cond.code yX4_in cX4_in 6 (some .boolean), Cond.methodLink RX4 64 yX4_kitesOf, Cond.instanceMethod yX4_kitesOf, Cond.selects RX4 yX4_kitesOf yX4_kitesOf, Cond.code yX4_kitesOf cX4_kitesOf 4 (some .int), Cond.methodLink RX4 197 yX4_weightsOf, Cond.instanceMethod yX4_weightsOf, Cond.selects RX4 yX4_weightsOf yX4_weightsOf, Cond.code yX4_weightsOf cX4_weightsOf 4 (some .int), Cond.methodLink RX4 61 yX4_weightOf, Cond.instanceMethod yX4_weightOf, Cond.selects RX4 yX4_weightOf yX4_weightOf, Cond.code yX4_weightOf cX4_weightOf 2 (some .int), Cond.methodLink RX4 50 yX4_heightOf, Cond.instanceMethod yX4_heightOf, Cond.selects RX4 yX4_heightOf yX4_heightOf]
def wsX4_string_r2 : List Cond := [Cond.code yX4_heightOf cX4_heightOf 2 (some .int), Cond.methodLink RX4 200 yX4_highestOf, Cond.instanceMethod yX4_highestOf, Cond.selects RX4 yX4_highestOf yX4_highestOf, Cond.code yX4_highestOf cX4_highestOf 4 (some .int), Cond.methodLink RX4 79 yX4_nextTo, Cond.instanceMethod yX4_nextTo, Cond.selects RX4 yX4_nextTo yX4_nextTo, Cond.code yX4_nextTo cX4_nextTo 8 (some .int), Cond.methodLink RX4 203 yX4_sumOf, Cond.instanceMethod yX4_sumOf, Cond.selects RX4 yX4_sumOf yX4_sumOf, Cond.code yX4_sumOf cX4_sumOf 4 (some .int)]
def wsX4_string : List Cond := .code yX4_string cX4_string 3 (some .int) :: ((wsX4_string_r1 ++ wsX4_string_r2) ++ wsX40)
def wsX4_drawn : List Cond := .code yX4_drawn cX4_drawn 5 (some .int) :: ([.fieldLink RX4 7 "KiteRegistersModel" "all" "[I", .methodLink RX4 91 yX4_isString, .static yX4_isString, .initialized RX4, .code yX4_isString cX4_isString 1 (some .boolean), .constantLong RX4 42 (3), .methodLink RX4 44 yX4_in, .static yX4_in, .code yX4_in cX4_in 6 (some .boolean), .methodLink RX4 197 yX4_weightsOf, .instanceMethod yX4_weightsOf, .selects RX4 yX4_weightsOf yX4_weightsOf, .code yX4_weightsOf cX4_weightsOf 4 (some .int), .methodLink RX4 61 yX4_weightOf, .instanceMethod yX4_weightOf, .selects RX4 yX4_weightOf yX4_weightOf, .code yX4_weightOf cX4_weightOf 2 (some .int), .methodLink RX4 50 yX4_heightOf, .instanceMethod yX4_heightOf, .selects RX4 yX4_heightOf yX4_heightOf, .code yX4_heightOf cX4_heightOf 2 (some .int)] ++ wsX40)
def wsX4_share : List Cond := .code yX4_share cX4_share 2 (some .int) :: ([.fieldLink RX4 7 "KiteRegistersModel" "all" "[I", .methodLink RX4 107 yX4_isKite, .instanceMethod yX4_isKite, .selects RX4 yX4_isKite yX4_isKite, .initialized RX4, .code yX4_isKite cX4_isKite 2 (some .boolean), .constantLong RX4 48 (11), .methodLink RX4 44 yX4_in, .static yX4_in, .code yX4_in cX4_in 6 (some .boolean), .methodLink RX4 61 yX4_weightOf, .instanceMethod yX4_weightOf, .selects RX4 yX4_weightOf yX4_weightOf, .code yX4_weightOf cX4_weightOf 2 (some .int), .methodLink RX4 50 yX4_heightOf, .instanceMethod yX4_heightOf, .selects RX4 yX4_heightOf yX4_heightOf, .code yX4_heightOf cX4_heightOf 2 (some .int), .methodLink RX4 197 yX4_weightsOf, .instanceMethod yX4_weightsOf, .selects RX4 yX4_weightsOf yX4_weightsOf, .code yX4_weightsOf cX4_weightsOf 4 (some .int)] ++ wsX40)
def wsX4_windOf : List Cond := .code yX4_windOf cX4_windOf 2 (some .int) :: ([.fieldLink RX4 7 "KiteRegistersModel" "all" "[I", .methodLink RX4 123 yX4_isBeat, .static yX4_isBeat, .initialized RX4, .code yX4_isBeat cX4_isBeat 1 (some .boolean), .constantLong RX4 121 (7), .methodLink RX4 44 yX4_in, .static yX4_in, .code yX4_in cX4_in 6 (some .boolean)] ++ wsX40)
def wsX4_passed : List Cond := .code yX4_passed cX4_passed 5 (some .int) :: ([.fieldLink RX4 7 "KiteRegistersModel" "all" "[I", .methodLink RX4 50 yX4_heightOf, .instanceMethod yX4_heightOf, .selects RX4 yX4_heightOf yX4_heightOf, .initialized RX4, .code yX4_heightOf cX4_heightOf 2 (some .int)] ++ wsX40)
def wsX4_ifRead_r1 : List Cond := [Cond.constantLong RX4 42 (3), Cond.fieldLink RX4 7 "KiteRegistersModel" "all" "[I", Cond.fieldLink RX4 16 "KiteRegistersModel" "tried" "[I", Cond.methodLink RX4 107 yX4_isKite, Cond.instanceMethod yX4_isKite, Cond.selects RX4 yX4_isKite yX4_isKite, Cond.initialized RX4, Cond.code yX4_isKite cX4_isKite 2 (some .boolean), Cond.constantLong RX4 48 (11), Cond.methodLink RX4 44 yX4_in, Cond.static yX4_in, Cond.code yX4_in cX4_in 6 (some .boolean), Cond.methodLink RX4 35 yX4_copy, Cond.static yX4_copy, Cond.code yX4_copy cX4_copy 3 none, Cond.methodLink RX4 50 yX4_heightOf, Cond.instanceMethod yX4_heightOf, Cond.selects RX4 yX4_heightOf yX4_heightOf, Cond.code yX4_heightOf cX4_heightOf 2 (some .int), Cond.methodLink RX4 71 yX4_windNow, Cond.instanceMethod yX4_windNow, Cond.selects RX4 yX4_windNow yX4_windNow, Cond.code yX4_windNow cX4_windNow 1 (some .int), Cond.methodLink RX4 75 yX4_rises]
def wsX4_ifRead_r2 : List Cond := [Cond.instanceMethod yX4_rises, Cond.selects RX4 yX4_rises yX4_rises, Cond.code yX4_rises cX4_rises 4 (some .boolean), Cond.methodLink RX4 67 yX4_lands, Cond.instanceMethod yX4_lands, Cond.selects RX4 yX4_lands yX4_lands, Cond.code yX4_lands cX4_lands 5 none, Cond.methodLink RX4 58 yX4_landing, Cond.instanceMethod yX4_landing, Cond.selects RX4 yX4_landing yX4_landing, Cond.code yX4_landing cX4_landing 4 (some .int), Cond.methodLink RX4 54 yX4_kiteAt, Cond.instanceMethod yX4_kiteAt, Cond.selects RX4 yX4_kiteAt yX4_kiteAt, Cond.code yX4_kiteAt cX4_kiteAt 4 (some .int), Cond.methodLink RX4 206 yX4_passed, Cond.instanceMethod yX4_passed, Cond.selects RX4 yX4_passed yX4_passed, Cond.code yX4_passed cX4_passed 5 (some .int)]
def wsX4_ifRead : List Cond := .code yX4_ifRead cX4_ifRead 6 (some .int) :: ((wsX4_ifRead_r1 ++ wsX4_ifRead_r2) ++ wsX40)
def wsX4_readsToCut_r1 : List Cond := [Cond.fieldLink RX4 7 "KiteRegistersModel" "all" "[I", Cond.fieldLink RX4 16 "KiteRegistersModel" "tried" "[I", Cond.methodLink RX4 107 yX4_isKite, Cond.instanceMethod yX4_isKite, Cond.selects RX4 yX4_isKite yX4_isKite, Cond.initialized RX4, Cond.code yX4_isKite cX4_isKite 2 (some .boolean), Cond.constantLong RX4 48 (11), Cond.methodLink RX4 44 yX4_in, Cond.static yX4_in, Cond.code yX4_in cX4_in 6 (some .boolean), Cond.methodLink RX4 35 yX4_copy, Cond.static yX4_copy, Cond.code yX4_copy cX4_copy 3 none, Cond.methodLink RX4 71 yX4_windNow, Cond.instanceMethod yX4_windNow, Cond.selects RX4 yX4_windNow yX4_windNow, Cond.code yX4_windNow cX4_windNow 1 (some .int), Cond.methodLink RX4 75 yX4_rises, Cond.instanceMethod yX4_rises, Cond.selects RX4 yX4_rises yX4_rises, Cond.code yX4_rises cX4_rises 4 (some .boolean), Cond.methodLink RX4 50 yX4_heightOf, Cond.instanceMethod yX4_heightOf]
def wsX4_readsToCut_r2 : List Cond := [Cond.selects RX4 yX4_heightOf yX4_heightOf, Cond.code yX4_heightOf cX4_heightOf 2 (some .int), Cond.methodLink RX4 67 yX4_lands, Cond.instanceMethod yX4_lands, Cond.selects RX4 yX4_lands yX4_lands, Cond.code yX4_lands cX4_lands 5 none, Cond.methodLink RX4 58 yX4_landing, Cond.instanceMethod yX4_landing, Cond.selects RX4 yX4_landing yX4_landing, Cond.code yX4_landing cX4_landing 4 (some .int), Cond.methodLink RX4 54 yX4_kiteAt, Cond.instanceMethod yX4_kiteAt, Cond.selects RX4 yX4_kiteAt yX4_kiteAt, Cond.code yX4_kiteAt cX4_kiteAt 4 (some .int)]
def wsX4_readsToCut : List Cond := .code yX4_readsToCut cX4_readsToCut 3 (some .int) :: ((wsX4_readsToCut_r1 ++ wsX4_readsToCut_r2) ++ wsX40)
def wsX4_downIn_r1 : List Cond := [Cond.constantLong RX4 209 (99), Cond.fieldLink RX4 7 "KiteRegistersModel" "all" "[I", Cond.fieldLink RX4 16 "KiteRegistersModel" "tried" "[I", Cond.methodLink RX4 107 yX4_isKite, Cond.instanceMethod yX4_isKite, Cond.selects RX4 yX4_isKite yX4_isKite, Cond.initialized RX4, Cond.code yX4_isKite cX4_isKite 2 (some .boolean), Cond.constantLong RX4 48 (11), Cond.methodLink RX4 44 yX4_in, Cond.static yX4_in, Cond.code yX4_in cX4_in 6 (some .boolean), Cond.methodLink RX4 35 yX4_copy, Cond.static yX4_copy, Cond.code yX4_copy cX4_copy 3 none, Cond.methodLink RX4 50 yX4_heightOf, Cond.instanceMethod yX4_heightOf, Cond.selects RX4 yX4_heightOf yX4_heightOf, Cond.code yX4_heightOf cX4_heightOf 2 (some .int), Cond.methodLink RX4 118 yX4_beats, Cond.instanceMethod yX4_beats, Cond.selects RX4 yX4_beats yX4_beats, Cond.code yX4_beats cX4_beats 4 none, Cond.methodLink RX4 83 yX4_sinks]
def wsX4_downIn_r2 : List Cond := [Cond.instanceMethod yX4_sinks, Cond.selects RX4 yX4_sinks yX4_sinks, Cond.code yX4_sinks cX4_sinks 7 none, Cond.methodLink RX4 79 yX4_nextTo, Cond.instanceMethod yX4_nextTo, Cond.selects RX4 yX4_nextTo yX4_nextTo, Cond.code yX4_nextTo cX4_nextTo 8 (some .int)]
def wsX4_downIn : List Cond := .code yX4_downIn cX4_downIn 4 (some .int) :: ((wsX4_downIn_r1 ++ wsX4_downIn_r2) ++ wsX40)
def wsX4_isSafe_r1 : List Cond := [Cond.fieldLink RX4 7 "KiteRegistersModel" "all" "[I", Cond.fieldLink RX4 16 "KiteRegistersModel" "tried" "[I", Cond.methodLink RX4 107 yX4_isKite, Cond.instanceMethod yX4_isKite, Cond.selects RX4 yX4_isKite yX4_isKite, Cond.initialized RX4, Cond.code yX4_isKite cX4_isKite 2 (some .boolean), Cond.constantLong RX4 48 (11), Cond.methodLink RX4 44 yX4_in, Cond.static yX4_in, Cond.code yX4_in cX4_in 6 (some .boolean), Cond.methodLink RX4 35 yX4_copy, Cond.static yX4_copy, Cond.code yX4_copy cX4_copy 3 none, Cond.methodLink RX4 75 yX4_rises, Cond.instanceMethod yX4_rises, Cond.selects RX4 yX4_rises yX4_rises, Cond.code yX4_rises cX4_rises 4 (some .boolean), Cond.methodLink RX4 50 yX4_heightOf, Cond.instanceMethod yX4_heightOf, Cond.selects RX4 yX4_heightOf yX4_heightOf, Cond.code yX4_heightOf cX4_heightOf 2 (some .int), Cond.methodLink RX4 67 yX4_lands, Cond.instanceMethod yX4_lands]
def wsX4_isSafe_r2 : List Cond := [Cond.selects RX4 yX4_lands yX4_lands, Cond.code yX4_lands cX4_lands 5 none, Cond.methodLink RX4 58 yX4_landing, Cond.instanceMethod yX4_landing, Cond.selects RX4 yX4_landing yX4_landing, Cond.code yX4_landing cX4_landing 4 (some .int), Cond.methodLink RX4 54 yX4_kiteAt, Cond.instanceMethod yX4_kiteAt, Cond.selects RX4 yX4_kiteAt yX4_kiteAt, Cond.code yX4_kiteAt cX4_kiteAt 4 (some .int)]
def wsX4_isSafe : List Cond := .code yX4_isSafe cX4_isSafe 4 (some .boolean) :: ((wsX4_isSafe_r1 ++ wsX4_isSafe_r2) ++ wsX40)
def wsX4_safeWind_r1 : List Cond := [Cond.methodLink RX4 211 yX4_isSafe, Cond.instanceMethod yX4_isSafe, Cond.selects RX4 yX4_isSafe yX4_isSafe, Cond.initialized RX4, Cond.code yX4_isSafe cX4_isSafe 4 (some .boolean), Cond.fieldLink RX4 7 "KiteRegistersModel" "all" "[I", Cond.fieldLink RX4 16 "KiteRegistersModel" "tried" "[I", Cond.methodLink RX4 107 yX4_isKite, Cond.instanceMethod yX4_isKite, Cond.selects RX4 yX4_isKite yX4_isKite, Cond.code yX4_isKite cX4_isKite 2 (some .boolean), Cond.constantLong RX4 48 (11), Cond.methodLink RX4 44 yX4_in, Cond.static yX4_in, Cond.code yX4_in cX4_in 6 (some .boolean), Cond.methodLink RX4 35 yX4_copy, Cond.static yX4_copy, Cond.code yX4_copy cX4_copy 3 none, Cond.methodLink RX4 75 yX4_rises, Cond.instanceMethod yX4_rises, Cond.selects RX4 yX4_rises yX4_rises, Cond.code yX4_rises cX4_rises 4 (some .boolean), Cond.methodLink RX4 50 yX4_heightOf, Cond.instanceMethod yX4_heightOf]
def wsX4_safeWind_r2 : List Cond := [Cond.selects RX4 yX4_heightOf yX4_heightOf, Cond.code yX4_heightOf cX4_heightOf 2 (some .int), Cond.methodLink RX4 67 yX4_lands, Cond.instanceMethod yX4_lands, Cond.selects RX4 yX4_lands yX4_lands, Cond.code yX4_lands cX4_lands 5 none, Cond.methodLink RX4 58 yX4_landing, Cond.instanceMethod yX4_landing, Cond.selects RX4 yX4_landing yX4_landing, Cond.code yX4_landing cX4_landing 4 (some .int), Cond.methodLink RX4 54 yX4_kiteAt, Cond.instanceMethod yX4_kiteAt, Cond.selects RX4 yX4_kiteAt yX4_kiteAt, Cond.code yX4_kiteAt cX4_kiteAt 4 (some .int)]
def wsX4_safeWind : List Cond := .code yX4_safeWind cX4_safeWind 2 (some .int) :: ((wsX4_safeWind_r1 ++ wsX4_safeWind_r2) ++ wsX40)
def wsX4_calmest : List Cond := .code yX4_calmest cX4_calmest 5 (some .int) :: ([.methodLink RX4 58 yX4_landing, .instanceMethod yX4_landing, .selects RX4 yX4_landing yX4_landing, .initialized RX4, .code yX4_landing cX4_landing 4 (some .int), .methodLink RX4 54 yX4_kiteAt, .instanceMethod yX4_kiteAt, .selects RX4 yX4_kiteAt yX4_kiteAt, .code yX4_kiteAt cX4_kiteAt 4 (some .int), .fieldLink RX4 7 "KiteRegistersModel" "all" "[I", .methodLink RX4 50 yX4_heightOf, .instanceMethod yX4_heightOf, .selects RX4 yX4_heightOf yX4_heightOf, .code yX4_heightOf cX4_heightOf 2 (some .int), .methodLink RX4 197 yX4_weightsOf, .instanceMethod yX4_weightsOf, .selects RX4 yX4_weightsOf yX4_weightsOf, .code yX4_weightsOf cX4_weightsOf 4 (some .int), .methodLink RX4 61 yX4_weightOf, .instanceMethod yX4_weightOf, .selects RX4 yX4_weightOf yX4_weightOf, .code yX4_weightOf cX4_weightOf 2 (some .int)] ++ wsX40)
def wsX4_freshOnes : List Cond := .code yX4_freshOnes cX4_freshOnes 3 (some .int) :: ([.fieldLink RX4 7 "KiteRegistersModel" "all" "[I", .methodLink RX4 107 yX4_isKite, .instanceMethod yX4_isKite, .selects RX4 yX4_isKite yX4_isKite, .initialized RX4, .code yX4_isKite cX4_isKite 2 (some .boolean), .constantLong RX4 48 (11), .methodLink RX4 44 yX4_in, .static yX4_in, .code yX4_in cX4_in 6 (some .boolean)] ++ wsX40)
def wsX4_greatestHeight : List Cond := .code yX4_greatestHeight cX4_greatestHeight 3 (some .int) :: ([.methodLink RX4 107 yX4_isKite, .instanceMethod yX4_isKite, .selects RX4 yX4_isKite yX4_isKite, .initialized RX4, .code yX4_isKite cX4_isKite 2 (some .boolean), .constantLong RX4 48 (11), .fieldLink RX4 7 "KiteRegistersModel" "all" "[I", .methodLink RX4 44 yX4_in, .static yX4_in, .code yX4_in cX4_in 6 (some .boolean), .methodLink RX4 50 yX4_heightOf, .instanceMethod yX4_heightOf, .selects RX4 yX4_heightOf yX4_heightOf, .code yX4_heightOf cX4_heightOf 2 (some .int)] ++ wsX40)
def wsX4_allWeights : List Cond := .code yX4_allWeights cX4_allWeights 3 (some .int) :: ([.methodLink RX4 197 yX4_weightsOf, .instanceMethod yX4_weightsOf, .selects RX4 yX4_weightsOf yX4_weightsOf, .initialized RX4, .code yX4_weightsOf cX4_weightsOf 4 (some .int), .fieldLink RX4 7 "KiteRegistersModel" "all" "[I", .methodLink RX4 61 yX4_weightOf, .instanceMethod yX4_weightOf, .selects RX4 yX4_weightOf yX4_weightOf, .code yX4_weightOf cX4_weightOf 2 (some .int), .methodLink RX4 50 yX4_heightOf, .instanceMethod yX4_heightOf, .selects RX4 yX4_heightOf yX4_heightOf, .code yX4_heightOf cX4_heightOf 2 (some .int)] ++ wsX40)
def wsX4_count_r1 : List Cond := [Cond.fieldLink RX4 7 "KiteRegistersModel" "all" "[I", Cond.fieldLink RX4 39 "KiteRegistersModel" "historyLong" "I", Cond.fieldLink RX4 132 "KiteRegistersModel" "textLong" "I", Cond.methodLink RX4 191 yX4_many, Cond.instanceMethod yX4_many, Cond.selects RX4 yX4_many yX4_many, Cond.initialized RX4, Cond.code yX4_many cX4_many 3 (some .int), Cond.methodLink RX4 64 yX4_kitesOf, Cond.instanceMethod yX4_kitesOf, Cond.selects RX4 yX4_kitesOf yX4_kitesOf, Cond.code yX4_kitesOf cX4_kitesOf 4 (some .int), Cond.methodLink RX4 71 yX4_windNow, Cond.instanceMethod yX4_windNow, Cond.selects RX4 yX4_windNow yX4_windNow, Cond.code yX4_windNow cX4_windNow 1 (some .int), Cond.methodLink RX4 214 yX4_freshOnes, Cond.instanceMethod yX4_freshOnes, Cond.selects RX4 yX4_freshOnes yX4_freshOnes, Cond.code yX4_freshOnes cX4_freshOnes 3 (some .int), Cond.methodLink RX4 107 yX4_isKite, Cond.instanceMethod yX4_isKite, Cond.selects RX4 yX4_isKite yX4_isKite, Cond.code yX4_isKite cX4_isKite 2 (some .boolean)]
def wsX4_count_r2 : List Cond := [Cond.constantLong RX4 48 (11), Cond.methodLink RX4 44 yX4_in, Cond.static yX4_in, Cond.code yX4_in cX4_in 6 (some .boolean), Cond.methodLink RX4 217 yX4_greatestHeight, Cond.instanceMethod yX4_greatestHeight, Cond.selects RX4 yX4_greatestHeight yX4_greatestHeight, Cond.code yX4_greatestHeight cX4_greatestHeight 3 (some .int), Cond.methodLink RX4 50 yX4_heightOf, Cond.instanceMethod yX4_heightOf, Cond.selects RX4 yX4_heightOf yX4_heightOf, Cond.code yX4_heightOf cX4_heightOf 2 (some .int), Cond.methodLink RX4 220 yX4_allWeights, Cond.instanceMethod yX4_allWeights, Cond.selects RX4 yX4_allWeights yX4_allWeights, Cond.code yX4_allWeights cX4_allWeights 3 (some .int), Cond.methodLink RX4 197 yX4_weightsOf, Cond.instanceMethod yX4_weightsOf, Cond.selects RX4 yX4_weightsOf yX4_weightsOf, Cond.code yX4_weightsOf cX4_weightsOf 4 (some .int), Cond.methodLink RX4 61 yX4_weightOf, Cond.instanceMethod yX4_weightOf, Cond.selects RX4 yX4_weightOf yX4_weightOf, Cond.code yX4_weightOf cX4_weightOf 2 (some .int)]
def wsX4_count : List Cond := .code yX4_count cX4_count 3 (some .int) :: ((wsX4_count_r1 ++ wsX4_count_r2) ++ wsX40)
def wsJ9_max_7cf53 : List Cond := .code yJ9_max_7cf53 cJ9_max_7cf53 2 (some .int) :: ([])
def wsJ9_min_7cf53 : List Cond := .code yJ9_min_7cf53 cJ9_min_7cf53 2 (some .int) :: ([])
def wsL_law_r1 : List Cond := [Cond.classLink RL 7 RX3, Cond.instantiable RX3 9, Cond.initialized RX3, Cond.classLink RL 10 RX4, Cond.instantiable RX4 16, Cond.initialized RX4, Cond.methodLink RL 9 yX3_init, Cond.instanceMethod yX3_init, Cond.code yX3_init cX3_init 1 none, Cond.methodLink RX3 1 objectInit, Cond.instanceMethod objectInit, Cond.code objectInit ⟨#[0xb1]⟩ 1 none, Cond.classLink RX3 7 RX2, Cond.instantiable RX2 12, Cond.initialized RX2, Cond.fieldLink RX3 10 "KiteRegisters" "sky" "LKiteRegisters$Sky;", Cond.fieldLink RX3 16 "KiteRegisters" "before" "LKiteRegisters$Sky;", Cond.fieldLink RX3 19 "KiteRegisters" "trial" "LKiteRegisters$Sky;", Cond.fieldLink RX3 22 "KiteRegisters" "snapshot" "LKiteRegisters$Sky;", Cond.fieldLink RX3 25 "KiteRegisters" "hasSnapshot" "Z", Cond.classLink RX3 29 RX0, Cond.instantiable RX0 3, Cond.initialized RX0, Cond.fieldLink RX3 32 "KiteRegisters" "history" "LKiteRegisters$History;"]
def wsL_law_r2 : List Cond := [Cond.classLink RX3 36 RX1, Cond.instantiable RX1 9, Cond.initialized RX1, Cond.fieldLink RX3 39 "KiteRegisters" "script" "LKiteRegisters$Script;", Cond.fieldLink RX3 43 "KiteRegisters" "stopCommand" "I", Cond.fieldLink RX3 47 "KiteRegisters" "stopError" "I", Cond.instanceMethod yX2_init, Cond.code yX2_init cX2_init 2 none, Cond.methodLink RX2 3 objectInit, Cond.arrayClass .int, Cond.fieldLink RX2 9 "KiteRegisters$Sky" "numbers" "[I", Cond.fieldLink RX2 15 "KiteRegisters$Sky" "strings" "[I", Cond.fieldLink RX2 18 "KiteRegisters$Sky" "heights" "[I", Cond.arrayClass .boolean, Cond.fieldLink RX2 21 "KiteRegisters$Sky" "fresh" "[Z", Cond.fieldLink RX2 25 "KiteRegisters$Sky" "readings" "[I", Cond.fieldLink RX2 28 "KiteRegisters$Sky" "cuts" "[I", Cond.fieldLink RX2 31 "KiteRegisters$Sky" "winds" "[I", Cond.fieldLink RX2 34 "KiteRegisters$Sky" "cutsFrom" "[I", Cond.fieldLink RX2 37 "KiteRegisters$Sky" "beatsSoFar" "I", Cond.fieldLink RX2 41 "KiteRegisters$Sky" "readingsSoFar" "I", Cond.fieldLink RX2 44 "KiteRegisters$Sky" "cutHeight" "I", Cond.fieldLink RX2 47 "KiteRegisters$Sky" "sinking" "I", Cond.instanceMethod yX0_init]
def wsL_law_r3 : List Cond := [Cond.code yX0_init cX0_init 2 none, Cond.methodLink RX0 3 objectInit, Cond.classLink RX0 9 RX2, Cond.fieldLink RX0 11 "KiteRegisters$History" "states" "[LKiteRegisters$Sky;", Cond.fieldLink RX0 17 "KiteRegisters$History" "next" "I", Cond.fieldLink RX0 21 "KiteRegisters$History" "size" "I", Cond.instanceMethod yX1_init, Cond.code yX1_init cX1_init 1 none, Cond.methodLink RX1 3 objectInit, Cond.arrayClass .char, Cond.fieldLink RX1 9 "KiteRegisters$Script" "signs" "[C", Cond.fieldLink RX1 15 "KiteRegisters$Script" "length" "I", Cond.fieldLink RX1 19 "KiteRegisters$Script" "verbs" "[I", Cond.fieldLink RX1 23 "KiteRegisters$Script" "firsts" "[I", Cond.fieldLink RX1 26 "KiteRegisters$Script" "seconds" "[I", Cond.fieldLink RX1 29 "KiteRegisters$Script" "commands" "I", Cond.fieldLink RX1 32 "KiteRegisters$Script" "place" "I", Cond.fieldLink RX1 35 "KiteRegisters$Script" "verb" "I", Cond.fieldLink RX1 38 "KiteRegisters$Script" "number" "I", Cond.methodLink RL 12 yX4_init, Cond.instanceMethod yX4_init, Cond.code yX4_init cX4_init 2 none, Cond.methodLink RX4 1 objectInit, Cond.fieldLink RX4 7 "KiteRegistersModel" "all" "[I"]
def wsL_law_r4 : List Cond := [Cond.fieldLink RX4 13 "KiteRegistersModel" "kept" "[I", Cond.fieldLink RX4 16 "KiteRegistersModel" "tried" "[I", Cond.fieldLink RX4 19 "KiteRegistersModel" "history" "[I", Cond.fieldLink RX4 22 "KiteRegistersModel" "snapshot" "[I", Cond.fieldLink RX4 25 "KiteRegistersModel" "stopAt" "I", Cond.fieldLink RX4 29 "KiteRegistersModel" "stopBy" "I", Cond.fieldLink RX4 32 "KiteRegistersModel" "text" "[I", Cond.methodLink RL 13 yX3_fly, Cond.instanceMethod yX3_fly, Cond.selects RX3 yX3_fly yX3_fly, Cond.code yX3_fly cX3_fly 3 (some .int), Cond.instanceMethod yX2_copyFrom, Cond.selects RX2 yX2_copyFrom yX2_copyFrom, Cond.code yX2_copyFrom cX2_copyFrom 3 none, Cond.instanceMethod yX2_launch, Cond.selects RX2 yX2_launch yX2_launch, Cond.code yX2_launch cX2_launch 4 (some .int), Cond.static yX3_isString, Cond.code yX3_isString cX3_isString 1 (some .boolean), Cond.static yX3_isNumber, Cond.code yX3_isNumber cX3_isNumber 1 (some .boolean), Cond.methodLink RX2 57 yX2_landing, Cond.instanceMethod yX2_landing, Cond.selects RX2 yX2_landing yX2_landing]
def wsL_law_r5 : List Cond := [Cond.code yX2_landing cX2_landing 5 (some .int), Cond.methodLink RX2 121 yX2_isTaken, Cond.instanceMethod yX2_isTaken, Cond.selects RX2 yX2_isTaken yX2_isTaken, Cond.code yX2_isTaken cX2_isTaken 4 (some .boolean), Cond.methodLink RX3 58 yX3_recorded, Cond.instanceMethod yX3_recorded, Cond.selects RX3 yX3_recorded yX3_recorded, Cond.code yX3_recorded cX3_recorded 2 (some .int), Cond.methodLink RX3 110 yX3_isError, Cond.static yX3_isError, Cond.code yX3_isError cX3_isError 1 (some .boolean), Cond.instanceMethod yX0_add, Cond.selects RX0 yX0_add yX0_add, Cond.code yX0_add cX0_add 3 none, Cond.methodLink RX0 33 Lib.Math.min.name, Cond.static Lib.Math.min.name, Cond.initialized "java/lang/Math", Cond.code Lib.Math.min.name Lib.Math.min.code 2 (some .int), Cond.methodLink RX0 25 yX0_rowAt, Cond.instanceMethod yX0_rowAt, Cond.selects RX0 yX0_rowAt yX0_rowAt, Cond.code yX0_rowAt cX0_rowAt 2 (some (.object "KiteRegisters$Sky")), Cond.methodLink RL 17 yX4_fly]
def wsL_law_r6 : List Cond := [Cond.instanceMethod yX4_fly, Cond.selects RX4 yX4_fly yX4_fly, Cond.code yX4_fly cX4_fly 4 (some .int), Cond.methodLink RX4 91 yX4_isString, Cond.static yX4_isString, Cond.code yX4_isString cX4_isString 1 (some .boolean), Cond.constantLong RX4 42 (3), Cond.methodLink RX4 44 yX4_in, Cond.static yX4_in, Cond.code yX4_in cX4_in 6 (some .boolean), Cond.methodLink RX4 95 yX4_isNumber, Cond.static yX4_isNumber, Cond.code yX4_isNumber cX4_isNumber 1 (some .boolean), Cond.constantLong RX4 87 (-999), Cond.constantLong RX4 89 (999), Cond.methodLink RX4 98 yX4_remember, Cond.instanceMethod yX4_remember, Cond.selects RX4 yX4_remember yX4_remember, Cond.code yX4_remember cX4_remember 1 none, Cond.methodLink RX4 35 yX4_copy, Cond.static yX4_copy, Cond.code yX4_copy cX4_copy 3 none, Cond.methodLink RX4 101 yX4_doFly, Cond.instanceMethod yX4_doFly]
def wsL_law_r7 : List Cond := [Cond.selects RX4 yX4_doFly yX4_doFly, Cond.code yX4_doFly cX4_doFly 4 (some .int), Cond.methodLink RX4 67 yX4_lands, Cond.instanceMethod yX4_lands, Cond.selects RX4 yX4_lands yX4_lands, Cond.code yX4_lands cX4_lands 5 none, Cond.methodLink RX4 58 yX4_landing, Cond.instanceMethod yX4_landing, Cond.selects RX4 yX4_landing yX4_landing, Cond.code yX4_landing cX4_landing 4 (some .int), Cond.methodLink RX4 54 yX4_kiteAt, Cond.instanceMethod yX4_kiteAt, Cond.selects RX4 yX4_kiteAt yX4_kiteAt, Cond.code yX4_kiteAt cX4_kiteAt 4 (some .int), Cond.methodLink RX4 50 yX4_heightOf, Cond.instanceMethod yX4_heightOf, Cond.selects RX4 yX4_heightOf yX4_heightOf, Cond.code yX4_heightOf cX4_heightOf 2 (some .int), Cond.methodLink RX4 104 yX4_acted, Cond.instanceMethod yX4_acted, Cond.selects RX4 yX4_acted yX4_acted, Cond.code yX4_acted cX4_acted 3 (some .int), Cond.fieldLink RX4 39 "KiteRegistersModel" "historyLong" "I", Cond.methodLink RL 18 yX3_takeDown]
def wsL_law_r8 : List Cond := [Cond.instanceMethod yX3_takeDown, Cond.selects RX3 yX3_takeDown yX3_takeDown, Cond.code yX3_takeDown cX3_takeDown 2 (some .int), Cond.instanceMethod yX2_remove, Cond.selects RX2 yX2_remove yX2_remove, Cond.code yX2_remove cX2_remove 2 (some .int), Cond.methodLink RX2 61 yX2_isKite, Cond.instanceMethod yX2_isKite, Cond.selects RX2 yX2_isKite yX2_isKite, Cond.code yX2_isKite cX2_isKite 2 (some .boolean), Cond.methodLink RL 22 yX4_takeDown, Cond.instanceMethod yX4_takeDown, Cond.selects RX4 yX4_takeDown yX4_takeDown, Cond.code yX4_takeDown cX4_takeDown 2 (some .int), Cond.methodLink RX4 107 yX4_isKite, Cond.instanceMethod yX4_isKite, Cond.selects RX4 yX4_isKite yX4_isKite, Cond.code yX4_isKite cX4_isKite 2 (some .boolean), Cond.constantLong RX4 48 (11), Cond.methodLink RL 23 yX3_read, Cond.instanceMethod yX3_read, Cond.selects RX3 yX3_read yX3_read, Cond.code yX3_read cX3_read 2 (some .int), Cond.instanceMethod yX2_raise]
def wsL_law_r9 : List Cond := [Cond.selects RX2 yX2_raise yX2_raise, Cond.code yX2_raise cX2_raise 4 (some .int), Cond.methodLink RX2 64 yX2_windNow, Cond.instanceMethod yX2_windNow, Cond.selects RX2 yX2_windNow yX2_windNow, Cond.code yX2_windNow cX2_windNow 1 (some .int), Cond.methodLink RX2 140 yJ9_floorMod_7cf53, Cond.static yJ9_floorMod_7cf53, Cond.initialized RJ9, Cond.code yJ9_floorMod_7cf53 cJ9_floorMod_7cf53 3 (some .int), Cond.methodLink RX2 68 yX2_risen, Cond.instanceMethod yX2_risen, Cond.selects RX2 yX2_risen yX2_risen, Cond.code yX2_risen cX2_risen 4 (some .int), Cond.methodLink RX2 72 yX2_countCutFrom, Cond.instanceMethod yX2_countCutFrom, Cond.selects RX2 yX2_countCutFrom yX2_countCutFrom, Cond.code yX2_countCutFrom cX2_countCutFrom 2 none, Cond.methodLink RX2 76 yX2_behind, Cond.static yX2_behind, Cond.code yX2_behind cX2_behind 1 (some .int), Cond.methodLink RL 26 yX4_read, Cond.instanceMethod yX4_read, Cond.selects RX4 yX4_read yX4_read]
def wsL_law_r10 : List Cond := [Cond.code yX4_read cX4_read 2 (some .int), Cond.methodLink RX4 110 yX4_doRead, Cond.instanceMethod yX4_doRead, Cond.selects RX4 yX4_doRead yX4_doRead, Cond.code yX4_doRead cX4_doRead 3 (some .int), Cond.methodLink RX4 71 yX4_windNow, Cond.instanceMethod yX4_windNow, Cond.selects RX4 yX4_windNow yX4_windNow, Cond.code yX4_windNow cX4_windNow 1 (some .int), Cond.methodLink RX4 75 yX4_rises, Cond.instanceMethod yX4_rises, Cond.selects RX4 yX4_rises yX4_rises, Cond.code yX4_rises cX4_rises 4 (some .boolean), Cond.methodLink RL 27 yX3_write, Cond.instanceMethod yX3_write, Cond.selects RX3 yX3_write yX3_write, Cond.code yX3_write cX3_write 3 (some .int), Cond.instanceMethod yX2_renumber, Cond.selects RX2 yX2_renumber yX2_renumber, Cond.code yX2_renumber cX2_renumber 4 (some .int), Cond.methodLink RL 30 yX4_write, Cond.instanceMethod yX4_write, Cond.selects RX4 yX4_write yX4_write, Cond.code yX4_write cX4_write 3 (some .int)]
def wsL_law_r11 : List Cond := [Cond.methodLink RX4 113 yX4_doWrite, Cond.instanceMethod yX4_doWrite, Cond.selects RX4 yX4_doWrite yX4_doWrite, Cond.code yX4_doWrite cX4_doWrite 4 (some .int), Cond.methodLink RL 31 yX3_move, Cond.instanceMethod yX3_move, Cond.selects RX3 yX3_move yX3_move, Cond.code yX3_move cX3_move 3 (some .int), Cond.instanceMethod yX2_shift, Cond.selects RX2 yX2_shift yX2_shift, Cond.code yX2_shift cX2_shift 3 (some .int), Cond.methodLink RL 34 yX4_move, Cond.instanceMethod yX4_move, Cond.selects RX4 yX4_move yX4_move, Cond.code yX4_move cX4_move 3 (some .int), Cond.methodLink RL 35 yX3_beat, Cond.instanceMethod yX3_beat, Cond.selects RX3 yX3_beat yX3_beat, Cond.code yX3_beat cX3_beat 2 (some .int), Cond.instanceMethod yX2_passBeats, Cond.selects RX2 yX2_passBeats yX2_passBeats, Cond.code yX2_passBeats cX2_passBeats 4 (some .int), Cond.methodLink RX2 80 yX2_sinkString, Cond.instanceMethod yX2_sinkString]
def wsL_law_r12 : List Cond := [Cond.selects RX2 yX2_sinkString yX2_sinkString, Cond.code yX2_sinkString cX2_sinkString 6 none, Cond.methodLink RX2 116 Lib.Math.max.name, Cond.static Lib.Math.max.name, Cond.code Lib.Math.max.name Lib.Math.max.code 2 (some .int), Cond.methodLink RX2 113 yX2_lowestAbove, Cond.instanceMethod yX2_lowestAbove, Cond.selects RX2 yX2_lowestAbove yX2_lowestAbove, Cond.code yX2_lowestAbove cX2_lowestAbove 6 (some .int), Cond.constant RX2 127 (2147483647), Cond.methodLink RX2 83 yX2_endFreshness, Cond.instanceMethod yX2_endFreshness, Cond.selects RX2 yX2_endFreshness yX2_endFreshness, Cond.code yX2_endFreshness cX2_endFreshness 2 none, Cond.methodLink RX2 86 yX2_beatNow, Cond.instanceMethod yX2_beatNow, Cond.selects RX2 yX2_beatNow yX2_beatNow, Cond.code yX2_beatNow cX2_beatNow 1 (some .int), Cond.methodLink RL 38 yX4_beat, Cond.instanceMethod yX4_beat, Cond.selects RX4 yX4_beat yX4_beat, Cond.code yX4_beat cX4_beat 2 (some .int), Cond.constantLong RX4 116 (100), Cond.methodLink RX4 118 yX4_beats]
def wsL_law_r13 : List Cond := [Cond.instanceMethod yX4_beats, Cond.selects RX4 yX4_beats yX4_beats, Cond.code yX4_beats cX4_beats 4 none, Cond.methodLink RX4 83 yX4_sinks, Cond.instanceMethod yX4_sinks, Cond.selects RX4 yX4_sinks yX4_sinks, Cond.code yX4_sinks cX4_sinks 7 none, Cond.methodLink RX4 79 yX4_nextTo, Cond.instanceMethod yX4_nextTo, Cond.selects RX4 yX4_nextTo yX4_nextTo, Cond.code yX4_nextTo cX4_nextTo 8 (some .int), Cond.methodLink RL 39 yX3_wind, Cond.instanceMethod yX3_wind, Cond.selects RX3 yX3_wind yX3_wind, Cond.code yX3_wind cX3_wind 3 (some .int), Cond.instanceMethod yX2_changeWind, Cond.selects RX2 yX2_changeWind yX2_changeWind, Cond.code yX2_changeWind cX2_changeWind 4 (some .int), Cond.static yX3_isBeat, Cond.code yX3_isBeat cX3_isBeat 1 (some .boolean), Cond.methodLink RL 42 yX4_wind, Cond.instanceMethod yX4_wind, Cond.selects RX4 yX4_wind yX4_wind, Cond.code yX4_wind cX4_wind 4 (some .int)]
def wsL_law_r14 : List Cond := [Cond.constantLong RX4 126 (9), Cond.methodLink RX4 123 yX4_isBeat, Cond.static yX4_isBeat, Cond.code yX4_isBeat cX4_isBeat 1 (some .boolean), Cond.constantLong RX4 121 (7), Cond.methodLink RL 43 yX3_set, Cond.instanceMethod yX3_set, Cond.selects RX3 yX3_set yX3_set, Cond.code yX3_set cX3_set 3 (some .int), Cond.instanceMethod yX2_changeSetting, Cond.selects RX2 yX2_changeSetting yX2_changeSetting, Cond.code yX2_changeSetting cX2_changeSetting 3 (some .int), Cond.methodLink RX2 92 yX2_changeCut, Cond.instanceMethod yX2_changeCut, Cond.selects RX2 yX2_changeCut yX2_changeCut, Cond.code yX2_changeCut cX2_changeCut 3 (some .int), Cond.methodLink RX2 95 yX2_changeSinking, Cond.instanceMethod yX2_changeSinking, Cond.selects RX2 yX2_changeSinking yX2_changeSinking, Cond.code yX2_changeSinking cX2_changeSinking 3 (some .int), Cond.methodLink RL 46 yX4_set, Cond.instanceMethod yX4_set, Cond.selects RX4 yX4_set yX4_set, Cond.code yX4_set cX4_set 4 (some .int)]
def wsL_law_r15 : List Cond := [Cond.constantLong RX4 128 (5), Cond.constantLong RX4 130 (80), Cond.methodLink RL 47 yX3_type, Cond.instanceMethod yX3_type, Cond.selects RX3 yX3_type yX3_type, Cond.code yX3_type cX3_type 2 (some .int), Cond.instanceMethod yX1_append, Cond.selects RX1 yX1_append yX1_append, Cond.code yX1_append cX1_append 2 (some .int), Cond.methodLink RL 51 yX4_type, Cond.instanceMethod yX4_type, Cond.selects RX4 yX4_type yX4_type, Cond.code yX4_type cX4_type 2 (some .int), Cond.fieldLink RX4 132 "KiteRegistersModel" "textLong" "I", Cond.methodLink RL 52 yX3_clearText, Cond.instanceMethod yX3_clearText, Cond.selects RX3 yX3_clearText yX3_clearText, Cond.code yX3_clearText cX3_clearText 1 (some .int), Cond.instanceMethod yX1_empty, Cond.selects RX1 yX1_empty yX1_empty, Cond.code yX1_empty cX1_empty 2 (some .int), Cond.methodLink RL 56 yX4_clearText, Cond.instanceMethod yX4_clearText, Cond.selects RX4 yX4_clearText yX4_clearText]
def wsL_law_r16 : List Cond := [Cond.code yX4_clearText cX4_clearText 2 (some .int), Cond.methodLink RL 57 yX3_perform, Cond.instanceMethod yX3_perform, Cond.selects RX3 yX3_perform yX3_perform, Cond.code yX3_perform cX3_perform 4 (some .int), Cond.instanceMethod yX1_scan, Cond.selects RX1 yX1_scan yX1_scan, Cond.code yX1_scan cX1_scan 2 (some .int), Cond.methodLink RX1 45 yX1_scanCommand, Cond.instanceMethod yX1_scanCommand, Cond.selects RX1 yX1_scanCommand yX1_scanCommand, Cond.code yX1_scanCommand cX1_scanCommand 2 (some .boolean), Cond.methodLink RX1 57 yX1_scanWord, Cond.instanceMethod yX1_scanWord, Cond.selects RX1 yX1_scanWord yX1_scanWord, Cond.code yX1_scanWord cX1_scanWord 5 (some .boolean), Cond.methodLink RX1 79 Lib.Math.max.name, Cond.methodLink RX1 66 yX1_wordOf, Cond.static yX1_wordOf, Cond.code yX1_wordOf cX1_wordOf 1 (some (.object "java/lang/String")), Cond.methodLink RX1 70 yX1_charactersAlike, Cond.instanceMethod yX1_charactersAlike, Cond.selects RX1 yX1_charactersAlike yX1_charactersAlike, Cond.code yX1_charactersAlike cX1_charactersAlike 3 (some .int)]
def wsL_law_r17 : List Cond := [Cond.methodLink RX1 74 yJ0_length_8abf5, Cond.instanceMethod yJ0_length_8abf5, Cond.selects RJ0 yJ0_length_8abf5 yJ0_length_8abf5, Cond.initialized RJ0, Cond.code yJ0_length_8abf5 cJ0_length_8abf5 1 (some .int), Cond.fieldLink RJ0 9 "java/lang/String" "value" "[B", Cond.methodLink RJ0 335 yJ0_coder_7d493, Cond.instanceMethod yJ0_coder_7d493, Cond.selects RJ0 yJ0_coder_7d493 yJ0_coder_7d493, Cond.code yJ0_coder_7d493 cJ0_coder_7d493 1 (some .byte), Cond.fieldLink RJ0 38 "java/lang/String" "COMPACT_STRINGS" "Z", Cond.fieldLink RJ0 15 "java/lang/String" "coder" "B", Cond.methodLink RX1 49 yX1_signAt, Cond.instanceMethod yX1_signAt, Cond.selects RX1 yX1_signAt yX1_signAt, Cond.code yX1_signAt cX1_signAt 2 (some .int), Cond.methodLink RX1 85 yJ0_charAt_5068e, Cond.instanceMethod yJ0_charAt_5068e, Cond.selects RJ0 yJ0_charAt_5068e yJ0_charAt_5068e, Cond.code yJ0_charAt_5068e cJ0_charAt_5068e 2 (some .char), Cond.methodLink RJ0 492 yJ0_isLatin1_aae02, Cond.instanceMethod yJ0_isLatin1_aae02, Cond.selects RJ0 yJ0_isLatin1_aae02 yJ0_isLatin1_aae02, Cond.code yJ0_isLatin1_aae02 cJ0_isLatin1_aae02 1 (some .boolean)]
def wsL_law_r18 : List Cond := [Cond.methodLink RJ0 495 yJ1_charAt_3b067, Cond.static yJ1_charAt_3b067, Cond.initialized RJ1, Cond.code yJ1_charAt_3b067 cJ1_charAt_3b067 2 (some .char), Cond.methodLink RJ1 9 yJ0_checkIndex_df160, Cond.static yJ0_checkIndex_df160, Cond.code yJ0_checkIndex_df160 cJ0_checkIndex_df160 2 none, Cond.fieldLink RJ0 1053 "jdk/internal/util/Preconditions" "SIOOBE_FORMATTER" "Ljava/util/function/BiFunction;", Cond.methodLink RJ0 1059 yJ3_checkIndex_8e157, Cond.static yJ3_checkIndex_8e157, Cond.initialized RJ3, Cond.code yJ3_checkIndex_8e157 cJ3_checkIndex_8e157 3 (some .int), Cond.methodLink RJ0 498 yJ2_charAt_3b067, Cond.static yJ2_charAt_3b067, Cond.initialized RJ2, Cond.code yJ2_charAt_3b067 cJ2_charAt_3b067 2 (some .char), Cond.methodLink RJ2 67 yJ2_checkIndex_2214a, Cond.static yJ2_checkIndex_2214a, Cond.code yJ2_checkIndex_2214a cJ2_checkIndex_2214a 2 none, Cond.methodLink RJ2 48 yJ2_length_9d52b, Cond.static yJ2_length_9d52b, Cond.code yJ2_length_9d52b cJ2_length_9d52b 1 (some .int), Cond.methodLink RJ2 414 yJ0_checkIndex_df160, Cond.methodLink RJ2 71 yJ2_getChar_3b067]
def wsL_law_r19 : List Cond := [Cond.static yJ2_getChar_3b067, Cond.code yJ2_getChar_3b067 cJ2_getChar_3b067 2 (some .char), Cond.fieldLink RJ2 44 "java/lang/StringUTF16" "$assertionsDisabled" "Z", Cond.fieldLink RJ2 59 "java/lang/StringUTF16" "HI_BYTE_SHIFT" "I", Cond.fieldLink RJ2 63 "java/lang/StringUTF16" "LO_BYTE_SHIFT" "I", Cond.methodLink RX1 60 yX1_scanFirst, Cond.instanceMethod yX1_scanFirst, Cond.selects RX1 yX1_scanFirst yX1_scanFirst, Cond.code yX1_scanFirst cX1_scanFirst 1 (some .boolean), Cond.methodLink RX1 99 yX1_scanNumber, Cond.instanceMethod yX1_scanNumber, Cond.selects RX1 yX1_scanNumber yX1_scanNumber, Cond.code yX1_scanNumber cX1_scanNumber 8 (some .boolean), Cond.methodLink RX1 53 yX1_skip, Cond.instanceMethod yX1_skip, Cond.selects RX1 yX1_skip yX1_skip, Cond.code yX1_skip cX1_skip 2 (some .boolean), Cond.methodLink RX1 103 yX1_digitAt, Cond.instanceMethod yX1_digitAt, Cond.selects RX1 yX1_digitAt yX1_digitAt, Cond.code yX1_digitAt cX1_digitAt 3 (some .int), Cond.methodLink RX1 63 yX1_scanSecond, Cond.instanceMethod yX1_scanSecond, Cond.selects RX1 yX1_scanSecond yX1_scanSecond]
def wsL_law_r20 : List Cond := [Cond.code yX1_scanSecond cX1_scanSecond 1 (some .boolean), Cond.instanceMethod yX1_verbOf, Cond.selects RX1 yX1_verbOf yX1_verbOf, Cond.code yX1_verbOf cX1_verbOf 2 (some .int), Cond.methodLink RX1 41 yX1_isCommand, Cond.instanceMethod yX1_isCommand, Cond.selects RX1 yX1_isCommand yX1_isCommand, Cond.code yX1_isCommand cX1_isCommand 2 (some .boolean), Cond.instanceMethod yX1_firstOf, Cond.selects RX1 yX1_firstOf yX1_firstOf, Cond.code yX1_firstOf cX1_firstOf 2 (some .int), Cond.instanceMethod yX1_secondOf, Cond.selects RX1 yX1_secondOf yX1_secondOf, Cond.code yX1_secondOf cX1_secondOf 2 (some .int), Cond.instanceMethod yX2_carryOut, Cond.selects RX2 yX2_carryOut yX2_carryOut, Cond.code yX2_carryOut cX2_carryOut 4 (some .int), Cond.methodLink RX2 98 yX2_launch, Cond.methodLink RX2 101 yX2_raise, Cond.methodLink RX2 104 yX2_renumber, Cond.methodLink RX2 107 yX2_passBeats, Cond.methodLink RX2 110 yX2_changeWind, Cond.methodLink RL 60 yX4_perform, Cond.instanceMethod yX4_perform]
def wsL_law_r21 : List Cond := [Cond.selects RX4 yX4_perform yX4_perform, Cond.code yX4_perform cX4_perform 6 (some .int), Cond.fieldLink RX4 135 "KiteRegistersModel" "spot" "I", Cond.methodLink RX4 182 yX4_fault, Cond.instanceMethod yX4_fault, Cond.selects RX4 yX4_fault yX4_fault, Cond.code yX4_fault cX4_fault 2 (some .int), Cond.methodLink RX4 179 yX4_readsCommand, Cond.instanceMethod yX4_readsCommand, Cond.selects RX4 yX4_readsCommand yX4_readsCommand, Cond.code yX4_readsCommand cX4_readsCommand 1 (some .boolean), Cond.fieldLink RX4 149 "KiteRegistersModel" "command" "I", Cond.constantLong RX4 161 (27769), Cond.constantLong RX4 171 (6644068), Cond.constantLong RX4 173 (6644084), Cond.constantLong RX4 175 (1919513701), Cond.constantLong RX4 177 (6909540), Cond.methodLink RX4 143 yX4_takes, Cond.instanceMethod yX4_takes, Cond.selects RX4 yX4_takes yX4_takes, Cond.code yX4_takes cX4_takes 3 (some .boolean), Cond.methodLink RX4 138 yX4_isHere, Cond.instanceMethod yX4_isHere, Cond.selects RX4 yX4_isHere yX4_isHere]
def wsL_law_r22 : List Cond := [Cond.code yX4_isHere cX4_isHere 3 (some .boolean), Cond.methodLink RX4 163 yX4_readsLetters, Cond.instanceMethod yX4_readsLetters, Cond.selects RX4 yX4_readsLetters yX4_readsLetters, Cond.code yX4_readsLetters cX4_readsLetters 6 (some .boolean), Cond.constantLong RX4 141 (255), Cond.methodLink RX4 167 yX4_readsNumbers, Cond.instanceMethod yX4_readsNumbers, Cond.selects RX4 yX4_readsNumbers yX4_readsNumbers, Cond.code yX4_readsNumbers cX4_readsNumbers 2 (some .boolean), Cond.fieldLink RX4 146 "KiteRegistersModel" "number" "I", Cond.fieldLink RX4 155 "KiteRegistersModel" "first" "I", Cond.fieldLink RX4 158 "KiteRegistersModel" "second" "I", Cond.methodLink RX4 152 yX4_readsNumber, Cond.instanceMethod yX4_readsNumber, Cond.selects RX4 yX4_readsNumber yX4_readsNumber, Cond.code yX4_readsNumber cX4_readsNumber 4 (some .boolean), Cond.methodLink RX4 185 yX4_carriesOut, Cond.instanceMethod yX4_carriesOut, Cond.selects RX4 yX4_carriesOut yX4_carriesOut, Cond.code yX4_carriesOut cX4_carriesOut 2 (some .int), Cond.methodLink RL 61 yX3_stopped, Cond.instanceMethod yX3_stopped, Cond.selects RX3 yX3_stopped yX3_stopped]
def wsL_law_r23 : List Cond := [Cond.code yX3_stopped cX3_stopped 2 (some .int), Cond.methodLink RL 64 yX4_stopped, Cond.instanceMethod yX4_stopped, Cond.selects RX4 yX4_stopped yX4_stopped, Cond.code yX4_stopped cX4_stopped 2 (some .int), Cond.methodLink RL 65 yX3_undo, Cond.instanceMethod yX3_undo, Cond.selects RX3 yX3_undo yX3_undo, Cond.code yX3_undo cX3_undo 1 (some .int), Cond.instanceMethod yX0_takeLatest, Cond.selects RX0 yX0_takeLatest yX0_takeLatest, Cond.code yX0_takeLatest cX0_takeLatest 2 (some .int), Cond.methodLink RL 68 yX4_undo, Cond.instanceMethod yX4_undo, Cond.selects RX4 yX4_undo yX4_undo, Cond.code yX4_undo cX4_undo 2 (some .int), Cond.methodLink RL 69 yX3_keep, Cond.instanceMethod yX3_keep, Cond.selects RX3 yX3_keep yX3_keep, Cond.code yX3_keep cX3_keep 1 (some .int), Cond.instanceMethod yX2_kitesInAll, Cond.selects RX2 yX2_kitesInAll yX2_kitesInAll, Cond.code yX2_kitesInAll cX2_kitesInAll 3 (some .int), Cond.methodLink RL 72 yX4_keep]
def wsL_law_r24 : List Cond := [Cond.instanceMethod yX4_keep, Cond.selects RX4 yX4_keep yX4_keep, Cond.code yX4_keep cX4_keep 1 (some .int), Cond.fieldLink RX4 188 "KiteRegistersModel" "isTaken" "I", Cond.methodLink RX4 191 yX4_many, Cond.instanceMethod yX4_many, Cond.selects RX4 yX4_many yX4_many, Cond.code yX4_many cX4_many 3 (some .int), Cond.methodLink RX4 64 yX4_kitesOf, Cond.instanceMethod yX4_kitesOf, Cond.selects RX4 yX4_kitesOf yX4_kitesOf, Cond.code yX4_kitesOf cX4_kitesOf 4 (some .int), Cond.methodLink RL 73 yX3_restore, Cond.instanceMethod yX3_restore, Cond.selects RX3 yX3_restore yX3_restore, Cond.code yX3_restore cX3_restore 1 (some .int), Cond.methodLink RL 76 yX4_restore, Cond.instanceMethod yX4_restore, Cond.selects RX4 yX4_restore yX4_restore, Cond.code yX4_restore cX4_restore 1 (some .int), Cond.methodLink RL 77 yX3_kite, Cond.instanceMethod yX3_kite, Cond.selects RX3 yX3_kite yX3_kite, Cond.code yX3_kite cX3_kite 3 (some .int)]
def wsL_law_r25 : List Cond := [Cond.instanceMethod yX2_aboutKite, Cond.selects RX2 yX2_aboutKite yX2_aboutKite, Cond.code yX2_aboutKite cX2_aboutKite 3 (some .int), Cond.methodLink RX2 128 yX2_kitesBetween, Cond.instanceMethod yX2_kitesBetween, Cond.selects RX2 yX2_kitesBetween yX2_kitesBetween, Cond.code yX2_kitesBetween cX2_kitesBetween 6 (some .int), Cond.methodLink RX2 131 yX2_highestBelow, Cond.instanceMethod yX2_highestBelow, Cond.selects RX2 yX2_highestBelow yX2_highestBelow, Cond.code yX2_highestBelow cX2_highestBelow 6 (some .int), Cond.methodLink RL 80 yX4_kite, Cond.instanceMethod yX4_kite, Cond.selects RX4 yX4_kite yX4_kite, Cond.code yX4_kite cX4_kite 3 (some .int), Cond.methodLink RX4 194 yX4_rankOf, Cond.instanceMethod yX4_rankOf, Cond.selects RX4 yX4_rankOf yX4_rankOf, Cond.code yX4_rankOf cX4_rankOf 4 (some .int), Cond.methodLink RL 81 yX3_string, Cond.instanceMethod yX3_string, Cond.selects RX3 yX3_string yX3_string, Cond.code yX3_string cX3_string 3 (some .int), Cond.instanceMethod yX2_aboutString]
def wsL_law_r26 : List Cond := [Cond.selects RX2 yX2_aboutString yX2_aboutString, Cond.code yX2_aboutString cX2_aboutString 3 (some .int), Cond.methodLink RX2 134 yX2_weightsOn, Cond.instanceMethod yX2_weightsOn, Cond.selects RX2 yX2_weightsOn yX2_weightsOn, Cond.code yX2_weightsOn cX2_weightsOn 4 (some .int), Cond.methodLink RX2 137 yX2_numbersOn, Cond.instanceMethod yX2_numbersOn, Cond.selects RX2 yX2_numbersOn yX2_numbersOn, Cond.code yX2_numbersOn cX2_numbersOn 4 (some .int), Cond.methodLink RL 84 yX4_string, Cond.instanceMethod yX4_string, Cond.selects RX4 yX4_string yX4_string, Cond.code yX4_string cX4_string 3 (some .int), Cond.methodLink RX4 197 yX4_weightsOf, Cond.instanceMethod yX4_weightsOf, Cond.selects RX4 yX4_weightsOf yX4_weightsOf, Cond.code yX4_weightsOf cX4_weightsOf 4 (some .int), Cond.methodLink RX4 61 yX4_weightOf, Cond.instanceMethod yX4_weightOf, Cond.selects RX4 yX4_weightOf yX4_weightOf, Cond.code yX4_weightOf cX4_weightOf 2 (some .int), Cond.methodLink RX4 200 yX4_highestOf, Cond.instanceMethod yX4_highestOf]
def wsL_law_r27 : List Cond := [Cond.selects RX4 yX4_highestOf yX4_highestOf, Cond.code yX4_highestOf cX4_highestOf 4 (some .int), Cond.methodLink RX4 203 yX4_sumOf, Cond.instanceMethod yX4_sumOf, Cond.selects RX4 yX4_sumOf yX4_sumOf, Cond.code yX4_sumOf cX4_sumOf 4 (some .int), Cond.methodLink RL 85 yX3_drawn, Cond.instanceMethod yX3_drawn, Cond.selects RX3 yX3_drawn yX3_drawn, Cond.code yX3_drawn cX3_drawn 3 (some .int), Cond.instanceMethod yX2_kiteAtPoint, Cond.selects RX2 yX2_kiteAtPoint yX2_kiteAtPoint, Cond.code yX2_kiteAtPoint cX2_kiteAtPoint 5 (some .int), Cond.methodLink RL 88 yX4_drawn, Cond.instanceMethod yX4_drawn, Cond.selects RX4 yX4_drawn yX4_drawn, Cond.code yX4_drawn cX4_drawn 5 (some .int), Cond.methodLink RL 89 yX3_share, Cond.instanceMethod yX3_share, Cond.selects RX3 yX3_share yX3_share, Cond.code yX3_share cX3_share 2 (some .int), Cond.instanceMethod yX2_thousandthsOf, Cond.selects RX2 yX2_thousandthsOf yX2_thousandthsOf, Cond.code yX2_thousandthsOf cX2_thousandthsOf 3 (some .int)]
def wsL_law_r28 : List Cond := [Cond.methodLink RL 92 yX4_share, Cond.instanceMethod yX4_share, Cond.selects RX4 yX4_share yX4_share, Cond.code yX4_share cX4_share 2 (some .int), Cond.methodLink RL 93 yX3_windOf, Cond.instanceMethod yX3_windOf, Cond.selects RX3 yX3_windOf yX3_windOf, Cond.code yX3_windOf cX3_windOf 2 (some .int), Cond.instanceMethod yX2_windAt, Cond.selects RX2 yX2_windAt yX2_windAt, Cond.code yX2_windAt cX2_windAt 2 (some .int), Cond.methodLink RL 96 yX4_windOf, Cond.instanceMethod yX4_windOf, Cond.selects RX4 yX4_windOf yX4_windOf, Cond.code yX4_windOf cX4_windOf 2 (some .int), Cond.methodLink RL 97 yX3_ifRead, Cond.instanceMethod yX3_ifRead, Cond.selects RX3 yX3_ifRead yX3_ifRead, Cond.code yX3_ifRead cX3_ifRead 3 (some .int), Cond.instanceMethod yX2_aboutReading, Cond.selects RX2 yX2_aboutReading yX2_aboutReading, Cond.code yX2_aboutReading cX2_aboutReading 6 (some .int), Cond.methodLink RL 100 yX4_ifRead, Cond.instanceMethod yX4_ifRead]
def wsL_law_r29 : List Cond := [Cond.selects RX4 yX4_ifRead yX4_ifRead, Cond.code yX4_ifRead cX4_ifRead 6 (some .int), Cond.methodLink RX4 206 yX4_passed, Cond.instanceMethod yX4_passed, Cond.selects RX4 yX4_passed yX4_passed, Cond.code yX4_passed cX4_passed 5 (some .int), Cond.methodLink RL 101 yX3_readsToCut, Cond.instanceMethod yX3_readsToCut, Cond.selects RX3 yX3_readsToCut yX3_readsToCut, Cond.code yX3_readsToCut cX3_readsToCut 2 (some .int), Cond.instanceMethod yX2_readingsUntilCut, Cond.selects RX2 yX2_readingsUntilCut yX2_readingsUntilCut, Cond.code yX2_readingsUntilCut cX2_readingsUntilCut 5 (some .int), Cond.methodLink RL 104 yX4_readsToCut, Cond.instanceMethod yX4_readsToCut, Cond.selects RX4 yX4_readsToCut yX4_readsToCut, Cond.code yX4_readsToCut cX4_readsToCut 3 (some .int), Cond.methodLink RL 105 yX3_downIn, Cond.instanceMethod yX3_downIn, Cond.selects RX3 yX3_downIn yX3_downIn, Cond.code yX3_downIn cX3_downIn 3 (some .int), Cond.instanceMethod yX2_sinkUntil, Cond.selects RX2 yX2_sinkUntil yX2_sinkUntil, Cond.code yX2_sinkUntil cX2_sinkUntil 4 (some .int)]
def wsL_law_r30 : List Cond := [Cond.methodLink RL 108 yX4_downIn, Cond.instanceMethod yX4_downIn, Cond.selects RX4 yX4_downIn yX4_downIn, Cond.code yX4_downIn cX4_downIn 4 (some .int), Cond.constantLong RX4 209 (99), Cond.methodLink RL 109 yX3_safeWind, Cond.instanceMethod yX3_safeWind, Cond.selects RX3 yX3_safeWind yX3_safeWind, Cond.code yX3_safeWind cX3_safeWind 1 (some .int), Cond.instanceMethod yX2_greatestSafeWind, Cond.selects RX2 yX2_greatestSafeWind yX2_greatestSafeWind, Cond.code yX2_greatestSafeWind cX2_greatestSafeWind 2 (some .int), Cond.methodLink RX2 143 yX2_isSafe, Cond.instanceMethod yX2_isSafe, Cond.selects RX2 yX2_isSafe yX2_isSafe, Cond.code yX2_isSafe cX2_isSafe 3 (some .boolean), Cond.methodLink RL 112 yX4_safeWind, Cond.instanceMethod yX4_safeWind, Cond.selects RX4 yX4_safeWind yX4_safeWind, Cond.code yX4_safeWind cX4_safeWind 2 (some .int), Cond.methodLink RX4 211 yX4_isSafe, Cond.instanceMethod yX4_isSafe, Cond.selects RX4 yX4_isSafe yX4_isSafe, Cond.code yX4_isSafe cX4_isSafe 4 (some .boolean)]
def wsL_law_r31 : List Cond := [Cond.methodLink RL 113 yX3_calmest, Cond.instanceMethod yX3_calmest, Cond.selects RX3 yX3_calmest yX3_calmest, Cond.code yX3_calmest cX3_calmest 1 (some .int), Cond.instanceMethod yX2_calmestString, Cond.selects RX2 yX2_calmestString yX2_calmestString, Cond.code yX2_calmestString cX2_calmestString 3 (some .int), Cond.methodLink RX2 146 yX2_isCalmer, Cond.instanceMethod yX2_isCalmer, Cond.selects RX2 yX2_isCalmer yX2_isCalmer, Cond.code yX2_isCalmer cX2_isCalmer 5 (some .boolean), Cond.methodLink RL 116 yX4_calmest, Cond.instanceMethod yX4_calmest, Cond.selects RX4 yX4_calmest yX4_calmest, Cond.code yX4_calmest cX4_calmest 5 (some .int), Cond.methodLink RL 117 yX3_count, Cond.instanceMethod yX3_count, Cond.selects RX3 yX3_count yX3_count, Cond.code yX3_count cX3_count 2 (some .int), Cond.instanceMethod yX2_aboutAll, Cond.selects RX2 yX2_aboutAll yX2_aboutAll, Cond.code yX2_aboutAll cX2_aboutAll 2 (some .int), Cond.methodLink RX2 149 yX2_kitesInAll, Cond.methodLink RX2 152 yX2_cutsSoFar]
def wsL_law_r32 : List Cond := [Cond.instanceMethod yX2_cutsSoFar, Cond.selects RX2 yX2_cutsSoFar yX2_cutsSoFar, Cond.code yX2_cutsSoFar cX2_cutsSoFar 3 (some .int), Cond.methodLink RX2 155 yX2_freshKites, Cond.instanceMethod yX2_freshKites, Cond.selects RX2 yX2_freshKites yX2_freshKites, Cond.code yX2_freshKites cX2_freshKites 3 (some .int), Cond.methodLink RX2 158 yX2_greatestHeight, Cond.instanceMethod yX2_greatestHeight, Cond.selects RX2 yX2_greatestHeight yX2_greatestHeight, Cond.code yX2_greatestHeight cX2_greatestHeight 3 (some .int), Cond.methodLink RX2 161 yX2_weightsInAll, Cond.instanceMethod yX2_weightsInAll, Cond.selects RX2 yX2_weightsInAll yX2_weightsInAll, Cond.code yX2_weightsInAll cX2_weightsInAll 3 (some .int), Cond.methodLink RL 120 yX4_count, Cond.instanceMethod yX4_count, Cond.selects RX4 yX4_count yX4_count, Cond.code yX4_count cX4_count 3 (some .int), Cond.methodLink RX4 214 yX4_freshOnes, Cond.instanceMethod yX4_freshOnes, Cond.selects RX4 yX4_freshOnes yX4_freshOnes, Cond.code yX4_freshOnes cX4_freshOnes 3 (some .int), Cond.methodLink RX4 217 yX4_greatestHeight]
def wsL_law_r33 : List Cond := [Cond.instanceMethod yX4_greatestHeight, Cond.selects RX4 yX4_greatestHeight yX4_greatestHeight, Cond.code yX4_greatestHeight cX4_greatestHeight 3 (some .int), Cond.methodLink RX4 220 yX4_allWeights, Cond.instanceMethod yX4_allWeights, Cond.selects RX4 yX4_allWeights yX4_allWeights, Cond.code yX4_allWeights cX4_allWeights 3 (some .int)]
def wsL_law : List Cond := (wsL_law_r1 ++ (wsL_law_r2 ++ (wsL_law_r3 ++ (wsL_law_r4 ++ (wsL_law_r5 ++ (wsL_law_r6 ++ (wsL_law_r7 ++ (wsL_law_r8 ++ (wsL_law_r9 ++ (wsL_law_r10 ++ (wsL_law_r11 ++ (wsL_law_r12 ++ (wsL_law_r13 ++ (wsL_law_r14 ++ (wsL_law_r15 ++ (wsL_law_r16 ++ (wsL_law_r17 ++ (wsL_law_r18 ++ (wsL_law_r19 ++ (wsL_law_r20 ++ (wsL_law_r21 ++ (wsL_law_r22 ++ (wsL_law_r23 ++ (wsL_law_r24 ++ (wsL_law_r25 ++ (wsL_law_r26 ++ (wsL_law_r27 ++ (wsL_law_r28 ++ (wsL_law_r29 ++ (wsL_law_r30 ++ (wsL_law_r31 ++ (wsL_law_r32 ++ wsL_law_r33)))))))))))))))))))))))))))))))) ++ wsX30 ++ wsX40 ++ wsX20 ++ wsX00 ++ wsX10 ++ ([] : List Cond)
abbrev vwCl : List vw_C := [(RX0, TX0, 3), (RX1, TX1, 9), (RX2, TX2, 12), (RX3, TX3, 9), (RX4, TX4, 16)]
end
section
/-! THE G LAYER: goals that say only world, locals, place and stack -/
def ld : Nat → List (Option Value) → List (Nat × Value)
  | _, [] => []
  | i, none :: l => ld (i + 1) l
  | i, some v :: l => (i, v) :: ld (i + 1) l
theorem ld_in : ∀ (lv : List (Option Value)) (j i : Nat) (v : Value), lv[i]? = some (some v) → (j + i, v) ∈ ld j lv := by
  intro lv
  induction lv with
  | nil => intro j i v h; simp at h
  | cons a l ih =>
    intro j i v h
    cases i with
    | zero =>
      rw [List.getElem?_cons_zero] at h
      cases h
      exact List.mem_cons_self
    | succ i =>
      rw [List.getElem?_cons_succ] at h
      have h1 := ih (j + 1) i v h
      have e : j + 1 + i = j + (i + 1) := by omega
      rw [e] at h1
      cases a with
      | none => exact h1
      | some w => exact List.mem_cons_of_mem _ h1
theorem ld_out : ∀ (lv : List (Option Value)) (j : Nat) (q : Nat × Value), q ∈ ld j lv → ∃ i, q.1 = j + i ∧ lv[i]? = some (some q.2) := by
  intro lv
  induction lv with
  | nil => intro j q h; cases h
  | cons a l ih =>
    intro j q h
    cases a with
    | none =>
      obtain ⟨i, h1, h2⟩ := ih (j + 1) q h
      exact ⟨i + 1, by omega, by rw [List.getElem?_cons_succ]; exact h2⟩
    | some w =>
      rcases List.mem_cons.mp h with h | h
      · subst h
        exact ⟨0, rfl, rfl⟩
      · obtain ⟨i, h1, h2⟩ := ih (j + 1) q h
        exact ⟨i + 1, by omega, by rw [List.getElem?_cons_succ]; exact h2⟩
theorem ld_at {ls : Array Slot} {nL : Nat} {lv : List (Option Value)} {i : Nat} {v : Value} (h : lv_has ls nL (ld 0 lv)) (hi : lv[i]? = some (some v)) : ls[i]? = some (.val v) := by
  have h1 := h.2.2 _ (ld_in lv 0 i v hi)
  rw [Nat.zero_add] at h1
  exact h1
def okst (lv : List (Option Value)) : Nat → Bool
  | 0 => true
  | k + 1 => match lv[k]? with
    | some (some v) => v.category != 2
    | _ => true
theorem ld_put {ls : Array Slot} {nL i : Nat} {v : Value} {lv : List (Option Value)} (h : lv_has ls nL ((i, v) :: (ld 0 lv).filter (fun q => !(q.1 == i) && !(q.1 + 1 == i && q.2.category == 2)))) (ho : okst lv i = true) : lv_has ls nL (ld 0 (lv.set i (some v))) := by
  refine ⟨h.1, h.2.1, fun q hq => h.2.2 q ?_⟩
  obtain ⟨k, hk1, hk2⟩ := ld_out _ 0 q hq
  rw [Nat.zero_add] at hk1
  obtain ⟨q1, q2⟩ := q
  dsimp only at hk1 hk2
  subst hk1
  rw [List.getElem?_set] at hk2
  by_cases hki : i = q1
  · subst hki
    rw [if_pos rfl] at hk2
    split at hk2
    · cases hk2
      exact List.mem_cons_self
    · cases hk2
  · rw [if_neg hki] at hk2
    refine List.mem_cons_of_mem _ (List.mem_filter.mpr ⟨?_, ?_⟩)
    · have := ld_in lv 0 q1 q2 hk2
      rw [Nat.zero_add] at this
      exact this
    · have e1 : (q1 == i) = false := by simp; omega
      dsimp only
      rw [e1]
      by_cases e2 : q1 + 1 = i
      · subst e2
        simp only [okst, hk2] at ho
        simp at ho
        simp [ho]
      · simp [e2]

/-! what a state has beside its heap: classes, links of nest mates, constants -/
def nestW : List Cond := [.methodLinkNest RX3 9 yX2_init "KiteRegisters", .methodLinkNest RX3 31 yX0_init "KiteRegisters", .methodLinkNest RX0 24 yX2_init "KiteRegisters", .methodLinkNest RX3 38 yX1_init "KiteRegisters", .methodLinkNest RX3 50 yX2_copyFrom "KiteRegisters", .methodLinkNest RX3 54 yX2_launch "KiteRegisters", .methodLinkNest RX2 50 yX3_isString "KiteRegisters", .methodLinkNest RX2 54 yX3_isNumber "KiteRegisters", .methodLinkNest RX3 160 yX0_add "KiteRegisters", .methodLinkNest RX0 29 yX2_copyFrom "KiteRegisters", .methodLinkNest RX3 62 yX2_remove "KiteRegisters", .methodLinkNest RX3 65 yX2_raise "KiteRegisters", .methodLinkNest RX3 68 yX2_renumber "KiteRegisters", .methodLinkNest RX3 71 yX2_shift "KiteRegisters", .methodLinkNest RX3 74 yX2_passBeats "KiteRegisters", .methodLinkNest RX3 77 yX2_changeWind "KiteRegisters", .methodLinkNest RX2 89 yX3_isBeat "KiteRegisters", .methodLinkNest RX3 80 yX2_changeSetting "KiteRegisters", .methodLinkNest RX3 83 yX1_append "KiteRegisters", .methodLinkNest RX3 87 yX1_empty "KiteRegisters", .methodLinkNest RX3 91 yX1_scan "KiteRegisters", .methodLinkNest RX3 97 yX1_verbOf "KiteRegisters", .methodLinkNest RX3 100 yX1_firstOf "KiteRegisters", .methodLinkNest RX3 103 yX1_secondOf "KiteRegisters", .methodLinkNest RX3 106 yX2_carryOut "KiteRegisters", .methodLinkNest RX3 114 yX0_takeLatest "KiteRegisters", .methodLinkNest RX3 118 yX2_kitesInAll "KiteRegisters", .methodLinkNest RX3 121 yX2_aboutKite "KiteRegisters", .methodLinkNest RX3 124 yX2_aboutString "KiteRegisters", .methodLinkNest RX3 127 yX2_kiteAtPoint "KiteRegisters", .methodLinkNest RX3 130 yX2_thousandthsOf "KiteRegisters", .methodLinkNest RX3 133 yX2_windAt "KiteRegisters", .methodLinkNest RX3 136 yX2_aboutReading "KiteRegisters", .methodLinkNest RX3 139 yX2_readingsUntilCut "KiteRegisters", .methodLinkNest RX3 142 yX2_sinkUntil "KiteRegisters", .methodLinkNest RX3 145 yX2_greatestSafeWind "KiteRegisters", .methodLinkNest RX3 148 yX2_calmestString "KiteRegisters", .methodLinkNest RX3 157 yX2_aboutAll "KiteRegisters", .fieldLinkNest RX3 151 "KiteRegisters$History" "size" "I" "KiteRegisters", .fieldLinkNest RX3 154 "KiteRegisters$Script" "length" "I" "KiteRegisters", .fieldLinkNest RX3 94 "KiteRegisters$Script" "commands" "I" "KiteRegisters"]
def isNest : Cond → Bool
  | .methodLinkNest _ _ _ _ => true
  | .fieldLinkNest _ _ _ _ _ _ => true
  | _ => false
theorem nestW_ok : ∀ w ∈ nestW, isNest w = true := by decide +kernel
theorem isNest_tab {w : Cond} (h : isNest w = true) : w.onTables = true := by
  cases w <;> first | rfl | exact absurd h (by simp [isNest])
theorem isNest_warm {w : Cond} (h : isNest w = true) {s U : State} (hW : s.WarmedH U.vm) (hZ : va_Nw w s) : va_Nw w U := by
  cases w <;> first | exact va_Nw.warmM hW hZ | exact va_Nw.warmF hW hZ | exact absurd h (by simp [isNest])
def lenS : List Nat := [3, 4, 5, 4, 4]
def bytS : List (List Int32) := [[102, 108, 121], [114, 101, 97, 100], [119, 114, 105, 116, 101], [98, 101, 97, 116], [119, 105, 110, 100]]
abbrev Ev : Type := Launch × va_G × (Nat → Nat)
def tyl (E : Ev) : List (ClassId × FieldType) := [(E.2.2 0, .int), (E.2.2 1, .boolean), (E.2.2 2, .char), (E.2.2 3, .object "KiteRegisters$Sky")]
def ldcS : List (Nat × String) := [(89, "fly"), (91, "read"), (93, "write"), (95, "beat"), (97, "wind")]
def KK (E : Ev) (U : State) : Prop := va_K E.2.1 vwCl (tyl E) U ∧ (∀ w ∈ nestW, va_Nw w U) ∧ ∀ (i : Nat) (q : Nat × String), ldcS[i]? = some q → vk_R RX1 q.1 q.2 (E.2.2 (10 + i)) U
def SS (E : Ev) (A : Nat → Prop) (U : State) (H : Heap) : Prop := vk_S 5 lenS bytS (fun i => E.2.2 (10 + i)) (fun i => E.2.2 (20 + i)) A U H ∧ va_Z "java/lang/String" "COMPACT_STRINGS" "Z" (.int 1) A U H
theorem KK.same {E : Ev} {u U : State} (hv : u.vm = U.vm) (h : KK E u) : KK E U := by
  refine ⟨va_K.moved (by rw [hv]; exact Vm.Alike.refl _) h.1, fun w hw => va_Nw.same (isNest_tab (nestW_ok w hw)) hv (h.2.1 w hw), fun i q hq => vk_R.same hv.symm (h.2.2 i q hq)⟩
theorem KK.warm {E : Ev} {s U : State} (hW : s.WarmedH U.vm) (h : KK E s) : KK E U := by
  refine ⟨va_K.moved hW.alike h.1, fun w hw => isNest_warm (nestW_ok w hw) hW (h.2.1 w hw), fun i q hq => vk_R.warm hW (h.2.2 i q hq)⟩
theorem SS.moved {E : Ev} {A : Nat → Prop} {u U : State} {H : Heap} (hvm : u.vm.Alike U.vm) (h : SS E A u H) : SS E A U H := ⟨h.1.moved hvm, h.2.moved hvm⟩
theorem SS.kept {E : Ev} {A : Nat → Prop} {U : State} {H H1 : Heap} (h : SS E A U H) (hq : ∀ a : Nat, a < H.size → ¬ A a → H1[a]? = H[a]?) : SS E A U H1 := ⟨h.1.kept hq, h.2.kept hq⟩
theorem SS.narrow {E : Ev} {A B : Nat → Prop} {U : State} {H : Heap} (h : SS E A U H) (hAB : ∀ q, B q → A q) : SS E B U H := ⟨h.1.narrow hAB, h.2.narrow hAB⟩
/-! contexts and goals -/
abbrev Cx : Type := Program × Env × Room × State × MethodId × Array Value × List Frame × Method × Code × (Nat → Prop) × Nat × (State → Prop)
def G (E : Ev) (x : Cx) (ws : va_W) (lv : List (Option Value)) (pc : Nat) (st : List Value) : Prop :=
  match x with
  | (p, e, R, s, m, args, below, meth, c, A, nL, Q) => ∀ (H : Heap) (locs : List Loc) (ls : Array Slot), va_P E.2.1 vwCl ws H → va_D A ws → va_S A s.heap H locs → lv_has ls nL (ld 0 lv) → lv.length = nL → W p E.1 e R s m args below meth c H locs 0 0 Q (F0 m pc ls st)
def Ok (E : Ev) (x : Cx) (cc : ByteArray) (own : String) (Ts : List Cond) (rm : Room) : Prop :=
  match x with
  | (p, _, R, s, m, args, _, meth, c, A, nL, _) => p.tables.exec = Jvm.exec ∧ c.code = cc ∧ c.maxLocals = nL ∧ s.vm.findClass own = some m.cls ∧ (∀ w ∈ Ts, w.before args s = true) ∧ KK E s ∧ SS E A s s.heap ∧ (∀ q, s.heap.size ≤ q → A q) ∧ meth.locks = false ∧ R = rm
/-! contracts -/
def mPc (E : Ev) (w0 : va_W) (sz : Nat) (av : List Value) : Array Value → State → Prop := va_Pc av (fun U => U.heap.size = sz ∧ va_P E.2.1 vwCl w0 U.heap ∧ KK E U ∧ SS E (va_A w0 sz) U U.heap ∧ va_D (fun _ => True) w0)
def mB (E : Ev) (A : Nat → Prop) (u : va_W) (t : State) : Prop := va_P E.2.1 vwCl u t.heap ∧ va_D A u
def MI (E : Ev) (y : MethodName) (Ty : List Cond) (rm : Room) (w0 : va_W) (av : List Value) (post : Int32 → va_W → Prop) : Prop := ∀ sz : Nat, Met E.1 y Ty rm (mPc E w0 sz av) (va_Qi post (mB E (va_A w0 sz)) (va_A w0 sz)) 0 0 (va_A w0 sz)
def MV (E : Ev) (y : MethodName) (Ty : List Cond) (rm : Room) (w0 : va_W) (av : List Value) (post : va_W → Prop) : Prop := ∀ sz : Nat, Met E.1 y Ty rm (mPc E w0 sz av) (va_Qv post (mB E (va_A w0 sz)) (va_A w0 sz)) 0 0 (va_A w0 sz)
def MR (E : Ev) (y : MethodName) (Ty : List Cond) (rm : Room) (w0 : va_W) (av : List Value) (post : Nat → va_W → Prop) : Prop := ∀ sz : Nat, Met E.1 y Ty rm (mPc E w0 sz av) (va_Qr (fun _ => True) (fun (u : va_W) a t => post a u ∧ mB E (va_A w0 sz) u t) (va_A w0 sz)) 0 0 (va_A w0 sz)
def RetI (E : Ev) (x : Cx) (ty : FieldType) (post : Int32 → va_W → Prop) : Prop :=
  match x with
  | (_, _, _, s, _, args, below, meth, _, A, _, Q) => Q = MQ below (va_Qi post (mB E A) A) args s 0 0 A ∧ meth.sig.returnType = some ty
def RetV (E : Ev) (x : Cx) (post : va_W → Prop) : Prop :=
  match x with
  | (_, _, _, s, _, args, below, meth, _, A, _, Q) => Q = MQ below (va_Qv post (mB E A) A) args s 0 0 A ∧ meth.sig.returnType = none
def RetR (E : Ev) (x : Cx) (ty : FieldType) (post : Nat → va_W → Prop) : Prop :=
  match x with
  | (_, _, _, s, _, args, below, meth, _, A, _, Q) => Q = MQ below (va_Qr (fun _ => True) (fun (u : va_W) a t => post a u ∧ mB E A u t) A) args s 0 0 A ∧ meth.sig.returnType = some ty
theorem mPc_blind {E : Ev} {w0 : va_W} {sz : Nat} {av : List Value} : FrameBlind (mPc E w0 sz av) := by
  intro a U g mk h
  obtain ⟨h1, h2, h3, h4, h5, h6⟩ := h
  exact ⟨h1, h2, h3, KK.same (u := U) rfl h4, SS.moved (Vm.Alike.refl U.vm) h5, h6⟩
theorem va_A_self {ws : va_W} {sz : Nat} : ∀ q, sz ≤ q → va_A ws sz q := fun _ h => Or.inr h

theorem MI.of {E : Ev} {y : MethodName} {cc : ByteArray} {nL : Nat} {ty : FieldType} {Ty Ty' : List Cond} {rm : Room} {w0 : va_W} {av : List Value} {post : Int32 → va_W → Prop} {own : String} (lv0 : List (Option Value)) (hy : plainName y.cls = true) (ho : own = y.cls) (hT : Ty = Cond.code y cc nL (some ty) :: Ty') (hn : (lg_sl av).length ≤ nL) (hlv : lv_args 0 av = ld 0 lv0) (hll : lv0.length = nL)
    (body : ∀ x : Cx, Ok E x cc own Ty rm → RetI E x ty post → G E x w0 lv0 0 []) : MI E y Ty rm w0 av post := by
  intro sz
  refine Met.ofW (cc := cc) (maxL := nL) (ret := some ty) hy hT ?_
  intro p e s m args below meth c s₁ B hml hv
  obtain ⟨rfl, hsz, hP, hK, hE, hD0⟩ := hv
  subst hsz
  subst ho
  have hD := hD0.self (sz := s.heap.size)
  have hl := lv_entry av (n := nL) hn
  rw [lg_entry_eq]
  generalize (lg_sl av ++ List.replicate (nL - (lg_sl av).length) Slot.unset).toArray = ls at hl ⊢
  rw [hlv] at hl
  exact body (p, e, (headSpec Ty rm).room, s, m, av.toArray, below, meth, c, va_A w0 s.heap.size, nL, _) ⟨B.exec, B.bytes, hml, findClass_of_methodNamed B.named, atoms_spec (ws := Ty) B.pre, hK, hE, va_A_self, B.notSynchronized, rfl⟩ ⟨rfl, B.returns⟩ s.heap [] ls hP hD va_S.rf hl hll
theorem MV.of {E : Ev} {y : MethodName} {cc : ByteArray} {nL : Nat} {Ty Ty' : List Cond} {rm : Room} {w0 : va_W} {av : List Value} {post : va_W → Prop} {own : String} (lv0 : List (Option Value)) (hy : plainName y.cls = true) (ho : own = y.cls) (hT : Ty = Cond.code y cc nL (none) :: Ty') (hn : (lg_sl av).length ≤ nL) (hlv : lv_args 0 av = ld 0 lv0) (hll : lv0.length = nL)
    (body : ∀ x : Cx, Ok E x cc own Ty rm → RetV E x post → G E x w0 lv0 0 []) : MV E y Ty rm w0 av post := by
  intro sz
  refine Met.ofW (cc := cc) (maxL := nL) (ret := none) hy hT ?_
  intro p e s m args below meth c s₁ B hml hv
  obtain ⟨rfl, hsz, hP, hK, hE, hD0⟩ := hv
  subst hsz
  subst ho
  have hD := hD0.self (sz := s.heap.size)
  have hl := lv_entry av (n := nL) hn
  rw [lg_entry_eq]
  generalize (lg_sl av ++ List.replicate (nL - (lg_sl av).length) Slot.unset).toArray = ls at hl ⊢
  rw [hlv] at hl
  exact body (p, e, (headSpec Ty rm).room, s, m, av.toArray, below, meth, c, va_A w0 s.heap.size, nL, _) ⟨B.exec, B.bytes, hml, findClass_of_methodNamed B.named, atoms_spec (ws := Ty) B.pre, hK, hE, va_A_self, B.notSynchronized, rfl⟩ ⟨rfl, B.returns⟩ s.heap [] ls hP hD va_S.rf hl hll
theorem MR.of {E : Ev} {y : MethodName} {cc : ByteArray} {nL : Nat} {ty : FieldType} {Ty Ty' : List Cond} {rm : Room} {w0 : va_W} {av : List Value} {post : Nat → va_W → Prop} {own : String} (lv0 : List (Option Value)) (hy : plainName y.cls = true) (ho : own = y.cls) (hT : Ty = Cond.code y cc nL (some ty) :: Ty') (hn : (lg_sl av).length ≤ nL) (hlv : lv_args 0 av = ld 0 lv0) (hll : lv0.length = nL)
    (body : ∀ x : Cx, Ok E x cc own Ty rm → RetR E x ty post → G E x w0 lv0 0 []) : MR E y Ty rm w0 av post := by
  intro sz
  refine Met.ofW (cc := cc) (maxL := nL) (ret := some ty) hy hT ?_
  intro p e s m args below meth c s₁ B hml hv
  obtain ⟨rfl, hsz, hP, hK, hE, hD0⟩ := hv
  subst hsz
  subst ho
  have hD := hD0.self (sz := s.heap.size)
  have hl := lv_entry av (n := nL) hn
  rw [lg_entry_eq]
  generalize (lg_sl av ++ List.replicate (nL - (lg_sl av).length) Slot.unset).toArray = ls at hl ⊢
  rw [hlv] at hl
  exact body (p, e, (headSpec Ty rm).room, s, m, av.toArray, below, meth, c, va_A w0 s.heap.size, nL, _) ⟨B.exec, B.bytes, hml, findClass_of_methodNamed B.named, atoms_spec (ws := Ty) B.pre, hK, hE, va_A_self, B.notSynchronized, rfl⟩ ⟨rfl, B.returns⟩ s.heap [] ls hP hD va_S.rf hl hll
section GR
variable {E : Ev} {x : Cx} {cc : ByteArray} {own : String} {Ts : List Cond} {rm : Room} {ws : va_W} {lv : List (Option Value)} {pc : Nat} {st : List Value}
theorem g_iconst (C : Ok E x cc own Ts rm) {n : Int} {v : Int32} (d : decode cc pc = .ok (.iconst n, 1)) (hv : Int32.ofInt n = v) (k : G E x ws lv (pc + 1) (.int v :: st)) : G E x ws lv pc st := by
  obtain ⟨p, e, R, s, m, args, below, meth, c, A, nL, Q⟩ := x
  obtain ⟨hx, hb, hml, hown, hts, hK, hE, hA, hlk, hR⟩ := C
  subst hR
  intro H locs ls hP hD hS hl hnL
  exact lv_iconst hx hb d hv (k H locs ls hP hD hS hl hnL)
theorem g_bipush (C : Ok E x cc own Ts rm) {n : Int} {v : Int32} (d : decode cc pc = .ok (.bipush n, 2)) (hv : (Int8.ofInt n).toInt32 = v) (k : G E x ws lv (pc + 2) (.int v :: st)) : G E x ws lv pc st := by
  obtain ⟨p, e, R, s, m, args, below, meth, c, A, nL, Q⟩ := x
  obtain ⟨hx, hb, hml, hown, hts, hK, hE, hA, hlk, hR⟩ := C
  subst hR
  intro H locs ls hP hD hS hl hnL
  exact lv_bipush hx hb d hv (k H locs ls hP hD hS hl hnL)
theorem g_sipush (C : Ok E x cc own Ts rm) {n : Int} {v : Int32} (d : decode cc pc = .ok (.sipush n, 3)) (hv : (Int16.ofInt n).toInt32 = v) (k : G E x ws lv (pc + 3) (.int v :: st)) : G E x ws lv pc st := by
  obtain ⟨p, e, R, s, m, args, below, meth, c, A, nL, Q⟩ := x
  obtain ⟨hx, hb, hml, hown, hts, hK, hE, hA, hlk, hR⟩ := C
  subst hR
  intro H locs ls hP hD hS hl hnL
  exact lv_sipush hx hb d hv (k H locs ls hP hD hS hl hnL)
theorem g_lconst (C : Ok E x cc own Ts rm) {n : Fin 2} {v : Int64} (d : decode cc pc = .ok (.lconst n, 1)) (hv : Int64.ofNat (n : Nat) = v) (k : G E x ws lv (pc + 1) (.long v :: st)) : G E x ws lv pc st := by
  obtain ⟨p, e, R, s, m, args, below, meth, c, A, nL, Q⟩ := x
  obtain ⟨hx, hb, hml, hown, hts, hK, hE, hA, hlk, hR⟩ := C
  subst hR
  intro H locs ls hP hD hS hl hnL
  exact lv_lconst hx hb d hv (k H locs ls hP hD hS hl hnL)
theorem g_ldc (C : Ok E x cc own Ts rm) {index : Nat} {v : Int32} (hw : Cond.constant own index v ∈ Ts) (d : decode cc pc = .ok (.ldc index, 2)) (k : G E x ws lv (pc + 2) (.int v :: st)) : G E x ws lv pc st := by
  obtain ⟨p, e, R, s, m, args, below, meth, c, A, nL, Q⟩ := x
  obtain ⟨hx, hb, hml, hown, hts, hK, hE, hA, hlk, hR⟩ := C
  subst hR
  intro H locs ls hP hD hS hl hnL
  exact lv_ldc hx hb hown (hts _ hw) d (k H locs ls hP hD hS hl hnL)
theorem g_ldc2 (C : Ok E x cc own Ts rm) {index : Nat} {v : Int64} (hw : Cond.constantLong own index v ∈ Ts) (d : decode cc pc = .ok (.ldc2_w index, 3)) (k : G E x ws lv (pc + 3) (.long v :: st)) : G E x ws lv pc st := by
  obtain ⟨p, e, R, s, m, args, below, meth, c, A, nL, Q⟩ := x
  obtain ⟨hx, hb, hml, hown, hts, hK, hE, hA, hlk, hR⟩ := C
  subst hR
  intro H locs ls hP hD hS hl hnL
  exact lv_ldc2 hx hb hown (hts _ hw) d (k H locs ls hP hD hS hl hnL)
theorem g_iload_n (C : Ok E x cc own Ts rm) {k0 : Fin 4} {i : Nat} {v : Int32} (d : decode cc pc = .ok (.iload_n k0, 1)) (hi : (k0 : Nat) = i) (hv : lv[i]? = some (some (.int v))) (k : G E x ws lv (pc + 1) (.int v :: st)) : G E x ws lv pc st := by
  obtain ⟨p, e, R, s, m, args, below, meth, c, A, nL, Q⟩ := x
  obtain ⟨hx, hb, hml, hown, hts, hK, hE, hA, hlk, hR⟩ := C
  subst hR
  intro H locs ls hP hD hS hl hnL
  exact lv_iload_n hx hb d hi (ld_at hl hv) (k H locs ls hP hD hS hl hnL)
theorem g_iload (C : Ok E x cc own Ts rm) {i : Nat} {v : Int32} (d : decode cc pc = .ok (.iload i, 2)) (hv : lv[i]? = some (some (.int v))) (k : G E x ws lv (pc + 2) (.int v :: st)) : G E x ws lv pc st := by
  obtain ⟨p, e, R, s, m, args, below, meth, c, A, nL, Q⟩ := x
  obtain ⟨hx, hb, hml, hown, hts, hK, hE, hA, hlk, hR⟩ := C
  subst hR
  intro H locs ls hP hD hS hl hnL
  exact lv_iload hx hb d (ld_at hl hv) (k H locs ls hP hD hS hl hnL)
theorem g_lload_n (C : Ok E x cc own Ts rm) {k0 : Fin 4} {i : Nat} {v : Int64} (d : decode cc pc = .ok (.lload_n k0, 1)) (hi : (k0 : Nat) = i) (hv : lv[i]? = some (some (.long v))) (k : G E x ws lv (pc + 1) (.long v :: st)) : G E x ws lv pc st := by
  obtain ⟨p, e, R, s, m, args, below, meth, c, A, nL, Q⟩ := x
  obtain ⟨hx, hb, hml, hown, hts, hK, hE, hA, hlk, hR⟩ := C
  subst hR
  intro H locs ls hP hD hS hl hnL
  exact lv_lload_n hx hb d hi (ld_at hl hv) (k H locs ls hP hD hS hl hnL)
theorem g_lload (C : Ok E x cc own Ts rm) {i : Nat} {v : Int64} (d : decode cc pc = .ok (.lload i, 2)) (hv : lv[i]? = some (some (.long v))) (k : G E x ws lv (pc + 2) (.long v :: st)) : G E x ws lv pc st := by
  obtain ⟨p, e, R, s, m, args, below, meth, c, A, nL, Q⟩ := x
  obtain ⟨hx, hb, hml, hown, hts, hK, hE, hA, hlk, hR⟩ := C
  subst hR
  intro H locs ls hP hD hS hl hnL
  exact lv_lload hx hb d (ld_at hl hv) (k H locs ls hP hD hS hl hnL)
theorem g_aload_n (C : Ok E x cc own Ts rm) {k0 : Fin 4} {i : Nat} {v : Nat} (d : decode cc pc = .ok (.aload_n k0, 1)) (hi : (k0 : Nat) = i) (hv : lv[i]? = some (some (.ref v))) (k : G E x ws lv (pc + 1) (.ref v :: st)) : G E x ws lv pc st := by
  obtain ⟨p, e, R, s, m, args, below, meth, c, A, nL, Q⟩ := x
  obtain ⟨hx, hb, hml, hown, hts, hK, hE, hA, hlk, hR⟩ := C
  subst hR
  intro H locs ls hP hD hS hl hnL
  exact lv_aload_n hx hb d hi (ld_at hl hv) (k H locs ls hP hD hS hl hnL)
theorem g_aload (C : Ok E x cc own Ts rm) {i : Nat} {v : Nat} (d : decode cc pc = .ok (.aload i, 2)) (hv : lv[i]? = some (some (.ref v))) (k : G E x ws lv (pc + 2) (.ref v :: st)) : G E x ws lv pc st := by
  obtain ⟨p, e, R, s, m, args, below, meth, c, A, nL, Q⟩ := x
  obtain ⟨hx, hb, hml, hown, hts, hK, hE, hA, hlk, hR⟩ := C
  subst hR
  intro H locs ls hP hD hS hl hnL
  exact lv_aload hx hb d (ld_at hl hv) (k H locs ls hP hD hS hl hnL)
theorem g_istore_n (C : Ok E x cc own Ts rm) {k0 : Fin 4} {i : Nat} {v : Int32} (d : decode cc pc = .ok (.istore_n k0, 1)) (hi : (k0 : Nat) = i) (hn : i < lv.length) (ho : okst lv i = true) (k : G E x ws (lv.set i (some (.int v))) (pc + 1) st) : G E x ws lv pc (.int v :: st) := by
  obtain ⟨p, e, R, s, m, args, below, meth, c, A, nL, Q⟩ := x
  obtain ⟨hx, hb, hml, hown, hts, hK, hE, hA, hlk, hR⟩ := C
  subst hR
  intro H locs ls hP hD hS hl hnL
  exact lv_istore_n hx hb d hi hl (hnL ▸ hn) rfl (fun ls' hl' => k H locs ls' hP hD hS (ld_put hl' ho) (by rw [List.length_set]; exact hnL))
theorem g_istore (C : Ok E x cc own Ts rm) {i : Nat} {v : Int32} (d : decode cc pc = .ok (.istore i, 2)) (hn : i < lv.length) (ho : okst lv i = true) (k : G E x ws (lv.set i (some (.int v))) (pc + 2) st) : G E x ws lv pc (.int v :: st) := by
  obtain ⟨p, e, R, s, m, args, below, meth, c, A, nL, Q⟩ := x
  obtain ⟨hx, hb, hml, hown, hts, hK, hE, hA, hlk, hR⟩ := C
  subst hR
  intro H locs ls hP hD hS hl hnL
  exact lv_istore hx hb d hl (hnL ▸ hn) rfl (fun ls' hl' => k H locs ls' hP hD hS (ld_put hl' ho) (by rw [List.length_set]; exact hnL))
theorem g_astore_n (C : Ok E x cc own Ts rm) {k0 : Fin 4} {i : Nat} {v : Nat} (d : decode cc pc = .ok (.astore_n k0, 1)) (hi : (k0 : Nat) = i) (hn : i < lv.length) (ho : okst lv i = true) (k : G E x ws (lv.set i (some (.ref v))) (pc + 1) st) : G E x ws lv pc (.ref v :: st) := by
  obtain ⟨p, e, R, s, m, args, below, meth, c, A, nL, Q⟩ := x
  obtain ⟨hx, hb, hml, hown, hts, hK, hE, hA, hlk, hR⟩ := C
  subst hR
  intro H locs ls hP hD hS hl hnL
  exact lv_astore_n hx hb d hi hl (hnL ▸ hn) rfl (fun ls' hl' => k H locs ls' hP hD hS (ld_put hl' ho) (by rw [List.length_set]; exact hnL))
theorem g_astore (C : Ok E x cc own Ts rm) {i : Nat} {v : Nat} (d : decode cc pc = .ok (.astore i, 2)) (hn : i < lv.length) (ho : okst lv i = true) (k : G E x ws (lv.set i (some (.ref v))) (pc + 2) st) : G E x ws lv pc (.ref v :: st) := by
  obtain ⟨p, e, R, s, m, args, below, meth, c, A, nL, Q⟩ := x
  obtain ⟨hx, hb, hml, hown, hts, hK, hE, hA, hlk, hR⟩ := C
  subst hR
  intro H locs ls hP hD hS hl hnL
  exact lv_astore hx hb d hl (hnL ▸ hn) rfl (fun ls' hl' => k H locs ls' hP hD hS (ld_put hl' ho) (by rw [List.length_set]; exact hnL))
theorem lv_iincS {p : Program} {l : Launch} {e : Env} {R : Room} {s : State} {m : MethodId} {args : Array Value} {below : List Frame} {meth : Method} {c : Code} {H : Heap} {locs : List Loc} {Q : State → Prop} {cc : ByteArray} {pc : Nat} {ls : Array Slot} {rest : List Value} (hx : p.tables.exec = Jvm.exec) (hb : c.code = cc) {i nL : Nat} {n : Int} {y : Int32} {lv : List (Option Value)} (d : decode cc pc = .ok (.iinc i n, 3)) (h : lv_has ls nL (ld 0 lv)) (hv : lv[i]? = some (some (.int y))) (hn : i < nL) (ho : okst lv i = true)
    (k : ∀ ls' : Array Slot, lv_has ls' nL (ld 0 (lv.set i (some (.int (y + Int32.ofInt n))))) → W p l e R s m args below meth c H locs 0 0 Q (F0 m (pc + 3) ls' rest)) : W p l e R s m args below meth c H locs 0 0 Q (F0 m pc ls rest) := by
  have hm := ld_in lv 0 i _ hv
  rw [Nat.zero_add] at hm
  obtain ⟨j, hj⟩ := List.getElem?_of_mem hm
  exact lv_iinc hx hb d h hj rfl hn rfl (fun ls' hl' => k ls' (ld_put hl' ho))
theorem g_iinc (C : Ok E x cc own Ts rm) {i : Nat} {n : Int} {y v : Int32} (d : decode cc pc = .ok (.iinc i n, 3)) (hv : lv[i]? = some (some (.int y))) (ho : okst lv i = true) (he : y + Int32.ofInt n = v) (k : G E x ws (lv.set i (some (.int v))) (pc + 3) st) : G E x ws lv pc st := by
  obtain ⟨p, e, R, s, m, args, below, meth, c, A, nL, Q⟩ := x
  obtain ⟨hx, hb, hml, hown, hts, hK, hE, hA, hlk, hR⟩ := C
  subst hR
  intro H locs ls hP hD hS hl hnL
  subst he
  exact lv_iincS hx hb d hl hv (hnL ▸ (List.getElem?_eq_some_iff.mp hv).1) ho (fun ls' hl' => k H locs ls' hP hD hS hl' (by rw [List.length_set]; exact hnL))
theorem g_iadd (C : Ok E x cc own Ts rm) {x1 y1 : Int32} (d : decode cc pc = .ok (.iadd, 1)) (k : G E x ws lv (pc + 1) (.int (x1 + y1) :: st)) : G E x ws lv pc (.int y1 :: .int x1 :: st) := by
  obtain ⟨p, e, R, s, m, args, below, meth, c, A, nL, Q⟩ := x
  obtain ⟨hx, hb, hml, hown, hts, hK, hE, hA, hlk, hR⟩ := C
  subst hR
  intro H locs ls hP hD hS hl hnL
  exact lv_iadd hx hb d (k H locs ls hP hD hS hl hnL)
theorem g_isub (C : Ok E x cc own Ts rm) {x1 y1 : Int32} (d : decode cc pc = .ok (.isub, 1)) (k : G E x ws lv (pc + 1) (.int (x1 - y1) :: st)) : G E x ws lv pc (.int y1 :: .int x1 :: st) := by
  obtain ⟨p, e, R, s, m, args, below, meth, c, A, nL, Q⟩ := x
  obtain ⟨hx, hb, hml, hown, hts, hK, hE, hA, hlk, hR⟩ := C
  subst hR
  intro H locs ls hP hD hS hl hnL
  exact lv_isub hx hb d (k H locs ls hP hD hS hl hnL)
theorem g_imul (C : Ok E x cc own Ts rm) {x1 y1 : Int32} (d : decode cc pc = .ok (.imul, 1)) (k : G E x ws lv (pc + 1) (.int (x1 * y1) :: st)) : G E x ws lv pc (.int y1 :: .int x1 :: st) := by
  obtain ⟨p, e, R, s, m, args, below, meth, c, A, nL, Q⟩ := x
  obtain ⟨hx, hb, hml, hown, hts, hK, hE, hA, hlk, hR⟩ := C
  subst hR
  intro H locs ls hP hD hS hl hnL
  exact lv_imul hx hb d (k H locs ls hP hD hS hl hnL)
theorem g_iand (C : Ok E x cc own Ts rm) {x1 y1 : Int32} (d : decode cc pc = .ok (.iand, 1)) (k : G E x ws lv (pc + 1) (.int (x1 &&& y1) :: st)) : G E x ws lv pc (.int y1 :: .int x1 :: st) := by
  obtain ⟨p, e, R, s, m, args, below, meth, c, A, nL, Q⟩ := x
  obtain ⟨hx, hb, hml, hown, hts, hK, hE, hA, hlk, hR⟩ := C
  subst hR
  intro H locs ls hP hD hS hl hnL
  exact lv_iand hx hb d (k H locs ls hP hD hS hl hnL)
theorem g_idiv (C : Ok E x cc own Ts rm) {x1 y1 : Int32} (d : decode cc pc = .ok (.idiv, 1)) (hne : ¬ y1 = 0) (k : G E x ws lv (pc + 1) (.int (x1 / y1) :: st)) : G E x ws lv pc (.int y1 :: .int x1 :: st) := by
  obtain ⟨p, e, R, s, m, args, below, meth, c, A, nL, Q⟩ := x
  obtain ⟨hx, hb, hml, hown, hts, hK, hE, hA, hlk, hR⟩ := C
  subst hR
  intro H locs ls hP hD hS hl hnL
  exact lv_idiv hx hb d hne (k H locs ls hP hD hS hl hnL)
theorem g_irem (C : Ok E x cc own Ts rm) {x1 y1 : Int32} (d : decode cc pc = .ok (.irem, 1)) (hne : ¬ y1 = 0) (k : G E x ws lv (pc + 1) (.int (x1 - x1 / y1 * y1) :: st)) : G E x ws lv pc (.int y1 :: .int x1 :: st) := by
  obtain ⟨p, e, R, s, m, args, below, meth, c, A, nL, Q⟩ := x
  obtain ⟨hx, hb, hml, hown, hts, hK, hE, hA, hlk, hR⟩ := C
  subst hR
  intro H locs ls hP hD hS hl hnL
  exact lv_irem hx hb d hne (k H locs ls hP hD hS hl hnL)
theorem g_ineg (C : Ok E x cc own Ts rm) {x1 : Int32} (d : decode cc pc = .ok (.ineg, 1)) (k : G E x ws lv (pc + 1) (.int (-x1) :: st)) : G E x ws lv pc (.int x1 :: st) := by
  obtain ⟨p, e, R, s, m, args, below, meth, c, A, nL, Q⟩ := x
  obtain ⟨hx, hb, hml, hown, hts, hK, hE, hA, hlk, hR⟩ := C
  subst hR
  intro H locs ls hP hD hS hl hnL
  exact lv_ineg hx hb d (k H locs ls hP hD hS hl hnL)
theorem g_lsub (C : Ok E x cc own Ts rm) {x1 y1 : Int64} (d : decode cc pc = .ok (.lsub, 1)) (k : G E x ws lv (pc + 1) (.long (x1 - y1) :: st)) : G E x ws lv pc (.long y1 :: .long x1 :: st) := by
  obtain ⟨p, e, R, s, m, args, below, meth, c, A, nL, Q⟩ := x
  obtain ⟨hx, hb, hml, hown, hts, hK, hE, hA, hlk, hR⟩ := C
  subst hR
  intro H locs ls hP hD hS hl hnL
  exact lv_lsub hx hb d (k H locs ls hP hD hS hl hnL)
theorem g_land (C : Ok E x cc own Ts rm) {x1 y1 : Int64} (d : decode cc pc = .ok (.land, 1)) (k : G E x ws lv (pc + 1) (.long (x1 &&& y1) :: st)) : G E x ws lv pc (.long y1 :: .long x1 :: st) := by
  obtain ⟨p, e, R, s, m, args, below, meth, c, A, nL, Q⟩ := x
  obtain ⟨hx, hb, hml, hown, hts, hK, hE, hA, hlk, hR⟩ := C
  subst hR
  intro H locs ls hP hD hS hl hnL
  exact lv_land hx hb d (k H locs ls hP hD hS hl hnL)
theorem g_lshr (C : Ok E x cc own Ts rm) {x1 v : Int64} {y1 : Int32} (d : decode cc pc = .ok (.lshr, 1)) (hv : x1 >>> (y1.toInt64 &&& 63) = v) (k : G E x ws lv (pc + 1) (.long v :: st)) : G E x ws lv pc (.int y1 :: .long x1 :: st) := by
  obtain ⟨p, e, R, s, m, args, below, meth, c, A, nL, Q⟩ := x
  obtain ⟨hx, hb, hml, hown, hts, hK, hE, hA, hlk, hR⟩ := C
  subst hR
  intro H locs ls hP hD hS hl hnL
  exact lv_lshr hx hb d hv (k H locs ls hP hD hS hl hnL)
theorem g_i2l (C : Ok E x cc own Ts rm) {x1 : Int32} (d : decode cc pc = .ok (.i2l, 1)) (k : G E x ws lv (pc + 1) (.long x1.toInt64 :: st)) : G E x ws lv pc (.int x1 :: st) := by
  obtain ⟨p, e, R, s, m, args, below, meth, c, A, nL, Q⟩ := x
  obtain ⟨hx, hb, hml, hown, hts, hK, hE, hA, hlk, hR⟩ := C
  subst hR
  intro H locs ls hP hD hS hl hnL
  exact lv_i2l hx hb d rfl (k H locs ls hP hD hS hl hnL)
theorem g_l2i (C : Ok E x cc own Ts rm) {x1 : Int64} (d : decode cc pc = .ok (.l2i, 1)) (k : G E x ws lv (pc + 1) (.int x1.toInt32 :: st)) : G E x ws lv pc (.long x1 :: st) := by
  obtain ⟨p, e, R, s, m, args, below, meth, c, A, nL, Q⟩ := x
  obtain ⟨hx, hb, hml, hown, hts, hK, hE, hA, hlk, hR⟩ := C
  subst hR
  intro H locs ls hP hD hS hl hnL
  exact lv_l2i hx hb d rfl (k H locs ls hP hD hS hl hnL)
theorem g_i2c (C : Ok E x cc own Ts rm) {x1 : Int32} (d : decode cc pc = .ok (.i2c, 1)) (k : G E x ws lv (pc + 1) (.int (x1.toUInt32 % 65536).toInt32 :: st)) : G E x ws lv pc (.int x1 :: st) := by
  obtain ⟨p, e, R, s, m, args, below, meth, c, A, nL, Q⟩ := x
  obtain ⟨hx, hb, hml, hown, hts, hK, hE, hA, hlk, hR⟩ := C
  subst hR
  intro H locs ls hP hD hS hl hnL
  exact lv_i2c hx hb d rfl (k H locs ls hP hD hS hl hnL)
theorem g_lcmp (C : Ok E x cc own Ts rm) {x1 y1 : Int64} (d : decode cc pc = .ok (.lcmp, 1)) (k : G E x ws lv (pc + 1) (.int (lg_cmp x1 y1) :: st)) : G E x ws lv pc (.long y1 :: .long x1 :: st) := by
  obtain ⟨p, e, R, s, m, args, below, meth, c, A, nL, Q⟩ := x
  obtain ⟨hx, hb, hml, hown, hts, hK, hE, hA, hlk, hR⟩ := C
  subst hR
  intro H locs ls hP hD hS hl hnL
  exact W.lcmp hx hb d (k H locs ls hP hD hS hl hnL)
theorem g_dup (C : Ok E x cc own Ts rm) {v : Value} (d : decode cc pc = .ok (.dup, 1)) (hc : v.category = 1) (k : G E x ws lv (pc + 1) (v :: v :: st)) : G E x ws lv pc (v :: st) := by
  obtain ⟨p, e, R, s, m, args, below, meth, c, A, nL, Q⟩ := x
  obtain ⟨hx, hb, hml, hown, hts, hK, hE, hA, hlk, hR⟩ := C
  subst hR
  intro H locs ls hP hD hS hl hnL
  exact lv_dup hx hb d hc (k H locs ls hP hD hS hl hnL)
theorem g_dup2 (C : Ok E x cc own Ts rm) {v w : Value} (d : decode cc pc = .ok (.dup2, 1)) (hc : v.category = 1) (hc2 : w.category = 1) (k : G E x ws lv (pc + 1) (v :: w :: v :: w :: st)) : G E x ws lv pc (v :: w :: st) := by
  obtain ⟨p, e, R, s, m, args, below, meth, c, A, nL, Q⟩ := x
  obtain ⟨hx, hb, hml, hown, hts, hK, hE, hA, hlk, hR⟩ := C
  subst hR
  intro H locs ls hP hD hS hl hnL
  exact lv_dup2_11 hx hb d hc hc2 (k H locs ls hP hD hS hl hnL)
theorem g_pop (C : Ok E x cc own Ts rm) {v : Value} (d : decode cc pc = .ok (.pop, 1)) (hc : v.category = 1) (k : G E x ws lv (pc + 1) st) : G E x ws lv pc (v :: st) := by
  obtain ⟨p, e, R, s, m, args, below, meth, c, A, nL, Q⟩ := x
  obtain ⟨hx, hb, hml, hown, hts, hK, hE, hA, hlk, hR⟩ := C
  subst hR
  intro H locs ls hP hD hS hl hnL
  exact lv_pop hx hb d hc (k H locs ls hP hD hS hl hnL)
theorem g_goto (C : Ok E x cc own Ts rm) {off : Int} {tgt : Nat} (d : decode cc pc = .ok (.goto off, 3)) (ht : (pc : Int) + off = (tgt : Int)) (k : G E x ws lv tgt st) : G E x ws lv pc st := by
  obtain ⟨p, e, R, s, m, args, below, meth, c, A, nL, Q⟩ := x
  obtain ⟨hx, hb, hml, hown, hts, hK, hE, hA, hlk, hR⟩ := C
  subst hR
  intro H locs ls hP hD hS hl hnL
  exact lv_goto hx hb d ht (k H locs ls hP hD hS hl hnL)
theorem g_ifnonnull (C : Ok E x cc own Ts rm) {a : Nat} {off : Int} {tgt : Nat} (d : decode cc pc = .ok (.ifnonnull off, 3)) (ht : (pc : Int) + off = (tgt : Int)) (k : G E x ws lv tgt st) : G E x ws lv pc (.ref a :: st) := by
  obtain ⟨p, e, R, s, m, args, below, meth, c, A, nL, Q⟩ := x
  obtain ⟨hx, hb, hml, hown, hts, hK, hE, hA, hlk, hR⟩ := C
  subst hR
  intro H locs ls hP hD hS hl hnL
  exact lv_ifnonnull hx hb d ht (k H locs ls hP hD hS hl hnL)
theorem g_ifnull (C : Ok E x cc own Ts rm) {a : Nat} {off : Int} (d : decode cc pc = .ok (.ifnull off, 3)) (k : G E x ws lv (pc + 3) st) : G E x ws lv pc (.ref a :: st) := by
  obtain ⟨p, e, R, s, m, args, below, meth, c, A, nL, Q⟩ := x
  obtain ⟨hx, hb, hml, hown, hts, hK, hE, hA, hlk, hR⟩ := C
  subst hR
  intro H locs ls hP hD hS hl hnL
  exact lv_ifnull hx hb d (k H locs ls hP hD hS hl hnL)
theorem g_if_eq (C : Ok E x cc own Ts rm) {x1 : Int32} {off : Int} {tgt : Nat} (d : decode cc pc = .ok (.ifCond .eq off, 3)) (ht : (pc : Int) + off = (tgt : Int)) (kt : x1 = 0 → G E x ws lv tgt st) (kf : ¬ x1 = 0 → G E x ws lv (pc + 3) st) : G E x ws lv pc (.int x1 :: st) := by
  obtain ⟨p, e, R, s, m, args, below, meth, c, A, nL, Q⟩ := x
  obtain ⟨hx, hb, hml, hown, hts, hK, hE, hA, hlk, hR⟩ := C
  subst hR
  intro H locs ls hP hD hS hl hnL
  exact lv_if_eq hx hb d ht (fun h => kt h H locs ls hP hD hS hl hnL) (fun h => kf h H locs ls hP hD hS hl hnL)
theorem g_icmp_eq (C : Ok E x cc own Ts rm) {x1 y1 : Int32} {off : Int} {tgt : Nat} (d : decode cc pc = .ok (.if_icmp .eq off, 3)) (ht : (pc : Int) + off = (tgt : Int)) (kt : x1 = y1 → G E x ws lv tgt st) (kf : ¬ x1 = y1 → G E x ws lv (pc + 3) st) : G E x ws lv pc (.int y1 :: .int x1 :: st) := by
  obtain ⟨p, e, R, s, m, args, below, meth, c, A, nL, Q⟩ := x
  obtain ⟨hx, hb, hml, hown, hts, hK, hE, hA, hlk, hR⟩ := C
  subst hR
  intro H locs ls hP hD hS hl hnL
  exact lv_icmp_eq hx hb d ht (fun h => kt h H locs ls hP hD hS hl hnL) (fun h => kf h H locs ls hP hD hS hl hnL)
theorem g_if_ne (C : Ok E x cc own Ts rm) {x1 : Int32} {off : Int} {tgt : Nat} (d : decode cc pc = .ok (.ifCond .ne off, 3)) (ht : (pc : Int) + off = (tgt : Int)) (kt : ¬ x1 = 0 → G E x ws lv tgt st) (kf : x1 = 0 → G E x ws lv (pc + 3) st) : G E x ws lv pc (.int x1 :: st) := by
  obtain ⟨p, e, R, s, m, args, below, meth, c, A, nL, Q⟩ := x
  obtain ⟨hx, hb, hml, hown, hts, hK, hE, hA, hlk, hR⟩ := C
  subst hR
  intro H locs ls hP hD hS hl hnL
  exact lv_if_ne hx hb d ht (fun h => kt h H locs ls hP hD hS hl hnL) (fun h => kf h H locs ls hP hD hS hl hnL)
theorem g_icmp_ne (C : Ok E x cc own Ts rm) {x1 y1 : Int32} {off : Int} {tgt : Nat} (d : decode cc pc = .ok (.if_icmp .ne off, 3)) (ht : (pc : Int) + off = (tgt : Int)) (kt : ¬ x1 = y1 → G E x ws lv tgt st) (kf : x1 = y1 → G E x ws lv (pc + 3) st) : G E x ws lv pc (.int y1 :: .int x1 :: st) := by
  obtain ⟨p, e, R, s, m, args, below, meth, c, A, nL, Q⟩ := x
  obtain ⟨hx, hb, hml, hown, hts, hK, hE, hA, hlk, hR⟩ := C
  subst hR
  intro H locs ls hP hD hS hl hnL
  exact lv_icmp_ne hx hb d ht (fun h => kt h H locs ls hP hD hS hl hnL) (fun h => kf h H locs ls hP hD hS hl hnL)
theorem g_if_lt (C : Ok E x cc own Ts rm) {x1 : Int32} {off : Int} {tgt : Nat} (d : decode cc pc = .ok (.ifCond .lt off, 3)) (ht : (pc : Int) + off = (tgt : Int)) (kt : x1 < 0 → G E x ws lv tgt st) (kf : ¬ x1 < 0 → G E x ws lv (pc + 3) st) : G E x ws lv pc (.int x1 :: st) := by
  obtain ⟨p, e, R, s, m, args, below, meth, c, A, nL, Q⟩ := x
  obtain ⟨hx, hb, hml, hown, hts, hK, hE, hA, hlk, hR⟩ := C
  subst hR
  intro H locs ls hP hD hS hl hnL
  exact lv_if_lt hx hb d ht (fun h => kt h H locs ls hP hD hS hl hnL) (fun h => kf h H locs ls hP hD hS hl hnL)
theorem g_icmp_lt (C : Ok E x cc own Ts rm) {x1 y1 : Int32} {off : Int} {tgt : Nat} (d : decode cc pc = .ok (.if_icmp .lt off, 3)) (ht : (pc : Int) + off = (tgt : Int)) (kt : x1 < y1 → G E x ws lv tgt st) (kf : ¬ x1 < y1 → G E x ws lv (pc + 3) st) : G E x ws lv pc (.int y1 :: .int x1 :: st) := by
  obtain ⟨p, e, R, s, m, args, below, meth, c, A, nL, Q⟩ := x
  obtain ⟨hx, hb, hml, hown, hts, hK, hE, hA, hlk, hR⟩ := C
  subst hR
  intro H locs ls hP hD hS hl hnL
  exact lv_icmp_lt hx hb d ht (fun h => kt h H locs ls hP hD hS hl hnL) (fun h => kf h H locs ls hP hD hS hl hnL)
theorem g_if_ge (C : Ok E x cc own Ts rm) {x1 : Int32} {off : Int} {tgt : Nat} (d : decode cc pc = .ok (.ifCond .ge off, 3)) (ht : (pc : Int) + off = (tgt : Int)) (kt : 0 ≤ x1 → G E x ws lv tgt st) (kf : ¬ 0 ≤ x1 → G E x ws lv (pc + 3) st) : G E x ws lv pc (.int x1 :: st) := by
  obtain ⟨p, e, R, s, m, args, below, meth, c, A, nL, Q⟩ := x
  obtain ⟨hx, hb, hml, hown, hts, hK, hE, hA, hlk, hR⟩ := C
  subst hR
  intro H locs ls hP hD hS hl hnL
  exact lv_if_ge hx hb d ht (fun h => kt h H locs ls hP hD hS hl hnL) (fun h => kf h H locs ls hP hD hS hl hnL)
theorem g_icmp_ge (C : Ok E x cc own Ts rm) {x1 y1 : Int32} {off : Int} {tgt : Nat} (d : decode cc pc = .ok (.if_icmp .ge off, 3)) (ht : (pc : Int) + off = (tgt : Int)) (kt : y1 ≤ x1 → G E x ws lv tgt st) (kf : ¬ y1 ≤ x1 → G E x ws lv (pc + 3) st) : G E x ws lv pc (.int y1 :: .int x1 :: st) := by
  obtain ⟨p, e, R, s, m, args, below, meth, c, A, nL, Q⟩ := x
  obtain ⟨hx, hb, hml, hown, hts, hK, hE, hA, hlk, hR⟩ := C
  subst hR
  intro H locs ls hP hD hS hl hnL
  exact lv_icmp_ge hx hb d ht (fun h => kt h H locs ls hP hD hS hl hnL) (fun h => kf h H locs ls hP hD hS hl hnL)
theorem g_if_gt (C : Ok E x cc own Ts rm) {x1 : Int32} {off : Int} {tgt : Nat} (d : decode cc pc = .ok (.ifCond .gt off, 3)) (ht : (pc : Int) + off = (tgt : Int)) (kt : 0 < x1 → G E x ws lv tgt st) (kf : ¬ 0 < x1 → G E x ws lv (pc + 3) st) : G E x ws lv pc (.int x1 :: st) := by
  obtain ⟨p, e, R, s, m, args, below, meth, c, A, nL, Q⟩ := x
  obtain ⟨hx, hb, hml, hown, hts, hK, hE, hA, hlk, hR⟩ := C
  subst hR
  intro H locs ls hP hD hS hl hnL
  exact lv_if_gt hx hb d ht (fun h => kt h H locs ls hP hD hS hl hnL) (fun h => kf h H locs ls hP hD hS hl hnL)
theorem g_icmp_gt (C : Ok E x cc own Ts rm) {x1 y1 : Int32} {off : Int} {tgt : Nat} (d : decode cc pc = .ok (.if_icmp .gt off, 3)) (ht : (pc : Int) + off = (tgt : Int)) (kt : y1 < x1 → G E x ws lv tgt st) (kf : ¬ y1 < x1 → G E x ws lv (pc + 3) st) : G E x ws lv pc (.int y1 :: .int x1 :: st) := by
  obtain ⟨p, e, R, s, m, args, below, meth, c, A, nL, Q⟩ := x
  obtain ⟨hx, hb, hml, hown, hts, hK, hE, hA, hlk, hR⟩ := C
  subst hR
  intro H locs ls hP hD hS hl hnL
  exact lv_icmp_gt hx hb d ht (fun h => kt h H locs ls hP hD hS hl hnL) (fun h => kf h H locs ls hP hD hS hl hnL)
theorem g_if_le (C : Ok E x cc own Ts rm) {x1 : Int32} {off : Int} {tgt : Nat} (d : decode cc pc = .ok (.ifCond .le off, 3)) (ht : (pc : Int) + off = (tgt : Int)) (kt : x1 ≤ 0 → G E x ws lv tgt st) (kf : ¬ x1 ≤ 0 → G E x ws lv (pc + 3) st) : G E x ws lv pc (.int x1 :: st) := by
  obtain ⟨p, e, R, s, m, args, below, meth, c, A, nL, Q⟩ := x
  obtain ⟨hx, hb, hml, hown, hts, hK, hE, hA, hlk, hR⟩ := C
  subst hR
  intro H locs ls hP hD hS hl hnL
  exact lv_if_le hx hb d ht (fun h => kt h H locs ls hP hD hS hl hnL) (fun h => kf h H locs ls hP hD hS hl hnL)
theorem g_icmp_le (C : Ok E x cc own Ts rm) {x1 y1 : Int32} {off : Int} {tgt : Nat} (d : decode cc pc = .ok (.if_icmp .le off, 3)) (ht : (pc : Int) + off = (tgt : Int)) (kt : x1 ≤ y1 → G E x ws lv tgt st) (kf : ¬ x1 ≤ y1 → G E x ws lv (pc + 3) st) : G E x ws lv pc (.int y1 :: .int x1 :: st) := by
  obtain ⟨p, e, R, s, m, args, below, meth, c, A, nL, Q⟩ := x
  obtain ⟨hx, hb, hml, hown, hts, hK, hE, hA, hlk, hR⟩ := C
  subst hR
  intro H locs ls hP hD hS hl hnL
  exact lv_icmp_le hx hb d ht (fun h => kt h H locs ls hP hD hS hl hnL) (fun h => kf h H locs ls hP hD hS hl hnL)
theorem g_if_eq_t (C : Ok E x cc own Ts rm) {x1 : Int32} {off : Int} {tgt : Nat} (d : decode cc pc = .ok (.ifCond .eq off, 3)) (ht : (pc : Int) + off = (tgt : Int)) (h : x1 = 0) (k : G E x ws lv tgt st) : G E x ws lv pc (.int x1 :: st) := g_if_eq C d ht (fun _ => k) (fun z => absurd h z)
theorem g_if_eq_f (C : Ok E x cc own Ts rm) {x1 : Int32} {off : Int} (d : decode cc pc = .ok (.ifCond .eq off, 3)) (tgt : Nat) (ht : (pc : Int) + off = (tgt : Int)) (h : ¬ x1 = 0) (k : G E x ws lv (pc + 3) st) : G E x ws lv pc (.int x1 :: st) := g_if_eq C d ht (fun z => absurd z h) (fun _ => k)
theorem g_icmp_eq_t (C : Ok E x cc own Ts rm) {x1 y1 : Int32} {off : Int} {tgt : Nat} (d : decode cc pc = .ok (.if_icmp .eq off, 3)) (ht : (pc : Int) + off = (tgt : Int)) (h : x1 = y1) (k : G E x ws lv tgt st) : G E x ws lv pc (.int y1 :: .int x1 :: st) := g_icmp_eq C d ht (fun _ => k) (fun z => absurd h z)
theorem g_icmp_eq_f (C : Ok E x cc own Ts rm) {x1 y1 : Int32} {off : Int} (d : decode cc pc = .ok (.if_icmp .eq off, 3)) (tgt : Nat) (ht : (pc : Int) + off = (tgt : Int)) (h : ¬ x1 = y1) (k : G E x ws lv (pc + 3) st) : G E x ws lv pc (.int y1 :: .int x1 :: st) := g_icmp_eq C d ht (fun z => absurd z h) (fun _ => k)
theorem g_if_ne_t (C : Ok E x cc own Ts rm) {x1 : Int32} {off : Int} {tgt : Nat} (d : decode cc pc = .ok (.ifCond .ne off, 3)) (ht : (pc : Int) + off = (tgt : Int)) (h : ¬ x1 = 0) (k : G E x ws lv tgt st) : G E x ws lv pc (.int x1 :: st) := g_if_ne C d ht (fun _ => k) (fun z => absurd z h)
theorem g_if_ne_f (C : Ok E x cc own Ts rm) {x1 : Int32} {off : Int} (d : decode cc pc = .ok (.ifCond .ne off, 3)) (tgt : Nat) (ht : (pc : Int) + off = (tgt : Int)) (h : x1 = 0) (k : G E x ws lv (pc + 3) st) : G E x ws lv pc (.int x1 :: st) := g_if_ne C d ht (fun z => absurd h z) (fun _ => k)
theorem g_icmp_ne_t (C : Ok E x cc own Ts rm) {x1 y1 : Int32} {off : Int} {tgt : Nat} (d : decode cc pc = .ok (.if_icmp .ne off, 3)) (ht : (pc : Int) + off = (tgt : Int)) (h : ¬ x1 = y1) (k : G E x ws lv tgt st) : G E x ws lv pc (.int y1 :: .int x1 :: st) := g_icmp_ne C d ht (fun _ => k) (fun z => absurd z h)
theorem g_icmp_ne_f (C : Ok E x cc own Ts rm) {x1 y1 : Int32} {off : Int} (d : decode cc pc = .ok (.if_icmp .ne off, 3)) (tgt : Nat) (ht : (pc : Int) + off = (tgt : Int)) (h : x1 = y1) (k : G E x ws lv (pc + 3) st) : G E x ws lv pc (.int y1 :: .int x1 :: st) := g_icmp_ne C d ht (fun z => absurd h z) (fun _ => k)
theorem g_if_lt_t (C : Ok E x cc own Ts rm) {x1 : Int32} {off : Int} {tgt : Nat} (d : decode cc pc = .ok (.ifCond .lt off, 3)) (ht : (pc : Int) + off = (tgt : Int)) (h : x1 < 0) (k : G E x ws lv tgt st) : G E x ws lv pc (.int x1 :: st) := g_if_lt C d ht (fun _ => k) (fun z => absurd h z)
theorem g_if_lt_f (C : Ok E x cc own Ts rm) {x1 : Int32} {off : Int} (d : decode cc pc = .ok (.ifCond .lt off, 3)) (tgt : Nat) (ht : (pc : Int) + off = (tgt : Int)) (h : ¬ x1 < 0) (k : G E x ws lv (pc + 3) st) : G E x ws lv pc (.int x1 :: st) := g_if_lt C d ht (fun z => absurd z h) (fun _ => k)
theorem g_icmp_lt_t (C : Ok E x cc own Ts rm) {x1 y1 : Int32} {off : Int} {tgt : Nat} (d : decode cc pc = .ok (.if_icmp .lt off, 3)) (ht : (pc : Int) + off = (tgt : Int)) (h : x1 < y1) (k : G E x ws lv tgt st) : G E x ws lv pc (.int y1 :: .int x1 :: st) := g_icmp_lt C d ht (fun _ => k) (fun z => absurd h z)
theorem g_icmp_lt_f (C : Ok E x cc own Ts rm) {x1 y1 : Int32} {off : Int} (d : decode cc pc = .ok (.if_icmp .lt off, 3)) (tgt : Nat) (ht : (pc : Int) + off = (tgt : Int)) (h : ¬ x1 < y1) (k : G E x ws lv (pc + 3) st) : G E x ws lv pc (.int y1 :: .int x1 :: st) := g_icmp_lt C d ht (fun z => absurd z h) (fun _ => k)
theorem g_if_ge_t (C : Ok E x cc own Ts rm) {x1 : Int32} {off : Int} {tgt : Nat} (d : decode cc pc = .ok (.ifCond .ge off, 3)) (ht : (pc : Int) + off = (tgt : Int)) (h : 0 ≤ x1) (k : G E x ws lv tgt st) : G E x ws lv pc (.int x1 :: st) := g_if_ge C d ht (fun _ => k) (fun z => absurd h z)
theorem g_if_ge_f (C : Ok E x cc own Ts rm) {x1 : Int32} {off : Int} (d : decode cc pc = .ok (.ifCond .ge off, 3)) (tgt : Nat) (ht : (pc : Int) + off = (tgt : Int)) (h : ¬ 0 ≤ x1) (k : G E x ws lv (pc + 3) st) : G E x ws lv pc (.int x1 :: st) := g_if_ge C d ht (fun z => absurd z h) (fun _ => k)
theorem g_icmp_ge_t (C : Ok E x cc own Ts rm) {x1 y1 : Int32} {off : Int} {tgt : Nat} (d : decode cc pc = .ok (.if_icmp .ge off, 3)) (ht : (pc : Int) + off = (tgt : Int)) (h : y1 ≤ x1) (k : G E x ws lv tgt st) : G E x ws lv pc (.int y1 :: .int x1 :: st) := g_icmp_ge C d ht (fun _ => k) (fun z => absurd h z)
theorem g_icmp_ge_f (C : Ok E x cc own Ts rm) {x1 y1 : Int32} {off : Int} (d : decode cc pc = .ok (.if_icmp .ge off, 3)) (tgt : Nat) (ht : (pc : Int) + off = (tgt : Int)) (h : ¬ y1 ≤ x1) (k : G E x ws lv (pc + 3) st) : G E x ws lv pc (.int y1 :: .int x1 :: st) := g_icmp_ge C d ht (fun z => absurd z h) (fun _ => k)
theorem g_if_gt_t (C : Ok E x cc own Ts rm) {x1 : Int32} {off : Int} {tgt : Nat} (d : decode cc pc = .ok (.ifCond .gt off, 3)) (ht : (pc : Int) + off = (tgt : Int)) (h : 0 < x1) (k : G E x ws lv tgt st) : G E x ws lv pc (.int x1 :: st) := g_if_gt C d ht (fun _ => k) (fun z => absurd h z)
theorem g_if_gt_f (C : Ok E x cc own Ts rm) {x1 : Int32} {off : Int} (d : decode cc pc = .ok (.ifCond .gt off, 3)) (tgt : Nat) (ht : (pc : Int) + off = (tgt : Int)) (h : ¬ 0 < x1) (k : G E x ws lv (pc + 3) st) : G E x ws lv pc (.int x1 :: st) := g_if_gt C d ht (fun z => absurd z h) (fun _ => k)
theorem g_icmp_gt_t (C : Ok E x cc own Ts rm) {x1 y1 : Int32} {off : Int} {tgt : Nat} (d : decode cc pc = .ok (.if_icmp .gt off, 3)) (ht : (pc : Int) + off = (tgt : Int)) (h : y1 < x1) (k : G E x ws lv tgt st) : G E x ws lv pc (.int y1 :: .int x1 :: st) := g_icmp_gt C d ht (fun _ => k) (fun z => absurd h z)
theorem g_icmp_gt_f (C : Ok E x cc own Ts rm) {x1 y1 : Int32} {off : Int} (d : decode cc pc = .ok (.if_icmp .gt off, 3)) (tgt : Nat) (ht : (pc : Int) + off = (tgt : Int)) (h : ¬ y1 < x1) (k : G E x ws lv (pc + 3) st) : G E x ws lv pc (.int y1 :: .int x1 :: st) := g_icmp_gt C d ht (fun z => absurd z h) (fun _ => k)
theorem g_if_le_t (C : Ok E x cc own Ts rm) {x1 : Int32} {off : Int} {tgt : Nat} (d : decode cc pc = .ok (.ifCond .le off, 3)) (ht : (pc : Int) + off = (tgt : Int)) (h : x1 ≤ 0) (k : G E x ws lv tgt st) : G E x ws lv pc (.int x1 :: st) := g_if_le C d ht (fun _ => k) (fun z => absurd h z)
theorem g_if_le_f (C : Ok E x cc own Ts rm) {x1 : Int32} {off : Int} (d : decode cc pc = .ok (.ifCond .le off, 3)) (tgt : Nat) (ht : (pc : Int) + off = (tgt : Int)) (h : ¬ x1 ≤ 0) (k : G E x ws lv (pc + 3) st) : G E x ws lv pc (.int x1 :: st) := g_if_le C d ht (fun z => absurd z h) (fun _ => k)
theorem g_icmp_le_t (C : Ok E x cc own Ts rm) {x1 y1 : Int32} {off : Int} {tgt : Nat} (d : decode cc pc = .ok (.if_icmp .le off, 3)) (ht : (pc : Int) + off = (tgt : Int)) (h : x1 ≤ y1) (k : G E x ws lv tgt st) : G E x ws lv pc (.int y1 :: .int x1 :: st) := g_icmp_le C d ht (fun _ => k) (fun z => absurd h z)
theorem g_icmp_le_f (C : Ok E x cc own Ts rm) {x1 y1 : Int32} {off : Int} (d : decode cc pc = .ok (.if_icmp .le off, 3)) (tgt : Nat) (ht : (pc : Int) + off = (tgt : Int)) (h : ¬ x1 ≤ y1) (k : G E x ws lv (pc + 3) st) : G E x ws lv pc (.int y1 :: .int x1 :: st) := g_icmp_le C d ht (fun z => absurd z h) (fun _ => k)
theorem g_lookup (C : Ok E x cc own Ts rm) {dflt : Int} {ps : Array (Int × Int)} {len : Nat} {x1 : Int32} {off : Int} {tgt : Nat} (d : decode cc pc = .ok (.lookupswitch dflt ps, len)) (hp : (ps.toList.zip (ps.toList.drop 1)).all (fun (a, next) => a.1 < next.1) = true) (ho : Op.lookupswitch.offset ps.toList dflt x1.toInt = off) (ht : (pc : Int) + off = (tgt : Int)) (k : G E x ws lv tgt st) : G E x ws lv pc (.int x1 :: st) := by
  obtain ⟨p, e, R, s, m, args, below, meth, c, A, nL, Q⟩ := x
  obtain ⟨hx, hb, hml, hown, hts, hK, hE, hA, hlk, hR⟩ := C
  subst hR
  intro H locs ls hP hD hS hl hnL
  exact lv_lookup hx hb d hp ho ht (k H locs ls hP hD hS hl hnL)
theorem g_tableOut (C : Ok E x cc own Ts rm) {dflt lo hi : Int} {offs : Array Int} {len : Nat} {x1 : Int32} {tgt : Nat} (d : decode cc pc = .ok (.tableswitch dflt lo hi offs, len)) (h : x1.toInt < lo ∨ hi < x1.toInt) (ht : (pc : Int) + dflt = (tgt : Int)) (k : G E x ws lv tgt st) : G E x ws lv pc (.int x1 :: st) := by
  obtain ⟨p, e, R, s, m, args, below, meth, c, A, nL, Q⟩ := x
  obtain ⟨hx, hb, hml, hown, hts, hK, hE, hA, hlk, hR⟩ := C
  subst hR
  intro H locs ls hP hD hS hl hnL
  exact lv_tableOut hx hb d h ht (k H locs ls hP hD hS hl hnL)
theorem g_tableIn (C : Ok E x cc own Ts rm) {dflt lo hi : Int} {offs : Array Int} {len : Nat} {x1 : Int32} {off : Int} {tgt : Nat} (d : decode cc pc = .ok (.tableswitch dflt lo hi offs, len)) (h1 : ¬ x1.toInt < lo) (h2 : ¬ hi < x1.toInt) (ho : offs[(x1.toInt - lo).toNat]? = some off) (ht : (pc : Int) + off = (tgt : Int)) (k : G E x ws lv tgt st) : G E x ws lv pc (.int x1 :: st) := by
  obtain ⟨p, e, R, s, m, args, below, meth, c, A, nL, Q⟩ := x
  obtain ⟨hx, hb, hml, hown, hts, hK, hE, hA, hlk, hR⟩ := C
  subst hR
  intro H locs ls hP hD hS hl hnL
  exact lv_tableIn hx hb d h1 h2 ho ht (k H locs ls hP hD hS hl hnL)
theorem g_get (C : Ok E x cc own Ts rm) {Cn : String} {T : u_T} {N ci index a : Nat} (hin : ∀ w ∈ u_ws Cn T N, w ∈ Ts) (q0 : Nat) {fs : List Value} (he : ws[q0]? = some (a, .inr (ci, fs))) (hc : vwCl[ci]? = some (Cn, T, N)) (k0 : Nat) (hk : k0 < N) (hw : Cond.fieldLink own index (T k0).1 (T k0).2.1 (T k0).2.2.1 ∈ Ts) {v : Value} (hv : fs[k0]? = some v) (d : decode cc pc = .ok (.getfield index, 3)) (k : G E x ws lv (pc + 3) (v :: st)) : G E x ws lv pc (.ref a :: st) := by
  obtain ⟨p, e, R, s, m, args, below, meth, c, A, nL, Q⟩ := x
  obtain ⟨hx, hb, hml, hown, hts, hK, hE, hA, hlk, hR⟩ := C
  subst hR
  intro H locs ls hP hD hS hl hnL
  exact va_get hx hb hts hin hown hK.1 hP q0 he hc k0 hk (hts _ hw) (fun x h => h) hv d (k H locs ls hP hD hS hl hnL)
theorem g_getN (C : Ok E x cc own Ts rm) {Cn host : String} {T : u_T} {N ci index a : Nat} (hin : ∀ w ∈ u_ws Cn T N, w ∈ Ts) (q0 : Nat) {fs : List Value} (he : ws[q0]? = some (a, .inr (ci, fs))) (hc : vwCl[ci]? = some (Cn, T, N)) (k0 : Nat) (hk : k0 < N) (hw : Cond.fieldLinkNest own index (T k0).1 (T k0).2.1 (T k0).2.2.1 host ∈ nestW) {v : Value} (hv : fs[k0]? = some v) (d : decode cc pc = .ok (.getfield index, 3)) (k : G E x ws lv (pc + 3) (v :: st)) : G E x ws lv pc (.ref a :: st) := by
  obtain ⟨p, e, R, s, m, args, below, meth, c, A, nL, Q⟩ := x
  obtain ⟨hx, hb, hml, hown, hts, hK, hE, hA, hlk, hR⟩ := C
  subst hR
  intro H locs ls hP hD hS hl hnL
  exact va_getN hx hb hts hin hown hK.1 hP q0 he hc k0 hk (va_Nw.use (isNest_tab (nestW_ok _ hw)) (hK.2.1 _ hw)) (fun x h => h) hv d (k H locs ls hP hD hS hl hnL)
theorem g_put (C : Ok E x cc own Ts rm) {Cn : String} {T : u_T} {N ci index a : Nat} (hin : ∀ w ∈ u_ws Cn T N, w ∈ Ts) (ty0 : Nat → FieldType) (hty : ∀ k, k < N → parseFieldDescriptor (T k).2.2.1 = some (ty0 k)) (hnm : ∀ a, a < N → ∀ b, b < N → a ≠ b → (T a).2.1 ≠ (T b).2.1) (q0 : Nat) {fs : List Value} {ws' : va_W} (he : ws[q0]? = some (a, .inr (ci, fs))) (hc : vwCl[ci]? = some (Cn, T, N)) (k0 : Nat) (hk : k0 < N) (hw : Cond.fieldLink own index (T k0).1 (T k0).2.1 (T k0).2.2.1 ∈ Ts) (hfin : (T k0).2.2.2 = false) {ty : FieldType} {v : Value} (hd : parseFieldDescriptor (T k0).2.2.1 = some ty) (hn : narrow ty v = v) (hfit : fits ty v = true) (hlen : k0 < fs.length) (d : decode cc pc = .ok (.putfield index, 3)) (hws : ws.set q0 (a, .inr (ci, fs.set k0 v)) = ws') (k : G E x ws' lv (pc + 3) st) : G E x ws lv pc (v :: .ref a :: st) := by
  obtain ⟨p, e, R, s, m, args, below, meth, c, A, nL, Q⟩ := x
  obtain ⟨hx, hb, hml, hown, hts, hK, hE, hA, hlk, hR⟩ := C
  subst hR
  intro H locs ls hP hD hS hl hnL
  subst hws
  exact va_put hx hb hts hin ty0 hty hnm hown hK.1 hP hD hS q0 he hc k0 hk (hts _ hw) (fun x h => h) hfin hd hn hfit hlen d (fun H1 l1 h1 h2 h3 => k H1 l1 ls h1 h2 h3 hl hnL)
theorem g_iald (C : Ok E x cc own Ts rm) (q0 : Nat) {a n : Nat} {f : Nat → Int32} (ha : ws[q0]? = some (a, .inl (E.2.2 0, n, .inl f))) (j : Nat) {i : Int32} (hi : i = nI j) (hj : j < n) (hn : n < 2 ^ 31) (d : decode cc pc = .ok (.iaload, 1)) (k : G E x ws lv (pc + 1) (.int (f j) :: st)) : G E x ws lv pc (.int i :: .ref a :: st) := by
  obtain ⟨p, e, R, s, m, args, below, meth, c, A, nL, Q⟩ := x
  obtain ⟨hx, hb, hml, hown, hts, hK, hE, hA, hlk, hR⟩ := C
  subst hR
  intro H locs ls hP hD hS hl hnL
  subst hi
  have e : (nI j).toNatClampNeg = j := nI_clamp (by omega)
  refine va_iald hx hb hK.1 hP q0 0 ha rfl (vp_in_nI hj hn) d ?_
  rw [e]
  exact k H locs ls hP hD hS hl hnL
theorem g_zald (C : Ok E x cc own Ts rm) (q0 : Nat) {a n : Nat} {f : Nat → Int32} (ha : ws[q0]? = some (a, .inl (E.2.2 1, n, .inl f))) (j : Nat) {i : Int32} (hi : i = nI j) (hj : j < n) (hn : n < 2 ^ 31) (d : decode cc pc = .ok (.baload, 1)) (k : G E x ws lv (pc + 1) (.int (f j) :: st)) : G E x ws lv pc (.int i :: .ref a :: st) := by
  obtain ⟨p, e, R, s, m, args, below, meth, c, A, nL, Q⟩ := x
  obtain ⟨hx, hb, hml, hown, hts, hK, hE, hA, hlk, hR⟩ := C
  subst hR
  intro H locs ls hP hD hS hl hnL
  subst hi
  have e : (nI j).toNatClampNeg = j := nI_clamp (by omega)
  refine va_zald hx hb hK.1 hP q0 1 ha rfl (vp_in_nI hj hn) d ?_
  rw [e]
  exact k H locs ls hP hD hS hl hnL
theorem g_cald (C : Ok E x cc own Ts rm) (q0 : Nat) {a n : Nat} {f : Nat → Int32} (ha : ws[q0]? = some (a, .inl (E.2.2 2, n, .inl f))) (j : Nat) {i : Int32} (hi : i = nI j) (hj : j < n) (hn : n < 2 ^ 31) (d : decode cc pc = .ok (.caload, 1)) (k : G E x ws lv (pc + 1) (.int (f j) :: st)) : G E x ws lv pc (.int i :: .ref a :: st) := by
  obtain ⟨p, e, R, s, m, args, below, meth, c, A, nL, Q⟩ := x
  obtain ⟨hx, hb, hml, hown, hts, hK, hE, hA, hlk, hR⟩ := C
  subst hR
  intro H locs ls hP hD hS hl hnL
  subst hi
  have e : (nI j).toNatClampNeg = j := nI_clamp (by omega)
  refine va_cald hx hb hK.1 hP q0 2 ha rfl (vp_in_nI hj hn) d ?_
  rw [e]
  exact k H locs ls hP hD hS hl hnL
theorem g_iast (C : Ok E x cc own Ts rm) (q0 : Nat) {a n : Nat} {f : Nat → Int32} {ws' : va_W} (ha : ws[q0]? = some (a, .inl (E.2.2 0, n, .inl f))) (j : Nat) {i v : Int32} (hi : i = nI j) (hj : j < n) (hn : n < 2 ^ 31) (d : decode cc pc = .ok (.iastore, 1)) (hws : ws.set q0 (a, .inl (E.2.2 0, n, .inl (upd f j v))) = ws') (k : G E x ws' lv (pc + 1) st) : G E x ws lv pc (.int v :: .int i :: .ref a :: st) := by
  obtain ⟨p, e, R, s, m, args, below, meth, c, A, nL, Q⟩ := x
  obtain ⟨hx, hb, hml, hown, hts, hK, hE, hA, hlk, hR⟩ := C
  subst hR
  intro H locs ls hP hD hS hl hnL
  subst hi
  subst hws
  have e : (nI j).toNatClampNeg = j := nI_clamp (by omega)
  refine va_iast hx hb hK.1 hP hD hS q0 0 ha rfl (vp_in_nI hj hn) d ?_
  rw [e]
  exact fun H1 l1 h1 h2 h3 => k H1 l1 ls h1 h2 h3 hl hnL
theorem g_zast (C : Ok E x cc own Ts rm) (q0 : Nat) {a n : Nat} {f : Nat → Int32} {ws' : va_W} (ha : ws[q0]? = some (a, .inl (E.2.2 1, n, .inl f))) (j : Nat) {i v : Int32} (hi : i = nI j) (hj : j < n) (hn : n < 2 ^ 31) (d : decode cc pc = .ok (.bastore, 1)) (hws : ws.set q0 (a, .inl (E.2.2 1, n, .inl (upd f j (vp_nar .boolean v)))) = ws') (k : G E x ws' lv (pc + 1) st) : G E x ws lv pc (.int v :: .int i :: .ref a :: st) := by
  obtain ⟨p, e, R, s, m, args, below, meth, c, A, nL, Q⟩ := x
  obtain ⟨hx, hb, hml, hown, hts, hK, hE, hA, hlk, hR⟩ := C
  subst hR
  intro H locs ls hP hD hS hl hnL
  subst hi
  subst hws
  have e : (nI j).toNatClampNeg = j := nI_clamp (by omega)
  refine va_zast hx hb hK.1 hP hD hS q0 1 ha rfl (vp_in_nI hj hn) d ?_
  rw [e]
  exact fun H1 l1 h1 h2 h3 => k H1 l1 ls h1 h2 h3 hl hnL
theorem g_cast (C : Ok E x cc own Ts rm) (q0 : Nat) {a n : Nat} {f : Nat → Int32} {ws' : va_W} (ha : ws[q0]? = some (a, .inl (E.2.2 2, n, .inl f))) (j : Nat) {i v : Int32} (hi : i = nI j) (hj : j < n) (hn : n < 2 ^ 31) (d : decode cc pc = .ok (.castore, 1)) (hws : ws.set q0 (a, .inl (E.2.2 2, n, .inl (upd f j (vp_nar .char v)))) = ws') (k : G E x ws' lv (pc + 1) st) : G E x ws lv pc (.int v :: .int i :: .ref a :: st) := by
  obtain ⟨p, e, R, s, m, args, below, meth, c, A, nL, Q⟩ := x
  obtain ⟨hx, hb, hml, hown, hts, hK, hE, hA, hlk, hR⟩ := C
  subst hR
  intro H locs ls hP hD hS hl hnL
  subst hi
  subst hws
  have e : (nI j).toNatClampNeg = j := nI_clamp (by omega)
  refine va_cast hx hb hK.1 hP hD hS q0 2 ha rfl (vp_in_nI hj hn) d ?_
  rw [e]
  exact fun H1 l1 h1 h2 h3 => k H1 l1 ls h1 h2 h3 hl hnL
theorem g_aald (C : Ok E x cc own Ts rm) (q0 : Nat) {a n : Nat} {f : Nat → Option Nat} (ha : ws[q0]? = some (a, .inl (E.2.2 3, n, .inr (.inr (.inr (.inr f)))))) (j : Nat) {i : Int32} (hi : i = nI j) (hj : j < n) (hn : n < 2 ^ 31) (d : decode cc pc = .ok (.aaload, 1)) (k : G E x ws lv (pc + 1) (va_rf (f j) :: st)) : G E x ws lv pc (.int i :: .ref a :: st) := by
  obtain ⟨p, e, R, s, m, args, below, meth, c, A, nL, Q⟩ := x
  obtain ⟨hx, hb, hml, hown, hts, hK, hE, hA, hlk, hR⟩ := C
  subst hR
  intro H locs ls hP hD hS hl hnL
  subst hi
  have e : (nI j).toNatClampNeg = j := nI_clamp (by omega)
  refine va_aldq hx hb hK.1 hP q0 3 ha (C := "KiteRegisters$Sky") rfl (vp_in_nI hj hn) d ?_
  rw [e]
  exact k H locs ls hP hD hS hl hnL
theorem g_iret (C : Ok E x cc own Ts rm) {post : Int32 → va_W → Prop} (R0 : RetI E x .int post) {v : Int32} (d : decode cc pc = .ok (.ireturn, 1)) (h : post v ws) : G E x ws lv pc [.int v] := by
  obtain ⟨p, e, R, s, m, args, below, meth, c, A, nL, Q⟩ := x
  obtain ⟨hx, hb, hml, hown, hts, hK, hE, hA, hlk, hR⟩ := C
  subst hR
  intro H locs ls hP hD hS hl hnL
  obtain ⟨rfl, hr⟩ := R0
  exact W.iret (v := v) hx hb hr (fun t ht hW => ⟨⟨v, ws, rfl, h, by rw [ht]; exact hP, hD⟩, hS.F ht⟩) hS.2.2 d hlk
theorem g_zret (C : Ok E x cc own Ts rm) {post : Int32 → va_W → Prop} {ty : FieldType} (R0 : RetI E x ty post) {v : Int32} (hn : narrow ty (.int v) = .int v) (d : decode cc pc = .ok (.ireturn, 1)) (h : post v ws) : G E x ws lv pc [.int v] := by
  obtain ⟨p, e, R, s, m, args, below, meth, c, A, nL, Q⟩ := x
  obtain ⟨hx, hb, hml, hown, hts, hK, hE, hA, hlk, hR⟩ := C
  subst hR
  intro H locs ls hP hD hS hl hnL
  obtain ⟨rfl, hr⟩ := R0
  exact W.zret (v := v) hx hb hr hn (fun t ht hW => ⟨⟨v, ws, rfl, h, by rw [ht]; exact hP, hD⟩, hS.F ht⟩) hS.2.2 d hlk
theorem g_vret (C : Ok E x cc own Ts rm) {post : va_W → Prop} (R0 : RetV E x post) (d : decode cc pc = .ok (.return_, 1)) (h : post ws) : G E x ws lv pc [] := by
  obtain ⟨p, e, R, s, m, args, below, meth, c, A, nL, Q⟩ := x
  obtain ⟨hx, hb, hml, hown, hts, hK, hE, hA, hlk, hR⟩ := C
  subst hR
  intro H locs ls hP hD hS hl hnL
  obtain ⟨rfl, hr⟩ := R0
  exact W.vret hx hb hr (fun t ht hW => ⟨⟨ws, rfl, h, by rw [ht]; exact hP, hD⟩, hS.F ht⟩) hS.2.2 d hlk
theorem g_aret (C : Ok E x cc own Ts rm) {post : Nat → va_W → Prop} {ty : FieldType} (R0 : RetR E x ty post) (hrt : (∃ n, ty = .object n) ∨ ∃ t, ty = .array t) {a : Nat} (d : decode cc pc = .ok (.areturn, 1)) (h : post a ws) : G E x ws lv pc [.ref a] := by
  obtain ⟨p, e, R, s, m, args, below, meth, c, A, nL, Q⟩ := x
  obtain ⟨hx, hb, hml, hown, hts, hK, hE, hA, hlk, hR⟩ := C
  subst hR
  intro H locs ls hP hD hS hl hnL
  obtain ⟨rfl, hr⟩ := R0
  exact W.aret (v := .ref a) hx hb hr hrt (Or.inr ⟨a, rfl⟩) (fun t ht hW => ⟨⟨ws, a, rfl, trivial, ⟨h, by rw [ht]; exact hP, hD⟩⟩, hS.F ht⟩) hS.2.2 d hlk
/-- what a call needs of a callee: its code word first, its kind of name, its room -/
def CF (y : MethodName) (by1 : ByteArray) (nL1 : Nat) (ret : Option FieldType) (Ty : List Cond) (n : Nat) : Prop := (∃ Ty', Ty = Cond.code y by1 nL1 ret :: Ty') ∧ y.cls ≠ "java/lang/invoke/MethodHandle" ∧ y.cls ≠ "java/lang/invoke/VarHandle" ∧ (parseMethodDescriptor y.desc).map (fun d => d.parameters.length) = some n
def Fit (rm1 rm : Room) (nL1 : Nat) : Prop := (rm1.cells = 0 ∧ rm1.slots = 0) ∧ rm1.frames + 1 ≤ rm.frames ∧ 8 + (nL1 + 11) + rm1.locals ≤ rm.locals
theorem pl_sub {ws w0 : va_W} {isC : List Nat} (hC : isC.map (fun i => ws[i]?) = w0.map some) : isC.filterMap (fun i => ws[i]?) = w0 := by
  have e : (isC.map (fun i => ws[i]?)).filterMap id = w0 := by rw [hC, List.filterMap_map]; simp
  rw [← e, List.filterMap_map]
  rfl
theorem g_pre {E : Ev} {A : Nat → Prop} {s : State} {ws w0 : va_W} {H : Heap} {locs : List Loc} {isC : List Nat} {av : List Value} (hK : KK E s) (hE : SS E A s s.heap) (hP : va_P E.2.1 vwCl ws H) (hD : va_D A ws) (hS : va_S A s.heap H locs) (hA : ∀ q, s.heap.size ≤ q → A q) (hndC : va_nd isC = true) (hC : isC.map (fun i => ws[i]?) = w0.map some) : ∀ U : State, U.heap = H → s.WarmedH U.vm → mPc E w0 H.size av av.toArray U := by
  intro U hU hW
  have hF := va_free (wc := w0) hD hS hA isC hC
  refine ⟨rfl, by rw [hU], by rw [hU]; exact hP.sub isC (pl_sub hC), hK.warm hW, ?_, (hD.sub isC hndC hC).weaken (fun _ _ _ _ => trivial)⟩
  rw [hU]
  exact ((hE.kept (fun q h1 h2 => hS.2.1 q h1 h2)).narrow hF).moved hW.alike
theorem g_preF {E : Ev} {A : Nat → Prop} {s : State} {ws : va_W} {H : Heap} {locs : List Loc} {av : List Value} (hK : KK E s) (hE : SS E A s s.heap) (hP : va_P E.2.1 vwCl ws H) (hD : va_D A ws) (hS : va_S A s.heap H locs) (hF : ∀ q, va_A ws H.size q → A q) : ∀ U : State, U.heap = H → s.WarmedH U.vm → mPc E ws H.size av av.toArray U := by
  intro U hU hW
  refine ⟨rfl, by rw [hU], by rw [hU]; exact hP, hK.warm hW, ?_, hD.weaken (fun _ _ _ _ => trivial)⟩
  rw [hU]
  exact ((hE.kept (fun q h1 h2 => hS.2.1 q h1 h2)).narrow hF).moved hW.alike
theorem g_freeF {A : Nat → Prop} {s : State} {ws : va_W} {H : Heap} {locs : List Loc} (hD : va_D A ws) (hS : va_S A s.heap H locs) (hA : ∀ q, s.heap.size ≤ q → A q) : ∀ q, va_A ws H.size q → A q := by
  intro q h
  rcases h with ⟨k, e, h⟩ | h
  · exact hD.2 k (q, e) h
  · exact hA q (Nat.le_trans hS.1 h)
theorem g_calliV (C : Ok E x cc own Ts rm) {y : MethodName} {by1 : ByteArray} {nL1 n index : Nat} {ty : FieldType} {Ty : List Cond} {rm1 : Room} {w0 : va_W} {As st0 : List Value} {post : Int32 → va_W → Prop} {Cn : String} {T : u_T} {N ci b : Nat} {fs : List Value} (qr : Nat) (he : ws[qr]? = some (b, .inr (ci, fs))) (hcn : vwCl[ci]? = some (Cn, T, N)) (M : MI E y Ty rm1 w0 (.ref b :: As) post) (cf : CF y by1 nL1 (some ty) Ty n) (g : GoodIn Ts (wsV own index Cn y Ty)) (hcl : y.cls = Cn) (hF : Fit rm1 rm nL1) (hn : As.length = n) (hst : st0 = As.reverse ++ (.ref b :: st)) (hcat : (st.map fun v => v.category).sum ≤ 8) (d : decode cc pc = .ok (.invokevirtual index, 3)) (isC isR : List Nat) {wr : va_W} (hndC : va_nd isC = true) (hC : isC.map (fun i => ws[i]?) = w0.map some) (hR2 : isR.map (fun i => ws[i]?) = wr.map some) (hnd : va_nd isR = true) (hdis : ∀ i ∈ isR, i ∉ isC) (k : ∀ (r : Int32) (w1 : va_W), post r w1 → G E x (wr ++ w1) lv (pc + 3) (.int r :: st)) : G E x ws lv pc st0 := by
  obtain ⟨p, e, R, s, m, args, below, meth, c, A, nL, Q⟩ := x
  obtain ⟨hx, hb, hml, hown, hts, hK, hE, hA, hlk, hR⟩ := C
  subst hR
  intro H locs ls hP hD hS hl hnL
  obtain ⟨⟨Ty', hw⟩, hd⟩ := cf
  subst hst
  have hFr := va_free (wc := w0) hD hS hA isC hC
  refine va_calli (mc := 0) (ms := 0) (va_runV (As := As) (rest := st) ⟨hx, hb, hml, hown, hts⟩ (M H.size) (cwV n hts g hw hF.1.1 hF.1.2 ⟨hcl, hd⟩ hF.2) ⟨mPc_blind, va_recv hK.1 hP hcn he, g_pre hK hE hP hD hS hA hndC hC⟩ rfl hn hl.1 rfl (lv_room hcat) d ⟨Nat.zero_le _, Nat.zero_le _⟩) hS (fun q _ h => hFr q h) hFr (fun r u t H1 l1 ht hvm hp hB hz hk hS1 => ?_)
  have hB2 := hB
  obtain ⟨hP1, hD1⟩ := hB2
  rw [ht] at hP1
  obtain ⟨hP2, hD2⟩ := va_join hP hD isC isR hC hR2 hnd hdis hk hFr hP1 hD1
  exact k r u hp H1 l1 ls hP2 hD2 hS1 hl hnL
theorem g_calliVF (C : Ok E x cc own Ts rm) {y : MethodName} {by1 : ByteArray} {nL1 n index : Nat} {ty : FieldType} {Ty : List Cond} {rm1 : Room} {As st0 : List Value} {post : Int32 → va_W → Prop} {Cn : String} {T : u_T} {N ci b : Nat} {fs : List Value} (qr : Nat) (he : ws[qr]? = some (b, .inr (ci, fs))) (hcn : vwCl[ci]? = some (Cn, T, N)) (M : MI E y Ty rm1 ws (.ref b :: As) post) (cf : CF y by1 nL1 (some ty) Ty n) (g : GoodIn Ts (wsV own index Cn y Ty)) (hcl : y.cls = Cn) (hF : Fit rm1 rm nL1) (hn : As.length = n) (hst : st0 = As.reverse ++ (.ref b :: st)) (hcat : (st.map fun v => v.category).sum ≤ 8) (d : decode cc pc = .ok (.invokevirtual index, 3)) (k : ∀ (r : Int32) (w1 : va_W), post r w1 → G E x w1 lv (pc + 3) (.int r :: st)) : G E x ws lv pc st0 := by
  obtain ⟨p, e, R, s, m, args, below, meth, c, A, nL, Q⟩ := x
  obtain ⟨hx, hb, hml, hown, hts, hK, hE, hA, hlk, hR⟩ := C
  subst hR
  intro H locs ls hP hD hS hl hnL
  obtain ⟨⟨Ty', hw⟩, hd⟩ := cf
  subst hst
  have hFr := g_freeF hD hS hA
  refine va_calli (mc := 0) (ms := 0) (va_runV (As := As) (rest := st) ⟨hx, hb, hml, hown, hts⟩ (M H.size) (cwV n hts g hw hF.1.1 hF.1.2 ⟨hcl, hd⟩ hF.2) ⟨mPc_blind, va_recv hK.1 hP hcn he, g_preF hK hE hP hD hS hFr⟩ rfl hn hl.1 rfl (lv_room hcat) d ⟨Nat.zero_le _, Nat.zero_le _⟩) hS (fun q _ h => hFr q h) hFr (fun r u t H1 l1 ht hvm hp hB hz hk hS1 => ?_)
  have hB2 := hB
  obtain ⟨hP1, hD1⟩ := hB2
  rw [ht] at hP1
  exact k r u hp H1 l1 ls hP1 (hD1.weaken (fun _ q _ h => hFr q.1 h)) hS1 hl hnL
theorem g_calliS (C : Ok E x cc own Ts rm) {y : MethodName} {by1 : ByteArray} {nL1 n index : Nat} {ty : FieldType} {Ty : List Cond} {rm1 : Room} {w0 : va_W} {As st0 : List Value} {post : Int32 → va_W → Prop} (M : MI E y Ty rm1 w0 As post) (cf : CF y by1 nL1 (some ty) Ty n) (g : GoodIn Ts (wsS own index y Ty)) (hcl : y.cls = own) (hF : Fit rm1 rm nL1) (hn : As.length = n) (hst : st0 = As.reverse ++ st) (hcat : (st.map fun v => v.category).sum ≤ 8) (d : decode cc pc = .ok (.invokestatic index, 3)) (isC isR : List Nat) {wr : va_W} (hndC : va_nd isC = true) (hC : isC.map (fun i => ws[i]?) = w0.map some) (hR2 : isR.map (fun i => ws[i]?) = wr.map some) (hnd : va_nd isR = true) (hdis : ∀ i ∈ isR, i ∉ isC) (k : ∀ (r : Int32) (w1 : va_W), post r w1 → G E x (wr ++ w1) lv (pc + 3) (.int r :: st)) : G E x ws lv pc st0 := by
  obtain ⟨p, e, R, s, m, args, below, meth, c, A, nL, Q⟩ := x
  obtain ⟨hx, hb, hml, hown, hts, hK, hE, hA, hlk, hR⟩ := C
  subst hR
  intro H locs ls hP hD hS hl hnL
  obtain ⟨⟨Ty', hw⟩, hd⟩ := cf
  subst hst
  have hFr := va_free (wc := w0) hD hS hA isC hC
  refine va_calli (mc := 0) (ms := 0) (va_runS (As := As) (rest := st) ⟨hx, hb, hml, hown, hts⟩ (M H.size) (cwS n hts g hw hF.1.1 hF.1.2 ⟨hcl, hd⟩ hF.2) ⟨mPc_blind, g_pre hK hE hP hD hS hA hndC hC⟩ rfl hn hl.1 rfl (lv_room hcat) d ⟨Nat.zero_le _, Nat.zero_le _⟩) hS (fun q _ h => hFr q h) hFr (fun r u t H1 l1 ht hvm hp hB hz hk hS1 => ?_)
  have hB2 := hB
  obtain ⟨hP1, hD1⟩ := hB2
  rw [ht] at hP1
  obtain ⟨hP2, hD2⟩ := va_join hP hD isC isR hC hR2 hnd hdis hk hFr hP1 hD1
  exact k r u hp H1 l1 ls hP2 hD2 hS1 hl hnL
theorem g_calliSF (C : Ok E x cc own Ts rm) {y : MethodName} {by1 : ByteArray} {nL1 n index : Nat} {ty : FieldType} {Ty : List Cond} {rm1 : Room} {As st0 : List Value} {post : Int32 → va_W → Prop} (M : MI E y Ty rm1 ws As post) (cf : CF y by1 nL1 (some ty) Ty n) (g : GoodIn Ts (wsS own index y Ty)) (hcl : y.cls = own) (hF : Fit rm1 rm nL1) (hn : As.length = n) (hst : st0 = As.reverse ++ st) (hcat : (st.map fun v => v.category).sum ≤ 8) (d : decode cc pc = .ok (.invokestatic index, 3)) (k : ∀ (r : Int32) (w1 : va_W), post r w1 → G E x w1 lv (pc + 3) (.int r :: st)) : G E x ws lv pc st0 := by
  obtain ⟨p, e, R, s, m, args, below, meth, c, A, nL, Q⟩ := x
  obtain ⟨hx, hb, hml, hown, hts, hK, hE, hA, hlk, hR⟩ := C
  subst hR
  intro H locs ls hP hD hS hl hnL
  obtain ⟨⟨Ty', hw⟩, hd⟩ := cf
  subst hst
  have hFr := g_freeF hD hS hA
  refine va_calli (mc := 0) (ms := 0) (va_runS (As := As) (rest := st) ⟨hx, hb, hml, hown, hts⟩ (M H.size) (cwS n hts g hw hF.1.1 hF.1.2 ⟨hcl, hd⟩ hF.2) ⟨mPc_blind, g_preF hK hE hP hD hS hFr⟩ rfl hn hl.1 rfl (lv_room hcat) d ⟨Nat.zero_le _, Nat.zero_le _⟩) hS (fun q _ h => hFr q h) hFr (fun r u t H1 l1 ht hvm hp hB hz hk hS1 => ?_)
  have hB2 := hB
  obtain ⟨hP1, hD1⟩ := hB2
  rw [ht] at hP1
  exact k r u hp H1 l1 ls hP1 (hD1.weaken (fun _ q _ h => hFr q.1 h)) hS1 hl hnL
theorem g_calliN (C : Ok E x cc own Ts rm) {y : MethodName} {by1 : ByteArray} {nL1 n index : Nat} {ty : FieldType} {Ty : List Cond} {rm1 : Room} {w0 : va_W} {As st0 : List Value} {post : Int32 → va_W → Prop} {host : String} {Cn : String} {T : u_T} {N ci b : Nat} {fs : List Value} (qr : Nat) (he : ws[qr]? = some (b, .inr (ci, fs))) (hcn : vwCl[ci]? = some (Cn, T, N)) (M : MI E y Ty rm1 w0 (.ref b :: As) post) (cf : CF y by1 nL1 (some ty) Ty n) (g : GoodIn Ts Ty) (hlk9 : Cond.methodLinkNest own index y host ∈ nestW) (hin : Cond.instanceMethod y ∈ Ts) (hse : Cond.selects Cn y y ∈ Ts) (hini : Cond.initialized y.cls ∈ Ts) (hF : Fit rm1 rm nL1) (hn : As.length = n) (hst : st0 = As.reverse ++ (.ref b :: st)) (hcat : (st.map fun v => v.category).sum ≤ 8) (d : decode cc pc = .ok (.invokevirtual index, 3)) (isC isR : List Nat) {wr : va_W} (hndC : va_nd isC = true) (hC : isC.map (fun i => ws[i]?) = w0.map some) (hR2 : isR.map (fun i => ws[i]?) = wr.map some) (hnd : va_nd isR = true) (hdis : ∀ i ∈ isR, i ∉ isC) (k : ∀ (r : Int32) (w1 : va_W), post r w1 → G E x (wr ++ w1) lv (pc + 3) (.int r :: st)) : G E x ws lv pc st0 := by
  obtain ⟨p, e, R, s, m, args, below, meth, c, A, nL, Q⟩ := x
  obtain ⟨hx, hb, hml, hown, hts, hK, hE, hA, hlk, hR⟩ := C
  subst hR
  intro H locs ls hP hD hS hl hnL
  obtain ⟨⟨Ty', hw⟩, hd⟩ := cf
  subst hst
  have hFr := va_free (wc := w0) hD hS hA isC hC
  refine va_calli (mc := 0) (ms := 0) (va_runVN (As := As) (rest := st) ⟨hx, hb, hml, hown, hts⟩ (M H.size) (⟨va_cnB n hts g hw hF.1.1 hF.1.2 (hK.2.1 _ hlk9) (hts _ hini) hd hF.2, hts _ hin, hts _ hse⟩) ⟨mPc_blind, va_recv hK.1 hP hcn he, g_pre hK hE hP hD hS hA hndC hC⟩ rfl hn hl.1 rfl (lv_room hcat) d ⟨Nat.zero_le _, Nat.zero_le _⟩) hS (fun q _ h => hFr q h) hFr (fun r u t H1 l1 ht hvm hp hB hz hk hS1 => ?_)
  have hB2 := hB
  obtain ⟨hP1, hD1⟩ := hB2
  rw [ht] at hP1
  obtain ⟨hP2, hD2⟩ := va_join hP hD isC isR hC hR2 hnd hdis hk hFr hP1 hD1
  exact k r u hp H1 l1 ls hP2 hD2 hS1 hl hnL
theorem g_calliNF (C : Ok E x cc own Ts rm) {y : MethodName} {by1 : ByteArray} {nL1 n index : Nat} {ty : FieldType} {Ty : List Cond} {rm1 : Room} {As st0 : List Value} {post : Int32 → va_W → Prop} {host : String} {Cn : String} {T : u_T} {N ci b : Nat} {fs : List Value} (qr : Nat) (he : ws[qr]? = some (b, .inr (ci, fs))) (hcn : vwCl[ci]? = some (Cn, T, N)) (M : MI E y Ty rm1 ws (.ref b :: As) post) (cf : CF y by1 nL1 (some ty) Ty n) (g : GoodIn Ts Ty) (hlk9 : Cond.methodLinkNest own index y host ∈ nestW) (hin : Cond.instanceMethod y ∈ Ts) (hse : Cond.selects Cn y y ∈ Ts) (hini : Cond.initialized y.cls ∈ Ts) (hF : Fit rm1 rm nL1) (hn : As.length = n) (hst : st0 = As.reverse ++ (.ref b :: st)) (hcat : (st.map fun v => v.category).sum ≤ 8) (d : decode cc pc = .ok (.invokevirtual index, 3)) (k : ∀ (r : Int32) (w1 : va_W), post r w1 → G E x w1 lv (pc + 3) (.int r :: st)) : G E x ws lv pc st0 := by
  obtain ⟨p, e, R, s, m, args, below, meth, c, A, nL, Q⟩ := x
  obtain ⟨hx, hb, hml, hown, hts, hK, hE, hA, hlk, hR⟩ := C
  subst hR
  intro H locs ls hP hD hS hl hnL
  obtain ⟨⟨Ty', hw⟩, hd⟩ := cf
  subst hst
  have hFr := g_freeF hD hS hA
  refine va_calli (mc := 0) (ms := 0) (va_runVN (As := As) (rest := st) ⟨hx, hb, hml, hown, hts⟩ (M H.size) (⟨va_cnB n hts g hw hF.1.1 hF.1.2 (hK.2.1 _ hlk9) (hts _ hini) hd hF.2, hts _ hin, hts _ hse⟩) ⟨mPc_blind, va_recv hK.1 hP hcn he, g_preF hK hE hP hD hS hFr⟩ rfl hn hl.1 rfl (lv_room hcat) d ⟨Nat.zero_le _, Nat.zero_le _⟩) hS (fun q _ h => hFr q h) hFr (fun r u t H1 l1 ht hvm hp hB hz hk hS1 => ?_)
  have hB2 := hB
  obtain ⟨hP1, hD1⟩ := hB2
  rw [ht] at hP1
  exact k r u hp H1 l1 ls hP1 (hD1.weaken (fun _ q _ h => hFr q.1 h)) hS1 hl hnL
theorem g_calliT (C : Ok E x cc own Ts rm) {y : MethodName} {by1 : ByteArray} {nL1 n index : Nat} {ty : FieldType} {Ty : List Cond} {rm1 : Room} {w0 : va_W} {As st0 : List Value} {post : Int32 → va_W → Prop} {host : String} (M : MI E y Ty rm1 w0 As post) (cf : CF y by1 nL1 (some ty) Ty n) (g : GoodIn Ts Ty) (hlk9 : Cond.methodLinkNest own index y host ∈ nestW) (hin : Cond.static y ∈ Ts) (hini : Cond.initialized y.cls ∈ Ts) (hF : Fit rm1 rm nL1) (hn : As.length = n) (hst : st0 = As.reverse ++ st) (hcat : (st.map fun v => v.category).sum ≤ 8) (d : decode cc pc = .ok (.invokestatic index, 3)) (isC isR : List Nat) {wr : va_W} (hndC : va_nd isC = true) (hC : isC.map (fun i => ws[i]?) = w0.map some) (hR2 : isR.map (fun i => ws[i]?) = wr.map some) (hnd : va_nd isR = true) (hdis : ∀ i ∈ isR, i ∉ isC) (k : ∀ (r : Int32) (w1 : va_W), post r w1 → G E x (wr ++ w1) lv (pc + 3) (.int r :: st)) : G E x ws lv pc st0 := by
  obtain ⟨p, e, R, s, m, args, below, meth, c, A, nL, Q⟩ := x
  obtain ⟨hx, hb, hml, hown, hts, hK, hE, hA, hlk, hR⟩ := C
  subst hR
  intro H locs ls hP hD hS hl hnL
  obtain ⟨⟨Ty', hw⟩, hd⟩ := cf
  subst hst
  have hFr := va_free (wc := w0) hD hS hA isC hC
  refine va_calli (mc := 0) (ms := 0) (va_runSN (As := As) (rest := st) ⟨hx, hb, hml, hown, hts⟩ (M H.size) (⟨va_cnB n hts g hw hF.1.1 hF.1.2 (hK.2.1 _ hlk9) (hts _ hini) hd hF.2, hts _ hin, trivial⟩) ⟨mPc_blind, g_pre hK hE hP hD hS hA hndC hC⟩ rfl hn hl.1 rfl (lv_room hcat) d ⟨Nat.zero_le _, Nat.zero_le _⟩) hS (fun q _ h => hFr q h) hFr (fun r u t H1 l1 ht hvm hp hB hz hk hS1 => ?_)
  have hB2 := hB
  obtain ⟨hP1, hD1⟩ := hB2
  rw [ht] at hP1
  obtain ⟨hP2, hD2⟩ := va_join hP hD isC isR hC hR2 hnd hdis hk hFr hP1 hD1
  exact k r u hp H1 l1 ls hP2 hD2 hS1 hl hnL
theorem g_calliTF (C : Ok E x cc own Ts rm) {y : MethodName} {by1 : ByteArray} {nL1 n index : Nat} {ty : FieldType} {Ty : List Cond} {rm1 : Room} {As st0 : List Value} {post : Int32 → va_W → Prop} {host : String} (M : MI E y Ty rm1 ws As post) (cf : CF y by1 nL1 (some ty) Ty n) (g : GoodIn Ts Ty) (hlk9 : Cond.methodLinkNest own index y host ∈ nestW) (hin : Cond.static y ∈ Ts) (hini : Cond.initialized y.cls ∈ Ts) (hF : Fit rm1 rm nL1) (hn : As.length = n) (hst : st0 = As.reverse ++ st) (hcat : (st.map fun v => v.category).sum ≤ 8) (d : decode cc pc = .ok (.invokestatic index, 3)) (k : ∀ (r : Int32) (w1 : va_W), post r w1 → G E x w1 lv (pc + 3) (.int r :: st)) : G E x ws lv pc st0 := by
  obtain ⟨p, e, R, s, m, args, below, meth, c, A, nL, Q⟩ := x
  obtain ⟨hx, hb, hml, hown, hts, hK, hE, hA, hlk, hR⟩ := C
  subst hR
  intro H locs ls hP hD hS hl hnL
  obtain ⟨⟨Ty', hw⟩, hd⟩ := cf
  subst hst
  have hFr := g_freeF hD hS hA
  refine va_calli (mc := 0) (ms := 0) (va_runSN (As := As) (rest := st) ⟨hx, hb, hml, hown, hts⟩ (M H.size) (⟨va_cnB n hts g hw hF.1.1 hF.1.2 (hK.2.1 _ hlk9) (hts _ hini) hd hF.2, hts _ hin, trivial⟩) ⟨mPc_blind, g_preF hK hE hP hD hS hFr⟩ rfl hn hl.1 rfl (lv_room hcat) d ⟨Nat.zero_le _, Nat.zero_le _⟩) hS (fun q _ h => hFr q h) hFr (fun r u t H1 l1 ht hvm hp hB hz hk hS1 => ?_)
  have hB2 := hB
  obtain ⟨hP1, hD1⟩ := hB2
  rw [ht] at hP1
  exact k r u hp H1 l1 ls hP1 (hD1.weaken (fun _ q _ h => hFr q.1 h)) hS1 hl hnL
theorem g_callvV (C : Ok E x cc own Ts rm) {y : MethodName} {by1 : ByteArray} {nL1 n index : Nat} {Ty : List Cond} {rm1 : Room} {w0 : va_W} {As st0 : List Value} {post : va_W → Prop} {Cn : String} {T : u_T} {N ci b : Nat} {fs : List Value} (qr : Nat) (he : ws[qr]? = some (b, .inr (ci, fs))) (hcn : vwCl[ci]? = some (Cn, T, N)) (M : MV E y Ty rm1 w0 (.ref b :: As) post) (cf : CF y by1 nL1 none Ty n) (g : GoodIn Ts (wsV own index Cn y Ty)) (hcl : y.cls = Cn) (hF : Fit rm1 rm nL1) (hn : As.length = n) (hst : st0 = As.reverse ++ (.ref b :: st)) (hcat : (st.map fun v => v.category).sum ≤ 8) (d : decode cc pc = .ok (.invokevirtual index, 3)) (isC isR : List Nat) {wr : va_W} (hndC : va_nd isC = true) (hC : isC.map (fun i => ws[i]?) = w0.map some) (hR2 : isR.map (fun i => ws[i]?) = wr.map some) (hnd : va_nd isR = true) (hdis : ∀ i ∈ isR, i ∉ isC) (k : ∀ (w1 : va_W), post w1 → G E x (wr ++ w1) lv (pc + 3) st) : G E x ws lv pc st0 := by
  obtain ⟨p, e, R, s, m, args, below, meth, c, A, nL, Q⟩ := x
  obtain ⟨hx, hb, hml, hown, hts, hK, hE, hA, hlk, hR⟩ := C
  subst hR
  intro H locs ls hP hD hS hl hnL
  obtain ⟨⟨Ty', hw⟩, hd⟩ := cf
  subst hst
  have hFr := va_free (wc := w0) hD hS hA isC hC
  refine va_callv (mc := 0) (ms := 0) (va_runV (As := As) (rest := st) ⟨hx, hb, hml, hown, hts⟩ (M H.size) (cwV n hts g hw hF.1.1 hF.1.2 ⟨hcl, hd⟩ hF.2) ⟨mPc_blind, va_recv hK.1 hP hcn he, g_pre hK hE hP hD hS hA hndC hC⟩ rfl hn hl.1 rfl (lv_room hcat) d ⟨Nat.zero_le _, Nat.zero_le _⟩) hS (fun q _ h => hFr q h) hFr (fun u t H1 l1 ht hvm hp hB hz hk hS1 => ?_)
  have hB2 := hB
  obtain ⟨hP1, hD1⟩ := hB2
  rw [ht] at hP1
  obtain ⟨hP2, hD2⟩ := va_join hP hD isC isR hC hR2 hnd hdis hk hFr hP1 hD1
  exact k u hp H1 l1 ls hP2 hD2 hS1 hl hnL
theorem g_callvVF (C : Ok E x cc own Ts rm) {y : MethodName} {by1 : ByteArray} {nL1 n index : Nat} {Ty : List Cond} {rm1 : Room} {As st0 : List Value} {post : va_W → Prop} {Cn : String} {T : u_T} {N ci b : Nat} {fs : List Value} (qr : Nat) (he : ws[qr]? = some (b, .inr (ci, fs))) (hcn : vwCl[ci]? = some (Cn, T, N)) (M : MV E y Ty rm1 ws (.ref b :: As) post) (cf : CF y by1 nL1 none Ty n) (g : GoodIn Ts (wsV own index Cn y Ty)) (hcl : y.cls = Cn) (hF : Fit rm1 rm nL1) (hn : As.length = n) (hst : st0 = As.reverse ++ (.ref b :: st)) (hcat : (st.map fun v => v.category).sum ≤ 8) (d : decode cc pc = .ok (.invokevirtual index, 3)) (k : ∀ (w1 : va_W), post w1 → G E x w1 lv (pc + 3) st) : G E x ws lv pc st0 := by
  obtain ⟨p, e, R, s, m, args, below, meth, c, A, nL, Q⟩ := x
  obtain ⟨hx, hb, hml, hown, hts, hK, hE, hA, hlk, hR⟩ := C
  subst hR
  intro H locs ls hP hD hS hl hnL
  obtain ⟨⟨Ty', hw⟩, hd⟩ := cf
  subst hst
  have hFr := g_freeF hD hS hA
  refine va_callv (mc := 0) (ms := 0) (va_runV (As := As) (rest := st) ⟨hx, hb, hml, hown, hts⟩ (M H.size) (cwV n hts g hw hF.1.1 hF.1.2 ⟨hcl, hd⟩ hF.2) ⟨mPc_blind, va_recv hK.1 hP hcn he, g_preF hK hE hP hD hS hFr⟩ rfl hn hl.1 rfl (lv_room hcat) d ⟨Nat.zero_le _, Nat.zero_le _⟩) hS (fun q _ h => hFr q h) hFr (fun u t H1 l1 ht hvm hp hB hz hk hS1 => ?_)
  have hB2 := hB
  obtain ⟨hP1, hD1⟩ := hB2
  rw [ht] at hP1
  exact k u hp H1 l1 ls hP1 (hD1.weaken (fun _ q _ h => hFr q.1 h)) hS1 hl hnL
theorem g_callvS (C : Ok E x cc own Ts rm) {y : MethodName} {by1 : ByteArray} {nL1 n index : Nat} {Ty : List Cond} {rm1 : Room} {w0 : va_W} {As st0 : List Value} {post : va_W → Prop} (M : MV E y Ty rm1 w0 As post) (cf : CF y by1 nL1 none Ty n) (g : GoodIn Ts (wsS own index y Ty)) (hcl : y.cls = own) (hF : Fit rm1 rm nL1) (hn : As.length = n) (hst : st0 = As.reverse ++ st) (hcat : (st.map fun v => v.category).sum ≤ 8) (d : decode cc pc = .ok (.invokestatic index, 3)) (isC isR : List Nat) {wr : va_W} (hndC : va_nd isC = true) (hC : isC.map (fun i => ws[i]?) = w0.map some) (hR2 : isR.map (fun i => ws[i]?) = wr.map some) (hnd : va_nd isR = true) (hdis : ∀ i ∈ isR, i ∉ isC) (k : ∀ (w1 : va_W), post w1 → G E x (wr ++ w1) lv (pc + 3) st) : G E x ws lv pc st0 := by
  obtain ⟨p, e, R, s, m, args, below, meth, c, A, nL, Q⟩ := x
  obtain ⟨hx, hb, hml, hown, hts, hK, hE, hA, hlk, hR⟩ := C
  subst hR
  intro H locs ls hP hD hS hl hnL
  obtain ⟨⟨Ty', hw⟩, hd⟩ := cf
  subst hst
  have hFr := va_free (wc := w0) hD hS hA isC hC
  refine va_callv (mc := 0) (ms := 0) (va_runS (As := As) (rest := st) ⟨hx, hb, hml, hown, hts⟩ (M H.size) (cwS n hts g hw hF.1.1 hF.1.2 ⟨hcl, hd⟩ hF.2) ⟨mPc_blind, g_pre hK hE hP hD hS hA hndC hC⟩ rfl hn hl.1 rfl (lv_room hcat) d ⟨Nat.zero_le _, Nat.zero_le _⟩) hS (fun q _ h => hFr q h) hFr (fun u t H1 l1 ht hvm hp hB hz hk hS1 => ?_)
  have hB2 := hB
  obtain ⟨hP1, hD1⟩ := hB2
  rw [ht] at hP1
  obtain ⟨hP2, hD2⟩ := va_join hP hD isC isR hC hR2 hnd hdis hk hFr hP1 hD1
  exact k u hp H1 l1 ls hP2 hD2 hS1 hl hnL
theorem g_callvSF (C : Ok E x cc own Ts rm) {y : MethodName} {by1 : ByteArray} {nL1 n index : Nat} {Ty : List Cond} {rm1 : Room} {As st0 : List Value} {post : va_W → Prop} (M : MV E y Ty rm1 ws As post) (cf : CF y by1 nL1 none Ty n) (g : GoodIn Ts (wsS own index y Ty)) (hcl : y.cls = own) (hF : Fit rm1 rm nL1) (hn : As.length = n) (hst : st0 = As.reverse ++ st) (hcat : (st.map fun v => v.category).sum ≤ 8) (d : decode cc pc = .ok (.invokestatic index, 3)) (k : ∀ (w1 : va_W), post w1 → G E x w1 lv (pc + 3) st) : G E x ws lv pc st0 := by
  obtain ⟨p, e, R, s, m, args, below, meth, c, A, nL, Q⟩ := x
  obtain ⟨hx, hb, hml, hown, hts, hK, hE, hA, hlk, hR⟩ := C
  subst hR
  intro H locs ls hP hD hS hl hnL
  obtain ⟨⟨Ty', hw⟩, hd⟩ := cf
  subst hst
  have hFr := g_freeF hD hS hA
  refine va_callv (mc := 0) (ms := 0) (va_runS (As := As) (rest := st) ⟨hx, hb, hml, hown, hts⟩ (M H.size) (cwS n hts g hw hF.1.1 hF.1.2 ⟨hcl, hd⟩ hF.2) ⟨mPc_blind, g_preF hK hE hP hD hS hFr⟩ rfl hn hl.1 rfl (lv_room hcat) d ⟨Nat.zero_le _, Nat.zero_le _⟩) hS (fun q _ h => hFr q h) hFr (fun u t H1 l1 ht hvm hp hB hz hk hS1 => ?_)
  have hB2 := hB
  obtain ⟨hP1, hD1⟩ := hB2
  rw [ht] at hP1
  exact k u hp H1 l1 ls hP1 (hD1.weaken (fun _ q _ h => hFr q.1 h)) hS1 hl hnL
theorem g_callvN (C : Ok E x cc own Ts rm) {y : MethodName} {by1 : ByteArray} {nL1 n index : Nat} {Ty : List Cond} {rm1 : Room} {w0 : va_W} {As st0 : List Value} {post : va_W → Prop} {host : String} {Cn : String} {T : u_T} {N ci b : Nat} {fs : List Value} (qr : Nat) (he : ws[qr]? = some (b, .inr (ci, fs))) (hcn : vwCl[ci]? = some (Cn, T, N)) (M : MV E y Ty rm1 w0 (.ref b :: As) post) (cf : CF y by1 nL1 none Ty n) (g : GoodIn Ts Ty) (hlk9 : Cond.methodLinkNest own index y host ∈ nestW) (hin : Cond.instanceMethod y ∈ Ts) (hse : Cond.selects Cn y y ∈ Ts) (hini : Cond.initialized y.cls ∈ Ts) (hF : Fit rm1 rm nL1) (hn : As.length = n) (hst : st0 = As.reverse ++ (.ref b :: st)) (hcat : (st.map fun v => v.category).sum ≤ 8) (d : decode cc pc = .ok (.invokevirtual index, 3)) (isC isR : List Nat) {wr : va_W} (hndC : va_nd isC = true) (hC : isC.map (fun i => ws[i]?) = w0.map some) (hR2 : isR.map (fun i => ws[i]?) = wr.map some) (hnd : va_nd isR = true) (hdis : ∀ i ∈ isR, i ∉ isC) (k : ∀ (w1 : va_W), post w1 → G E x (wr ++ w1) lv (pc + 3) st) : G E x ws lv pc st0 := by
  obtain ⟨p, e, R, s, m, args, below, meth, c, A, nL, Q⟩ := x
  obtain ⟨hx, hb, hml, hown, hts, hK, hE, hA, hlk, hR⟩ := C
  subst hR
  intro H locs ls hP hD hS hl hnL
  obtain ⟨⟨Ty', hw⟩, hd⟩ := cf
  subst hst
  have hFr := va_free (wc := w0) hD hS hA isC hC
  refine va_callv (mc := 0) (ms := 0) (va_runVN (As := As) (rest := st) ⟨hx, hb, hml, hown, hts⟩ (M H.size) (⟨va_cnB n hts g hw hF.1.1 hF.1.2 (hK.2.1 _ hlk9) (hts _ hini) hd hF.2, hts _ hin, hts _ hse⟩) ⟨mPc_blind, va_recv hK.1 hP hcn he, g_pre hK hE hP hD hS hA hndC hC⟩ rfl hn hl.1 rfl (lv_room hcat) d ⟨Nat.zero_le _, Nat.zero_le _⟩) hS (fun q _ h => hFr q h) hFr (fun u t H1 l1 ht hvm hp hB hz hk hS1 => ?_)
  have hB2 := hB
  obtain ⟨hP1, hD1⟩ := hB2
  rw [ht] at hP1
  obtain ⟨hP2, hD2⟩ := va_join hP hD isC isR hC hR2 hnd hdis hk hFr hP1 hD1
  exact k u hp H1 l1 ls hP2 hD2 hS1 hl hnL
theorem g_callvNF (C : Ok E x cc own Ts rm) {y : MethodName} {by1 : ByteArray} {nL1 n index : Nat} {Ty : List Cond} {rm1 : Room} {As st0 : List Value} {post : va_W → Prop} {host : String} {Cn : String} {T : u_T} {N ci b : Nat} {fs : List Value} (qr : Nat) (he : ws[qr]? = some (b, .inr (ci, fs))) (hcn : vwCl[ci]? = some (Cn, T, N)) (M : MV E y Ty rm1 ws (.ref b :: As) post) (cf : CF y by1 nL1 none Ty n) (g : GoodIn Ts Ty) (hlk9 : Cond.methodLinkNest own index y host ∈ nestW) (hin : Cond.instanceMethod y ∈ Ts) (hse : Cond.selects Cn y y ∈ Ts) (hini : Cond.initialized y.cls ∈ Ts) (hF : Fit rm1 rm nL1) (hn : As.length = n) (hst : st0 = As.reverse ++ (.ref b :: st)) (hcat : (st.map fun v => v.category).sum ≤ 8) (d : decode cc pc = .ok (.invokevirtual index, 3)) (k : ∀ (w1 : va_W), post w1 → G E x w1 lv (pc + 3) st) : G E x ws lv pc st0 := by
  obtain ⟨p, e, R, s, m, args, below, meth, c, A, nL, Q⟩ := x
  obtain ⟨hx, hb, hml, hown, hts, hK, hE, hA, hlk, hR⟩ := C
  subst hR
  intro H locs ls hP hD hS hl hnL
  obtain ⟨⟨Ty', hw⟩, hd⟩ := cf
  subst hst
  have hFr := g_freeF hD hS hA
  refine va_callv (mc := 0) (ms := 0) (va_runVN (As := As) (rest := st) ⟨hx, hb, hml, hown, hts⟩ (M H.size) (⟨va_cnB n hts g hw hF.1.1 hF.1.2 (hK.2.1 _ hlk9) (hts _ hini) hd hF.2, hts _ hin, hts _ hse⟩) ⟨mPc_blind, va_recv hK.1 hP hcn he, g_preF hK hE hP hD hS hFr⟩ rfl hn hl.1 rfl (lv_room hcat) d ⟨Nat.zero_le _, Nat.zero_le _⟩) hS (fun q _ h => hFr q h) hFr (fun u t H1 l1 ht hvm hp hB hz hk hS1 => ?_)
  have hB2 := hB
  obtain ⟨hP1, hD1⟩ := hB2
  rw [ht] at hP1
  exact k u hp H1 l1 ls hP1 (hD1.weaken (fun _ q _ h => hFr q.1 h)) hS1 hl hnL
theorem g_callvT (C : Ok E x cc own Ts rm) {y : MethodName} {by1 : ByteArray} {nL1 n index : Nat} {Ty : List Cond} {rm1 : Room} {w0 : va_W} {As st0 : List Value} {post : va_W → Prop} {host : String} (M : MV E y Ty rm1 w0 As post) (cf : CF y by1 nL1 none Ty n) (g : GoodIn Ts Ty) (hlk9 : Cond.methodLinkNest own index y host ∈ nestW) (hin : Cond.static y ∈ Ts) (hini : Cond.initialized y.cls ∈ Ts) (hF : Fit rm1 rm nL1) (hn : As.length = n) (hst : st0 = As.reverse ++ st) (hcat : (st.map fun v => v.category).sum ≤ 8) (d : decode cc pc = .ok (.invokestatic index, 3)) (isC isR : List Nat) {wr : va_W} (hndC : va_nd isC = true) (hC : isC.map (fun i => ws[i]?) = w0.map some) (hR2 : isR.map (fun i => ws[i]?) = wr.map some) (hnd : va_nd isR = true) (hdis : ∀ i ∈ isR, i ∉ isC) (k : ∀ (w1 : va_W), post w1 → G E x (wr ++ w1) lv (pc + 3) st) : G E x ws lv pc st0 := by
  obtain ⟨p, e, R, s, m, args, below, meth, c, A, nL, Q⟩ := x
  obtain ⟨hx, hb, hml, hown, hts, hK, hE, hA, hlk, hR⟩ := C
  subst hR
  intro H locs ls hP hD hS hl hnL
  obtain ⟨⟨Ty', hw⟩, hd⟩ := cf
  subst hst
  have hFr := va_free (wc := w0) hD hS hA isC hC
  refine va_callv (mc := 0) (ms := 0) (va_runSN (As := As) (rest := st) ⟨hx, hb, hml, hown, hts⟩ (M H.size) (⟨va_cnB n hts g hw hF.1.1 hF.1.2 (hK.2.1 _ hlk9) (hts _ hini) hd hF.2, hts _ hin, trivial⟩) ⟨mPc_blind, g_pre hK hE hP hD hS hA hndC hC⟩ rfl hn hl.1 rfl (lv_room hcat) d ⟨Nat.zero_le _, Nat.zero_le _⟩) hS (fun q _ h => hFr q h) hFr (fun u t H1 l1 ht hvm hp hB hz hk hS1 => ?_)
  have hB2 := hB
  obtain ⟨hP1, hD1⟩ := hB2
  rw [ht] at hP1
  obtain ⟨hP2, hD2⟩ := va_join hP hD isC isR hC hR2 hnd hdis hk hFr hP1 hD1
  exact k u hp H1 l1 ls hP2 hD2 hS1 hl hnL
theorem g_callvTF (C : Ok E x cc own Ts rm) {y : MethodName} {by1 : ByteArray} {nL1 n index : Nat} {Ty : List Cond} {rm1 : Room} {As st0 : List Value} {post : va_W → Prop} {host : String} (M : MV E y Ty rm1 ws As post) (cf : CF y by1 nL1 none Ty n) (g : GoodIn Ts Ty) (hlk9 : Cond.methodLinkNest own index y host ∈ nestW) (hin : Cond.static y ∈ Ts) (hini : Cond.initialized y.cls ∈ Ts) (hF : Fit rm1 rm nL1) (hn : As.length = n) (hst : st0 = As.reverse ++ st) (hcat : (st.map fun v => v.category).sum ≤ 8) (d : decode cc pc = .ok (.invokestatic index, 3)) (k : ∀ (w1 : va_W), post w1 → G E x w1 lv (pc + 3) st) : G E x ws lv pc st0 := by
  obtain ⟨p, e, R, s, m, args, below, meth, c, A, nL, Q⟩ := x
  obtain ⟨hx, hb, hml, hown, hts, hK, hE, hA, hlk, hR⟩ := C
  subst hR
  intro H locs ls hP hD hS hl hnL
  obtain ⟨⟨Ty', hw⟩, hd⟩ := cf
  subst hst
  have hFr := g_freeF hD hS hA
  refine va_callv (mc := 0) (ms := 0) (va_runSN (As := As) (rest := st) ⟨hx, hb, hml, hown, hts⟩ (M H.size) (⟨va_cnB n hts g hw hF.1.1 hF.1.2 (hK.2.1 _ hlk9) (hts _ hini) hd hF.2, hts _ hin, trivial⟩) ⟨mPc_blind, g_preF hK hE hP hD hS hFr⟩ rfl hn hl.1 rfl (lv_room hcat) d ⟨Nat.zero_le _, Nat.zero_le _⟩) hS (fun q _ h => hFr q h) hFr (fun u t H1 l1 ht hvm hp hB hz hk hS1 => ?_)
  have hB2 := hB
  obtain ⟨hP1, hD1⟩ := hB2
  rw [ht] at hP1
  exact k u hp H1 l1 ls hP1 (hD1.weaken (fun _ q _ h => hFr q.1 h)) hS1 hl hnL
theorem g_callrV (C : Ok E x cc own Ts rm) {y : MethodName} {by1 : ByteArray} {nL1 n index : Nat} {ty : FieldType} {Ty : List Cond} {rm1 : Room} {w0 : va_W} {As st0 : List Value} {post : Nat → va_W → Prop} {Cn : String} {T : u_T} {N ci b : Nat} {fs : List Value} (qr : Nat) (he : ws[qr]? = some (b, .inr (ci, fs))) (hcn : vwCl[ci]? = some (Cn, T, N)) (M : MR E y Ty rm1 w0 (.ref b :: As) post) (cf : CF y by1 nL1 (some ty) Ty n) (g : GoodIn Ts (wsV own index Cn y Ty)) (hcl : y.cls = Cn) (hF : Fit rm1 rm nL1) (hn : As.length = n) (hst : st0 = As.reverse ++ (.ref b :: st)) (hcat : (st.map fun v => v.category).sum ≤ 8) (d : decode cc pc = .ok (.invokevirtual index, 3)) (isC isR : List Nat) {wr : va_W} (hndC : va_nd isC = true) (hC : isC.map (fun i => ws[i]?) = w0.map some) (hR2 : isR.map (fun i => ws[i]?) = wr.map some) (hnd : va_nd isR = true) (hdis : ∀ i ∈ isR, i ∉ isC) (k : ∀ (r : Nat) (w1 : va_W), post r w1 → G E x (wr ++ w1) lv (pc + 3) (.ref r :: st)) : G E x ws lv pc st0 := by
  obtain ⟨p, e, R, s, m, args, below, meth, c, A, nL, Q⟩ := x
  obtain ⟨hx, hb, hml, hown, hts, hK, hE, hA, hlk, hR⟩ := C
  subst hR
  intro H locs ls hP hD hS hl hnL
  obtain ⟨⟨Ty', hw⟩, hd⟩ := cf
  subst hst
  have hFr := va_free (wc := w0) hD hS hA isC hC
  refine va_callr (mc := 0) (ms := 0) (va_runV (As := As) (rest := st) ⟨hx, hb, hml, hown, hts⟩ (M H.size) (cwV n hts g hw hF.1.1 hF.1.2 ⟨hcl, hd⟩ hF.2) ⟨mPc_blind, va_recv hK.1 hP hcn he, g_pre hK hE hP hD hS hA hndC hC⟩ rfl hn hl.1 rfl (lv_room hcat) d ⟨Nat.zero_le _, Nat.zero_le _⟩) hS (fun q _ h => hFr q h) hFr (fun u r t H1 l1 ht hvm hp hB hz hk hS1 => ?_)
  have hB2 := hB.2
  obtain ⟨hP1, hD1⟩ := hB2
  rw [ht] at hP1
  obtain ⟨hP2, hD2⟩ := va_join hP hD isC isR hC hR2 hnd hdis hk hFr hP1 hD1
  exact k r u hB.1 H1 l1 ls hP2 hD2 hS1 hl hnL
theorem g_callrVF (C : Ok E x cc own Ts rm) {y : MethodName} {by1 : ByteArray} {nL1 n index : Nat} {ty : FieldType} {Ty : List Cond} {rm1 : Room} {As st0 : List Value} {post : Nat → va_W → Prop} {Cn : String} {T : u_T} {N ci b : Nat} {fs : List Value} (qr : Nat) (he : ws[qr]? = some (b, .inr (ci, fs))) (hcn : vwCl[ci]? = some (Cn, T, N)) (M : MR E y Ty rm1 ws (.ref b :: As) post) (cf : CF y by1 nL1 (some ty) Ty n) (g : GoodIn Ts (wsV own index Cn y Ty)) (hcl : y.cls = Cn) (hF : Fit rm1 rm nL1) (hn : As.length = n) (hst : st0 = As.reverse ++ (.ref b :: st)) (hcat : (st.map fun v => v.category).sum ≤ 8) (d : decode cc pc = .ok (.invokevirtual index, 3)) (k : ∀ (r : Nat) (w1 : va_W), post r w1 → G E x w1 lv (pc + 3) (.ref r :: st)) : G E x ws lv pc st0 := by
  obtain ⟨p, e, R, s, m, args, below, meth, c, A, nL, Q⟩ := x
  obtain ⟨hx, hb, hml, hown, hts, hK, hE, hA, hlk, hR⟩ := C
  subst hR
  intro H locs ls hP hD hS hl hnL
  obtain ⟨⟨Ty', hw⟩, hd⟩ := cf
  subst hst
  have hFr := g_freeF hD hS hA
  refine va_callr (mc := 0) (ms := 0) (va_runV (As := As) (rest := st) ⟨hx, hb, hml, hown, hts⟩ (M H.size) (cwV n hts g hw hF.1.1 hF.1.2 ⟨hcl, hd⟩ hF.2) ⟨mPc_blind, va_recv hK.1 hP hcn he, g_preF hK hE hP hD hS hFr⟩ rfl hn hl.1 rfl (lv_room hcat) d ⟨Nat.zero_le _, Nat.zero_le _⟩) hS (fun q _ h => hFr q h) hFr (fun u r t H1 l1 ht hvm hp hB hz hk hS1 => ?_)
  have hB2 := hB.2
  obtain ⟨hP1, hD1⟩ := hB2
  rw [ht] at hP1
  exact k r u hB.1 H1 l1 ls hP1 (hD1.weaken (fun _ q _ h => hFr q.1 h)) hS1 hl hnL
theorem g_callrS (C : Ok E x cc own Ts rm) {y : MethodName} {by1 : ByteArray} {nL1 n index : Nat} {ty : FieldType} {Ty : List Cond} {rm1 : Room} {w0 : va_W} {As st0 : List Value} {post : Nat → va_W → Prop} (M : MR E y Ty rm1 w0 As post) (cf : CF y by1 nL1 (some ty) Ty n) (g : GoodIn Ts (wsS own index y Ty)) (hcl : y.cls = own) (hF : Fit rm1 rm nL1) (hn : As.length = n) (hst : st0 = As.reverse ++ st) (hcat : (st.map fun v => v.category).sum ≤ 8) (d : decode cc pc = .ok (.invokestatic index, 3)) (isC isR : List Nat) {wr : va_W} (hndC : va_nd isC = true) (hC : isC.map (fun i => ws[i]?) = w0.map some) (hR2 : isR.map (fun i => ws[i]?) = wr.map some) (hnd : va_nd isR = true) (hdis : ∀ i ∈ isR, i ∉ isC) (k : ∀ (r : Nat) (w1 : va_W), post r w1 → G E x (wr ++ w1) lv (pc + 3) (.ref r :: st)) : G E x ws lv pc st0 := by
  obtain ⟨p, e, R, s, m, args, below, meth, c, A, nL, Q⟩ := x
  obtain ⟨hx, hb, hml, hown, hts, hK, hE, hA, hlk, hR⟩ := C
  subst hR
  intro H locs ls hP hD hS hl hnL
  obtain ⟨⟨Ty', hw⟩, hd⟩ := cf
  subst hst
  have hFr := va_free (wc := w0) hD hS hA isC hC
  refine va_callr (mc := 0) (ms := 0) (va_runS (As := As) (rest := st) ⟨hx, hb, hml, hown, hts⟩ (M H.size) (cwS n hts g hw hF.1.1 hF.1.2 ⟨hcl, hd⟩ hF.2) ⟨mPc_blind, g_pre hK hE hP hD hS hA hndC hC⟩ rfl hn hl.1 rfl (lv_room hcat) d ⟨Nat.zero_le _, Nat.zero_le _⟩) hS (fun q _ h => hFr q h) hFr (fun u r t H1 l1 ht hvm hp hB hz hk hS1 => ?_)
  have hB2 := hB.2
  obtain ⟨hP1, hD1⟩ := hB2
  rw [ht] at hP1
  obtain ⟨hP2, hD2⟩ := va_join hP hD isC isR hC hR2 hnd hdis hk hFr hP1 hD1
  exact k r u hB.1 H1 l1 ls hP2 hD2 hS1 hl hnL
theorem g_callrSF (C : Ok E x cc own Ts rm) {y : MethodName} {by1 : ByteArray} {nL1 n index : Nat} {ty : FieldType} {Ty : List Cond} {rm1 : Room} {As st0 : List Value} {post : Nat → va_W → Prop} (M : MR E y Ty rm1 ws As post) (cf : CF y by1 nL1 (some ty) Ty n) (g : GoodIn Ts (wsS own index y Ty)) (hcl : y.cls = own) (hF : Fit rm1 rm nL1) (hn : As.length = n) (hst : st0 = As.reverse ++ st) (hcat : (st.map fun v => v.category).sum ≤ 8) (d : decode cc pc = .ok (.invokestatic index, 3)) (k : ∀ (r : Nat) (w1 : va_W), post r w1 → G E x w1 lv (pc + 3) (.ref r :: st)) : G E x ws lv pc st0 := by
  obtain ⟨p, e, R, s, m, args, below, meth, c, A, nL, Q⟩ := x
  obtain ⟨hx, hb, hml, hown, hts, hK, hE, hA, hlk, hR⟩ := C
  subst hR
  intro H locs ls hP hD hS hl hnL
  obtain ⟨⟨Ty', hw⟩, hd⟩ := cf
  subst hst
  have hFr := g_freeF hD hS hA
  refine va_callr (mc := 0) (ms := 0) (va_runS (As := As) (rest := st) ⟨hx, hb, hml, hown, hts⟩ (M H.size) (cwS n hts g hw hF.1.1 hF.1.2 ⟨hcl, hd⟩ hF.2) ⟨mPc_blind, g_preF hK hE hP hD hS hFr⟩ rfl hn hl.1 rfl (lv_room hcat) d ⟨Nat.zero_le _, Nat.zero_le _⟩) hS (fun q _ h => hFr q h) hFr (fun u r t H1 l1 ht hvm hp hB hz hk hS1 => ?_)
  have hB2 := hB.2
  obtain ⟨hP1, hD1⟩ := hB2
  rw [ht] at hP1
  exact k r u hB.1 H1 l1 ls hP1 (hD1.weaken (fun _ q _ h => hFr q.1 h)) hS1 hl hnL
theorem g_callrN (C : Ok E x cc own Ts rm) {y : MethodName} {by1 : ByteArray} {nL1 n index : Nat} {ty : FieldType} {Ty : List Cond} {rm1 : Room} {w0 : va_W} {As st0 : List Value} {post : Nat → va_W → Prop} {host : String} {Cn : String} {T : u_T} {N ci b : Nat} {fs : List Value} (qr : Nat) (he : ws[qr]? = some (b, .inr (ci, fs))) (hcn : vwCl[ci]? = some (Cn, T, N)) (M : MR E y Ty rm1 w0 (.ref b :: As) post) (cf : CF y by1 nL1 (some ty) Ty n) (g : GoodIn Ts Ty) (hlk9 : Cond.methodLinkNest own index y host ∈ nestW) (hin : Cond.instanceMethod y ∈ Ts) (hse : Cond.selects Cn y y ∈ Ts) (hini : Cond.initialized y.cls ∈ Ts) (hF : Fit rm1 rm nL1) (hn : As.length = n) (hst : st0 = As.reverse ++ (.ref b :: st)) (hcat : (st.map fun v => v.category).sum ≤ 8) (d : decode cc pc = .ok (.invokevirtual index, 3)) (isC isR : List Nat) {wr : va_W} (hndC : va_nd isC = true) (hC : isC.map (fun i => ws[i]?) = w0.map some) (hR2 : isR.map (fun i => ws[i]?) = wr.map some) (hnd : va_nd isR = true) (hdis : ∀ i ∈ isR, i ∉ isC) (k : ∀ (r : Nat) (w1 : va_W), post r w1 → G E x (wr ++ w1) lv (pc + 3) (.ref r :: st)) : G E x ws lv pc st0 := by
  obtain ⟨p, e, R, s, m, args, below, meth, c, A, nL, Q⟩ := x
  obtain ⟨hx, hb, hml, hown, hts, hK, hE, hA, hlk, hR⟩ := C
  subst hR
  intro H locs ls hP hD hS hl hnL
  obtain ⟨⟨Ty', hw⟩, hd⟩ := cf
  subst hst
  have hFr := va_free (wc := w0) hD hS hA isC hC
  refine va_callr (mc := 0) (ms := 0) (va_runVN (As := As) (rest := st) ⟨hx, hb, hml, hown, hts⟩ (M H.size) (⟨va_cnB n hts g hw hF.1.1 hF.1.2 (hK.2.1 _ hlk9) (hts _ hini) hd hF.2, hts _ hin, hts _ hse⟩) ⟨mPc_blind, va_recv hK.1 hP hcn he, g_pre hK hE hP hD hS hA hndC hC⟩ rfl hn hl.1 rfl (lv_room hcat) d ⟨Nat.zero_le _, Nat.zero_le _⟩) hS (fun q _ h => hFr q h) hFr (fun u r t H1 l1 ht hvm hp hB hz hk hS1 => ?_)
  have hB2 := hB.2
  obtain ⟨hP1, hD1⟩ := hB2
  rw [ht] at hP1
  obtain ⟨hP2, hD2⟩ := va_join hP hD isC isR hC hR2 hnd hdis hk hFr hP1 hD1
  exact k r u hB.1 H1 l1 ls hP2 hD2 hS1 hl hnL
theorem g_callrNF (C : Ok E x cc own Ts rm) {y : MethodName} {by1 : ByteArray} {nL1 n index : Nat} {ty : FieldType} {Ty : List Cond} {rm1 : Room} {As st0 : List Value} {post : Nat → va_W → Prop} {host : String} {Cn : String} {T : u_T} {N ci b : Nat} {fs : List Value} (qr : Nat) (he : ws[qr]? = some (b, .inr (ci, fs))) (hcn : vwCl[ci]? = some (Cn, T, N)) (M : MR E y Ty rm1 ws (.ref b :: As) post) (cf : CF y by1 nL1 (some ty) Ty n) (g : GoodIn Ts Ty) (hlk9 : Cond.methodLinkNest own index y host ∈ nestW) (hin : Cond.instanceMethod y ∈ Ts) (hse : Cond.selects Cn y y ∈ Ts) (hini : Cond.initialized y.cls ∈ Ts) (hF : Fit rm1 rm nL1) (hn : As.length = n) (hst : st0 = As.reverse ++ (.ref b :: st)) (hcat : (st.map fun v => v.category).sum ≤ 8) (d : decode cc pc = .ok (.invokevirtual index, 3)) (k : ∀ (r : Nat) (w1 : va_W), post r w1 → G E x w1 lv (pc + 3) (.ref r :: st)) : G E x ws lv pc st0 := by
  obtain ⟨p, e, R, s, m, args, below, meth, c, A, nL, Q⟩ := x
  obtain ⟨hx, hb, hml, hown, hts, hK, hE, hA, hlk, hR⟩ := C
  subst hR
  intro H locs ls hP hD hS hl hnL
  obtain ⟨⟨Ty', hw⟩, hd⟩ := cf
  subst hst
  have hFr := g_freeF hD hS hA
  refine va_callr (mc := 0) (ms := 0) (va_runVN (As := As) (rest := st) ⟨hx, hb, hml, hown, hts⟩ (M H.size) (⟨va_cnB n hts g hw hF.1.1 hF.1.2 (hK.2.1 _ hlk9) (hts _ hini) hd hF.2, hts _ hin, hts _ hse⟩) ⟨mPc_blind, va_recv hK.1 hP hcn he, g_preF hK hE hP hD hS hFr⟩ rfl hn hl.1 rfl (lv_room hcat) d ⟨Nat.zero_le _, Nat.zero_le _⟩) hS (fun q _ h => hFr q h) hFr (fun u r t H1 l1 ht hvm hp hB hz hk hS1 => ?_)
  have hB2 := hB.2
  obtain ⟨hP1, hD1⟩ := hB2
  rw [ht] at hP1
  exact k r u hB.1 H1 l1 ls hP1 (hD1.weaken (fun _ q _ h => hFr q.1 h)) hS1 hl hnL
theorem g_callrT (C : Ok E x cc own Ts rm) {y : MethodName} {by1 : ByteArray} {nL1 n index : Nat} {ty : FieldType} {Ty : List Cond} {rm1 : Room} {w0 : va_W} {As st0 : List Value} {post : Nat → va_W → Prop} {host : String} (M : MR E y Ty rm1 w0 As post) (cf : CF y by1 nL1 (some ty) Ty n) (g : GoodIn Ts Ty) (hlk9 : Cond.methodLinkNest own index y host ∈ nestW) (hin : Cond.static y ∈ Ts) (hini : Cond.initialized y.cls ∈ Ts) (hF : Fit rm1 rm nL1) (hn : As.length = n) (hst : st0 = As.reverse ++ st) (hcat : (st.map fun v => v.category).sum ≤ 8) (d : decode cc pc = .ok (.invokestatic index, 3)) (isC isR : List Nat) {wr : va_W} (hndC : va_nd isC = true) (hC : isC.map (fun i => ws[i]?) = w0.map some) (hR2 : isR.map (fun i => ws[i]?) = wr.map some) (hnd : va_nd isR = true) (hdis : ∀ i ∈ isR, i ∉ isC) (k : ∀ (r : Nat) (w1 : va_W), post r w1 → G E x (wr ++ w1) lv (pc + 3) (.ref r :: st)) : G E x ws lv pc st0 := by
  obtain ⟨p, e, R, s, m, args, below, meth, c, A, nL, Q⟩ := x
  obtain ⟨hx, hb, hml, hown, hts, hK, hE, hA, hlk, hR⟩ := C
  subst hR
  intro H locs ls hP hD hS hl hnL
  obtain ⟨⟨Ty', hw⟩, hd⟩ := cf
  subst hst
  have hFr := va_free (wc := w0) hD hS hA isC hC
  refine va_callr (mc := 0) (ms := 0) (va_runSN (As := As) (rest := st) ⟨hx, hb, hml, hown, hts⟩ (M H.size) (⟨va_cnB n hts g hw hF.1.1 hF.1.2 (hK.2.1 _ hlk9) (hts _ hini) hd hF.2, hts _ hin, trivial⟩) ⟨mPc_blind, g_pre hK hE hP hD hS hA hndC hC⟩ rfl hn hl.1 rfl (lv_room hcat) d ⟨Nat.zero_le _, Nat.zero_le _⟩) hS (fun q _ h => hFr q h) hFr (fun u r t H1 l1 ht hvm hp hB hz hk hS1 => ?_)
  have hB2 := hB.2
  obtain ⟨hP1, hD1⟩ := hB2
  rw [ht] at hP1
  obtain ⟨hP2, hD2⟩ := va_join hP hD isC isR hC hR2 hnd hdis hk hFr hP1 hD1
  exact k r u hB.1 H1 l1 ls hP2 hD2 hS1 hl hnL
theorem g_callrTF (C : Ok E x cc own Ts rm) {y : MethodName} {by1 : ByteArray} {nL1 n index : Nat} {ty : FieldType} {Ty : List Cond} {rm1 : Room} {As st0 : List Value} {post : Nat → va_W → Prop} {host : String} (M : MR E y Ty rm1 ws As post) (cf : CF y by1 nL1 (some ty) Ty n) (g : GoodIn Ts Ty) (hlk9 : Cond.methodLinkNest own index y host ∈ nestW) (hin : Cond.static y ∈ Ts) (hini : Cond.initialized y.cls ∈ Ts) (hF : Fit rm1 rm nL1) (hn : As.length = n) (hst : st0 = As.reverse ++ st) (hcat : (st.map fun v => v.category).sum ≤ 8) (d : decode cc pc = .ok (.invokestatic index, 3)) (k : ∀ (r : Nat) (w1 : va_W), post r w1 → G E x w1 lv (pc + 3) (.ref r :: st)) : G E x ws lv pc st0 := by
  obtain ⟨p, e, R, s, m, args, below, meth, c, A, nL, Q⟩ := x
  obtain ⟨hx, hb, hml, hown, hts, hK, hE, hA, hlk, hR⟩ := C
  subst hR
  intro H locs ls hP hD hS hl hnL
  obtain ⟨⟨Ty', hw⟩, hd⟩ := cf
  subst hst
  have hFr := g_freeF hD hS hA
  refine va_callr (mc := 0) (ms := 0) (va_runSN (As := As) (rest := st) ⟨hx, hb, hml, hown, hts⟩ (M H.size) (⟨va_cnB n hts g hw hF.1.1 hF.1.2 (hK.2.1 _ hlk9) (hts _ hini) hd hF.2, hts _ hin, trivial⟩) ⟨mPc_blind, g_preF hK hE hP hD hS hFr⟩ rfl hn hl.1 rfl (lv_room hcat) d ⟨Nat.zero_le _, Nat.zero_le _⟩) hS (fun q _ h => hFr q h) hFr (fun u r t H1 l1 ht hvm hp hB hz hk hS1 => ?_)
  have hB2 := hB.2
  obtain ⟨hP1, hD1⟩ := hB2
  rw [ht] at hP1
  exact k r u hB.1 H1 l1 ls hP1 (hD1.weaken (fun _ q _ h => hFr q.1 h)) hS1 hl hnL
theorem g_mmax (C : Ok E x cc own Ts rm) {index : Nat} {x1 y1 : Int32} (hw : Cond.methodLink own index Lib.Math.max.name ∈ Ts) (hw2 : Cond.static Lib.Math.max.name ∈ Ts) (hw3 : Cond.initialized "java/lang/Math" ∈ Ts) (hw4 : Cond.code Lib.Math.max.name Lib.Math.max.code 2 (some .int) ∈ Ts) (hr : 1 ≤ rm.frames ∧ (st.map fun v => v.category).sum + 13 ≤ rm.locals) (d : decode cc pc = .ok (.invokestatic index, 3)) (k : G E x ws lv (pc + 3) (.int (if x1 < y1 then y1 else x1) :: st)) : G E x ws lv pc (.int y1 :: .int x1 :: st) := by
  obtain ⟨p, e, R, s, m, args, below, meth, c, A, nL, Q⟩ := x
  obtain ⟨hx, hb, hml, hown, hts, hK, hE, hA, hlk, hR⟩ := C
  subst hR
  intro H locs ls hP hD hS hl hnL
  exact va_mmax hx hb (hml.trans hl.1.symm) hown (hts _ hw) (hts _ hw2) (hts _ hw3) (hts _ hw4) hr.1 hr.2 (Nat.zero_le _) (Nat.zero_le _) d (k H locs ls hP hD hS hl hnL)
theorem g_mmin (C : Ok E x cc own Ts rm) {index : Nat} {x1 y1 : Int32} (hw : Cond.methodLink own index Lib.Math.min.name ∈ Ts) (hw2 : Cond.static Lib.Math.min.name ∈ Ts) (hw3 : Cond.initialized "java/lang/Math" ∈ Ts) (hw4 : Cond.code Lib.Math.min.name Lib.Math.min.code 2 (some .int) ∈ Ts) (hr : 1 ≤ rm.frames ∧ (st.map fun v => v.category).sum + 13 ≤ rm.locals) (d : decode cc pc = .ok (.invokestatic index, 3)) (k : G E x ws lv (pc + 3) (.int (if y1 < x1 then y1 else x1) :: st)) : G E x ws lv pc (.int y1 :: .int x1 :: st) := by
  obtain ⟨p, e, R, s, m, args, below, meth, c, A, nL, Q⟩ := x
  obtain ⟨hx, hb, hml, hown, hts, hK, hE, hA, hlk, hR⟩ := C
  subst hR
  intro H locs ls hP hD hS hl hnL
  exact va_mmin hx hb (hml.trans hl.1.symm) hown (hts _ hw) (hts _ hw2) (hts _ hw3) (hts _ hw4) hr.1 hr.2 (Nat.zero_le _) (Nat.zero_le _) d (k H locs ls hP hD hS hl hnL)
theorem g_perm (is : List Nat) {ws' : va_W} (hnd : va_nd is = true) (h : is.map (fun i => ws[i]?) = ws'.map some) (k : G E x ws' lv pc st) : G E x ws lv pc st := by
  obtain ⟨p, e, R, s, m, args, below, meth, c, A, nL, Q⟩ := x
  intro H locs ls hP hD hS hl hnL
  exact k H locs ls (hP.sub is (pl_sub h)) (hD.sub is hnd h) hS hl hnL
theorem g_eq {ws' : va_W} {lv' : List (Option Value)} {st' : List Value} (h1 : ws = ws') (h2 : lv = lv') (h3 : st = st') (k : G E x ws' lv' pc st') : G E x ws lv pc st := by
  subst h1; subst h2; subst h3; exact k
end GR
end
