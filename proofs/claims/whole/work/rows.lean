section
-- ===== PART A: goes FIRST, ahead of the names: the tables' words, and 'selects' of the private methods out of them =====
/-- a private method of a class that the tables say can be made, by its rows of tables_1 -/
def lw_okq (q : MethodName × Nat) : Prop := (q.1.cls ≠ "java/lang/invoke/MethodHandle" ∧ q.1.cls ≠ "java/lang/invoke/VarHandle") ∧ Cond.instantiable q.1.cls q.2 ∈ tables_1 ∧ Cond.privateMethod q.1 ∈ tables_1 ∧ Cond.instanceMethod q.1 ∈ tables_1
theorem lw_p0 : lw_okq (⟨"MateKeys", "putNow", "(II)I"⟩, 16) := ⟨⟨by decide +kernel, by decide +kernel⟩, List.mem_of_getElem? (i := 17) (by decide +kernel), List.mem_of_getElem? (i := 193) (by decide +kernel), List.mem_of_getElem? (i := 194) (by decide +kernel)⟩
theorem lw_p1 : lw_okq (⟨"MateKeys", "refuse", "(II)I"⟩, 16) := ⟨⟨by decide +kernel, by decide +kernel⟩, List.mem_of_getElem? (i := 17) (by decide +kernel), List.mem_of_getElem? (i := 205) (by decide +kernel), List.mem_of_getElem? (i := 206) (by decide +kernel)⟩
theorem lw_p2 : lw_okq (⟨"MateKeys", "keep", "(I)I"⟩, 16) := ⟨⟨by decide +kernel, by decide +kernel⟩, List.mem_of_getElem? (i := 17) (by decide +kernel), List.mem_of_getElem? (i := 228) (by decide +kernel), List.mem_of_getElem? (i := 229) (by decide +kernel)⟩
theorem lw_p3 : lw_okq (⟨"MateKeys$History", "rowAt", "(I)LMateKeys$Position;"⟩, 3) := ⟨⟨by decide +kernel, by decide +kernel⟩, List.mem_of_getElem? (i := 52) (by decide +kernel), List.mem_of_getElem? (i := 236) (by decide +kernel), List.mem_of_getElem? (i := 237) (by decide +kernel)⟩
theorem lw_p4 : lw_okq (⟨"MateKeys", "liftNow", "(I)I"⟩, 16) := ⟨⟨by decide +kernel, by decide +kernel⟩, List.mem_of_getElem? (i := 17) (by decide +kernel), List.mem_of_getElem? (i := 245) (by decide +kernel), List.mem_of_getElem? (i := 246) (by decide +kernel)⟩
theorem lw_p5 : lw_okq (⟨"MateKeys", "playNow", "(II)I"⟩, 16) := ⟨⟨by decide +kernel, by decide +kernel⟩, List.mem_of_getElem? (i := 17) (by decide +kernel), List.mem_of_getElem? (i := 253) (by decide +kernel), List.mem_of_getElem? (i := 254) (by decide +kernel)⟩
theorem lw_p6 : lw_okq (⟨"MateKeys", "turnNow", "()I"⟩, 16) := ⟨⟨by decide +kernel, by decide +kernel⟩, List.mem_of_getElem? (i := 17) (by decide +kernel), List.mem_of_getElem? (i := 284) (by decide +kernel), List.mem_of_getElem? (i := 285) (by decide +kernel)⟩
theorem lw_p7 : lw_okq (⟨"MateKeys", "mirrorNow", "()I"⟩, 16) := ⟨⟨by decide +kernel, by decide +kernel⟩, List.mem_of_getElem? (i := 17) (by decide +kernel), List.mem_of_getElem? (i := 292) (by decide +kernel), List.mem_of_getElem? (i := 293) (by decide +kernel)⟩
theorem lw_p8 : lw_okq (⟨"MateKeys", "thriftNow", "()I"⟩, 16) := ⟨⟨by decide +kernel, by decide +kernel⟩, List.mem_of_getElem? (i := 17) (by decide +kernel), List.mem_of_getElem? (i := 300) (by decide +kernel), List.mem_of_getElem? (i := 301) (by decide +kernel)⟩
theorem lw_p9 : lw_okq (⟨"MateKeys$Position", "isMetIn", "(II)Z"⟩, 5) := ⟨⟨by decide +kernel, by decide +kernel⟩, List.mem_of_getElem? (i := 25) (by decide +kernel), List.mem_of_getElem? (i := 312) (by decide +kernel), List.mem_of_getElem? (i := 313) (by decide +kernel)⟩
theorem lw_p10 : lw_okq (⟨"MateKeys", "canSpare", "(I)Z"⟩, 16) := ⟨⟨by decide +kernel, by decide +kernel⟩, List.mem_of_getElem? (i := 17) (by decide +kernel), List.mem_of_getElem? (i := 340) (by decide +kernel), List.mem_of_getElem? (i := 341) (by decide +kernel)⟩
theorem lw_p11 : lw_okq (⟨"MateKeys", "fillTally", "()V"⟩, 16) := ⟨⟨by decide +kernel, by decide +kernel⟩, List.mem_of_getElem? (i := 17) (by decide +kernel), List.mem_of_getElem? (i := 424) (by decide +kernel), List.mem_of_getElem? (i := 425) (by decide +kernel)⟩
theorem lw_p12 : lw_okq (⟨"MateKeys", "countKind", "(I)V"⟩, 16) := ⟨⟨by decide +kernel, by decide +kernel⟩, List.mem_of_getElem? (i := 17) (by decide +kernel), List.mem_of_getElem? (i := 429) (by decide +kernel), List.mem_of_getElem? (i := 430) (by decide +kernel)⟩
theorem lw_p13 : lw_okq (⟨"MateKeys", "placeInOrder", "(I)I"⟩, 16) := ⟨⟨by decide +kernel, by decide +kernel⟩, List.mem_of_getElem? (i := 17) (by decide +kernel), List.mem_of_getElem? (i := 446) (by decide +kernel), List.mem_of_getElem? (i := 447) (by decide +kernel)⟩
theorem lw_p14 : lw_okq (⟨"MateKeys$Script", "dueBehind", "(II)I"⟩, 10) := ⟨⟨by decide +kernel, by decide +kernel⟩, List.mem_of_getElem? (i := 97) (by decide +kernel), List.mem_of_getElem? (i := 554) (by decide +kernel), List.mem_of_getElem? (i := 555) (by decide +kernel)⟩
theorem lw_p15 : lw_okq (⟨"MateKeys$Script", "dueBehindFirst", "(I)I"⟩, 10) := ⟨⟨by decide +kernel, by decide +kernel⟩, List.mem_of_getElem? (i := 97) (by decide +kernel), List.mem_of_getElem? (i := 558) (by decide +kernel), List.mem_of_getElem? (i := 559) (by decide +kernel)⟩
def lw_privs_1 : List (MethodName × Nat) := [(⟨"MateKeys", "putNow", "(II)I"⟩, 16), (⟨"MateKeys", "refuse", "(II)I"⟩, 16), (⟨"MateKeys", "keep", "(I)I"⟩, 16), (⟨"MateKeys$History", "rowAt", "(I)LMateKeys$Position;"⟩, 3), (⟨"MateKeys", "liftNow", "(I)I"⟩, 16), (⟨"MateKeys", "playNow", "(II)I"⟩, 16), (⟨"MateKeys", "turnNow", "()I"⟩, 16), (⟨"MateKeys", "mirrorNow", "()I"⟩, 16), (⟨"MateKeys", "thriftNow", "()I"⟩, 16), (⟨"MateKeys$Position", "isMetIn", "(II)Z"⟩, 5), (⟨"MateKeys", "canSpare", "(I)Z"⟩, 16), (⟨"MateKeys", "fillTally", "()V"⟩, 16), (⟨"MateKeys", "countKind", "(I)V"⟩, 16), (⟨"MateKeys", "placeInOrder", "(I)I"⟩, 16), (⟨"MateKeys$Script", "dueBehind", "(II)I"⟩, 10), (⟨"MateKeys$Script", "dueBehindFirst", "(I)I"⟩, 10)]
theorem lw_r1 : ∀ q ∈ lw_privs_1, lw_okq q := List.forall_mem_cons.mpr ⟨lw_p0, List.forall_mem_cons.mpr ⟨lw_p1, List.forall_mem_cons.mpr ⟨lw_p2, List.forall_mem_cons.mpr ⟨lw_p3, List.forall_mem_cons.mpr ⟨lw_p4, List.forall_mem_cons.mpr ⟨lw_p5, List.forall_mem_cons.mpr ⟨lw_p6, List.forall_mem_cons.mpr ⟨lw_p7, List.forall_mem_cons.mpr ⟨lw_p8, List.forall_mem_cons.mpr ⟨lw_p9, List.forall_mem_cons.mpr ⟨lw_p10, List.forall_mem_cons.mpr ⟨lw_p11, List.forall_mem_cons.mpr ⟨lw_p12, List.forall_mem_cons.mpr ⟨lw_p13, List.forall_mem_cons.mpr ⟨lw_p14, List.forall_mem_cons.mpr ⟨lw_p15, fun _ h => absurd h List.not_mem_nil⟩⟩⟩⟩⟩⟩⟩⟩⟩⟩⟩⟩⟩⟩⟩⟩
theorem lw_p16 : lw_okq (⟨"MateKeys$Script", "squareIn", "(I)I"⟩, 10) := ⟨⟨by decide +kernel, by decide +kernel⟩, List.mem_of_getElem? (i := 97) (by decide +kernel), List.mem_of_getElem? (i := 625) (by decide +kernel), List.mem_of_getElem? (i := 626) (by decide +kernel)⟩
theorem lw_p17 : lw_okq (⟨"MateKeys$Script", "keepCommand", "()V"⟩, 10) := ⟨⟨by decide +kernel, by decide +kernel⟩, List.mem_of_getElem? (i := 97) (by decide +kernel), List.mem_of_getElem? (i := 629) (by decide +kernel), List.mem_of_getElem? (i := 630) (by decide +kernel)⟩
theorem lw_p18 : lw_okq (⟨"MateKeys", "kindsAreAllMoves", "()Z"⟩, 16) := ⟨⟨by decide +kernel, by decide +kernel⟩, List.mem_of_getElem? (i := 17) (by decide +kernel), List.mem_of_getElem? (i := 666) (by decide +kernel), List.mem_of_getElem? (i := 667) (by decide +kernel)⟩
theorem lw_p19 : lw_okq (⟨"MateKeys", "keysLeaveNoFlight", "()Z"⟩, 16) := ⟨⟨by decide +kernel, by decide +kernel⟩, List.mem_of_getElem? (i := 17) (by decide +kernel), List.mem_of_getElem? (i := 670) (by decide +kernel), List.mem_of_getElem? (i := 671) (by decide +kernel)⟩
theorem lw_p20 : lw_okq (⟨"MateKeysModel", "keep", "()V"⟩, 22) := ⟨⟨by decide +kernel, by decide +kernel⟩, List.mem_of_getElem? (i := 703) (by decide +kernel), List.mem_of_getElem? (i := 788) (by decide +kernel), List.mem_of_getElem? (i := 789) (by decide +kernel)⟩
theorem lw_p21 : lw_okq (⟨"MateKeysModel", "doPut", "(II)I"⟩, 22) := ⟨⟨by decide +kernel, by decide +kernel⟩, List.mem_of_getElem? (i := 703) (by decide +kernel), List.mem_of_getElem? (i := 795) (by decide +kernel), List.mem_of_getElem? (i := 796) (by decide +kernel)⟩
theorem lw_p22 : lw_okq (⟨"MateKeysModel", "refuse", "(II)I"⟩, 22) := ⟨⟨by decide +kernel, by decide +kernel⟩, List.mem_of_getElem? (i := 703) (by decide +kernel), List.mem_of_getElem? (i := 802) (by decide +kernel), List.mem_of_getElem? (i := 803) (by decide +kernel)⟩
theorem lw_p23 : lw_okq (⟨"MateKeysModel", "where", "(I)I"⟩, 22) := ⟨⟨by decide +kernel, by decide +kernel⟩, List.mem_of_getElem? (i := 703) (by decide +kernel), List.mem_of_getElem? (i := 806) (by decide +kernel), List.mem_of_getElem? (i := 807) (by decide +kernel)⟩
theorem lw_p24 : lw_okq (⟨"MateKeysModel", "men", "()I"⟩, 22) := ⟨⟨by decide +kernel, by decide +kernel⟩, List.mem_of_getElem? (i := 703) (by decide +kernel), List.mem_of_getElem? (i := 810) (by decide +kernel), List.mem_of_getElem? (i := 811) (by decide +kernel)⟩
theorem lw_p25 : lw_okq (⟨"MateKeysModel", "ends", "(I)I"⟩, 22) := ⟨⟨by decide +kernel, by decide +kernel⟩, List.mem_of_getElem? (i := 703) (by decide +kernel), List.mem_of_getElem? (i := 814) (by decide +kernel), List.mem_of_getElem? (i := 815) (by decide +kernel)⟩
theorem lw_p26 : lw_okq (⟨"MateKeysModel", "doLift", "(I)I"⟩, 22) := ⟨⟨by decide +kernel, by decide +kernel⟩, List.mem_of_getElem? (i := 703) (by decide +kernel), List.mem_of_getElem? (i := 822) (by decide +kernel), List.mem_of_getElem? (i := 823) (by decide +kernel)⟩
theorem lw_p27 : lw_okq (⟨"MateKeysModel", "attackersOf", "(I)I"⟩, 22) := ⟨⟨by decide +kernel, by decide +kernel⟩, List.mem_of_getElem? (i := 703) (by decide +kernel), List.mem_of_getElem? (i := 834) (by decide +kernel), List.mem_of_getElem? (i := 835) (by decide +kernel)⟩
theorem lw_p28 : lw_okq (⟨"MateKeysModel", "away", "(III)I"⟩, 22) := ⟨⟨by decide +kernel, by decide +kernel⟩, List.mem_of_getElem? (i := 703) (by decide +kernel), List.mem_of_getElem? (i := 838) (by decide +kernel), List.mem_of_getElem? (i := 839) (by decide +kernel)⟩
theorem lw_p29 : lw_okq (⟨"MateKeysModel", "firstAt", "(III)I"⟩, 22) := ⟨⟨by decide +kernel, by decide +kernel⟩, List.mem_of_getElem? (i := 703) (by decide +kernel), List.mem_of_getElem? (i := 842) (by decide +kernel), List.mem_of_getElem? (i := 843) (by decide +kernel)⟩
theorem lw_p30 : lw_okq (⟨"MateKeysModel", "escapeSet", "()I"⟩, 22) := ⟨⟨by decide +kernel, by decide +kernel⟩, List.mem_of_getElem? (i := 703) (by decide +kernel), List.mem_of_getElem? (i := 855) (by decide +kernel), List.mem_of_getElem? (i := 856) (by decide +kernel)⟩
theorem lw_p31 : lw_okq (⟨"MateKeysModel", "canEscape", "(I)Z"⟩, 22) := ⟨⟨by decide +kernel, by decide +kernel⟩, List.mem_of_getElem? (i := 703) (by decide +kernel), List.mem_of_getElem? (i := 859) (by decide +kernel), List.mem_of_getElem? (i := 860) (by decide +kernel)⟩
def lw_privs_2 : List (MethodName × Nat) := [(⟨"MateKeys$Script", "squareIn", "(I)I"⟩, 10), (⟨"MateKeys$Script", "keepCommand", "()V"⟩, 10), (⟨"MateKeys", "kindsAreAllMoves", "()Z"⟩, 16), (⟨"MateKeys", "keysLeaveNoFlight", "()Z"⟩, 16), (⟨"MateKeysModel", "keep", "()V"⟩, 22), (⟨"MateKeysModel", "doPut", "(II)I"⟩, 22), (⟨"MateKeysModel", "refuse", "(II)I"⟩, 22), (⟨"MateKeysModel", "where", "(I)I"⟩, 22), (⟨"MateKeysModel", "men", "()I"⟩, 22), (⟨"MateKeysModel", "ends", "(I)I"⟩, 22), (⟨"MateKeysModel", "doLift", "(I)I"⟩, 22), (⟨"MateKeysModel", "attackersOf", "(I)I"⟩, 22), (⟨"MateKeysModel", "away", "(III)I"⟩, 22), (⟨"MateKeysModel", "firstAt", "(III)I"⟩, 22), (⟨"MateKeysModel", "escapeSet", "()I"⟩, 22), (⟨"MateKeysModel", "canEscape", "(I)Z"⟩, 22)]
theorem lw_r2 : ∀ q ∈ lw_privs_2, lw_okq q := List.forall_mem_cons.mpr ⟨lw_p16, List.forall_mem_cons.mpr ⟨lw_p17, List.forall_mem_cons.mpr ⟨lw_p18, List.forall_mem_cons.mpr ⟨lw_p19, List.forall_mem_cons.mpr ⟨lw_p20, List.forall_mem_cons.mpr ⟨lw_p21, List.forall_mem_cons.mpr ⟨lw_p22, List.forall_mem_cons.mpr ⟨lw_p23, List.forall_mem_cons.mpr ⟨lw_p24, List.forall_mem_cons.mpr ⟨lw_p25, List.forall_mem_cons.mpr ⟨lw_p26, List.forall_mem_cons.mpr ⟨lw_p27, List.forall_mem_cons.mpr ⟨lw_p28, List.forall_mem_cons.mpr ⟨lw_p29, List.forall_mem_cons.mpr ⟨lw_p30, List.forall_mem_cons.mpr ⟨lw_p31, fun _ h => absurd h List.not_mem_nil⟩⟩⟩⟩⟩⟩⟩⟩⟩⟩⟩⟩⟩⟩⟩⟩
theorem lw_p32 : lw_okq (⟨"MateKeysModel", "fits", "()Z"⟩, 22) := ⟨⟨by decide +kernel, by decide +kernel⟩, List.mem_of_getElem? (i := 703) (by decide +kernel), List.mem_of_getElem? (i := 874) (by decide +kernel), List.mem_of_getElem? (i := 875) (by decide +kernel)⟩
theorem lw_p33 : lw_okq (⟨"MateKeysModel", "tells", "(II)V"⟩, 22) := ⟨⟨by decide +kernel, by decide +kernel⟩, List.mem_of_getElem? (i := 703) (by decide +kernel), List.mem_of_getElem? (i := 882) (by decide +kernel), List.mem_of_getElem? (i := 883) (by decide +kernel)⟩
theorem lw_p34 : lw_okq (⟨"MateKeysModel", "isMove", "(II)Z"⟩, 22) := ⟨⟨by decide +kernel, by decide +kernel⟩, List.mem_of_getElem? (i := 703) (by decide +kernel), List.mem_of_getElem? (i := 886) (by decide +kernel), List.mem_of_getElem? (i := 887) (by decide +kernel)⟩
theorem lw_p35 : lw_okq (⟨"MateKeysModel", "attacks", "(II)Z"⟩, 22) := ⟨⟨by decide +kernel, by decide +kernel⟩, List.mem_of_getElem? (i := 703) (by decide +kernel), List.mem_of_getElem? (i := 893) (by decide +kernel), List.mem_of_getElem? (i := 894) (by decide +kernel)⟩
theorem lw_p36 : lw_okq (⟨"MateKeysModel", "kindOf", "(II)I"⟩, 22) := ⟨⟨by decide +kernel, by decide +kernel⟩, List.mem_of_getElem? (i := 703) (by decide +kernel), List.mem_of_getElem? (i := 897) (by decide +kernel), List.mem_of_getElem? (i := 898) (by decide +kernel)⟩
theorem lw_p37 : lw_okq (⟨"MateKeysModel", "areSquares", "(II)Z"⟩, 22) := ⟨⟨by decide +kernel, by decide +kernel⟩, List.mem_of_getElem? (i := 703) (by decide +kernel), List.mem_of_getElem? (i := 909) (by decide +kernel), List.mem_of_getElem? (i := 910) (by decide +kernel)⟩
theorem lw_p38 : lw_okq (⟨"MateKeysModel", "manyOf", "(I)I"⟩, 22) := ⟨⟨by decide +kernel, by decide +kernel⟩, List.mem_of_getElem? (i := 703) (by decide +kernel), List.mem_of_getElem? (i := 921) (by decide +kernel), List.mem_of_getElem? (i := 922) (by decide +kernel)⟩
theorem lw_p39 : lw_okq (⟨"MateKeysModel", "doThrift", "()I"⟩, 22) := ⟨⟨by decide +kernel, by decide +kernel⟩, List.mem_of_getElem? (i := 703) (by decide +kernel), List.mem_of_getElem? (i := 937) (by decide +kernel), List.mem_of_getElem? (i := 938) (by decide +kernel)⟩
theorem lw_p40 : lw_okq (⟨"MateKeysModel", "canSpare", "(I)Z"⟩, 22) := ⟨⟨by decide +kernel, by decide +kernel⟩, List.mem_of_getElem? (i := 703) (by decide +kernel), List.mem_of_getElem? (i := 941) (by decide +kernel), List.mem_of_getElem? (i := 942) (by decide +kernel)⟩
theorem lw_p41 : lw_okq (⟨"MateKeysModel", "countOf", "(IZ)I"⟩, 22) := ⟨⟨by decide +kernel, by decide +kernel⟩, List.mem_of_getElem? (i := 703) (by decide +kernel), List.mem_of_getElem? (i := 949) (by decide +kernel), List.mem_of_getElem? (i := 950) (by decide +kernel)⟩
theorem lw_p42 : lw_okq (⟨"MateKeysModel", "doPlay", "(II)I"⟩, 22) := ⟨⟨by decide +kernel, by decide +kernel⟩, List.mem_of_getElem? (i := 703) (by decide +kernel), List.mem_of_getElem? (i := 961) (by decide +kernel), List.mem_of_getElem? (i := 962) (by decide +kernel)⟩
theorem lw_p43 : lw_okq (⟨"MateKeysModel", "doTurn", "(Z)I"⟩, 22) := ⟨⟨by decide +kernel, by decide +kernel⟩, List.mem_of_getElem? (i := 703) (by decide +kernel), List.mem_of_getElem? (i := 969) (by decide +kernel), List.mem_of_getElem? (i := 970) (by decide +kernel)⟩
theorem lw_p44 : lw_okq (⟨"MateKeysModel", "says", "(C)V"⟩, 22) := ⟨⟨by decide +kernel, by decide +kernel⟩, List.mem_of_getElem? (i := 703) (by decide +kernel), List.mem_of_getElem? (i := 983) (by decide +kernel), List.mem_of_getElem? (i := 984) (by decide +kernel)⟩
theorem lw_p45 : lw_okq (⟨"MateKeysModel", "saysSquare", "(I)V"⟩, 22) := ⟨⟨by decide +kernel, by decide +kernel⟩, List.mem_of_getElem? (i := 703) (by decide +kernel), List.mem_of_getElem? (i := 992) (by decide +kernel), List.mem_of_getElem? (i := 993) (by decide +kernel)⟩
theorem lw_p46 : lw_okq (⟨"MateKeysModel", "readOrder", "()V"⟩, 22) := ⟨⟨by decide +kernel, by decide +kernel⟩, List.mem_of_getElem? (i := 703) (by decide +kernel), List.mem_of_getElem? (i := 1008) (by decide +kernel), List.mem_of_getElem? (i := 1009) (by decide +kernel)⟩
theorem lw_p47 : lw_okq (⟨"MateKeysModel", "square", "()I"⟩, 22) := ⟨⟨by decide +kernel, by decide +kernel⟩, List.mem_of_getElem? (i := 703) (by decide +kernel), List.mem_of_getElem? (i := 1013) (by decide +kernel), List.mem_of_getElem? (i := 1014) (by decide +kernel)⟩
def lw_privs_3 : List (MethodName × Nat) := [(⟨"MateKeysModel", "fits", "()Z"⟩, 22), (⟨"MateKeysModel", "tells", "(II)V"⟩, 22), (⟨"MateKeysModel", "isMove", "(II)Z"⟩, 22), (⟨"MateKeysModel", "attacks", "(II)Z"⟩, 22), (⟨"MateKeysModel", "kindOf", "(II)I"⟩, 22), (⟨"MateKeysModel", "areSquares", "(II)Z"⟩, 22), (⟨"MateKeysModel", "manyOf", "(I)I"⟩, 22), (⟨"MateKeysModel", "doThrift", "()I"⟩, 22), (⟨"MateKeysModel", "canSpare", "(I)Z"⟩, 22), (⟨"MateKeysModel", "countOf", "(IZ)I"⟩, 22), (⟨"MateKeysModel", "doPlay", "(II)I"⟩, 22), (⟨"MateKeysModel", "doTurn", "(Z)I"⟩, 22), (⟨"MateKeysModel", "says", "(C)V"⟩, 22), (⟨"MateKeysModel", "saysSquare", "(I)V"⟩, 22), (⟨"MateKeysModel", "readOrder", "()V"⟩, 22), (⟨"MateKeysModel", "square", "()I"⟩, 22)]
theorem lw_r3 : ∀ q ∈ lw_privs_3, lw_okq q := List.forall_mem_cons.mpr ⟨lw_p32, List.forall_mem_cons.mpr ⟨lw_p33, List.forall_mem_cons.mpr ⟨lw_p34, List.forall_mem_cons.mpr ⟨lw_p35, List.forall_mem_cons.mpr ⟨lw_p36, List.forall_mem_cons.mpr ⟨lw_p37, List.forall_mem_cons.mpr ⟨lw_p38, List.forall_mem_cons.mpr ⟨lw_p39, List.forall_mem_cons.mpr ⟨lw_p40, List.forall_mem_cons.mpr ⟨lw_p41, List.forall_mem_cons.mpr ⟨lw_p42, List.forall_mem_cons.mpr ⟨lw_p43, List.forall_mem_cons.mpr ⟨lw_p44, List.forall_mem_cons.mpr ⟨lw_p45, List.forall_mem_cons.mpr ⟨lw_p46, List.forall_mem_cons.mpr ⟨lw_p47, fun _ h => absurd h List.not_mem_nil⟩⟩⟩⟩⟩⟩⟩⟩⟩⟩⟩⟩⟩⟩⟩⟩
theorem lw_p48 : lw_okq (⟨"MateKeysModel", "signAt", "(CC)I"⟩, 22) := ⟨⟨by decide +kernel, by decide +kernel⟩, List.mem_of_getElem? (i := 703) (by decide +kernel), List.mem_of_getElem? (i := 1017) (by decide +kernel), List.mem_of_getElem? (i := 1018) (by decide +kernel)⟩
theorem lw_p49 : lw_okq (⟨"MateKeysModel", "isHere", "(CC)Z"⟩, 22) := ⟨⟨by decide +kernel, by decide +kernel⟩, List.mem_of_getElem? (i := 703) (by decide +kernel), List.mem_of_getElem? (i := 1021) (by decide +kernel), List.mem_of_getElem? (i := 1022) (by decide +kernel)⟩
theorem lw_p50 : lw_okq (⟨"MateKeysModel", "order", "(III)V"⟩, 22) := ⟨⟨by decide +kernel, by decide +kernel⟩, List.mem_of_getElem? (i := 703) (by decide +kernel), List.mem_of_getElem? (i := 1025) (by decide +kernel), List.mem_of_getElem? (i := 1026) (by decide +kernel)⟩
theorem lw_p51 : lw_okq (⟨"MateKeysModel", "does", "(I)I"⟩, 22) := ⟨⟨by decide +kernel, by decide +kernel⟩, List.mem_of_getElem? (i := 703) (by decide +kernel), List.mem_of_getElem? (i := 1029) (by decide +kernel), List.mem_of_getElem? (i := 1030) (by decide +kernel)⟩
theorem lw_p52 : lw_okq (⟨"MateKeysModel", "count", "(Z)I"⟩, 22) := ⟨⟨by decide +kernel, by decide +kernel⟩, List.mem_of_getElem? (i := 703) (by decide +kernel), List.mem_of_getElem? (i := 1037) (by decide +kernel), List.mem_of_getElem? (i := 1038) (by decide +kernel)⟩
theorem lw_p53 : lw_okq (⟨"MateKeysModel", "attacked", "()I"⟩, 22) := ⟨⟨by decide +kernel, by decide +kernel⟩, List.mem_of_getElem? (i := 703) (by decide +kernel), List.mem_of_getElem? (i := 1041) (by decide +kernel), List.mem_of_getElem? (i := 1042) (by decide +kernel)⟩
def lw_privs_4 : List (MethodName × Nat) := [(⟨"MateKeysModel", "signAt", "(CC)I"⟩, 22), (⟨"MateKeysModel", "isHere", "(CC)Z"⟩, 22), (⟨"MateKeysModel", "order", "(III)V"⟩, 22), (⟨"MateKeysModel", "does", "(I)I"⟩, 22), (⟨"MateKeysModel", "count", "(Z)I"⟩, 22), (⟨"MateKeysModel", "attacked", "()I"⟩, 22)]
theorem lw_r4 : ∀ q ∈ lw_privs_4, lw_okq q := List.forall_mem_cons.mpr ⟨lw_p48, List.forall_mem_cons.mpr ⟨lw_p49, List.forall_mem_cons.mpr ⟨lw_p50, List.forall_mem_cons.mpr ⟨lw_p51, List.forall_mem_cons.mpr ⟨lw_p52, List.forall_mem_cons.mpr ⟨lw_p53, fun _ h => absurd h List.not_mem_nil⟩⟩⟩⟩⟩⟩
def lw_privs : List (MethodName × Nat) := lw_privs_1 ++ (lw_privs_2 ++ (lw_privs_3 ++ (lw_privs_4)))
def lw_tbl : List Cond := k2_sels lw_privs ++ tables_1
theorem lw_privs_ok : ∀ q ∈ lw_privs, lw_okq q := by
  show ∀ q ∈ lw_privs_1 ++ (lw_privs_2 ++ (lw_privs_3 ++ (lw_privs_4))), lw_okq q
  exact List.forall_mem_append.mpr ⟨lw_r1, List.forall_mem_append.mpr ⟨lw_r2, List.forall_mem_append.mpr ⟨lw_r3, lw_r4⟩⟩⟩
/-- the streams that the claim lets the run draw from -/
abbrev lw_cs : List Choice := [Jvm.Choice.named "NaN.bits"]
theorem lw_bits : nanBits ∈ lw_cs := by first | decide | exact List.mem_cons_self | simp [lw_cs, nanBits]
-- ===== end of PART A; then your names; then what follows =====
end
section
def RX0 : String := "MateKeys$History"
def TX0 : u_T := fun k => match k with
  | 0 => ("MateKeys$History", "rows", "[LMateKeys$Position;", true)
  | 1 => ("MateKeys$History", "next", "I", false)
  | _ => ("MateKeys$History", "size", "I", false)
def tyX0 : Nat → FieldType := fun k => match k with
  | 0 => .array (.object "MateKeys$Position")
  | 1 => .int
  | _ => .int
abbrev wsX00 : List Cond := u_ws RX0 TX0 3
theorem nmX0 : ∀ a, a < 3 → ∀ b, b < 3 → a ≠ b → (TX0 a).2.1 ≠ (TX0 b).2.1 := by decide +kernel
theorem tyX0_ok : ∀ k, k < 3 → parseFieldDescriptor (TX0 k).2.2.1 = some (tyX0 k) := by decide +kernel
abbrev cX0_init : ByteArray := prog_2_method_1_code
def yX0_init : MethodName := ⟨RX0, "<init>", "()V"⟩
abbrev cX0_push : ByteArray := prog_2_method_2_code
def yX0_push : MethodName := ⟨RX0, "push", "(LMateKeys$Position;)V"⟩
abbrev cX0_pop : ByteArray := prog_2_method_3_code
def yX0_pop : MethodName := ⟨RX0, "pop", "(LMateKeys$Position;)V"⟩
abbrev cX0_clear : ByteArray := prog_2_method_4_code
def yX0_clear : MethodName := ⟨RX0, "clear", "()V"⟩
abbrev cX0_rowAt : ByteArray := prog_2_method_5_code
def yX0_rowAt : MethodName := ⟨RX0, "rowAt", "(I)LMateKeys$Position;"⟩
def RX1 : String := "MateKeys$Line"
def TX1 : u_T := fun k => match k with
  | 0 => ("MateKeys$Line", "codes", "[I", true)
  | _ => ("MateKeys$Line", "length", "I", false)
def tyX1 : Nat → FieldType := fun k => match k with
  | 0 => .array .int
  | _ => .int
abbrev wsX10 : List Cond := u_ws RX1 TX1 2
theorem nmX1 : ∀ a, a < 2 → ∀ b, b < 2 → a ≠ b → (TX1 a).2.1 ≠ (TX1 b).2.1 := by decide +kernel
theorem tyX1_ok : ∀ k, k < 2 → parseFieldDescriptor (TX1 k).2.2.1 = some (tyX1 k) := by decide +kernel
abbrev cX1_init : ByteArray := prog_3_method_1_code
def yX1_init : MethodName := ⟨RX1, "<init>", "()V"⟩
abbrev cX1_clear : ByteArray := prog_3_method_2_code
def yX1_clear : MethodName := ⟨RX1, "clear", "()V"⟩
abbrev cX1_write : ByteArray := prog_3_method_3_code
def yX1_write : MethodName := ⟨RX1, "write", "(I)V"⟩
abbrev cX1_writeMan : ByteArray := prog_3_method_4_code
def yX1_writeMan : MethodName := ⟨RX1, "writeMan", "(I)V"⟩
abbrev cX1_writeSquare : ByteArray := prog_3_method_5_code
def yX1_writeSquare : MethodName := ⟨RX1, "writeSquare", "(I)V"⟩
abbrev cX1_writeMoveSign : ByteArray := prog_3_method_6_code
def yX1_writeMoveSign : MethodName := ⟨RX1, "writeMoveSign", "(I)V"⟩
abbrev cX1_codeAt : ByteArray := prog_3_method_7_code
def yX1_codeAt : MethodName := ⟨RX1, "codeAt", "(I)I"⟩
def RX2 : String := "MateKeys$MoveTable"
def TX2 : u_T := fun k => match k with
  | _ => ("MateKeys$MoveTable", "targets", "[I", true)
def tyX2 : Nat → FieldType := fun k => match k with
  | _ => .array .int
abbrev wsX20 : List Cond := u_ws RX2 TX2 1
theorem nmX2 : ∀ a, a < 1 → ∀ b, b < 1 → a ≠ b → (TX2 a).2.1 ≠ (TX2 b).2.1 := by decide +kernel
theorem tyX2_ok : ∀ k, k < 1 → parseFieldDescriptor (TX2 k).2.2.1 = some (tyX2 k) := by decide +kernel
abbrev cX2_init : ByteArray := prog_4_method_1_code
def yX2_init : MethodName := ⟨RX2, "<init>", "()V"⟩
abbrev cX2_fillWithMoves : ByteArray := prog_4_method_2_code
def yX2_fillWithMoves : MethodName := ⟨RX2, "fillWithMoves", "(LMateKeys$Position;)V"⟩
abbrev cX2_fillWithKeys : ByteArray := prog_4_method_3_code
def yX2_fillWithKeys : MethodName := ⟨RX2, "fillWithKeys", "(LMateKeys$Position;)V"⟩
abbrev cX2_count : ByteArray := prog_4_method_4_code
def yX2_count : MethodName := ⟨RX2, "count", "()I"⟩
abbrev cX2_pick : ByteArray := prog_4_method_5_code
def yX2_pick : MethodName := ⟨RX2, "pick", "(I)I"⟩
def RX3 : String := "MateKeys$Position"
def TX3 : u_T := fun k => match k with
  | 0 => ("MateKeys$Position", "men", "[I", true)
  | 1 => ("MateKeys$Position", "played", "I", false)
  | 2 => ("MateKeys$Position", "taken", "I", false)
  | 3 => ("MateKeys$Position", "spared", "I", false)
  | _ => ("MateKeys$Position", "turned", "I", false)
def tyX3 : Nat → FieldType := fun k => match k with
  | 0 => .array .int
  | 1 => .int
  | 2 => .int
  | 3 => .int
  | _ => .int
abbrev wsX30 : List Cond := u_ws RX3 TX3 5
theorem nmX3 : ∀ a, a < 5 → ∀ b, b < 5 → a ≠ b → (TX3 a).2.1 ≠ (TX3 b).2.1 := by decide +kernel
theorem tyX3_ok : ∀ k, k < 5 → parseFieldDescriptor (TX3 k).2.2.1 = some (tyX3 k) := by decide +kernel
abbrev cX3_init : ByteArray := prog_5_method_1_code
def yX3_init : MethodName := ⟨RX3, "<init>", "()V"⟩
abbrev cX3_copyFrom : ByteArray := prog_5_method_2_code
def yX3_copyFrom : MethodName := ⟨RX3, "copyFrom", "(LMateKeys$Position;)V"⟩
abbrev cX3_manOn : ByteArray := prog_5_method_3_code
def yX3_manOn : MethodName := ⟨RX3, "manOn", "(I)I"⟩
abbrev cX3_setMan : ByteArray := prog_5_method_4_code
def yX3_setMan : MethodName := ⟨RX3, "setMan", "(II)V"⟩
abbrev cX3_countAll : ByteArray := prog_5_method_5_code
def yX3_countAll : MethodName := ⟨RX3, "countAll", "()I"⟩
abbrev cX3_countKinds : ByteArray := prog_5_method_6_code
def yX3_countKinds : MethodName := ⟨RX3, "countKinds", "(II)I"⟩
abbrev cX3_squareOf : ByteArray := prog_5_method_7_code
def yX3_squareOf : MethodName := ⟨RX3, "squareOf", "(I)I"⟩
abbrev cX3_fits : ByteArray := prog_5_method_8_code
def yX3_fits : MethodName := ⟨RX3, "fits", "()Z"⟩
abbrev cX3_reach : ByteArray := prog_5_method_9_code
def yX3_reach : MethodName := ⟨RX3, "reach", "(I)I"⟩
abbrev cX3_covered : ByteArray := prog_5_method_10_code
def yX3_covered : MethodName := ⟨RX3, "covered", "()I"⟩
abbrev cX3_countManByMan : ByteArray := prog_5_method_11_code
def yX3_countManByMan : MethodName := ⟨RX3, "countManByMan", "(I)I"⟩
abbrev cX3_countLineByLine : ByteArray := prog_5_method_12_code
def yX3_countLineByLine : MethodName := ⟨RX3, "countLineByLine", "(I)I"⟩
abbrev cX3_isMetIn : ByteArray := prog_5_method_13_code
def yX3_isMetIn : MethodName := ⟨RX3, "isMetIn", "(II)Z"⟩
abbrev cX3_attacksAlong : ByteArray := prog_5_method_14_code
def yX3_attacksAlong : MethodName := ⟨RX3, "attacksAlong", "(III)Z"⟩
abbrev cX3_movesFrom : ByteArray := prog_5_method_15_code
def yX3_movesFrom : MethodName := ⟨RX3, "movesFrom", "(I)I"⟩
abbrev cX3_hasMove : ByteArray := prog_5_method_16_code
def yX3_hasMove : MethodName := ⟨RX3, "hasMove", "(II)Z"⟩
abbrev cX3_outlook : ByteArray := prog_5_method_17_code
def yX3_outlook : MethodName := ⟨RX3, "outlook", "()I"⟩
abbrev cX3_outlookBehind : ByteArray := prog_5_method_18_code
def yX3_outlookBehind : MethodName := ⟨RX3, "outlookBehind", "(II)I"⟩
abbrev cX3_kindOfMove : ByteArray := prog_5_method_19_code
def yX3_kindOfMove : MethodName := ⟨RX3, "kindOfMove", "(II)I"⟩
abbrev cX3_keysFrom : ByteArray := prog_5_method_20_code
def yX3_keysFrom : MethodName := ⟨RX3, "keysFrom", "(I)I"⟩
def RX4 : String := "MateKeys$Script"
def TX4 : u_T := fun k => match k with
  | 0 => ("MateKeys$Script", "codes", "[I", true)
  | 1 => ("MateKeys$Script", "length", "I", false)
  | 2 => ("MateKeys$Script", "whats", "[I", true)
  | 3 => ("MateKeys$Script", "origins", "[I", true)
  | 4 => ("MateKeys$Script", "squares", "[I", true)
  | 5 => ("MateKeys$Script", "commands", "I", false)
  | 6 => ("MateKeys$Script", "what", "I", false)
  | 7 => ("MateKeys$Script", "column", "I", false)
  | 8 => ("MateKeys$Script", "origin", "I", false)
  | _ => ("MateKeys$Script", "square", "I", false)
def tyX4 : Nat → FieldType := fun k => match k with
  | 0 => .array .int
  | 1 => .int
  | 2 => .array .int
  | 3 => .array .int
  | 4 => .array .int
  | 5 => .int
  | 6 => .int
  | 7 => .int
  | 8 => .int
  | _ => .int
abbrev wsX40 : List Cond := u_ws RX4 TX4 10
theorem nmX4 : ∀ a, a < 10 → ∀ b, b < 10 → a ≠ b → (TX4 a).2.1 ≠ (TX4 b).2.1 := by decide +kernel
theorem tyX4_ok : ∀ k, k < 10 → parseFieldDescriptor (TX4 k).2.2.1 = some (tyX4 k) := by decide +kernel
abbrev cX4_init : ByteArray := prog_6_method_1_code
def yX4_init : MethodName := ⟨RX4, "<init>", "()V"⟩
abbrev cX4_add : ByteArray := prog_6_method_2_code
def yX4_add : MethodName := ⟨RX4, "add", "(I)I"⟩
abbrev cX4_clear : ByteArray := prog_6_method_3_code
def yX4_clear : MethodName := ⟨RX4, "clear", "()V"⟩
abbrev cX4_findFault : ByteArray := prog_6_method_4_code
def yX4_findFault : MethodName := ⟨RX4, "findFault", "()I"⟩
abbrev cX4_keepCommand : ByteArray := prog_6_method_5_code
def yX4_keepCommand : MethodName := ⟨RX4, "keepCommand", "()V"⟩
abbrev cX4_dueBehind : ByteArray := prog_6_method_6_code
def yX4_dueBehind : MethodName := ⟨RX4, "dueBehind", "(II)I"⟩
abbrev cX4_dueBehindFirst : ByteArray := prog_6_method_7_code
def yX4_dueBehindFirst : MethodName := ⟨RX4, "dueBehindFirst", "(I)I"⟩
abbrev cX4_squareIn : ByteArray := prog_6_method_8_code
def yX4_squareIn : MethodName := ⟨RX4, "squareIn", "(I)I"⟩
abbrev cX4_isLine : ByteArray := prog_6_method_9_code
def yX4_isLine : MethodName := ⟨RX4, "isLine", "(I)Z"⟩
abbrev cX4_whatOf : ByteArray := prog_6_method_10_code
def yX4_whatOf : MethodName := ⟨RX4, "whatOf", "(I)I"⟩
abbrev cX4_originOf : ByteArray := prog_6_method_11_code
def yX4_originOf : MethodName := ⟨RX4, "originOf", "(I)I"⟩
abbrev cX4_squareOf : ByteArray := prog_6_method_12_code
def yX4_squareOf : MethodName := ⟨RX4, "squareOf", "(I)I"⟩
def RX5 : String := "MateKeys"
def TX5 : u_T := fun k => match k with
  | 0 => ("MateKeys", "now", "LMateKeys$Position;", true)
  | 1 => ("MateKeys", "before", "LMateKeys$Position;", true)
  | 2 => ("MateKeys", "trial", "LMateKeys$Position;", true)
  | 3 => ("MateKeys", "saved", "LMateKeys$Position;", true)
  | 4 => ("MateKeys", "hasSaved", "Z", false)
  | 5 => ("MateKeys", "history", "LMateKeys$History;", true)
  | 6 => ("MateKeys", "moves", "LMateKeys$MoveTable;", true)
  | 7 => ("MateKeys", "keys", "LMateKeys$MoveTable;", true)
  | 8 => ("MateKeys", "tally", "[I", true)
  | 9 => ("MateKeys", "moveCounts", "[I", true)
  | 10 => ("MateKeys", "line", "LMateKeys$Line;", true)
  | 11 => ("MateKeys", "script", "LMateKeys$Script;", true)
  | 12 => ("MateKeys", "command", "I", false)
  | 13 => ("MateKeys", "reason", "I", false)
  | 14 => ("MateKeys", "detail", "I", false)
  | _ => ("MateKeys", "refusedCommand", "I", false)
def tyX5 : Nat → FieldType := fun k => match k with
  | 0 => .object "MateKeys$Position"
  | 1 => .object "MateKeys$Position"
  | 2 => .object "MateKeys$Position"
  | 3 => .object "MateKeys$Position"
  | 4 => .boolean
  | 5 => .object "MateKeys$History"
  | 6 => .object "MateKeys$MoveTable"
  | 7 => .object "MateKeys$MoveTable"
  | 8 => .array .int
  | 9 => .array .int
  | 10 => .object "MateKeys$Line"
  | 11 => .object "MateKeys$Script"
  | 12 => .int
  | 13 => .int
  | 14 => .int
  | _ => .int
abbrev wsX50 : List Cond := u_ws RX5 TX5 16
theorem nmX5 : ∀ a, a < 16 → ∀ b, b < 16 → a ≠ b → (TX5 a).2.1 ≠ (TX5 b).2.1 := by decide +kernel
theorem tyX5_ok : ∀ k, k < 16 → parseFieldDescriptor (TX5 k).2.2.1 = some (tyX5 k) := by decide +kernel
abbrev cX5_init : ByteArray := prog_1_method_1_code
def yX5_init : MethodName := ⟨RX5, "<init>", "()V"⟩
abbrev cX5_put : ByteArray := prog_1_method_2_code
def yX5_put : MethodName := ⟨RX5, "put", "(II)I"⟩
abbrev cX5_lift : ByteArray := prog_1_method_3_code
def yX5_lift : MethodName := ⟨RX5, "lift", "(I)I"⟩
abbrev cX5_play : ByteArray := prog_1_method_4_code
def yX5_play : MethodName := ⟨RX5, "play", "(II)I"⟩
abbrev cX5_turn : ByteArray := prog_1_method_5_code
def yX5_turn : MethodName := ⟨RX5, "turn", "()I"⟩
abbrev cX5_mirror : ByteArray := prog_1_method_6_code
def yX5_mirror : MethodName := ⟨RX5, "mirror", "()I"⟩
abbrev cX5_thrift : ByteArray := prog_1_method_7_code
def yX5_thrift : MethodName := ⟨RX5, "thrift", "()I"⟩
abbrev cX5_at : ByteArray := prog_1_method_8_code
def yX5_at : MethodName := ⟨RX5, "at", "(I)I"⟩
abbrev cX5_attackers : ByteArray := prog_1_method_9_code
def yX5_attackers : MethodName := ⟨RX5, "attackers", "(I)I"⟩
abbrev cX5_attackersAgain : ByteArray := prog_1_method_10_code
def yX5_attackersAgain : MethodName := ⟨RX5, "attackersAgain", "(I)I"⟩
abbrev cX5_manOf : ByteArray := prog_1_method_11_code
def yX5_manOf : MethodName := ⟨RX5, "manOf", "(II)I"⟩
abbrev cX5_move : ByteArray := prog_1_method_12_code
def yX5_move : MethodName := ⟨RX5, "move", "(I)I"⟩
abbrev cX5_escapes : ByteArray := prog_1_method_13_code
def yX5_escapes : MethodName := ⟨RX5, "escapes", "()I"⟩
abbrev cX5_isFit : ByteArray := prog_1_method_14_code
def yX5_isFit : MethodName := ⟨RX5, "isFit", "()I"⟩
abbrev cX5_key : ByteArray := prog_1_method_15_code
def yX5_key : MethodName := ⟨RX5, "key", "(I)I"⟩
abbrev cX5_kind : ByteArray := prog_1_method_16_code
def yX5_kind : MethodName := ⟨RX5, "kind", "(II)I"⟩
abbrev cX5_refutation : ByteArray := prog_1_method_17_code
def yX5_refutation : MethodName := ⟨RX5, "refutation", "(II)I"⟩
abbrev cX5_many : ByteArray := prog_1_method_18_code
def yX5_many : MethodName := ⟨RX5, "many", "(I)I"⟩
abbrev cX5_duals : ByteArray := prog_1_method_19_code
def yX5_duals : MethodName := ⟨RX5, "duals", "()I"⟩
abbrev cX5_would : ByteArray := prog_1_method_20_code
def yX5_would : MethodName := ⟨RX5, "would", "(II)I"⟩
abbrev cX5_ranked : ByteArray := prog_1_method_21_code
def yX5_ranked : MethodName := ⟨RX5, "ranked", "(I)I"⟩
abbrev cX5_show : ByteArray := prog_1_method_22_code
def yX5_show : MethodName := ⟨RX5, "show", "()I"⟩
abbrev cX5_tell : ByteArray := prog_1_method_23_code
def yX5_tell : MethodName := ⟨RX5, "tell", "(II)I"⟩
abbrev cX5_sign : ByteArray := prog_1_method_24_code
def yX5_sign : MethodName := ⟨RX5, "sign", "(I)I"⟩
abbrev cX5_append : ByteArray := prog_1_method_25_code
def yX5_append : MethodName := ⟨RX5, "append", "(I)I"⟩
abbrev cX5_read : ByteArray := prog_1_method_26_code
def yX5_read : MethodName := ⟨RX5, "read", "()I"⟩
abbrev cX5_refusal : ByteArray := prog_1_method_27_code
def yX5_refusal : MethodName := ⟨RX5, "refusal", "(I)I"⟩
abbrev cX5_account : ByteArray := prog_1_method_28_code
def yX5_account : MethodName := ⟨RX5, "account", "(I)I"⟩
abbrev cX5_isWell : ByteArray := prog_1_method_29_code
def yX5_isWell : MethodName := ⟨RX5, "isWell", "()I"⟩
abbrev cX5_share : ByteArray := prog_1_method_30_code
def yX5_share : MethodName := ⟨RX5, "share", "()I"⟩
abbrev cX5_undo : ByteArray := prog_1_method_31_code
def yX5_undo : MethodName := ⟨RX5, "undo", "()I"⟩
abbrev cX5_save : ByteArray := prog_1_method_32_code
def yX5_save : MethodName := ⟨RX5, "save", "()I"⟩
abbrev cX5_restore : ByteArray := prog_1_method_33_code
def yX5_restore : MethodName := ⟨RX5, "restore", "()I"⟩
abbrev cX5_putNow : ByteArray := prog_1_method_34_code
def yX5_putNow : MethodName := ⟨RX5, "putNow", "(II)I"⟩
abbrev cX5_liftNow : ByteArray := prog_1_method_35_code
def yX5_liftNow : MethodName := ⟨RX5, "liftNow", "(I)I"⟩
abbrev cX5_playNow : ByteArray := prog_1_method_36_code
def yX5_playNow : MethodName := ⟨RX5, "playNow", "(II)I"⟩
abbrev cX5_turnNow : ByteArray := prog_1_method_37_code
def yX5_turnNow : MethodName := ⟨RX5, "turnNow", "()I"⟩
abbrev cX5_mirrorNow : ByteArray := prog_1_method_38_code
def yX5_mirrorNow : MethodName := ⟨RX5, "mirrorNow", "()I"⟩
abbrev cX5_thriftNow : ByteArray := prog_1_method_39_code
def yX5_thriftNow : MethodName := ⟨RX5, "thriftNow", "()I"⟩
abbrev cX5_keep : ByteArray := prog_1_method_40_code
def yX5_keep : MethodName := ⟨RX5, "keep", "(I)I"⟩
abbrev cX5_refuse : ByteArray := prog_1_method_41_code
def yX5_refuse : MethodName := ⟨RX5, "refuse", "(II)I"⟩
abbrev cX5_canSpare : ByteArray := prog_1_method_42_code
def yX5_canSpare : MethodName := ⟨RX5, "canSpare", "(I)Z"⟩
abbrev cX5_fillTally : ByteArray := prog_1_method_43_code
def yX5_fillTally : MethodName := ⟨RX5, "fillTally", "()V"⟩
abbrev cX5_countKind : ByteArray := prog_1_method_44_code
def yX5_countKind : MethodName := ⟨RX5, "countKind", "(I)V"⟩
abbrev cX5_kindsAreAllMoves : ByteArray := prog_1_method_45_code
def yX5_kindsAreAllMoves : MethodName := ⟨RX5, "kindsAreAllMoves", "()Z"⟩
abbrev cX5_keysLeaveNoFlight : ByteArray := prog_1_method_46_code
def yX5_keysLeaveNoFlight : MethodName := ⟨RX5, "keysLeaveNoFlight", "()Z"⟩
abbrev cX5_placeInOrder : ByteArray := prog_1_method_47_code
def yX5_placeInOrder : MethodName := ⟨RX5, "placeInOrder", "(I)I"⟩
abbrev cX5_isSquare : ByteArray := prog_1_method_48_code
def yX5_isSquare : MethodName := ⟨RX5, "isSquare", "(I)Z"⟩
abbrev cX5_isWhite : ByteArray := prog_1_method_49_code
def yX5_isWhite : MethodName := ⟨RX5, "isWhite", "(I)Z"⟩
abbrev cX5_isKing : ByteArray := prog_1_method_50_code
def yX5_isKing : MethodName := ⟨RX5, "isKing", "(I)Z"⟩
abbrev cX5_hasSquare : ByteArray := prog_1_method_51_code
def yX5_hasSquare : MethodName := ⟨RX5, "hasSquare", "(II)Z"⟩
abbrev cX5_squaresIn : ByteArray := prog_1_method_52_code
def yX5_squaresIn : MethodName := ⟨RX5, "squaresIn", "(I)I"⟩
abbrev cX5_bitsOf : ByteArray := prog_1_method_53_code
def yX5_bitsOf : MethodName := ⟨RX5, "bitsOf", "(I)I"⟩
abbrev cX5_lowestIn : ByteArray := prog_1_method_54_code
def yX5_lowestIn : MethodName := ⟨RX5, "lowestIn", "(I)I"⟩
abbrev cX5_bitsOfShare : ByteArray := prog_1_method_55_code
def yX5_bitsOfShare : MethodName := ⟨RX5, "bitsOfShare", "(F)I"⟩
def RX6 : String := "MateKeysModel"
def TX6 : u_T := fun k => match k with
  | 0 => ("MateKeysModel", "s", "[I", true)
  | 1 => ("MateKeysModel", "before", "[I", true)
  | 2 => ("MateKeysModel", "saved", "[I", true)
  | 3 => ("MateKeysModel", "isSaved", "Z", false)
  | 4 => ("MateKeysModel", "past", "[I", true)
  | 5 => ("MateKeysModel", "pastMany", "I", false)
  | 6 => ("MateKeysModel", "reason", "I", false)
  | 7 => ("MateKeysModel", "detail", "I", false)
  | 8 => ("MateKeysModel", "item", "I", false)
  | 9 => ("MateKeysModel", "lowest", "I", false)
  | 10 => ("MateKeysModel", "moves", "[I", true)
  | 11 => ("MateKeysModel", "moveMany", "I", false)
  | 12 => ("MateKeysModel", "keys", "[I", true)
  | 13 => ("MateKeysModel", "turned", "[I", true)
  | 14 => ("MateKeysModel", "line", "[C", true)
  | 15 => ("MateKeysModel", "lineMany", "I", false)
  | 16 => ("MateKeysModel", "text", "[C", true)
  | 17 => ("MateKeysModel", "length", "I", false)
  | 18 => ("MateKeysModel", "at", "I", false)
  | 19 => ("MateKeysModel", "isWrong", "Z", false)
  | 20 => ("MateKeysModel", "orders", "[I", true)
  | _ => ("MateKeysModel", "orderMany", "I", false)
def tyX6 : Nat → FieldType := fun k => match k with
  | 0 => .array .int
  | 1 => .array .int
  | 2 => .array .int
  | 3 => .boolean
  | 4 => .array .int
  | 5 => .int
  | 6 => .int
  | 7 => .int
  | 8 => .int
  | 9 => .int
  | 10 => .array .int
  | 11 => .int
  | 12 => .array .int
  | 13 => .array .int
  | 14 => .array .char
  | 15 => .int
  | 16 => .array .char
  | 17 => .int
  | 18 => .int
  | 19 => .boolean
  | 20 => .array .int
  | _ => .int
abbrev wsX60 : List Cond := u_ws RX6 TX6 22
theorem nmX6 : ∀ a, a < 22 → ∀ b, b < 22 → a ≠ b → (TX6 a).2.1 ≠ (TX6 b).2.1 := by decide +kernel
theorem tyX6_ok : ∀ k, k < 22 → parseFieldDescriptor (TX6 k).2.2.1 = some (tyX6 k) := by decide +kernel
abbrev cX6_init : ByteArray := prog_8_method_1_code
def yX6_init : MethodName := ⟨RX6, "<init>", "()V"⟩
abbrev cX6_in : ByteArray := prog_8_method_2_code
def yX6_in : MethodName := ⟨RX6, "in", "(III)Z"⟩
abbrev cX6_keep : ByteArray := prog_8_method_3_code
def yX6_keep : MethodName := ⟨RX6, "keep", "()V"⟩
abbrev cX6_ends : ByteArray := prog_8_method_4_code
def yX6_ends : MethodName := ⟨RX6, "ends", "(I)I"⟩
abbrev cX6_refuse : ByteArray := prog_8_method_5_code
def yX6_refuse : MethodName := ⟨RX6, "refuse", "(II)I"⟩
abbrev cX6_refusal : ByteArray := prog_8_method_6_code
def yX6_refusal : MethodName := ⟨RX6, "refusal", "(I)I"⟩
abbrev cX6_isSquare : ByteArray := prog_8_method_7_code
def yX6_isSquare : MethodName := ⟨RX6, "isSquare", "(I)Z"⟩
abbrev cX6_isWhite : ByteArray := prog_8_method_8_code
def yX6_isWhite : MethodName := ⟨RX6, "isWhite", "(I)Z"⟩
abbrev cX6_where : ByteArray := prog_8_method_9_code
def yX6_where : MethodName := ⟨RX6, "where", "(I)I"⟩
abbrev cX6_men : ByteArray := prog_8_method_10_code
def yX6_men : MethodName := ⟨RX6, "men", "()I"⟩
abbrev cX6_doPut : ByteArray := prog_8_method_11_code
def yX6_doPut : MethodName := ⟨RX6, "doPut", "(II)I"⟩
abbrev cX6_put : ByteArray := prog_8_method_12_code
def yX6_put : MethodName := ⟨RX6, "put", "(II)I"⟩
abbrev cX6_doLift : ByteArray := prog_8_method_13_code
def yX6_doLift : MethodName := ⟨RX6, "doLift", "(I)I"⟩
abbrev cX6_lift : ByteArray := prog_8_method_14_code
def yX6_lift : MethodName := ⟨RX6, "lift", "(I)I"⟩
abbrev cX6_at : ByteArray := prog_8_method_15_code
def yX6_at : MethodName := ⟨RX6, "at", "(I)I"⟩
abbrev cX6_away : ByteArray := prog_8_method_16_code
def yX6_away : MethodName := ⟨RX6, "away", "(III)I"⟩
abbrev cX6_firstAt : ByteArray := prog_8_method_17_code
def yX6_firstAt : MethodName := ⟨RX6, "firstAt", "(III)I"⟩
abbrev cX6_attackersOf : ByteArray := prog_8_method_18_code
def yX6_attackersOf : MethodName := ⟨RX6, "attackersOf", "(I)I"⟩
abbrev cX6_attacks : ByteArray := prog_8_method_19_code
def yX6_attacks : MethodName := ⟨RX6, "attacks", "(II)Z"⟩
abbrev cX6_areBeside : ByteArray := prog_8_method_20_code
def yX6_areBeside : MethodName := ⟨RX6, "areBeside", "(II)Z"⟩
abbrev cX6_isMove : ByteArray := prog_8_method_21_code
def yX6_isMove : MethodName := ⟨RX6, "isMove", "(II)Z"⟩
abbrev cX6_countOf : ByteArray := prog_8_method_22_code
def yX6_countOf : MethodName := ⟨RX6, "countOf", "(IZ)I"⟩
abbrev cX6_attackers : ByteArray := prog_8_method_23_code
def yX6_attackers : MethodName := ⟨RX6, "attackers", "(I)I"⟩
abbrev cX6_attackersAgain : ByteArray := prog_8_method_24_code
def yX6_attackersAgain : MethodName := ⟨RX6, "attackersAgain", "(I)I"⟩
abbrev cX6_canEscape : ByteArray := prog_8_method_25_code
def yX6_canEscape : MethodName := ⟨RX6, "canEscape", "(I)Z"⟩
abbrev cX6_escapeSet : ByteArray := prog_8_method_26_code
def yX6_escapeSet : MethodName := ⟨RX6, "escapeSet", "()I"⟩
abbrev cX6_escapes : ByteArray := prog_8_method_27_code
def yX6_escapes : MethodName := ⟨RX6, "escapes", "()I"⟩
abbrev cX6_fits : ByteArray := prog_8_method_28_code
def yX6_fits : MethodName := ⟨RX6, "fits", "()Z"⟩
abbrev cX6_isFit : ByteArray := prog_8_method_29_code
def yX6_isFit : MethodName := ⟨RX6, "isFit", "()I"⟩
abbrev cX6_kindOf : ByteArray := prog_8_method_30_code
def yX6_kindOf : MethodName := ⟨RX6, "kindOf", "(II)I"⟩
abbrev cX6_tells : ByteArray := prog_8_method_31_code
def yX6_tells : MethodName := ⟨RX6, "tells", "(II)V"⟩
abbrev cX6_move : ByteArray := prog_8_method_32_code
def yX6_move : MethodName := ⟨RX6, "move", "(I)I"⟩
abbrev cX6_key : ByteArray := prog_8_method_33_code
def yX6_key : MethodName := ⟨RX6, "key", "(I)I"⟩
abbrev cX6_areSquares : ByteArray := prog_8_method_34_code
def yX6_areSquares : MethodName := ⟨RX6, "areSquares", "(II)Z"⟩
abbrev cX6_kind : ByteArray := prog_8_method_35_code
def yX6_kind : MethodName := ⟨RX6, "kind", "(II)I"⟩
abbrev cX6_refutation : ByteArray := prog_8_method_36_code
def yX6_refutation : MethodName := ⟨RX6, "refutation", "(II)I"⟩
abbrev cX6_manyOf : ByteArray := prog_8_method_37_code
def yX6_manyOf : MethodName := ⟨RX6, "manyOf", "(I)I"⟩
abbrev cX6_many : ByteArray := prog_8_method_38_code
def yX6_many : MethodName := ⟨RX6, "many", "(I)I"⟩
abbrev cX6_duals : ByteArray := prog_8_method_39_code
def yX6_duals : MethodName := ⟨RX6, "duals", "()I"⟩
abbrev cX6_would : ByteArray := prog_8_method_40_code
def yX6_would : MethodName := ⟨RX6, "would", "(II)I"⟩
abbrev cX6_canSpare : ByteArray := prog_8_method_41_code
def yX6_canSpare : MethodName := ⟨RX6, "canSpare", "(I)Z"⟩
abbrev cX6_doThrift : ByteArray := prog_8_method_42_code
def yX6_doThrift : MethodName := ⟨RX6, "doThrift", "()I"⟩
abbrev cX6_thrift : ByteArray := prog_8_method_43_code
def yX6_thrift : MethodName := ⟨RX6, "thrift", "()I"⟩
abbrev cX6_manOf : ByteArray := prog_8_method_44_code
def yX6_manOf : MethodName := ⟨RX6, "manOf", "(II)I"⟩
abbrev cX6_ranked : ByteArray := prog_8_method_45_code
def yX6_ranked : MethodName := ⟨RX6, "ranked", "(I)I"⟩
abbrev cX6_doPlay : ByteArray := prog_8_method_46_code
def yX6_doPlay : MethodName := ⟨RX6, "doPlay", "(II)I"⟩
abbrev cX6_play : ByteArray := prog_8_method_47_code
def yX6_play : MethodName := ⟨RX6, "play", "(II)I"⟩
abbrev cX6_doTurn : ByteArray := prog_8_method_48_code
def yX6_doTurn : MethodName := ⟨RX6, "doTurn", "(Z)I"⟩
abbrev cX6_turn : ByteArray := prog_8_method_49_code
def yX6_turn : MethodName := ⟨RX6, "turn", "()I"⟩
abbrev cX6_mirror : ByteArray := prog_8_method_50_code
def yX6_mirror : MethodName := ⟨RX6, "mirror", "()I"⟩
abbrev cX6_says : ByteArray := prog_8_method_51_code
def yX6_says : MethodName := ⟨RX6, "says", "(C)V"⟩
abbrev cX6_show : ByteArray := prog_8_method_52_code
def yX6_show : MethodName := ⟨RX6, "show", "()I"⟩
abbrev cX6_saysSquare : ByteArray := prog_8_method_53_code
def yX6_saysSquare : MethodName := ⟨RX6, "saysSquare", "(I)V"⟩
abbrev cX6_tell : ByteArray := prog_8_method_54_code
def yX6_tell : MethodName := ⟨RX6, "tell", "(II)I"⟩
abbrev cX6_sign : ByteArray := prog_8_method_55_code
def yX6_sign : MethodName := ⟨RX6, "sign", "(I)I"⟩
abbrev cX6_append : ByteArray := prog_8_method_56_code
def yX6_append : MethodName := ⟨RX6, "append", "(I)I"⟩
abbrev cX6_isHere : ByteArray := prog_8_method_57_code
def yX6_isHere : MethodName := ⟨RX6, "isHere", "(CC)Z"⟩
abbrev cX6_signAt : ByteArray := prog_8_method_58_code
def yX6_signAt : MethodName := ⟨RX6, "signAt", "(CC)I"⟩
abbrev cX6_square : ByteArray := prog_8_method_59_code
def yX6_square : MethodName := ⟨RX6, "square", "()I"⟩
abbrev cX6_order : ByteArray := prog_8_method_60_code
def yX6_order : MethodName := ⟨RX6, "order", "(III)V"⟩
abbrev cX6_readOrder : ByteArray := prog_8_method_61_code
def yX6_readOrder : MethodName := ⟨RX6, "readOrder", "()V"⟩
abbrev cX6_does : ByteArray := prog_8_method_62_code
def yX6_does : MethodName := ⟨RX6, "does", "(I)I"⟩
abbrev cX6_read : ByteArray := prog_8_method_63_code
def yX6_read : MethodName := ⟨RX6, "read", "()I"⟩
abbrev cX6_attacked : ByteArray := prog_8_method_64_code
def yX6_attacked : MethodName := ⟨RX6, "attacked", "()I"⟩
abbrev cX6_count : ByteArray := prog_8_method_65_code
def yX6_count : MethodName := ⟨RX6, "count", "(Z)I"⟩
abbrev cX6_account : ByteArray := prog_8_method_66_code
def yX6_account : MethodName := ⟨RX6, "account", "(I)I"⟩
abbrev cX6_isWell : ByteArray := prog_8_method_67_code
def yX6_isWell : MethodName := ⟨RX6, "isWell", "()I"⟩
abbrev cX6_share : ByteArray := prog_8_method_68_code
def yX6_share : MethodName := ⟨RX6, "share", "()I"⟩
abbrev cX6_undo : ByteArray := prog_8_method_69_code
def yX6_undo : MethodName := ⟨RX6, "undo", "()I"⟩
abbrev cX6_save : ByteArray := prog_8_method_70_code
def yX6_save : MethodName := ⟨RX6, "save", "()I"⟩
abbrev cX6_restore : ByteArray := prog_8_method_71_code
def yX6_restore : MethodName := ⟨RX6, "restore", "()I"⟩
def RJ11 : String := "java/lang/Character"
def TJ11 : u_T := fun k => match k with
  | _ => ("", "", "", false)
def tyJ11 : Nat → FieldType := fun k => match k with
  | _ => .int
abbrev wsJ110 : List Cond := u_ws RJ11 TJ11 0
theorem nmJ11 : ∀ a, a < 0 → ∀ b, b < 0 → a ≠ b → (TJ11 a).2.1 ≠ (TJ11 b).2.1 := by decide +kernel
theorem tyJ11_ok : ∀ k, k < 0 → parseFieldDescriptor (TJ11 k).2.2.1 = some (tyJ11 k) := by decide +kernel
abbrev cJ11_isValidCodePoint_9a6ad : ByteArray := prog_9_method_11_code
def yJ11_isValidCodePoint_9a6ad : MethodName := ⟨RJ11, "isValidCodePoint", "(I)Z"⟩
abbrev cJ11_highSurrogate_5068e : ByteArray := prog_9_method_28_code
def yJ11_highSurrogate_5068e : MethodName := ⟨RJ11, "highSurrogate", "(I)C"⟩
abbrev cJ11_lowSurrogate_5068e : ByteArray := prog_9_method_29_code
def yJ11_lowSurrogate_5068e : MethodName := ⟨RJ11, "lowSurrogate", "(I)C"⟩
def RJxf58ca : String := "java/lang/Float"
def TJxf58ca : u_T := fun k => match k with
  | _ => ("", "", "", false)
def tyJxf58ca : Nat → FieldType := fun k => match k with
  | _ => .int
theorem nmJxf58ca : ∀ a, a < 0 → ∀ b, b < 0 → a ≠ b → (TJxf58ca a).2.1 ≠ (TJxf58ca b).2.1 := by decide +kernel
theorem tyJxf58ca_ok : ∀ k, k < 0 → parseFieldDescriptor (TJxf58ca k).2.2.1 = some (tyJxf58ca k) := by decide +kernel
abbrev cJxf58ca_isNaN_12338 : ByteArray := prog_10_method_6_code
def yJxf58ca_isNaN_12338 : MethodName := ⟨RJxf58ca, "isNaN", "(F)Z"⟩
abbrev cJxf58ca_floatToIntBits_5c35a : ByteArray := prog_10_method_24_code
def yJxf58ca_floatToIntBits_5c35a : MethodName := ⟨RJxf58ca, "floatToIntBits", "(F)I"⟩
def RJ9 : String := "java/lang/Math"
def TJ9 : u_T := fun k => match k with
  | _ => ("", "", "", false)
def tyJ9 : Nat → FieldType := fun k => match k with
  | _ => .int
abbrev wsJ90 : List Cond := u_ws RJ9 TJ9 0
theorem nmJ9 : ∀ a, a < 0 → ∀ b, b < 0 → a ≠ b → (TJ9 a).2.1 ≠ (TJ9 b).2.1 := by decide +kernel
theorem tyJ9_ok : ∀ k, k < 0 → parseFieldDescriptor (TJ9 k).2.2.1 = some (tyJ9 k) := by decide +kernel
abbrev cJ9_abs_0f7a4 : ByteArray := prog_11_method_59_code
def yJ9_abs_0f7a4 : MethodName := ⟨RJ9, "abs", "(I)I"⟩
abbrev cJ9_max_7cf53 : ByteArray := prog_11_method_65_code
def yJ9_max_7cf53 : MethodName := ⟨RJ9, "max", "(II)I"⟩
abbrev cJ9_min_7cf53 : ByteArray := prog_11_method_69_code
def yJ9_min_7cf53 : MethodName := ⟨RJ9, "min", "(II)I"⟩
def RJ0 : String := "java/lang/String"
def TJ0 : u_T := fun k => match k with
  | _ => ("", "", "", false)
def tyJ0 : Nat → FieldType := fun k => match k with
  | _ => .int
abbrev wsJ00 : List Cond := u_ws RJ0 TJ0 0
theorem nmJ0 : ∀ a, a < 0 → ∀ b, b < 0 → a ≠ b → (TJ0 a).2.1 ≠ (TJ0 b).2.1 := by decide +kernel
theorem tyJ0_ok : ∀ k, k < 0 → parseFieldDescriptor (TJ0 k).2.2.1 = some (tyJ0 k) := by decide +kernel
abbrev cJ0_length_8abf5 : ByteArray := prog_12_method_54_code
def yJ0_length_8abf5 : MethodName := ⟨RJ0, "length", "()I"⟩
abbrev cJ0_charAt_5068e : ByteArray := prog_12_method_56_code
def yJ0_charAt_5068e : MethodName := ⟨RJ0, "charAt", "(I)C"⟩
abbrev cJ0_indexOf_0f7a4 : ByteArray := prog_12_method_79_code
def yJ0_indexOf_0f7a4 : MethodName := ⟨RJ0, "indexOf", "(I)I"⟩
abbrev cJ0_indexOf_7cf53 : ByteArray := prog_12_method_80_code
def yJ0_indexOf_7cf53 : MethodName := ⟨RJ0, "indexOf", "(II)I"⟩
abbrev cJ0_coder_7d493 : ByteArray := prog_12_method_152_code
def yJ0_coder_7d493 : MethodName := ⟨RJ0, "coder", "()B"⟩
abbrev cJ0_isLatin1_aae02 : ByteArray := prog_12_method_154_code
def yJ0_isLatin1_aae02 : MethodName := ⟨RJ0, "isLatin1", "()Z"⟩
abbrev cJ0_checkIndex_df160 : ByteArray := prog_12_method_155_code
def yJ0_checkIndex_df160 : MethodName := ⟨RJ0, "checkIndex", "(II)V"⟩
abbrev cJ0_checkBoundsBeginEnd_23922 : ByteArray := prog_12_method_158_code
def yJ0_checkBoundsBeginEnd_23922 : MethodName := ⟨RJ0, "checkBoundsBeginEnd", "(III)V"⟩
def RJ1 : String := "java/lang/StringLatin1"
def TJ1 : u_T := fun k => match k with
  | _ => ("", "", "", false)
def tyJ1 : Nat → FieldType := fun k => match k with
  | _ => .int
abbrev wsJ10 : List Cond := u_ws RJ1 TJ1 0
theorem nmJ1 : ∀ a, a < 0 → ∀ b, b < 0 → a ≠ b → (TJ1 a).2.1 ≠ (TJ1 b).2.1 := by decide +kernel
theorem tyJ1_ok : ∀ k, k < 0 → parseFieldDescriptor (TJ1 k).2.2.1 = some (tyJ1 k) := by decide +kernel
abbrev cJ1_charAt_3b067 : ByteArray := prog_13_method_2_code
def yJ1_charAt_3b067 : MethodName := ⟨RJ1, "charAt", "([BI)C"⟩
abbrev cJ1_canEncode_9a6ad : ByteArray := prog_13_method_4_code
def yJ1_canEncode_9a6ad : MethodName := ⟨RJ1, "canEncode", "(I)Z"⟩
abbrev cJ1_indexOf_4cfef : ByteArray := prog_13_method_22_code
def yJ1_indexOf_4cfef : MethodName := ⟨RJ1, "indexOf", "([BIII)I"⟩
abbrev cJ1_indexOfChar_4cfef : ByteArray := prog_13_method_23_code
def yJ1_indexOfChar_4cfef : MethodName := ⟨RJ1, "indexOfChar", "([BIII)I"⟩
def RJ2 : String := "java/lang/StringUTF16"
def TJ2 : u_T := fun k => match k with
  | _ => ("", "", "", false)
def tyJ2 : Nat → FieldType := fun k => match k with
  | _ => .int
abbrev wsJ20 : List Cond := u_ws RJ2 TJ2 0
theorem nmJ2 : ∀ a, a < 0 → ∀ b, b < 0 → a ≠ b → (TJ2 a).2.1 ≠ (TJ2 b).2.1 := by decide +kernel
theorem tyJ2_ok : ∀ k, k < 0 → parseFieldDescriptor (TJ2 k).2.2.1 = some (tyJ2 k) := by decide +kernel
abbrev cJ2_getChar_3b067 : ByteArray := prog_14_method_5_code
def yJ2_getChar_3b067 : MethodName := ⟨RJ2, "getChar", "([BI)C"⟩
abbrev cJ2_length_9d52b : ByteArray := prog_14_method_6_code
def yJ2_length_9d52b : MethodName := ⟨RJ2, "length", "([B)I"⟩
abbrev cJ2_indexOf_4cfef : ByteArray := prog_14_method_40_code
def yJ2_indexOf_4cfef : MethodName := ⟨RJ2, "indexOf", "([BIII)I"⟩
abbrev cJ2_indexOfChar_4cfef : ByteArray := prog_14_method_47_code
def yJ2_indexOfChar_4cfef : MethodName := ⟨RJ2, "indexOfChar", "([BIII)I"⟩
abbrev cJ2_indexOfCharUnsafe_4cfef : ByteArray := prog_14_method_48_code
def yJ2_indexOfCharUnsafe_4cfef : MethodName := ⟨RJ2, "indexOfCharUnsafe", "([BIII)I"⟩
abbrev cJ2_indexOfSupplementary_4cfef : ByteArray := prog_14_method_49_code
def yJ2_indexOfSupplementary_4cfef : MethodName := ⟨RJ2, "indexOfSupplementary", "([BIII)I"⟩
abbrev cJ2_charAt_3b067 : ByteArray := prog_14_method_83_code
def yJ2_charAt_3b067 : MethodName := ⟨RJ2, "charAt", "([BI)C"⟩
abbrev cJ2_checkIndex_2214a : ByteArray := prog_14_method_91_code
def yJ2_checkIndex_2214a : MethodName := ⟨RJ2, "checkIndex", "(I[B)V"⟩
abbrev cJ2_checkBoundsBeginEnd_d044e : ByteArray := prog_14_method_93_code
def yJ2_checkBoundsBeginEnd_d044e : MethodName := ⟨RJ2, "checkBoundsBeginEnd", "(II[B)V"⟩
def RJ10 : String := "java/lang/System"
def TJ10 : u_T := fun k => match k with
  | _ => ("", "", "", false)
def tyJ10 : Nat → FieldType := fun k => match k with
  | _ => .int
abbrev wsJ100 : List Cond := u_ws RJ10 TJ10 0
theorem nmJ10 : ∀ a, a < 0 → ∀ b, b < 0 → a ≠ b → (TJ10 a).2.1 ≠ (TJ10 b).2.1 := by decide +kernel
theorem tyJ10_ok : ∀ k, k < 0 → parseFieldDescriptor (TJ10 k).2.2.1 = some (tyJ10 k) := by decide +kernel
def RJ3 : String := "jdk/internal/util/Preconditions"
def TJ3 : u_T := fun k => match k with
  | _ => ("", "", "", false)
def tyJ3 : Nat → FieldType := fun k => match k with
  | _ => .int
abbrev wsJ30 : List Cond := u_ws RJ3 TJ3 0
theorem nmJ3 : ∀ a, a < 0 → ∀ b, b < 0 → a ≠ b → (TJ3 a).2.1 ≠ (TJ3 b).2.1 := by decide +kernel
theorem tyJ3_ok : ∀ k, k < 0 → parseFieldDescriptor (TJ3 k).2.2.1 = some (tyJ3 k) := by decide +kernel
abbrev cJ3_checkIndex_8e157 : ByteArray := prog_16_method_11_code
def yJ3_checkIndex_8e157 : MethodName := ⟨RJ3, "checkIndex", "(IILjava/util/function/BiFunction;)I"⟩
abbrev cJ3_checkFromToIndex_8c36e : ByteArray := prog_16_method_12_code
def yJ3_checkFromToIndex_8c36e : MethodName := ⟨RJ3, "checkFromToIndex", "(IIILjava/util/function/BiFunction;)I"⟩
def RL : String := "MateKeysLaw"
abbrev cL_law : ByteArray := code
def yL_law : MethodName := ⟨RL, "law", "([I)Z"⟩
abbrev vwCl : List vw_C := [(RX0, TX0, 3), (RX1, TX1, 2), (RX2, TX2, 1), (RX3, TX3, 5), (RX4, TX4, 10), (RX5, TX5, 16), (RX6, TX6, 22)]
end
section
theorem dX0_init_0 : decode cX0_init 0 = .ok (.aload_n 0, 1) := by decide +kernel
theorem dX0_init_1 : decode cX0_init 1 = .ok (.invokespecial 3, 3) := by decide +kernel
theorem dX0_init_4 : decode cX0_init 4 = .ok (.aload_n 0, 1) := by decide +kernel
theorem dX0_init_5 : decode cX0_init 5 = .ok (.bipush 8, 2) := by decide +kernel
theorem dX0_init_7 : decode cX0_init 7 = .ok (.anewarray 9, 3) := by decide +kernel
theorem dX0_init_10 : decode cX0_init 10 = .ok (.putfield 11, 3) := by decide +kernel
theorem dX0_init_13 : decode cX0_init 13 = .ok (.iconst 0, 1) := by decide +kernel
theorem dX0_init_14 : decode cX0_init 14 = .ok (.istore_n 1, 1) := by decide +kernel
theorem dX0_init_15 : decode cX0_init 15 = .ok (.iload_n 1, 1) := by decide +kernel
theorem dX0_init_16 : decode cX0_init 16 = .ok (.bipush 8, 2) := by decide +kernel
theorem dX0_init_18 : decode cX0_init 18 = .ok (.if_icmp .ge 22, 3) := by decide +kernel
theorem dX0_init_21 : decode cX0_init 21 = .ok (.aload_n 0, 1) := by decide +kernel
theorem dX0_init_22 : decode cX0_init 22 = .ok (.getfield 11, 3) := by decide +kernel
theorem dX0_init_25 : decode cX0_init 25 = .ok (.iload_n 1, 1) := by decide +kernel
theorem dX0_init_26 : decode cX0_init 26 = .ok (.new 9, 3) := by decide +kernel
theorem dX0_init_29 : decode cX0_init 29 = .ok (.dup, 1) := by decide +kernel
theorem dX0_init_30 : decode cX0_init 30 = .ok (.invokespecial 17, 3) := by decide +kernel
theorem dX0_init_33 : decode cX0_init 33 = .ok (.aastore, 1) := by decide +kernel
theorem dX0_init_34 : decode cX0_init 34 = .ok (.iinc 1 1, 3) := by decide +kernel
theorem dX0_init_37 : decode cX0_init 37 = .ok (.goto (-22), 3) := by decide +kernel
theorem dX0_init_40 : decode cX0_init 40 = .ok (.return_, 1) := by decide +kernel
theorem dX0_push_0 : decode cX0_push 0 = .ok (.aload_n 0, 1) := by decide +kernel
theorem dX0_push_1 : decode cX0_push 1 = .ok (.aload_n 0, 1) := by decide +kernel
theorem dX0_push_2 : decode cX0_push 2 = .ok (.getfield 18, 3) := by decide +kernel
theorem dX0_push_5 : decode cX0_push 5 = .ok (.invokevirtual 22, 3) := by decide +kernel
theorem dX0_push_8 : decode cX0_push 8 = .ok (.astore_n 2, 1) := by decide +kernel
theorem dX0_push_9 : decode cX0_push 9 = .ok (.aload_n 2, 1) := by decide +kernel
theorem dX0_push_10 : decode cX0_push 10 = .ok (.ifnonnull 4, 3) := by decide +kernel
theorem dX0_push_13 : decode cX0_push 13 = .ok (.return_, 1) := by decide +kernel
theorem dX0_push_14 : decode cX0_push 14 = .ok (.aload_n 2, 1) := by decide +kernel
theorem dX0_push_15 : decode cX0_push 15 = .ok (.aload_n 1, 1) := by decide +kernel
theorem dX0_push_16 : decode cX0_push 16 = .ok (.invokevirtual 26, 3) := by decide +kernel
theorem dX0_push_19 : decode cX0_push 19 = .ok (.aload_n 0, 1) := by decide +kernel
theorem dX0_push_20 : decode cX0_push 20 = .ok (.aload_n 0, 1) := by decide +kernel
theorem dX0_push_21 : decode cX0_push 21 = .ok (.getfield 18, 3) := by decide +kernel
theorem dX0_push_24 : decode cX0_push 24 = .ok (.iconst 1, 1) := by decide +kernel
theorem dX0_push_25 : decode cX0_push 25 = .ok (.iadd, 1) := by decide +kernel
theorem dX0_push_26 : decode cX0_push 26 = .ok (.bipush 8, 2) := by decide +kernel
theorem dX0_push_28 : decode cX0_push 28 = .ok (.if_icmp .ge 12, 3) := by decide +kernel
theorem dX0_push_31 : decode cX0_push 31 = .ok (.aload_n 0, 1) := by decide +kernel
theorem dX0_push_32 : decode cX0_push 32 = .ok (.getfield 18, 3) := by decide +kernel
theorem dX0_push_35 : decode cX0_push 35 = .ok (.iconst 1, 1) := by decide +kernel
theorem dX0_push_36 : decode cX0_push 36 = .ok (.iadd, 1) := by decide +kernel
theorem dX0_push_37 : decode cX0_push 37 = .ok (.goto 4, 3) := by decide +kernel
theorem dX0_push_40 : decode cX0_push 40 = .ok (.iconst 0, 1) := by decide +kernel
theorem dX0_push_41 : decode cX0_push 41 = .ok (.putfield 18, 3) := by decide +kernel
theorem dX0_push_44 : decode cX0_push 44 = .ok (.aload_n 0, 1) := by decide +kernel
theorem dX0_push_45 : decode cX0_push 45 = .ok (.getfield 30, 3) := by decide +kernel
theorem dX0_push_48 : decode cX0_push 48 = .ok (.bipush 8, 2) := by decide +kernel
theorem dX0_push_50 : decode cX0_push 50 = .ok (.if_icmp .ge 13, 3) := by decide +kernel
theorem dX0_push_53 : decode cX0_push 53 = .ok (.aload_n 0, 1) := by decide +kernel
theorem dX0_push_54 : decode cX0_push 54 = .ok (.dup, 1) := by decide +kernel
theorem dX0_push_55 : decode cX0_push 55 = .ok (.getfield 30, 3) := by decide +kernel
theorem dX0_push_58 : decode cX0_push 58 = .ok (.iconst 1, 1) := by decide +kernel
theorem dX0_push_59 : decode cX0_push 59 = .ok (.iadd, 1) := by decide +kernel
theorem dX0_push_60 : decode cX0_push 60 = .ok (.putfield 30, 3) := by decide +kernel
theorem dX0_push_63 : decode cX0_push 63 = .ok (.return_, 1) := by decide +kernel
theorem dX0_pop_0 : decode cX0_pop 0 = .ok (.aload_n 0, 1) := by decide +kernel
theorem dX0_pop_1 : decode cX0_pop 1 = .ok (.getfield 18, 3) := by decide +kernel
theorem dX0_pop_4 : decode cX0_pop 4 = .ok (.ifCond .le 12, 3) := by decide +kernel
theorem dX0_pop_7 : decode cX0_pop 7 = .ok (.aload_n 0, 1) := by decide +kernel
theorem dX0_pop_8 : decode cX0_pop 8 = .ok (.getfield 18, 3) := by decide +kernel
theorem dX0_pop_11 : decode cX0_pop 11 = .ok (.iconst 1, 1) := by decide +kernel
theorem dX0_pop_12 : decode cX0_pop 12 = .ok (.isub, 1) := by decide +kernel
theorem dX0_pop_13 : decode cX0_pop 13 = .ok (.goto 5, 3) := by decide +kernel
theorem dX0_pop_16 : decode cX0_pop 16 = .ok (.bipush 7, 2) := by decide +kernel
theorem dX0_pop_18 : decode cX0_pop 18 = .ok (.istore_n 2, 1) := by decide +kernel
theorem dX0_pop_19 : decode cX0_pop 19 = .ok (.aload_n 0, 1) := by decide +kernel
theorem dX0_pop_20 : decode cX0_pop 20 = .ok (.iload_n 2, 1) := by decide +kernel
theorem dX0_pop_21 : decode cX0_pop 21 = .ok (.invokevirtual 22, 3) := by decide +kernel
theorem dX0_pop_24 : decode cX0_pop 24 = .ok (.astore_n 3, 1) := by decide +kernel
theorem dX0_pop_25 : decode cX0_pop 25 = .ok (.aload_n 3, 1) := by decide +kernel
theorem dX0_pop_26 : decode cX0_pop 26 = .ok (.ifnull 10, 3) := by decide +kernel
theorem dX0_pop_29 : decode cX0_pop 29 = .ok (.aload_n 0, 1) := by decide +kernel
theorem dX0_pop_30 : decode cX0_pop 30 = .ok (.getfield 30, 3) := by decide +kernel
theorem dX0_pop_33 : decode cX0_pop 33 = .ok (.ifCond .ne 4, 3) := by decide +kernel
theorem dX0_pop_36 : decode cX0_pop 36 = .ok (.return_, 1) := by decide +kernel
theorem dX0_pop_37 : decode cX0_pop 37 = .ok (.aload_n 1, 1) := by decide +kernel
theorem dX0_pop_38 : decode cX0_pop 38 = .ok (.aload_n 3, 1) := by decide +kernel
theorem dX0_pop_39 : decode cX0_pop 39 = .ok (.invokevirtual 26, 3) := by decide +kernel
theorem dX0_pop_42 : decode cX0_pop 42 = .ok (.aload_n 0, 1) := by decide +kernel
theorem dX0_pop_43 : decode cX0_pop 43 = .ok (.iload_n 2, 1) := by decide +kernel
theorem dX0_pop_44 : decode cX0_pop 44 = .ok (.putfield 18, 3) := by decide +kernel
theorem dX0_pop_47 : decode cX0_pop 47 = .ok (.aload_n 0, 1) := by decide +kernel
theorem dX0_pop_48 : decode cX0_pop 48 = .ok (.dup, 1) := by decide +kernel
theorem dX0_pop_49 : decode cX0_pop 49 = .ok (.getfield 30, 3) := by decide +kernel
theorem dX0_pop_52 : decode cX0_pop 52 = .ok (.iconst 1, 1) := by decide +kernel
theorem dX0_pop_53 : decode cX0_pop 53 = .ok (.isub, 1) := by decide +kernel
theorem dX0_pop_54 : decode cX0_pop 54 = .ok (.putfield 30, 3) := by decide +kernel
theorem dX0_pop_57 : decode cX0_pop 57 = .ok (.return_, 1) := by decide +kernel
theorem dX0_clear_0 : decode cX0_clear 0 = .ok (.aload_n 0, 1) := by decide +kernel
theorem dX0_clear_1 : decode cX0_clear 1 = .ok (.iconst 0, 1) := by decide +kernel
theorem dX0_clear_2 : decode cX0_clear 2 = .ok (.putfield 18, 3) := by decide +kernel
theorem dX0_clear_5 : decode cX0_clear 5 = .ok (.aload_n 0, 1) := by decide +kernel
theorem dX0_clear_6 : decode cX0_clear 6 = .ok (.iconst 0, 1) := by decide +kernel
theorem dX0_clear_7 : decode cX0_clear 7 = .ok (.putfield 30, 3) := by decide +kernel
theorem dX0_clear_10 : decode cX0_clear 10 = .ok (.return_, 1) := by decide +kernel
theorem dX0_rowAt_0 : decode cX0_rowAt 0 = .ok (.iload_n 1, 1) := by decide +kernel
theorem dX0_rowAt_1 : decode cX0_rowAt 1 = .ok (.ifCond .lt 18, 3) := by decide +kernel
theorem dX0_rowAt_4 : decode cX0_rowAt 4 = .ok (.iload_n 1, 1) := by decide +kernel
theorem dX0_rowAt_5 : decode cX0_rowAt 5 = .ok (.bipush 8, 2) := by decide +kernel
theorem dX0_rowAt_7 : decode cX0_rowAt 7 = .ok (.if_icmp .ge 12, 3) := by decide +kernel
theorem dX0_rowAt_10 : decode cX0_rowAt 10 = .ok (.aload_n 0, 1) := by decide +kernel
theorem dX0_rowAt_11 : decode cX0_rowAt 11 = .ok (.getfield 11, 3) := by decide +kernel
theorem dX0_rowAt_14 : decode cX0_rowAt 14 = .ok (.iload_n 1, 1) := by decide +kernel
theorem dX0_rowAt_15 : decode cX0_rowAt 15 = .ok (.aaload, 1) := by decide +kernel
theorem dX0_rowAt_16 : decode cX0_rowAt 16 = .ok (.goto 4, 3) := by decide +kernel
theorem dX0_rowAt_19 : decode cX0_rowAt 19 = .ok (.aconst_null, 1) := by decide +kernel
theorem dX0_rowAt_20 : decode cX0_rowAt 20 = .ok (.areturn, 1) := by decide +kernel
theorem dX1_init_0 : decode cX1_init 0 = .ok (.aload_n 0, 1) := by decide +kernel
theorem dX1_init_1 : decode cX1_init 1 = .ok (.invokespecial 3, 3) := by decide +kernel
theorem dX1_init_4 : decode cX1_init 4 = .ok (.aload_n 0, 1) := by decide +kernel
theorem dX1_init_5 : decode cX1_init 5 = .ok (.bipush 29, 2) := by decide +kernel
theorem dX1_init_7 : decode cX1_init 7 = .ok (.newarray .int, 2) := by decide +kernel
theorem dX1_init_9 : decode cX1_init 9 = .ok (.putfield 9, 3) := by decide +kernel
theorem dX1_init_12 : decode cX1_init 12 = .ok (.return_, 1) := by decide +kernel
theorem dX1_clear_0 : decode cX1_clear 0 = .ok (.aload_n 0, 1) := by decide +kernel
theorem dX1_clear_1 : decode cX1_clear 1 = .ok (.iconst 0, 1) := by decide +kernel
theorem dX1_clear_2 : decode cX1_clear 2 = .ok (.putfield 15, 3) := by decide +kernel
theorem dX1_clear_5 : decode cX1_clear 5 = .ok (.return_, 1) := by decide +kernel
theorem dX1_write_0 : decode cX1_write 0 = .ok (.aload_n 0, 1) := by decide +kernel
theorem dX1_write_1 : decode cX1_write 1 = .ok (.getfield 15, 3) := by decide +kernel
theorem dX1_write_4 : decode cX1_write 4 = .ok (.ifCond .lt 32, 3) := by decide +kernel
theorem dX1_write_7 : decode cX1_write 7 = .ok (.aload_n 0, 1) := by decide +kernel
theorem dX1_write_8 : decode cX1_write 8 = .ok (.getfield 15, 3) := by decide +kernel
theorem dX1_write_11 : decode cX1_write 11 = .ok (.bipush 29, 2) := by decide +kernel
theorem dX1_write_13 : decode cX1_write 13 = .ok (.if_icmp .ge 23, 3) := by decide +kernel
theorem dX1_write_16 : decode cX1_write 16 = .ok (.aload_n 0, 1) := by decide +kernel
theorem dX1_write_17 : decode cX1_write 17 = .ok (.getfield 9, 3) := by decide +kernel
theorem dX1_write_20 : decode cX1_write 20 = .ok (.aload_n 0, 1) := by decide +kernel
theorem dX1_write_21 : decode cX1_write 21 = .ok (.getfield 15, 3) := by decide +kernel
theorem dX1_write_24 : decode cX1_write 24 = .ok (.iload_n 1, 1) := by decide +kernel
theorem dX1_write_25 : decode cX1_write 25 = .ok (.iastore, 1) := by decide +kernel
theorem dX1_write_26 : decode cX1_write 26 = .ok (.aload_n 0, 1) := by decide +kernel
theorem dX1_write_27 : decode cX1_write 27 = .ok (.dup, 1) := by decide +kernel
theorem dX1_write_28 : decode cX1_write 28 = .ok (.getfield 15, 3) := by decide +kernel
theorem dX1_write_31 : decode cX1_write 31 = .ok (.iconst 1, 1) := by decide +kernel
theorem dX1_write_32 : decode cX1_write 32 = .ok (.iadd, 1) := by decide +kernel
theorem dX1_write_33 : decode cX1_write 33 = .ok (.putfield 15, 3) := by decide +kernel
theorem dX1_write_36 : decode cX1_write 36 = .ok (.return_, 1) := by decide +kernel
theorem dX1_writeMan_0 : decode cX1_writeMan 0 = .ok (.iload_n 1, 1) := by decide +kernel
theorem dX1_writeMan_1 : decode cX1_writeMan 1 = .ok (.ifCond .lt 22, 3) := by decide +kernel
theorem dX1_writeMan_4 : decode cX1_writeMan 4 = .ok (.iload_n 1, 1) := by decide +kernel
theorem dX1_writeMan_5 : decode cX1_writeMan 5 = .ok (.ldc 19, 2) := by decide +kernel
theorem dX1_writeMan_7 : decode cX1_writeMan 7 = .ok (.invokevirtual 21, 3) := by decide +kernel
theorem dX1_writeMan_10 : decode cX1_writeMan 10 = .ok (.if_icmp .ge 13, 3) := by decide +kernel
theorem dX1_writeMan_13 : decode cX1_writeMan 13 = .ok (.aload_n 0, 1) := by decide +kernel
theorem dX1_writeMan_14 : decode cX1_writeMan 14 = .ok (.ldc 19, 2) := by decide +kernel
theorem dX1_writeMan_16 : decode cX1_writeMan 16 = .ok (.iload_n 1, 1) := by decide +kernel
theorem dX1_writeMan_17 : decode cX1_writeMan 17 = .ok (.invokevirtual 26, 3) := by decide +kernel
theorem dX1_writeMan_20 : decode cX1_writeMan 20 = .ok (.invokevirtual 30, 3) := by decide +kernel
theorem dX1_writeMan_23 : decode cX1_writeMan 23 = .ok (.return_, 1) := by decide +kernel
theorem dX1_writeSquare_0 : decode cX1_writeSquare 0 = .ok (.aload_n 0, 1) := by decide +kernel
theorem dX1_writeSquare_1 : decode cX1_writeSquare 1 = .ok (.bipush 97, 2) := by decide +kernel
theorem dX1_writeSquare_3 : decode cX1_writeSquare 3 = .ok (.iload_n 1, 1) := by decide +kernel
theorem dX1_writeSquare_4 : decode cX1_writeSquare 4 = .ok (.iconst 5, 1) := by decide +kernel
theorem dX1_writeSquare_5 : decode cX1_writeSquare 5 = .ok (.irem, 1) := by decide +kernel
theorem dX1_writeSquare_6 : decode cX1_writeSquare 6 = .ok (.iadd, 1) := by decide +kernel
theorem dX1_writeSquare_7 : decode cX1_writeSquare 7 = .ok (.invokevirtual 30, 3) := by decide +kernel
theorem dX1_writeSquare_10 : decode cX1_writeSquare 10 = .ok (.aload_n 0, 1) := by decide +kernel
theorem dX1_writeSquare_11 : decode cX1_writeSquare 11 = .ok (.bipush 49, 2) := by decide +kernel
theorem dX1_writeSquare_13 : decode cX1_writeSquare 13 = .ok (.iload_n 1, 1) := by decide +kernel
theorem dX1_writeSquare_14 : decode cX1_writeSquare 14 = .ok (.iconst 5, 1) := by decide +kernel
theorem dX1_writeSquare_15 : decode cX1_writeSquare 15 = .ok (.idiv, 1) := by decide +kernel
theorem dX1_writeSquare_16 : decode cX1_writeSquare 16 = .ok (.iadd, 1) := by decide +kernel
theorem dX1_writeSquare_17 : decode cX1_writeSquare 17 = .ok (.invokevirtual 30, 3) := by decide +kernel
theorem dX1_writeSquare_20 : decode cX1_writeSquare 20 = .ok (.return_, 1) := by decide +kernel
theorem dX1_writeMoveSign_0 : decode cX1_writeMoveSign 0 = .ok (.iload_n 1, 1) := by decide +kernel
theorem dX1_writeMoveSign_1 : decode cX1_writeMoveSign 1 = .ok (.ifCond .le 22, 3) := by decide +kernel
theorem dX1_writeMoveSign_4 : decode cX1_writeMoveSign 4 = .ok (.iload_n 1, 1) := by decide +kernel
theorem dX1_writeMoveSign_5 : decode cX1_writeMoveSign 5 = .ok (.ldc 34, 2) := by decide +kernel
theorem dX1_writeMoveSign_7 : decode cX1_writeMoveSign 7 = .ok (.invokevirtual 21, 3) := by decide +kernel
theorem dX1_writeMoveSign_10 : decode cX1_writeMoveSign 10 = .ok (.if_icmp .ge 13, 3) := by decide +kernel
theorem dX1_writeMoveSign_13 : decode cX1_writeMoveSign 13 = .ok (.aload_n 0, 1) := by decide +kernel
theorem dX1_writeMoveSign_14 : decode cX1_writeMoveSign 14 = .ok (.ldc 34, 2) := by decide +kernel
theorem dX1_writeMoveSign_16 : decode cX1_writeMoveSign 16 = .ok (.iload_n 1, 1) := by decide +kernel
theorem dX1_writeMoveSign_17 : decode cX1_writeMoveSign 17 = .ok (.invokevirtual 26, 3) := by decide +kernel
theorem dX1_writeMoveSign_20 : decode cX1_writeMoveSign 20 = .ok (.invokevirtual 30, 3) := by decide +kernel
theorem dX1_writeMoveSign_23 : decode cX1_writeMoveSign 23 = .ok (.return_, 1) := by decide +kernel
theorem dX1_codeAt_0 : decode cX1_codeAt 0 = .ok (.iload_n 1, 1) := by decide +kernel
theorem dX1_codeAt_1 : decode cX1_codeAt 1 = .ok (.ifCond .lt 26, 3) := by decide +kernel
theorem dX1_codeAt_4 : decode cX1_codeAt 4 = .ok (.iload_n 1, 1) := by decide +kernel
theorem dX1_codeAt_5 : decode cX1_codeAt 5 = .ok (.aload_n 0, 1) := by decide +kernel
theorem dX1_codeAt_6 : decode cX1_codeAt 6 = .ok (.getfield 15, 3) := by decide +kernel
theorem dX1_codeAt_9 : decode cX1_codeAt 9 = .ok (.if_icmp .ge 18, 3) := by decide +kernel
theorem dX1_codeAt_12 : decode cX1_codeAt 12 = .ok (.iload_n 1, 1) := by decide +kernel
theorem dX1_codeAt_13 : decode cX1_codeAt 13 = .ok (.bipush 29, 2) := by decide +kernel
theorem dX1_codeAt_15 : decode cX1_codeAt 15 = .ok (.if_icmp .ge 12, 3) := by decide +kernel
theorem dX1_codeAt_18 : decode cX1_codeAt 18 = .ok (.aload_n 0, 1) := by decide +kernel
theorem dX1_codeAt_19 : decode cX1_codeAt 19 = .ok (.getfield 9, 3) := by decide +kernel
theorem dX1_codeAt_22 : decode cX1_codeAt 22 = .ok (.iload_n 1, 1) := by decide +kernel
theorem dX1_codeAt_23 : decode cX1_codeAt 23 = .ok (.iaload, 1) := by decide +kernel
theorem dX1_codeAt_24 : decode cX1_codeAt 24 = .ok (.goto 4, 3) := by decide +kernel
theorem dX1_codeAt_27 : decode cX1_codeAt 27 = .ok (.iconst (-1), 1) := by decide +kernel
theorem dX1_codeAt_28 : decode cX1_codeAt 28 = .ok (.ireturn, 1) := by decide +kernel
theorem dX2_init_0 : decode cX2_init 0 = .ok (.aload_n 0, 1) := by decide +kernel
theorem dX2_init_1 : decode cX2_init 1 = .ok (.invokespecial 3, 3) := by decide +kernel
theorem dX2_init_4 : decode cX2_init 4 = .ok (.aload_n 0, 1) := by decide +kernel
theorem dX2_init_5 : decode cX2_init 5 = .ok (.bipush 25, 2) := by decide +kernel
theorem dX2_init_7 : decode cX2_init 7 = .ok (.newarray .int, 2) := by decide +kernel
theorem dX2_init_9 : decode cX2_init 9 = .ok (.putfield 9, 3) := by decide +kernel
theorem dX2_init_12 : decode cX2_init 12 = .ok (.return_, 1) := by decide +kernel
theorem dX2_fillWithMoves_0 : decode cX2_fillWithMoves 0 = .ok (.iconst 0, 1) := by decide +kernel
theorem dX2_fillWithMoves_1 : decode cX2_fillWithMoves 1 = .ok (.istore_n 2, 1) := by decide +kernel
theorem dX2_fillWithMoves_2 : decode cX2_fillWithMoves 2 = .ok (.iload_n 2, 1) := by decide +kernel
theorem dX2_fillWithMoves_3 : decode cX2_fillWithMoves 3 = .ok (.bipush 25, 2) := by decide +kernel
theorem dX2_fillWithMoves_5 : decode cX2_fillWithMoves 5 = .ok (.if_icmp .ge 20, 3) := by decide +kernel
theorem dX2_fillWithMoves_8 : decode cX2_fillWithMoves 8 = .ok (.aload_n 0, 1) := by decide +kernel
theorem dX2_fillWithMoves_9 : decode cX2_fillWithMoves 9 = .ok (.getfield 9, 3) := by decide +kernel
theorem dX2_fillWithMoves_12 : decode cX2_fillWithMoves 12 = .ok (.iload_n 2, 1) := by decide +kernel
theorem dX2_fillWithMoves_13 : decode cX2_fillWithMoves 13 = .ok (.aload_n 1, 1) := by decide +kernel
theorem dX2_fillWithMoves_14 : decode cX2_fillWithMoves 14 = .ok (.iload_n 2, 1) := by decide +kernel
theorem dX2_fillWithMoves_15 : decode cX2_fillWithMoves 15 = .ok (.invokevirtual 15, 3) := by decide +kernel
theorem dX2_fillWithMoves_18 : decode cX2_fillWithMoves 18 = .ok (.iastore, 1) := by decide +kernel
theorem dX2_fillWithMoves_19 : decode cX2_fillWithMoves 19 = .ok (.iinc 2 1, 3) := by decide +kernel
theorem dX2_fillWithMoves_22 : decode cX2_fillWithMoves 22 = .ok (.goto (-20), 3) := by decide +kernel
theorem dX2_fillWithMoves_25 : decode cX2_fillWithMoves 25 = .ok (.return_, 1) := by decide +kernel
theorem dX2_fillWithKeys_0 : decode cX2_fillWithKeys 0 = .ok (.iconst 0, 1) := by decide +kernel
theorem dX2_fillWithKeys_1 : decode cX2_fillWithKeys 1 = .ok (.istore_n 2, 1) := by decide +kernel
theorem dX2_fillWithKeys_2 : decode cX2_fillWithKeys 2 = .ok (.iload_n 2, 1) := by decide +kernel
theorem dX2_fillWithKeys_3 : decode cX2_fillWithKeys 3 = .ok (.bipush 25, 2) := by decide +kernel
theorem dX2_fillWithKeys_5 : decode cX2_fillWithKeys 5 = .ok (.if_icmp .ge 20, 3) := by decide +kernel
theorem dX2_fillWithKeys_8 : decode cX2_fillWithKeys 8 = .ok (.aload_n 0, 1) := by decide +kernel
theorem dX2_fillWithKeys_9 : decode cX2_fillWithKeys 9 = .ok (.getfield 9, 3) := by decide +kernel
theorem dX2_fillWithKeys_12 : decode cX2_fillWithKeys 12 = .ok (.iload_n 2, 1) := by decide +kernel
theorem dX2_fillWithKeys_13 : decode cX2_fillWithKeys 13 = .ok (.aload_n 1, 1) := by decide +kernel
theorem dX2_fillWithKeys_14 : decode cX2_fillWithKeys 14 = .ok (.iload_n 2, 1) := by decide +kernel
theorem dX2_fillWithKeys_15 : decode cX2_fillWithKeys 15 = .ok (.invokevirtual 21, 3) := by decide +kernel
theorem dX2_fillWithKeys_18 : decode cX2_fillWithKeys 18 = .ok (.iastore, 1) := by decide +kernel
theorem dX2_fillWithKeys_19 : decode cX2_fillWithKeys 19 = .ok (.iinc 2 1, 3) := by decide +kernel
theorem dX2_fillWithKeys_22 : decode cX2_fillWithKeys 22 = .ok (.goto (-20), 3) := by decide +kernel
theorem dX2_fillWithKeys_25 : decode cX2_fillWithKeys 25 = .ok (.return_, 1) := by decide +kernel
theorem dX2_count_0 : decode cX2_count 0 = .ok (.iconst 0, 1) := by decide +kernel
theorem dX2_count_1 : decode cX2_count 1 = .ok (.istore_n 1, 1) := by decide +kernel
theorem dX2_count_2 : decode cX2_count 2 = .ok (.iconst 0, 1) := by decide +kernel
theorem dX2_count_3 : decode cX2_count 3 = .ok (.istore_n 2, 1) := by decide +kernel
theorem dX2_count_4 : decode cX2_count 4 = .ok (.iload_n 2, 1) := by decide +kernel
theorem dX2_count_5 : decode cX2_count 5 = .ok (.bipush 25, 2) := by decide +kernel
theorem dX2_count_7 : decode cX2_count 7 = .ok (.if_icmp .ge 21, 3) := by decide +kernel
theorem dX2_count_10 : decode cX2_count 10 = .ok (.iload_n 1, 1) := by decide +kernel
theorem dX2_count_11 : decode cX2_count 11 = .ok (.aload_n 0, 1) := by decide +kernel
theorem dX2_count_12 : decode cX2_count 12 = .ok (.getfield 9, 3) := by decide +kernel
theorem dX2_count_15 : decode cX2_count 15 = .ok (.iload_n 2, 1) := by decide +kernel
theorem dX2_count_16 : decode cX2_count 16 = .ok (.iaload, 1) := by decide +kernel
theorem dX2_count_17 : decode cX2_count 17 = .ok (.invokestatic 24, 3) := by decide +kernel
theorem dX2_count_20 : decode cX2_count 20 = .ok (.iadd, 1) := by decide +kernel
theorem dX2_count_21 : decode cX2_count 21 = .ok (.istore_n 1, 1) := by decide +kernel
theorem dX2_count_22 : decode cX2_count 22 = .ok (.iinc 2 1, 3) := by decide +kernel
theorem dX2_count_25 : decode cX2_count 25 = .ok (.goto (-21), 3) := by decide +kernel
theorem dX2_count_28 : decode cX2_count 28 = .ok (.iload_n 1, 1) := by decide +kernel
theorem dX2_count_29 : decode cX2_count 29 = .ok (.ireturn, 1) := by decide +kernel
theorem dX2_pick_0 : decode cX2_pick 0 = .ok (.iconst 0, 1) := by decide +kernel
theorem dX2_pick_1 : decode cX2_pick 1 = .ok (.istore_n 2, 1) := by decide +kernel
theorem dX2_pick_2 : decode cX2_pick 2 = .ok (.iconst 0, 1) := by decide +kernel
theorem dX2_pick_3 : decode cX2_pick 3 = .ok (.istore_n 3, 1) := by decide +kernel
theorem dX2_pick_4 : decode cX2_pick 4 = .ok (.iload_n 3, 1) := by decide +kernel
theorem dX2_pick_5 : decode cX2_pick 5 = .ok (.bipush 25, 2) := by decide +kernel
theorem dX2_pick_7 : decode cX2_pick 7 = .ok (.if_icmp .ge 55, 3) := by decide +kernel
theorem dX2_pick_10 : decode cX2_pick 10 = .ok (.iconst 0, 1) := by decide +kernel
theorem dX2_pick_11 : decode cX2_pick 11 = .ok (.istore 4, 2) := by decide +kernel
theorem dX2_pick_13 : decode cX2_pick 13 = .ok (.iload 4, 2) := by decide +kernel
theorem dX2_pick_15 : decode cX2_pick 15 = .ok (.bipush 25, 2) := by decide +kernel
theorem dX2_pick_17 : decode cX2_pick 17 = .ok (.if_icmp .ge 39, 3) := by decide +kernel
theorem dX2_pick_20 : decode cX2_pick 20 = .ok (.aload_n 0, 1) := by decide +kernel
theorem dX2_pick_21 : decode cX2_pick 21 = .ok (.getfield 9, 3) := by decide +kernel
theorem dX2_pick_24 : decode cX2_pick 24 = .ok (.iload_n 3, 1) := by decide +kernel
theorem dX2_pick_25 : decode cX2_pick 25 = .ok (.iaload, 1) := by decide +kernel
theorem dX2_pick_26 : decode cX2_pick 26 = .ok (.iload 4, 2) := by decide +kernel
theorem dX2_pick_28 : decode cX2_pick 28 = .ok (.invokestatic 27, 3) := by decide +kernel
theorem dX2_pick_31 : decode cX2_pick 31 = .ok (.ifCond .eq 19, 3) := by decide +kernel
theorem dX2_pick_34 : decode cX2_pick 34 = .ok (.iload_n 2, 1) := by decide +kernel
theorem dX2_pick_35 : decode cX2_pick 35 = .ok (.iload_n 1, 1) := by decide +kernel
theorem dX2_pick_36 : decode cX2_pick 36 = .ok (.if_icmp .ne 11, 3) := by decide +kernel
theorem dX2_pick_39 : decode cX2_pick 39 = .ok (.bipush 100, 2) := by decide +kernel
theorem dX2_pick_41 : decode cX2_pick 41 = .ok (.iload_n 3, 1) := by decide +kernel
theorem dX2_pick_42 : decode cX2_pick 42 = .ok (.imul, 1) := by decide +kernel
theorem dX2_pick_43 : decode cX2_pick 43 = .ok (.iload 4, 2) := by decide +kernel
theorem dX2_pick_45 : decode cX2_pick 45 = .ok (.iadd, 1) := by decide +kernel
theorem dX2_pick_46 : decode cX2_pick 46 = .ok (.ireturn, 1) := by decide +kernel
theorem dX2_pick_47 : decode cX2_pick 47 = .ok (.iinc 2 1, 3) := by decide +kernel
theorem dX2_pick_50 : decode cX2_pick 50 = .ok (.iinc 4 1, 3) := by decide +kernel
theorem dX2_pick_53 : decode cX2_pick 53 = .ok (.goto (-40), 3) := by decide +kernel
theorem dX2_pick_56 : decode cX2_pick 56 = .ok (.iinc 3 1, 3) := by decide +kernel
theorem dX2_pick_59 : decode cX2_pick 59 = .ok (.goto (-55), 3) := by decide +kernel
theorem dX2_pick_62 : decode cX2_pick 62 = .ok (.iconst (-1), 1) := by decide +kernel
theorem dX2_pick_63 : decode cX2_pick 63 = .ok (.ireturn, 1) := by decide +kernel
theorem dX3_init_0 : decode cX3_init 0 = .ok (.aload_n 0, 1) := by decide +kernel
theorem dX3_init_1 : decode cX3_init 1 = .ok (.invokespecial 3, 3) := by decide +kernel
theorem dX3_init_4 : decode cX3_init 4 = .ok (.aload_n 0, 1) := by decide +kernel
theorem dX3_init_5 : decode cX3_init 5 = .ok (.bipush 25, 2) := by decide +kernel
theorem dX3_init_7 : decode cX3_init 7 = .ok (.newarray .int, 2) := by decide +kernel
theorem dX3_init_9 : decode cX3_init 9 = .ok (.putfield 9, 3) := by decide +kernel
theorem dX3_init_12 : decode cX3_init 12 = .ok (.return_, 1) := by decide +kernel
theorem dX3_copyFrom_0 : decode cX3_copyFrom 0 = .ok (.iconst 0, 1) := by decide +kernel
theorem dX3_copyFrom_1 : decode cX3_copyFrom 1 = .ok (.istore_n 2, 1) := by decide +kernel
theorem dX3_copyFrom_2 : decode cX3_copyFrom 2 = .ok (.iload_n 2, 1) := by decide +kernel
theorem dX3_copyFrom_3 : decode cX3_copyFrom 3 = .ok (.bipush 25, 2) := by decide +kernel
theorem dX3_copyFrom_5 : decode cX3_copyFrom 5 = .ok (.if_icmp .ge 21, 3) := by decide +kernel
theorem dX3_copyFrom_8 : decode cX3_copyFrom 8 = .ok (.aload_n 0, 1) := by decide +kernel
theorem dX3_copyFrom_9 : decode cX3_copyFrom 9 = .ok (.getfield 9, 3) := by decide +kernel
theorem dX3_copyFrom_12 : decode cX3_copyFrom 12 = .ok (.iload_n 2, 1) := by decide +kernel
theorem dX3_copyFrom_13 : decode cX3_copyFrom 13 = .ok (.aload_n 1, 1) := by decide +kernel
theorem dX3_copyFrom_14 : decode cX3_copyFrom 14 = .ok (.getfield 9, 3) := by decide +kernel
theorem dX3_copyFrom_17 : decode cX3_copyFrom 17 = .ok (.iload_n 2, 1) := by decide +kernel
theorem dX3_copyFrom_18 : decode cX3_copyFrom 18 = .ok (.iaload, 1) := by decide +kernel
theorem dX3_copyFrom_19 : decode cX3_copyFrom 19 = .ok (.iastore, 1) := by decide +kernel
theorem dX3_copyFrom_20 : decode cX3_copyFrom 20 = .ok (.iinc 2 1, 3) := by decide +kernel
theorem dX3_copyFrom_23 : decode cX3_copyFrom 23 = .ok (.goto (-21), 3) := by decide +kernel
theorem dX3_copyFrom_26 : decode cX3_copyFrom 26 = .ok (.aload_n 0, 1) := by decide +kernel
theorem dX3_copyFrom_27 : decode cX3_copyFrom 27 = .ok (.aload_n 1, 1) := by decide +kernel
theorem dX3_copyFrom_28 : decode cX3_copyFrom 28 = .ok (.getfield 15, 3) := by decide +kernel
theorem dX3_copyFrom_31 : decode cX3_copyFrom 31 = .ok (.putfield 15, 3) := by decide +kernel
theorem dX3_copyFrom_34 : decode cX3_copyFrom 34 = .ok (.aload_n 0, 1) := by decide +kernel
theorem dX3_copyFrom_35 : decode cX3_copyFrom 35 = .ok (.aload_n 1, 1) := by decide +kernel
theorem dX3_copyFrom_36 : decode cX3_copyFrom 36 = .ok (.getfield 19, 3) := by decide +kernel
theorem dX3_copyFrom_39 : decode cX3_copyFrom 39 = .ok (.putfield 19, 3) := by decide +kernel
theorem dX3_copyFrom_42 : decode cX3_copyFrom 42 = .ok (.aload_n 0, 1) := by decide +kernel
theorem dX3_copyFrom_43 : decode cX3_copyFrom 43 = .ok (.aload_n 1, 1) := by decide +kernel
theorem dX3_copyFrom_44 : decode cX3_copyFrom 44 = .ok (.getfield 22, 3) := by decide +kernel
theorem dX3_copyFrom_47 : decode cX3_copyFrom 47 = .ok (.putfield 22, 3) := by decide +kernel
theorem dX3_copyFrom_50 : decode cX3_copyFrom 50 = .ok (.aload_n 0, 1) := by decide +kernel
theorem dX3_copyFrom_51 : decode cX3_copyFrom 51 = .ok (.aload_n 1, 1) := by decide +kernel
theorem dX3_copyFrom_52 : decode cX3_copyFrom 52 = .ok (.getfield 25, 3) := by decide +kernel
theorem dX3_copyFrom_55 : decode cX3_copyFrom 55 = .ok (.putfield 25, 3) := by decide +kernel
theorem dX3_copyFrom_58 : decode cX3_copyFrom 58 = .ok (.return_, 1) := by decide +kernel
theorem dX3_manOn_0 : decode cX3_manOn 0 = .ok (.iload_n 1, 1) := by decide +kernel
theorem dX3_manOn_1 : decode cX3_manOn 1 = .ok (.invokestatic 28, 3) := by decide +kernel
theorem dX3_manOn_4 : decode cX3_manOn 4 = .ok (.ifCond .eq 12, 3) := by decide +kernel
theorem dX3_manOn_7 : decode cX3_manOn 7 = .ok (.aload_n 0, 1) := by decide +kernel
theorem dX3_manOn_8 : decode cX3_manOn 8 = .ok (.getfield 9, 3) := by decide +kernel
theorem dX3_manOn_11 : decode cX3_manOn 11 = .ok (.iload_n 1, 1) := by decide +kernel
theorem dX3_manOn_12 : decode cX3_manOn 12 = .ok (.iaload, 1) := by decide +kernel
theorem dX3_manOn_13 : decode cX3_manOn 13 = .ok (.goto 4, 3) := by decide +kernel
theorem dX3_manOn_16 : decode cX3_manOn 16 = .ok (.iconst 0, 1) := by decide +kernel
theorem dX3_manOn_17 : decode cX3_manOn 17 = .ok (.ireturn, 1) := by decide +kernel
theorem dX3_setMan_0 : decode cX3_setMan 0 = .ok (.iload_n 1, 1) := by decide +kernel
theorem dX3_setMan_1 : decode cX3_setMan 1 = .ok (.invokestatic 28, 3) := by decide +kernel
theorem dX3_setMan_4 : decode cX3_setMan 4 = .ok (.ifCond .eq 10, 3) := by decide +kernel
theorem dX3_setMan_7 : decode cX3_setMan 7 = .ok (.aload_n 0, 1) := by decide +kernel
theorem dX3_setMan_8 : decode cX3_setMan 8 = .ok (.getfield 9, 3) := by decide +kernel
theorem dX3_setMan_11 : decode cX3_setMan 11 = .ok (.iload_n 1, 1) := by decide +kernel
theorem dX3_setMan_12 : decode cX3_setMan 12 = .ok (.iload_n 2, 1) := by decide +kernel
theorem dX3_setMan_13 : decode cX3_setMan 13 = .ok (.iastore, 1) := by decide +kernel
theorem dX3_setMan_14 : decode cX3_setMan 14 = .ok (.return_, 1) := by decide +kernel
theorem dX3_countAll_0 : decode cX3_countAll 0 = .ok (.aload_n 0, 1) := by decide +kernel
theorem dX3_countAll_1 : decode cX3_countAll 1 = .ok (.iconst 1, 1) := by decide +kernel
theorem dX3_countAll_2 : decode cX3_countAll 2 = .ok (.bipush 7, 2) := by decide +kernel
theorem dX3_countAll_4 : decode cX3_countAll 4 = .ok (.invokevirtual 32, 3) := by decide +kernel
theorem dX3_countAll_7 : decode cX3_countAll 7 = .ok (.ireturn, 1) := by decide +kernel
theorem dX3_countKinds_0 : decode cX3_countKinds 0 = .ok (.iconst 0, 1) := by decide +kernel
theorem dX3_countKinds_1 : decode cX3_countKinds 1 = .ok (.istore_n 3, 1) := by decide +kernel
theorem dX3_countKinds_2 : decode cX3_countKinds 2 = .ok (.iconst 0, 1) := by decide +kernel
theorem dX3_countKinds_3 : decode cX3_countKinds 3 = .ok (.istore 4, 2) := by decide +kernel
theorem dX3_countKinds_5 : decode cX3_countKinds 5 = .ok (.iload 4, 2) := by decide +kernel
theorem dX3_countKinds_7 : decode cX3_countKinds 7 = .ok (.bipush 25, 2) := by decide +kernel
theorem dX3_countKinds_9 : decode cX3_countKinds 9 = .ok (.if_icmp .ge 34, 3) := by decide +kernel
theorem dX3_countKinds_12 : decode cX3_countKinds 12 = .ok (.aload_n 0, 1) := by decide +kernel
theorem dX3_countKinds_13 : decode cX3_countKinds 13 = .ok (.getfield 9, 3) := by decide +kernel
theorem dX3_countKinds_16 : decode cX3_countKinds 16 = .ok (.iload 4, 2) := by decide +kernel
theorem dX3_countKinds_18 : decode cX3_countKinds 18 = .ok (.iaload, 1) := by decide +kernel
theorem dX3_countKinds_19 : decode cX3_countKinds 19 = .ok (.iload_n 1, 1) := by decide +kernel
theorem dX3_countKinds_20 : decode cX3_countKinds 20 = .ok (.if_icmp .lt 17, 3) := by decide +kernel
theorem dX3_countKinds_23 : decode cX3_countKinds 23 = .ok (.aload_n 0, 1) := by decide +kernel
theorem dX3_countKinds_24 : decode cX3_countKinds 24 = .ok (.getfield 9, 3) := by decide +kernel
theorem dX3_countKinds_27 : decode cX3_countKinds 27 = .ok (.iload 4, 2) := by decide +kernel
theorem dX3_countKinds_29 : decode cX3_countKinds 29 = .ok (.iaload, 1) := by decide +kernel
theorem dX3_countKinds_30 : decode cX3_countKinds 30 = .ok (.iload_n 2, 1) := by decide +kernel
theorem dX3_countKinds_31 : decode cX3_countKinds 31 = .ok (.if_icmp .gt 6, 3) := by decide +kernel
theorem dX3_countKinds_34 : decode cX3_countKinds 34 = .ok (.iinc 3 1, 3) := by decide +kernel
theorem dX3_countKinds_37 : decode cX3_countKinds 37 = .ok (.iinc 4 1, 3) := by decide +kernel
theorem dX3_countKinds_40 : decode cX3_countKinds 40 = .ok (.goto (-35), 3) := by decide +kernel
theorem dX3_countKinds_43 : decode cX3_countKinds 43 = .ok (.iload_n 3, 1) := by decide +kernel
theorem dX3_countKinds_44 : decode cX3_countKinds 44 = .ok (.ireturn, 1) := by decide +kernel
theorem dX3_squareOf_0 : decode cX3_squareOf 0 = .ok (.iconst 0, 1) := by decide +kernel
theorem dX3_squareOf_1 : decode cX3_squareOf 1 = .ok (.istore_n 2, 1) := by decide +kernel
theorem dX3_squareOf_2 : decode cX3_squareOf 2 = .ok (.iload_n 2, 1) := by decide +kernel
theorem dX3_squareOf_3 : decode cX3_squareOf 3 = .ok (.bipush 25, 2) := by decide +kernel
theorem dX3_squareOf_5 : decode cX3_squareOf 5 = .ok (.if_icmp .ge 21, 3) := by decide +kernel
theorem dX3_squareOf_8 : decode cX3_squareOf 8 = .ok (.aload_n 0, 1) := by decide +kernel
theorem dX3_squareOf_9 : decode cX3_squareOf 9 = .ok (.getfield 9, 3) := by decide +kernel
theorem dX3_squareOf_12 : decode cX3_squareOf 12 = .ok (.iload_n 2, 1) := by decide +kernel
theorem dX3_squareOf_13 : decode cX3_squareOf 13 = .ok (.iaload, 1) := by decide +kernel
theorem dX3_squareOf_14 : decode cX3_squareOf 14 = .ok (.iload_n 1, 1) := by decide +kernel
theorem dX3_squareOf_15 : decode cX3_squareOf 15 = .ok (.if_icmp .ne 5, 3) := by decide +kernel
theorem dX3_squareOf_18 : decode cX3_squareOf 18 = .ok (.iload_n 2, 1) := by decide +kernel
theorem dX3_squareOf_19 : decode cX3_squareOf 19 = .ok (.ireturn, 1) := by decide +kernel
theorem dX3_squareOf_20 : decode cX3_squareOf 20 = .ok (.iinc 2 1, 3) := by decide +kernel
theorem dX3_squareOf_23 : decode cX3_squareOf 23 = .ok (.goto (-21), 3) := by decide +kernel
theorem dX3_squareOf_26 : decode cX3_squareOf 26 = .ok (.iconst (-1), 1) := by decide +kernel
theorem dX3_squareOf_27 : decode cX3_squareOf 27 = .ok (.ireturn, 1) := by decide +kernel
theorem dX3_fits_0 : decode cX3_fits 0 = .ok (.aload_n 0, 1) := by decide +kernel
theorem dX3_fits_1 : decode cX3_fits 1 = .ok (.bipush 7, 2) := by decide +kernel
theorem dX3_fits_3 : decode cX3_fits 3 = .ok (.invokevirtual 36, 3) := by decide +kernel
theorem dX3_fits_6 : decode cX3_fits 6 = .ok (.istore_n 1, 1) := by decide +kernel
theorem dX3_fits_7 : decode cX3_fits 7 = .ok (.iload_n 1, 1) := by decide +kernel
theorem dX3_fits_8 : decode cX3_fits 8 = .ok (.ifCond .lt 15, 3) := by decide +kernel
theorem dX3_fits_11 : decode cX3_fits 11 = .ok (.aload_n 0, 1) := by decide +kernel
theorem dX3_fits_12 : decode cX3_fits 12 = .ok (.iload_n 1, 1) := by decide +kernel
theorem dX3_fits_13 : decode cX3_fits 13 = .ok (.invokevirtual 40, 3) := by decide +kernel
theorem dX3_fits_16 : decode cX3_fits 16 = .ok (.ifCond .ne 7, 3) := by decide +kernel
theorem dX3_fits_19 : decode cX3_fits 19 = .ok (.iconst 1, 1) := by decide +kernel
theorem dX3_fits_20 : decode cX3_fits 20 = .ok (.goto 4, 3) := by decide +kernel
theorem dX3_fits_23 : decode cX3_fits 23 = .ok (.iconst 0, 1) := by decide +kernel
theorem dX3_fits_24 : decode cX3_fits 24 = .ok (.ireturn, 1) := by decide +kernel
theorem dX3_reach_0 : decode cX3_reach 0 = .ok (.iload_n 1, 1) := by decide +kernel
theorem dX3_reach_1 : decode cX3_reach 1 = .ok (.ifCond .lt 29, 3) := by decide +kernel
theorem dX3_reach_4 : decode cX3_reach 4 = .ok (.iload_n 1, 1) := by decide +kernel
theorem dX3_reach_5 : decode cX3_reach 5 = .ok (.bipush 25, 2) := by decide +kernel
theorem dX3_reach_7 : decode cX3_reach 7 = .ok (.if_icmp .ge 23, 3) := by decide +kernel
theorem dX3_reach_10 : decode cX3_reach 10 = .ok (.aload_n 0, 1) := by decide +kernel
theorem dX3_reach_11 : decode cX3_reach 11 = .ok (.getfield 9, 3) := by decide +kernel
theorem dX3_reach_14 : decode cX3_reach 14 = .ok (.iload_n 1, 1) := by decide +kernel
theorem dX3_reach_15 : decode cX3_reach 15 = .ok (.iaload, 1) := by decide +kernel
theorem dX3_reach_16 : decode cX3_reach 16 = .ok (.ifCond .eq 14, 3) := by decide +kernel
theorem dX3_reach_19 : decode cX3_reach 19 = .ok (.aload_n 0, 1) := by decide +kernel
theorem dX3_reach_20 : decode cX3_reach 20 = .ok (.getfield 9, 3) := by decide +kernel
theorem dX3_reach_23 : decode cX3_reach 23 = .ok (.iload_n 1, 1) := by decide +kernel
theorem dX3_reach_24 : decode cX3_reach 24 = .ok (.iaload, 1) := by decide +kernel
theorem dX3_reach_25 : decode cX3_reach 25 = .ok (.bipush 6, 2) := by decide +kernel
theorem dX3_reach_27 : decode cX3_reach 27 = .ok (.if_icmp .ne 5, 3) := by decide +kernel
theorem dX3_reach_30 : decode cX3_reach 30 = .ok (.iconst 0, 1) := by decide +kernel
theorem dX3_reach_31 : decode cX3_reach 31 = .ok (.ireturn, 1) := by decide +kernel
theorem dX3_reach_32 : decode cX3_reach 32 = .ok (.aload_n 0, 1) := by decide +kernel
theorem dX3_reach_33 : decode cX3_reach 33 = .ok (.getfield 9, 3) := by decide +kernel
theorem dX3_reach_36 : decode cX3_reach 36 = .ok (.iload_n 1, 1) := by decide +kernel
theorem dX3_reach_37 : decode cX3_reach 37 = .ok (.iaload, 1) := by decide +kernel
theorem dX3_reach_38 : decode cX3_reach 38 = .ok (.istore_n 2, 1) := by decide +kernel
theorem dX3_reach_39 : decode cX3_reach 39 = .ok (.iload_n 2, 1) := by decide +kernel
theorem dX3_reach_40 : decode cX3_reach 40 = .ok (.iconst 5, 1) := by decide +kernel
theorem dX3_reach_41 : decode cX3_reach 41 = .ok (.if_icmp .ne 8, 3) := by decide +kernel
theorem dX3_reach_44 : decode cX3_reach 44 = .ok (.bipush 8, 2) := by decide +kernel
theorem dX3_reach_46 : decode cX3_reach 46 = .ok (.goto 13, 3) := by decide +kernel
theorem dX3_reach_49 : decode cX3_reach 49 = .ok (.iload_n 2, 1) := by decide +kernel
theorem dX3_reach_50 : decode cX3_reach 50 = .ok (.iconst 4, 1) := by decide +kernel
theorem dX3_reach_51 : decode cX3_reach 51 = .ok (.if_icmp .ne 7, 3) := by decide +kernel
theorem dX3_reach_54 : decode cX3_reach 54 = .ok (.iconst 4, 1) := by decide +kernel
theorem dX3_reach_55 : decode cX3_reach 55 = .ok (.goto 4, 3) := by decide +kernel
theorem dX3_reach_58 : decode cX3_reach 58 = .ok (.iconst 0, 1) := by decide +kernel
theorem dX3_reach_59 : decode cX3_reach 59 = .ok (.istore_n 3, 1) := by decide +kernel
theorem dX3_reach_60 : decode cX3_reach 60 = .ok (.iload_n 2, 1) := by decide +kernel
theorem dX3_reach_61 : decode cX3_reach 61 = .ok (.iconst 5, 1) := by decide +kernel
theorem dX3_reach_62 : decode cX3_reach 62 = .ok (.if_icmp .ne 8, 3) := by decide +kernel
theorem dX3_reach_65 : decode cX3_reach 65 = .ok (.bipush 16, 2) := by decide +kernel
theorem dX3_reach_67 : decode cX3_reach 67 = .ok (.goto 14, 3) := by decide +kernel
theorem dX3_reach_70 : decode cX3_reach 70 = .ok (.iload_n 2, 1) := by decide +kernel
theorem dX3_reach_71 : decode cX3_reach 71 = .ok (.iconst 3, 1) := by decide +kernel
theorem dX3_reach_72 : decode cX3_reach 72 = .ok (.if_icmp .ne 7, 3) := by decide +kernel
theorem dX3_reach_75 : decode cX3_reach 75 = .ok (.iconst 4, 1) := by decide +kernel
theorem dX3_reach_76 : decode cX3_reach 76 = .ok (.goto 5, 3) := by decide +kernel
theorem dX3_reach_79 : decode cX3_reach 79 = .ok (.bipush 8, 2) := by decide +kernel
theorem dX3_reach_81 : decode cX3_reach 81 = .ok (.istore 4, 2) := by decide +kernel
theorem dX3_reach_83 : decode cX3_reach 83 = .ok (.iload_n 2, 1) := by decide +kernel
theorem dX3_reach_84 : decode cX3_reach 84 = .ok (.iconst 2, 1) := by decide +kernel
theorem dX3_reach_85 : decode cX3_reach 85 = .ok (.if_icmp .eq 13, 3) := by decide +kernel
theorem dX3_reach_88 : decode cX3_reach 88 = .ok (.iload_n 2, 1) := by decide +kernel
theorem dX3_reach_89 : decode cX3_reach 89 = .ok (.iconst 3, 1) := by decide +kernel
theorem dX3_reach_90 : decode cX3_reach 90 = .ok (.if_icmp .eq 8, 3) := by decide +kernel
theorem dX3_reach_93 : decode cX3_reach 93 = .ok (.iload_n 2, 1) := by decide +kernel
theorem dX3_reach_94 : decode cX3_reach 94 = .ok (.iconst 4, 1) := by decide +kernel
theorem dX3_reach_95 : decode cX3_reach 95 = .ok (.if_icmp .ne 7, 3) := by decide +kernel
theorem dX3_reach_98 : decode cX3_reach 98 = .ok (.iconst 4, 1) := by decide +kernel
theorem dX3_reach_99 : decode cX3_reach 99 = .ok (.goto 4, 3) := by decide +kernel
theorem dX3_reach_102 : decode cX3_reach 102 = .ok (.iconst 1, 1) := by decide +kernel
theorem dX3_reach_103 : decode cX3_reach 103 = .ok (.istore 5, 2) := by decide +kernel
theorem dX3_reach_105 : decode cX3_reach 105 = .ok (.iconst 0, 1) := by decide +kernel
theorem dX3_reach_106 : decode cX3_reach 106 = .ok (.istore 6, 2) := by decide +kernel
theorem dX3_reach_108 : decode cX3_reach 108 = .ok (.iload_n 3, 1) := by decide +kernel
theorem dX3_reach_109 : decode cX3_reach 109 = .ok (.istore 7, 2) := by decide +kernel
theorem dX3_reach_111 : decode cX3_reach 111 = .ok (.iload 7, 2) := by decide +kernel
theorem dX3_reach_113 : decode cX3_reach 113 = .ok (.iload 4, 2) := by decide +kernel
theorem dX3_reach_115 : decode cX3_reach 115 = .ok (.if_icmp .ge 121, 3) := by decide +kernel
theorem dX3_reach_118 : decode cX3_reach 118 = .ok (.iload 7, 2) := by decide +kernel
theorem dX3_reach_120 : decode cX3_reach 120 = .ok (.bipush 16, 2) := by decide +kernel
theorem dX3_reach_122 : decode cX3_reach 122 = .ok (.if_icmp .ge 114, 3) := by decide +kernel
theorem dX3_reach_125 : decode cX3_reach 125 = .ok (.iload_n 1, 1) := by decide +kernel
theorem dX3_reach_126 : decode cX3_reach 126 = .ok (.iconst 5, 1) := by decide +kernel
theorem dX3_reach_127 : decode cX3_reach 127 = .ok (.irem, 1) := by decide +kernel
theorem dX3_reach_128 : decode cX3_reach 128 = .ok (.istore 8, 2) := by decide +kernel
theorem dX3_reach_130 : decode cX3_reach 130 = .ok (.iload_n 1, 1) := by decide +kernel
theorem dX3_reach_131 : decode cX3_reach 131 = .ok (.iconst 5, 1) := by decide +kernel
theorem dX3_reach_132 : decode cX3_reach 132 = .ok (.idiv, 1) := by decide +kernel
theorem dX3_reach_133 : decode cX3_reach 133 = .ok (.istore 9, 2) := by decide +kernel
theorem dX3_reach_135 : decode cX3_reach 135 = .ok (.iconst 0, 1) := by decide +kernel
theorem dX3_reach_136 : decode cX3_reach 136 = .ok (.istore 10, 2) := by decide +kernel
theorem dX3_reach_138 : decode cX3_reach 138 = .ok (.iload 10, 2) := by decide +kernel
theorem dX3_reach_140 : decode cX3_reach 140 = .ok (.iload 5, 2) := by decide +kernel
theorem dX3_reach_142 : decode cX3_reach 142 = .ok (.if_icmp .ge 88, 3) := by decide +kernel
theorem dX3_reach_145 : decode cX3_reach 145 = .ok (.iload 8, 2) := by decide +kernel
theorem dX3_reach_147 : decode cX3_reach 147 = .ok (.getstatic 43, 3) := by decide +kernel
theorem dX3_reach_150 : decode cX3_reach 150 = .ok (.iload 7, 2) := by decide +kernel
theorem dX3_reach_152 : decode cX3_reach 152 = .ok (.iaload, 1) := by decide +kernel
theorem dX3_reach_153 : decode cX3_reach 153 = .ok (.iadd, 1) := by decide +kernel
theorem dX3_reach_154 : decode cX3_reach 154 = .ok (.istore 8, 2) := by decide +kernel
theorem dX3_reach_156 : decode cX3_reach 156 = .ok (.iload 9, 2) := by decide +kernel
theorem dX3_reach_158 : decode cX3_reach 158 = .ok (.getstatic 46, 3) := by decide +kernel
theorem dX3_reach_161 : decode cX3_reach 161 = .ok (.iload 7, 2) := by decide +kernel
theorem dX3_reach_163 : decode cX3_reach 163 = .ok (.iaload, 1) := by decide +kernel
theorem dX3_reach_164 : decode cX3_reach 164 = .ok (.iadd, 1) := by decide +kernel
theorem dX3_reach_165 : decode cX3_reach 165 = .ok (.istore 9, 2) := by decide +kernel
theorem dX3_reach_167 : decode cX3_reach 167 = .ok (.iload 8, 2) := by decide +kernel
theorem dX3_reach_169 : decode cX3_reach 169 = .ok (.ifCond .lt 61, 3) := by decide +kernel
theorem dX3_reach_172 : decode cX3_reach 172 = .ok (.iload 8, 2) := by decide +kernel
theorem dX3_reach_174 : decode cX3_reach 174 = .ok (.iconst 5, 1) := by decide +kernel
theorem dX3_reach_175 : decode cX3_reach 175 = .ok (.if_icmp .ge 55, 3) := by decide +kernel
theorem dX3_reach_178 : decode cX3_reach 178 = .ok (.iload 9, 2) := by decide +kernel
theorem dX3_reach_180 : decode cX3_reach 180 = .ok (.ifCond .lt 50, 3) := by decide +kernel
theorem dX3_reach_183 : decode cX3_reach 183 = .ok (.iload 9, 2) := by decide +kernel
theorem dX3_reach_185 : decode cX3_reach 185 = .ok (.iconst 5, 1) := by decide +kernel
theorem dX3_reach_186 : decode cX3_reach 186 = .ok (.if_icmp .lt 6, 3) := by decide +kernel
theorem dX3_reach_189 : decode cX3_reach 189 = .ok (.goto 41, 3) := by decide +kernel
theorem dX3_reach_192 : decode cX3_reach 192 = .ok (.iload 6, 2) := by decide +kernel
theorem dX3_reach_194 : decode cX3_reach 194 = .ok (.iconst 1, 1) := by decide +kernel
theorem dX3_reach_195 : decode cX3_reach 195 = .ok (.iload 9, 2) := by decide +kernel
theorem dX3_reach_197 : decode cX3_reach 197 = .ok (.iconst 5, 1) := by decide +kernel
theorem dX3_reach_198 : decode cX3_reach 198 = .ok (.imul, 1) := by decide +kernel
theorem dX3_reach_199 : decode cX3_reach 199 = .ok (.iload 8, 2) := by decide +kernel
theorem dX3_reach_201 : decode cX3_reach 201 = .ok (.iadd, 1) := by decide +kernel
theorem dX3_reach_202 : decode cX3_reach 202 = .ok (.ishl, 1) := by decide +kernel
theorem dX3_reach_203 : decode cX3_reach 203 = .ok (.ior, 1) := by decide +kernel
theorem dX3_reach_204 : decode cX3_reach 204 = .ok (.istore 6, 2) := by decide +kernel
theorem dX3_reach_206 : decode cX3_reach 206 = .ok (.aload_n 0, 1) := by decide +kernel
theorem dX3_reach_207 : decode cX3_reach 207 = .ok (.getfield 9, 3) := by decide +kernel
theorem dX3_reach_210 : decode cX3_reach 210 = .ok (.iload 9, 2) := by decide +kernel
theorem dX3_reach_212 : decode cX3_reach 212 = .ok (.iconst 5, 1) := by decide +kernel
theorem dX3_reach_213 : decode cX3_reach 213 = .ok (.imul, 1) := by decide +kernel
theorem dX3_reach_214 : decode cX3_reach 214 = .ok (.iload 8, 2) := by decide +kernel
theorem dX3_reach_216 : decode cX3_reach 216 = .ok (.iadd, 1) := by decide +kernel
theorem dX3_reach_217 : decode cX3_reach 217 = .ok (.iaload, 1) := by decide +kernel
theorem dX3_reach_218 : decode cX3_reach 218 = .ok (.ifCond .eq 6, 3) := by decide +kernel
theorem dX3_reach_221 : decode cX3_reach 221 = .ok (.goto 9, 3) := by decide +kernel
theorem dX3_reach_224 : decode cX3_reach 224 = .ok (.iinc 10 1, 3) := by decide +kernel
theorem dX3_reach_227 : decode cX3_reach 227 = .ok (.goto (-89), 3) := by decide +kernel
theorem dX3_reach_230 : decode cX3_reach 230 = .ok (.iinc 7 1, 3) := by decide +kernel
theorem dX3_reach_233 : decode cX3_reach 233 = .ok (.goto (-122), 3) := by decide +kernel
theorem dX3_reach_236 : decode cX3_reach 236 = .ok (.iload 6, 2) := by decide +kernel
theorem dX3_reach_238 : decode cX3_reach 238 = .ok (.ireturn, 1) := by decide +kernel
theorem dX3_covered_0 : decode cX3_covered 0 = .ok (.iconst 0, 1) := by decide +kernel
theorem dX3_covered_1 : decode cX3_covered 1 = .ok (.istore_n 1, 1) := by decide +kernel
theorem dX3_covered_2 : decode cX3_covered 2 = .ok (.iconst 0, 1) := by decide +kernel
theorem dX3_covered_3 : decode cX3_covered 3 = .ok (.istore_n 2, 1) := by decide +kernel
theorem dX3_covered_4 : decode cX3_covered 4 = .ok (.iload_n 2, 1) := by decide +kernel
theorem dX3_covered_5 : decode cX3_covered 5 = .ok (.bipush 25, 2) := by decide +kernel
theorem dX3_covered_7 : decode cX3_covered 7 = .ok (.if_icmp .ge 29, 3) := by decide +kernel
theorem dX3_covered_10 : decode cX3_covered 10 = .ok (.aload_n 0, 1) := by decide +kernel
theorem dX3_covered_11 : decode cX3_covered 11 = .ok (.getfield 9, 3) := by decide +kernel
theorem dX3_covered_14 : decode cX3_covered 14 = .ok (.iload_n 2, 1) := by decide +kernel
theorem dX3_covered_15 : decode cX3_covered 15 = .ok (.iaload, 1) := by decide +kernel
theorem dX3_covered_16 : decode cX3_covered 16 = .ok (.invokestatic 49, 3) := by decide +kernel
theorem dX3_covered_19 : decode cX3_covered 19 = .ok (.ifCond .eq 11, 3) := by decide +kernel
theorem dX3_covered_22 : decode cX3_covered 22 = .ok (.iload_n 1, 1) := by decide +kernel
theorem dX3_covered_23 : decode cX3_covered 23 = .ok (.aload_n 0, 1) := by decide +kernel
theorem dX3_covered_24 : decode cX3_covered 24 = .ok (.iload_n 2, 1) := by decide +kernel
theorem dX3_covered_25 : decode cX3_covered 25 = .ok (.invokevirtual 52, 3) := by decide +kernel
theorem dX3_covered_28 : decode cX3_covered 28 = .ok (.ior, 1) := by decide +kernel
theorem dX3_covered_29 : decode cX3_covered 29 = .ok (.istore_n 1, 1) := by decide +kernel
theorem dX3_covered_30 : decode cX3_covered 30 = .ok (.iinc 2 1, 3) := by decide +kernel
theorem dX3_covered_33 : decode cX3_covered 33 = .ok (.goto (-29), 3) := by decide +kernel
theorem dX3_covered_36 : decode cX3_covered 36 = .ok (.iload_n 1, 1) := by decide +kernel
theorem dX3_covered_37 : decode cX3_covered 37 = .ok (.ireturn, 1) := by decide +kernel
theorem dX3_countManByMan_0 : decode cX3_countManByMan 0 = .ok (.iconst 0, 1) := by decide +kernel
theorem dX3_countManByMan_1 : decode cX3_countManByMan 1 = .ok (.istore_n 2, 1) := by decide +kernel
theorem dX3_countManByMan_2 : decode cX3_countManByMan 2 = .ok (.iconst 0, 1) := by decide +kernel
theorem dX3_countManByMan_3 : decode cX3_countManByMan 3 = .ok (.istore_n 3, 1) := by decide +kernel
theorem dX3_countManByMan_4 : decode cX3_countManByMan 4 = .ok (.iload_n 3, 1) := by decide +kernel
theorem dX3_countManByMan_5 : decode cX3_countManByMan 5 = .ok (.bipush 25, 2) := by decide +kernel
theorem dX3_countManByMan_7 : decode cX3_countManByMan 7 = .ok (.if_icmp .ge 36, 3) := by decide +kernel
theorem dX3_countManByMan_10 : decode cX3_countManByMan 10 = .ok (.aload_n 0, 1) := by decide +kernel
theorem dX3_countManByMan_11 : decode cX3_countManByMan 11 = .ok (.getfield 9, 3) := by decide +kernel
theorem dX3_countManByMan_14 : decode cX3_countManByMan 14 = .ok (.iload_n 3, 1) := by decide +kernel
theorem dX3_countManByMan_15 : decode cX3_countManByMan 15 = .ok (.iaload, 1) := by decide +kernel
theorem dX3_countManByMan_16 : decode cX3_countManByMan 16 = .ok (.invokestatic 49, 3) := by decide +kernel
theorem dX3_countManByMan_19 : decode cX3_countManByMan 19 = .ok (.ifCond .eq 18, 3) := by decide +kernel
theorem dX3_countManByMan_22 : decode cX3_countManByMan 22 = .ok (.aload_n 0, 1) := by decide +kernel
theorem dX3_countManByMan_23 : decode cX3_countManByMan 23 = .ok (.iload_n 3, 1) := by decide +kernel
theorem dX3_countManByMan_24 : decode cX3_countManByMan 24 = .ok (.invokevirtual 52, 3) := by decide +kernel
theorem dX3_countManByMan_27 : decode cX3_countManByMan 27 = .ok (.iload_n 1, 1) := by decide +kernel
theorem dX3_countManByMan_28 : decode cX3_countManByMan 28 = .ok (.invokestatic 55, 3) := by decide +kernel
theorem dX3_countManByMan_31 : decode cX3_countManByMan 31 = .ok (.ifCond .eq 6, 3) := by decide +kernel
theorem dX3_countManByMan_34 : decode cX3_countManByMan 34 = .ok (.iinc 2 1, 3) := by decide +kernel
theorem dX3_countManByMan_37 : decode cX3_countManByMan 37 = .ok (.iinc 3 1, 3) := by decide +kernel
theorem dX3_countManByMan_40 : decode cX3_countManByMan 40 = .ok (.goto (-36), 3) := by decide +kernel
theorem dX3_countManByMan_43 : decode cX3_countManByMan 43 = .ok (.iload_n 2, 1) := by decide +kernel
theorem dX3_countManByMan_44 : decode cX3_countManByMan 44 = .ok (.ireturn, 1) := by decide +kernel
theorem dX3_countLineByLine_0 : decode cX3_countLineByLine 0 = .ok (.iconst 0, 1) := by decide +kernel
theorem dX3_countLineByLine_1 : decode cX3_countLineByLine 1 = .ok (.istore_n 2, 1) := by decide +kernel
theorem dX3_countLineByLine_2 : decode cX3_countLineByLine 2 = .ok (.iconst 0, 1) := by decide +kernel
theorem dX3_countLineByLine_3 : decode cX3_countLineByLine 3 = .ok (.istore_n 3, 1) := by decide +kernel
theorem dX3_countLineByLine_4 : decode cX3_countLineByLine 4 = .ok (.iload_n 3, 1) := by decide +kernel
theorem dX3_countLineByLine_5 : decode cX3_countLineByLine 5 = .ok (.bipush 16, 2) := by decide +kernel
theorem dX3_countLineByLine_7 : decode cX3_countLineByLine 7 = .ok (.if_icmp .ge 21, 3) := by decide +kernel
theorem dX3_countLineByLine_10 : decode cX3_countLineByLine 10 = .ok (.aload_n 0, 1) := by decide +kernel
theorem dX3_countLineByLine_11 : decode cX3_countLineByLine 11 = .ok (.iload_n 1, 1) := by decide +kernel
theorem dX3_countLineByLine_12 : decode cX3_countLineByLine 12 = .ok (.iload_n 3, 1) := by decide +kernel
theorem dX3_countLineByLine_13 : decode cX3_countLineByLine 13 = .ok (.invokevirtual 59, 3) := by decide +kernel
theorem dX3_countLineByLine_16 : decode cX3_countLineByLine 16 = .ok (.ifCond .eq 6, 3) := by decide +kernel
theorem dX3_countLineByLine_19 : decode cX3_countLineByLine 19 = .ok (.iinc 2 1, 3) := by decide +kernel
theorem dX3_countLineByLine_22 : decode cX3_countLineByLine 22 = .ok (.iinc 3 1, 3) := by decide +kernel
theorem dX3_countLineByLine_25 : decode cX3_countLineByLine 25 = .ok (.goto (-21), 3) := by decide +kernel
theorem dX3_countLineByLine_28 : decode cX3_countLineByLine 28 = .ok (.iload_n 2, 1) := by decide +kernel
theorem dX3_countLineByLine_29 : decode cX3_countLineByLine 29 = .ok (.ireturn, 1) := by decide +kernel
theorem dX3_isMetIn_0 : decode cX3_isMetIn 0 = .ok (.iload_n 1, 1) := by decide +kernel
theorem dX3_isMetIn_1 : decode cX3_isMetIn 1 = .ok (.invokestatic 28, 3) := by decide +kernel
theorem dX3_isMetIn_4 : decode cX3_isMetIn 4 = .ok (.ifCond .eq 13, 3) := by decide +kernel
theorem dX3_isMetIn_7 : decode cX3_isMetIn 7 = .ok (.iload_n 2, 1) := by decide +kernel
theorem dX3_isMetIn_8 : decode cX3_isMetIn 8 = .ok (.ifCond .lt 9, 3) := by decide +kernel
theorem dX3_isMetIn_11 : decode cX3_isMetIn 11 = .ok (.iload_n 2, 1) := by decide +kernel
theorem dX3_isMetIn_12 : decode cX3_isMetIn 12 = .ok (.bipush 16, 2) := by decide +kernel
theorem dX3_isMetIn_14 : decode cX3_isMetIn 14 = .ok (.if_icmp .lt 5, 3) := by decide +kernel
theorem dX3_isMetIn_17 : decode cX3_isMetIn 17 = .ok (.iconst 0, 1) := by decide +kernel
theorem dX3_isMetIn_18 : decode cX3_isMetIn 18 = .ok (.ireturn, 1) := by decide +kernel
theorem dX3_isMetIn_19 : decode cX3_isMetIn 19 = .ok (.iload_n 1, 1) := by decide +kernel
theorem dX3_isMetIn_20 : decode cX3_isMetIn 20 = .ok (.iconst 5, 1) := by decide +kernel
theorem dX3_isMetIn_21 : decode cX3_isMetIn 21 = .ok (.irem, 1) := by decide +kernel
theorem dX3_isMetIn_22 : decode cX3_isMetIn 22 = .ok (.istore_n 3, 1) := by decide +kernel
theorem dX3_isMetIn_23 : decode cX3_isMetIn 23 = .ok (.iload_n 1, 1) := by decide +kernel
theorem dX3_isMetIn_24 : decode cX3_isMetIn 24 = .ok (.iconst 5, 1) := by decide +kernel
theorem dX3_isMetIn_25 : decode cX3_isMetIn 25 = .ok (.idiv, 1) := by decide +kernel
theorem dX3_isMetIn_26 : decode cX3_isMetIn 26 = .ok (.istore 4, 2) := by decide +kernel
theorem dX3_isMetIn_28 : decode cX3_isMetIn 28 = .ok (.iload_n 2, 1) := by decide +kernel
theorem dX3_isMetIn_29 : decode cX3_isMetIn 29 = .ok (.bipush 8, 2) := by decide +kernel
theorem dX3_isMetIn_31 : decode cX3_isMetIn 31 = .ok (.if_icmp .ge 7, 3) := by decide +kernel
theorem dX3_isMetIn_34 : decode cX3_isMetIn 34 = .ok (.iconst 4, 1) := by decide +kernel
theorem dX3_isMetIn_35 : decode cX3_isMetIn 35 = .ok (.goto 4, 3) := by decide +kernel
theorem dX3_isMetIn_38 : decode cX3_isMetIn 38 = .ok (.iconst 1, 1) := by decide +kernel
theorem dX3_isMetIn_39 : decode cX3_isMetIn 39 = .ok (.istore 5, 2) := by decide +kernel
theorem dX3_isMetIn_41 : decode cX3_isMetIn 41 = .ok (.iconst 0, 1) := by decide +kernel
theorem dX3_isMetIn_42 : decode cX3_isMetIn 42 = .ok (.istore 6, 2) := by decide +kernel
theorem dX3_isMetIn_44 : decode cX3_isMetIn 44 = .ok (.iload 6, 2) := by decide +kernel
theorem dX3_isMetIn_46 : decode cX3_isMetIn 46 = .ok (.iload 5, 2) := by decide +kernel
theorem dX3_isMetIn_48 : decode cX3_isMetIn 48 = .ok (.if_icmp .ge 76, 3) := by decide +kernel
theorem dX3_isMetIn_51 : decode cX3_isMetIn 51 = .ok (.iload_n 3, 1) := by decide +kernel
theorem dX3_isMetIn_52 : decode cX3_isMetIn 52 = .ok (.getstatic 43, 3) := by decide +kernel
theorem dX3_isMetIn_55 : decode cX3_isMetIn 55 = .ok (.iload_n 2, 1) := by decide +kernel
theorem dX3_isMetIn_56 : decode cX3_isMetIn 56 = .ok (.iaload, 1) := by decide +kernel
theorem dX3_isMetIn_57 : decode cX3_isMetIn 57 = .ok (.iadd, 1) := by decide +kernel
theorem dX3_isMetIn_58 : decode cX3_isMetIn 58 = .ok (.istore_n 3, 1) := by decide +kernel
theorem dX3_isMetIn_59 : decode cX3_isMetIn 59 = .ok (.iload 4, 2) := by decide +kernel
theorem dX3_isMetIn_61 : decode cX3_isMetIn 61 = .ok (.getstatic 46, 3) := by decide +kernel
theorem dX3_isMetIn_64 : decode cX3_isMetIn 64 = .ok (.iload_n 2, 1) := by decide +kernel
theorem dX3_isMetIn_65 : decode cX3_isMetIn 65 = .ok (.iaload, 1) := by decide +kernel
theorem dX3_isMetIn_66 : decode cX3_isMetIn 66 = .ok (.iadd, 1) := by decide +kernel
theorem dX3_isMetIn_67 : decode cX3_isMetIn 67 = .ok (.istore 4, 2) := by decide +kernel
theorem dX3_isMetIn_69 : decode cX3_isMetIn 69 = .ok (.iload_n 3, 1) := by decide +kernel
theorem dX3_isMetIn_70 : decode cX3_isMetIn 70 = .ok (.ifCond .lt 19, 3) := by decide +kernel
theorem dX3_isMetIn_73 : decode cX3_isMetIn 73 = .ok (.iload_n 3, 1) := by decide +kernel
theorem dX3_isMetIn_74 : decode cX3_isMetIn 74 = .ok (.iconst 5, 1) := by decide +kernel
theorem dX3_isMetIn_75 : decode cX3_isMetIn 75 = .ok (.if_icmp .ge 14, 3) := by decide +kernel
theorem dX3_isMetIn_78 : decode cX3_isMetIn 78 = .ok (.iload 4, 2) := by decide +kernel
theorem dX3_isMetIn_80 : decode cX3_isMetIn 80 = .ok (.ifCond .lt 9, 3) := by decide +kernel
theorem dX3_isMetIn_83 : decode cX3_isMetIn 83 = .ok (.iload 4, 2) := by decide +kernel
theorem dX3_isMetIn_85 : decode cX3_isMetIn 85 = .ok (.iconst 5, 1) := by decide +kernel
theorem dX3_isMetIn_86 : decode cX3_isMetIn 86 = .ok (.if_icmp .lt 5, 3) := by decide +kernel
theorem dX3_isMetIn_89 : decode cX3_isMetIn 89 = .ok (.iconst 0, 1) := by decide +kernel
theorem dX3_isMetIn_90 : decode cX3_isMetIn 90 = .ok (.ireturn, 1) := by decide +kernel
theorem dX3_isMetIn_91 : decode cX3_isMetIn 91 = .ok (.aload_n 0, 1) := by decide +kernel
theorem dX3_isMetIn_92 : decode cX3_isMetIn 92 = .ok (.getfield 9, 3) := by decide +kernel
theorem dX3_isMetIn_95 : decode cX3_isMetIn 95 = .ok (.iload 4, 2) := by decide +kernel
theorem dX3_isMetIn_97 : decode cX3_isMetIn 97 = .ok (.iconst 5, 1) := by decide +kernel
theorem dX3_isMetIn_98 : decode cX3_isMetIn 98 = .ok (.imul, 1) := by decide +kernel
theorem dX3_isMetIn_99 : decode cX3_isMetIn 99 = .ok (.iload_n 3, 1) := by decide +kernel
theorem dX3_isMetIn_100 : decode cX3_isMetIn 100 = .ok (.iadd, 1) := by decide +kernel
theorem dX3_isMetIn_101 : decode cX3_isMetIn 101 = .ok (.iaload, 1) := by decide +kernel
theorem dX3_isMetIn_102 : decode cX3_isMetIn 102 = .ok (.istore 7, 2) := by decide +kernel
theorem dX3_isMetIn_104 : decode cX3_isMetIn 104 = .ok (.iload 7, 2) := by decide +kernel
theorem dX3_isMetIn_106 : decode cX3_isMetIn 106 = .ok (.ifCond .eq 12, 3) := by decide +kernel
theorem dX3_isMetIn_109 : decode cX3_isMetIn 109 = .ok (.iload 7, 2) := by decide +kernel
theorem dX3_isMetIn_111 : decode cX3_isMetIn 111 = .ok (.iload_n 2, 1) := by decide +kernel
theorem dX3_isMetIn_112 : decode cX3_isMetIn 112 = .ok (.iload 6, 2) := by decide +kernel
theorem dX3_isMetIn_114 : decode cX3_isMetIn 114 = .ok (.invokestatic 62, 3) := by decide +kernel
theorem dX3_isMetIn_117 : decode cX3_isMetIn 117 = .ok (.ireturn, 1) := by decide +kernel
theorem dX3_isMetIn_118 : decode cX3_isMetIn 118 = .ok (.iinc 6 1, 3) := by decide +kernel
theorem dX3_isMetIn_121 : decode cX3_isMetIn 121 = .ok (.goto (-77), 3) := by decide +kernel
theorem dX3_isMetIn_124 : decode cX3_isMetIn 124 = .ok (.iconst 0, 1) := by decide +kernel
theorem dX3_isMetIn_125 : decode cX3_isMetIn 125 = .ok (.ireturn, 1) := by decide +kernel
theorem dX3_attacksAlong_0 : decode cX3_attacksAlong 0 = .ok (.iload_n 1, 1) := by decide +kernel
theorem dX3_attacksAlong_1 : decode cX3_attacksAlong 1 = .ok (.bipush 8, 2) := by decide +kernel
theorem dX3_attacksAlong_3 : decode cX3_attacksAlong 3 = .ok (.if_icmp .lt 14, 3) := by decide +kernel
theorem dX3_attacksAlong_6 : decode cX3_attacksAlong 6 = .ok (.iload_n 0, 1) := by decide +kernel
theorem dX3_attacksAlong_7 : decode cX3_attacksAlong 7 = .ok (.iconst 5, 1) := by decide +kernel
theorem dX3_attacksAlong_8 : decode cX3_attacksAlong 8 = .ok (.if_icmp .ne 7, 3) := by decide +kernel
theorem dX3_attacksAlong_11 : decode cX3_attacksAlong 11 = .ok (.iconst 1, 1) := by decide +kernel
theorem dX3_attacksAlong_12 : decode cX3_attacksAlong 12 = .ok (.goto 4, 3) := by decide +kernel
theorem dX3_attacksAlong_15 : decode cX3_attacksAlong 15 = .ok (.iconst 0, 1) := by decide +kernel
theorem dX3_attacksAlong_16 : decode cX3_attacksAlong 16 = .ok (.ireturn, 1) := by decide +kernel
theorem dX3_attacksAlong_17 : decode cX3_attacksAlong 17 = .ok (.iload_n 0, 1) := by decide +kernel
theorem dX3_attacksAlong_18 : decode cX3_attacksAlong 18 = .ok (.iconst 1, 1) := by decide +kernel
theorem dX3_attacksAlong_19 : decode cX3_attacksAlong 19 = .ok (.if_icmp .ne 13, 3) := by decide +kernel
theorem dX3_attacksAlong_22 : decode cX3_attacksAlong 22 = .ok (.iload_n 2, 1) := by decide +kernel
theorem dX3_attacksAlong_23 : decode cX3_attacksAlong 23 = .ok (.ifCond .ne 7, 3) := by decide +kernel
theorem dX3_attacksAlong_26 : decode cX3_attacksAlong 26 = .ok (.iconst 1, 1) := by decide +kernel
theorem dX3_attacksAlong_27 : decode cX3_attacksAlong 27 = .ok (.goto 4, 3) := by decide +kernel
theorem dX3_attacksAlong_30 : decode cX3_attacksAlong 30 = .ok (.iconst 0, 1) := by decide +kernel
theorem dX3_attacksAlong_31 : decode cX3_attacksAlong 31 = .ok (.ireturn, 1) := by decide +kernel
theorem dX3_attacksAlong_32 : decode cX3_attacksAlong 32 = .ok (.iload_n 0, 1) := by decide +kernel
theorem dX3_attacksAlong_33 : decode cX3_attacksAlong 33 = .ok (.iconst 2, 1) := by decide +kernel
theorem dX3_attacksAlong_34 : decode cX3_attacksAlong 34 = .ok (.if_icmp .eq 17, 3) := by decide +kernel
theorem dX3_attacksAlong_37 : decode cX3_attacksAlong 37 = .ok (.iload_n 0, 1) := by decide +kernel
theorem dX3_attacksAlong_38 : decode cX3_attacksAlong 38 = .ok (.iload_n 1, 1) := by decide +kernel
theorem dX3_attacksAlong_39 : decode cX3_attacksAlong 39 = .ok (.iconst 4, 1) := by decide +kernel
theorem dX3_attacksAlong_40 : decode cX3_attacksAlong 40 = .ok (.if_icmp .ge 7, 3) := by decide +kernel
theorem dX3_attacksAlong_43 : decode cX3_attacksAlong 43 = .ok (.iconst 3, 1) := by decide +kernel
theorem dX3_attacksAlong_44 : decode cX3_attacksAlong 44 = .ok (.goto 4, 3) := by decide +kernel
theorem dX3_attacksAlong_47 : decode cX3_attacksAlong 47 = .ok (.iconst 4, 1) := by decide +kernel
theorem dX3_attacksAlong_48 : decode cX3_attacksAlong 48 = .ok (.if_icmp .ne 7, 3) := by decide +kernel
theorem dX3_attacksAlong_51 : decode cX3_attacksAlong 51 = .ok (.iconst 1, 1) := by decide +kernel
theorem dX3_attacksAlong_52 : decode cX3_attacksAlong 52 = .ok (.goto 4, 3) := by decide +kernel
theorem dX3_attacksAlong_55 : decode cX3_attacksAlong 55 = .ok (.iconst 0, 1) := by decide +kernel
theorem dX3_attacksAlong_56 : decode cX3_attacksAlong 56 = .ok (.ireturn, 1) := by decide +kernel
theorem dX3_movesFrom_0 : decode cX3_movesFrom 0 = .ok (.iload_n 1, 1) := by decide +kernel
theorem dX3_movesFrom_1 : decode cX3_movesFrom 1 = .ok (.ifCond .lt 21, 3) := by decide +kernel
theorem dX3_movesFrom_4 : decode cX3_movesFrom 4 = .ok (.iload_n 1, 1) := by decide +kernel
theorem dX3_movesFrom_5 : decode cX3_movesFrom 5 = .ok (.bipush 25, 2) := by decide +kernel
theorem dX3_movesFrom_7 : decode cX3_movesFrom 7 = .ok (.if_icmp .ge 15, 3) := by decide +kernel
theorem dX3_movesFrom_10 : decode cX3_movesFrom 10 = .ok (.aload_n 0, 1) := by decide +kernel
theorem dX3_movesFrom_11 : decode cX3_movesFrom 11 = .ok (.getfield 9, 3) := by decide +kernel
theorem dX3_movesFrom_14 : decode cX3_movesFrom 14 = .ok (.iload_n 1, 1) := by decide +kernel
theorem dX3_movesFrom_15 : decode cX3_movesFrom 15 = .ok (.iaload, 1) := by decide +kernel
theorem dX3_movesFrom_16 : decode cX3_movesFrom 16 = .ok (.invokestatic 49, 3) := by decide +kernel
theorem dX3_movesFrom_19 : decode cX3_movesFrom 19 = .ok (.ifCond .ne 5, 3) := by decide +kernel
theorem dX3_movesFrom_22 : decode cX3_movesFrom 22 = .ok (.iconst 0, 1) := by decide +kernel
theorem dX3_movesFrom_23 : decode cX3_movesFrom 23 = .ok (.ireturn, 1) := by decide +kernel
theorem dX3_movesFrom_24 : decode cX3_movesFrom 24 = .ok (.iconst 0, 1) := by decide +kernel
theorem dX3_movesFrom_25 : decode cX3_movesFrom 25 = .ok (.istore_n 2, 1) := by decide +kernel
theorem dX3_movesFrom_26 : decode cX3_movesFrom 26 = .ok (.iconst 0, 1) := by decide +kernel
theorem dX3_movesFrom_27 : decode cX3_movesFrom 27 = .ok (.istore_n 3, 1) := by decide +kernel
theorem dX3_movesFrom_28 : decode cX3_movesFrom 28 = .ok (.iload_n 3, 1) := by decide +kernel
theorem dX3_movesFrom_29 : decode cX3_movesFrom 29 = .ok (.bipush 25, 2) := by decide +kernel
theorem dX3_movesFrom_31 : decode cX3_movesFrom 31 = .ok (.if_icmp .ge 38, 3) := by decide +kernel
theorem dX3_movesFrom_34 : decode cX3_movesFrom 34 = .ok (.aload_n 0, 1) := by decide +kernel
theorem dX3_movesFrom_35 : decode cX3_movesFrom 35 = .ok (.getfield 9, 3) := by decide +kernel
theorem dX3_movesFrom_38 : decode cX3_movesFrom 38 = .ok (.iload_n 3, 1) := by decide +kernel
theorem dX3_movesFrom_39 : decode cX3_movesFrom 39 = .ok (.iaload, 1) := by decide +kernel
theorem dX3_movesFrom_40 : decode cX3_movesFrom 40 = .ok (.invokestatic 49, 3) := by decide +kernel
theorem dX3_movesFrom_43 : decode cX3_movesFrom 43 = .ok (.ifCond .ne 14, 3) := by decide +kernel
theorem dX3_movesFrom_46 : decode cX3_movesFrom 46 = .ok (.aload_n 0, 1) := by decide +kernel
theorem dX3_movesFrom_47 : decode cX3_movesFrom 47 = .ok (.getfield 9, 3) := by decide +kernel
theorem dX3_movesFrom_50 : decode cX3_movesFrom 50 = .ok (.iload_n 3, 1) := by decide +kernel
theorem dX3_movesFrom_51 : decode cX3_movesFrom 51 = .ok (.iaload, 1) := by decide +kernel
theorem dX3_movesFrom_52 : decode cX3_movesFrom 52 = .ok (.bipush 7, 2) := by decide +kernel
theorem dX3_movesFrom_54 : decode cX3_movesFrom 54 = .ok (.if_icmp .ne 9, 3) := by decide +kernel
theorem dX3_movesFrom_57 : decode cX3_movesFrom 57 = .ok (.iload_n 2, 1) := by decide +kernel
theorem dX3_movesFrom_58 : decode cX3_movesFrom 58 = .ok (.iconst 1, 1) := by decide +kernel
theorem dX3_movesFrom_59 : decode cX3_movesFrom 59 = .ok (.iload_n 3, 1) := by decide +kernel
theorem dX3_movesFrom_60 : decode cX3_movesFrom 60 = .ok (.ishl, 1) := by decide +kernel
theorem dX3_movesFrom_61 : decode cX3_movesFrom 61 = .ok (.ior, 1) := by decide +kernel
theorem dX3_movesFrom_62 : decode cX3_movesFrom 62 = .ok (.istore_n 2, 1) := by decide +kernel
theorem dX3_movesFrom_63 : decode cX3_movesFrom 63 = .ok (.iinc 3 1, 3) := by decide +kernel
theorem dX3_movesFrom_66 : decode cX3_movesFrom 66 = .ok (.goto (-38), 3) := by decide +kernel
theorem dX3_movesFrom_69 : decode cX3_movesFrom 69 = .ok (.aload_n 0, 1) := by decide +kernel
theorem dX3_movesFrom_70 : decode cX3_movesFrom 70 = .ok (.getfield 9, 3) := by decide +kernel
theorem dX3_movesFrom_73 : decode cX3_movesFrom 73 = .ok (.iload_n 1, 1) := by decide +kernel
theorem dX3_movesFrom_74 : decode cX3_movesFrom 74 = .ok (.iaload, 1) := by decide +kernel
theorem dX3_movesFrom_75 : decode cX3_movesFrom 75 = .ok (.iconst 1, 1) := by decide +kernel
theorem dX3_movesFrom_76 : decode cX3_movesFrom 76 = .ok (.if_icmp .ne 16, 3) := by decide +kernel
theorem dX3_movesFrom_79 : decode cX3_movesFrom 79 = .ok (.iload_n 2, 1) := by decide +kernel
theorem dX3_movesFrom_80 : decode cX3_movesFrom 80 = .ok (.aload_n 0, 1) := by decide +kernel
theorem dX3_movesFrom_81 : decode cX3_movesFrom 81 = .ok (.aload_n 0, 1) := by decide +kernel
theorem dX3_movesFrom_82 : decode cX3_movesFrom 82 = .ok (.bipush 7, 2) := by decide +kernel
theorem dX3_movesFrom_84 : decode cX3_movesFrom 84 = .ok (.invokevirtual 36, 3) := by decide +kernel
theorem dX3_movesFrom_87 : decode cX3_movesFrom 87 = .ok (.invokevirtual 52, 3) := by decide +kernel
theorem dX3_movesFrom_90 : decode cX3_movesFrom 90 = .ok (.ior, 1) := by decide +kernel
theorem dX3_movesFrom_91 : decode cX3_movesFrom 91 = .ok (.istore_n 2, 1) := by decide +kernel
theorem dX3_movesFrom_92 : decode cX3_movesFrom 92 = .ok (.aload_n 0, 1) := by decide +kernel
theorem dX3_movesFrom_93 : decode cX3_movesFrom 93 = .ok (.iload_n 1, 1) := by decide +kernel
theorem dX3_movesFrom_94 : decode cX3_movesFrom 94 = .ok (.invokevirtual 52, 3) := by decide +kernel
theorem dX3_movesFrom_97 : decode cX3_movesFrom 97 = .ok (.iload_n 2, 1) := by decide +kernel
theorem dX3_movesFrom_98 : decode cX3_movesFrom 98 = .ok (.iconst (-1), 1) := by decide +kernel
theorem dX3_movesFrom_99 : decode cX3_movesFrom 99 = .ok (.ixor, 1) := by decide +kernel
theorem dX3_movesFrom_100 : decode cX3_movesFrom 100 = .ok (.iand, 1) := by decide +kernel
theorem dX3_movesFrom_101 : decode cX3_movesFrom 101 = .ok (.ireturn, 1) := by decide +kernel
theorem dX3_hasMove_0 : decode cX3_hasMove 0 = .ok (.iload_n 1, 1) := by decide +kernel
theorem dX3_hasMove_1 : decode cX3_hasMove 1 = .ok (.invokestatic 28, 3) := by decide +kernel
theorem dX3_hasMove_4 : decode cX3_hasMove 4 = .ok (.ifCond .eq 26, 3) := by decide +kernel
theorem dX3_hasMove_7 : decode cX3_hasMove 7 = .ok (.iload_n 2, 1) := by decide +kernel
theorem dX3_hasMove_8 : decode cX3_hasMove 8 = .ok (.invokestatic 28, 3) := by decide +kernel
theorem dX3_hasMove_11 : decode cX3_hasMove 11 = .ok (.ifCond .eq 19, 3) := by decide +kernel
theorem dX3_hasMove_14 : decode cX3_hasMove 14 = .ok (.aload_n 0, 1) := by decide +kernel
theorem dX3_hasMove_15 : decode cX3_hasMove 15 = .ok (.iload_n 1, 1) := by decide +kernel
theorem dX3_hasMove_16 : decode cX3_hasMove 16 = .ok (.invokevirtual 66, 3) := by decide +kernel
theorem dX3_hasMove_19 : decode cX3_hasMove 19 = .ok (.iload_n 2, 1) := by decide +kernel
theorem dX3_hasMove_20 : decode cX3_hasMove 20 = .ok (.invokestatic 55, 3) := by decide +kernel
theorem dX3_hasMove_23 : decode cX3_hasMove 23 = .ok (.ifCond .eq 7, 3) := by decide +kernel
theorem dX3_hasMove_26 : decode cX3_hasMove 26 = .ok (.iconst 1, 1) := by decide +kernel
theorem dX3_hasMove_27 : decode cX3_hasMove 27 = .ok (.goto 4, 3) := by decide +kernel
theorem dX3_hasMove_30 : decode cX3_hasMove 30 = .ok (.iconst 0, 1) := by decide +kernel
theorem dX3_hasMove_31 : decode cX3_hasMove 31 = .ok (.ireturn, 1) := by decide +kernel
theorem dX3_outlook_0 : decode cX3_outlook 0 = .ok (.aload_n 0, 1) := by decide +kernel
theorem dX3_outlook_1 : decode cX3_outlook 1 = .ok (.bipush 7, 2) := by decide +kernel
theorem dX3_outlook_3 : decode cX3_outlook 3 = .ok (.invokevirtual 36, 3) := by decide +kernel
theorem dX3_outlook_6 : decode cX3_outlook 6 = .ok (.istore_n 1, 1) := by decide +kernel
theorem dX3_outlook_7 : decode cX3_outlook 7 = .ok (.iload_n 1, 1) := by decide +kernel
theorem dX3_outlook_8 : decode cX3_outlook 8 = .ok (.ifCond .lt 9, 3) := by decide +kernel
theorem dX3_outlook_11 : decode cX3_outlook 11 = .ok (.iload_n 1, 1) := by decide +kernel
theorem dX3_outlook_12 : decode cX3_outlook 12 = .ok (.bipush 25, 2) := by decide +kernel
theorem dX3_outlook_14 : decode cX3_outlook 14 = .ok (.if_icmp .lt 5, 3) := by decide +kernel
theorem dX3_outlook_17 : decode cX3_outlook 17 = .ok (.iconst 0, 1) := by decide +kernel
theorem dX3_outlook_18 : decode cX3_outlook 18 = .ok (.ireturn, 1) := by decide +kernel
theorem dX3_outlook_19 : decode cX3_outlook 19 = .ok (.aload_n 0, 1) := by decide +kernel
theorem dX3_outlook_20 : decode cX3_outlook 20 = .ok (.iload_n 1, 1) := by decide +kernel
theorem dX3_outlook_21 : decode cX3_outlook 21 = .ok (.invokevirtual 52, 3) := by decide +kernel
theorem dX3_outlook_24 : decode cX3_outlook 24 = .ok (.istore_n 2, 1) := by decide +kernel
theorem dX3_outlook_25 : decode cX3_outlook 25 = .ok (.iconst 0, 1) := by decide +kernel
theorem dX3_outlook_26 : decode cX3_outlook 26 = .ok (.istore_n 3, 1) := by decide +kernel
theorem dX3_outlook_27 : decode cX3_outlook 27 = .ok (.iconst 0, 1) := by decide +kernel
theorem dX3_outlook_28 : decode cX3_outlook 28 = .ok (.istore 4, 2) := by decide +kernel
theorem dX3_outlook_30 : decode cX3_outlook 30 = .ok (.aload_n 0, 1) := by decide +kernel
theorem dX3_outlook_31 : decode cX3_outlook 31 = .ok (.getfield 9, 3) := by decide +kernel
theorem dX3_outlook_34 : decode cX3_outlook 34 = .ok (.iload_n 1, 1) := by decide +kernel
theorem dX3_outlook_35 : decode cX3_outlook 35 = .ok (.iconst 0, 1) := by decide +kernel
theorem dX3_outlook_36 : decode cX3_outlook 36 = .ok (.iastore, 1) := by decide +kernel
theorem dX3_outlook_37 : decode cX3_outlook 37 = .ok (.iconst 0, 1) := by decide +kernel
theorem dX3_outlook_38 : decode cX3_outlook 38 = .ok (.istore 5, 2) := by decide +kernel
theorem dX3_outlook_40 : decode cX3_outlook 40 = .ok (.iload 5, 2) := by decide +kernel
theorem dX3_outlook_42 : decode cX3_outlook 42 = .ok (.bipush 25, 2) := by decide +kernel
theorem dX3_outlook_44 : decode cX3_outlook 44 = .ok (.if_icmp .ge 55, 3) := by decide +kernel
theorem dX3_outlook_47 : decode cX3_outlook 47 = .ok (.aload_n 0, 1) := by decide +kernel
theorem dX3_outlook_48 : decode cX3_outlook 48 = .ok (.getfield 9, 3) := by decide +kernel
theorem dX3_outlook_51 : decode cX3_outlook 51 = .ok (.iload 5, 2) := by decide +kernel
theorem dX3_outlook_53 : decode cX3_outlook 53 = .ok (.iaload, 1) := by decide +kernel
theorem dX3_outlook_54 : decode cX3_outlook 54 = .ok (.invokestatic 49, 3) := by decide +kernel
theorem dX3_outlook_57 : decode cX3_outlook 57 = .ok (.ifCond .eq 17, 3) := by decide +kernel
theorem dX3_outlook_60 : decode cX3_outlook 60 = .ok (.iload 4, 2) := by decide +kernel
theorem dX3_outlook_62 : decode cX3_outlook 62 = .ok (.aload_n 0, 1) := by decide +kernel
theorem dX3_outlook_63 : decode cX3_outlook 63 = .ok (.iload 5, 2) := by decide +kernel
theorem dX3_outlook_65 : decode cX3_outlook 65 = .ok (.invokevirtual 52, 3) := by decide +kernel
theorem dX3_outlook_68 : decode cX3_outlook 68 = .ok (.ior, 1) := by decide +kernel
theorem dX3_outlook_69 : decode cX3_outlook 69 = .ok (.istore 4, 2) := by decide +kernel
theorem dX3_outlook_71 : decode cX3_outlook 71 = .ok (.goto 22, 3) := by decide +kernel
theorem dX3_outlook_74 : decode cX3_outlook 74 = .ok (.aload_n 0, 1) := by decide +kernel
theorem dX3_outlook_75 : decode cX3_outlook 75 = .ok (.getfield 9, 3) := by decide +kernel
theorem dX3_outlook_78 : decode cX3_outlook 78 = .ok (.iload 5, 2) := by decide +kernel
theorem dX3_outlook_80 : decode cX3_outlook 80 = .ok (.iaload, 1) := by decide +kernel
theorem dX3_outlook_81 : decode cX3_outlook 81 = .ok (.bipush 6, 2) := by decide +kernel
theorem dX3_outlook_83 : decode cX3_outlook 83 = .ok (.if_icmp .ne 10, 3) := by decide +kernel
theorem dX3_outlook_86 : decode cX3_outlook 86 = .ok (.iload_n 3, 1) := by decide +kernel
theorem dX3_outlook_87 : decode cX3_outlook 87 = .ok (.iconst 1, 1) := by decide +kernel
theorem dX3_outlook_88 : decode cX3_outlook 88 = .ok (.iload 5, 2) := by decide +kernel
theorem dX3_outlook_90 : decode cX3_outlook 90 = .ok (.ishl, 1) := by decide +kernel
theorem dX3_outlook_91 : decode cX3_outlook 91 = .ok (.ior, 1) := by decide +kernel
theorem dX3_outlook_92 : decode cX3_outlook 92 = .ok (.istore_n 3, 1) := by decide +kernel
theorem dX3_outlook_93 : decode cX3_outlook 93 = .ok (.iinc 5 1, 3) := by decide +kernel
theorem dX3_outlook_96 : decode cX3_outlook 96 = .ok (.goto (-56), 3) := by decide +kernel
theorem dX3_outlook_99 : decode cX3_outlook 99 = .ok (.aload_n 0, 1) := by decide +kernel
theorem dX3_outlook_100 : decode cX3_outlook 100 = .ok (.getfield 9, 3) := by decide +kernel
theorem dX3_outlook_103 : decode cX3_outlook 103 = .ok (.iload_n 1, 1) := by decide +kernel
theorem dX3_outlook_104 : decode cX3_outlook 104 = .ok (.bipush 7, 2) := by decide +kernel
theorem dX3_outlook_106 : decode cX3_outlook 106 = .ok (.iastore, 1) := by decide +kernel
theorem dX3_outlook_107 : decode cX3_outlook 107 = .ok (.iload 4, 2) := by decide +kernel
theorem dX3_outlook_109 : decode cX3_outlook 109 = .ok (.iload_n 1, 1) := by decide +kernel
theorem dX3_outlook_110 : decode cX3_outlook 110 = .ok (.ishr, 1) := by decide +kernel
theorem dX3_outlook_111 : decode cX3_outlook 111 = .ok (.iconst 1, 1) := by decide +kernel
theorem dX3_outlook_112 : decode cX3_outlook 112 = .ok (.iand, 1) := by decide +kernel
theorem dX3_outlook_113 : decode cX3_outlook 113 = .ok (.ifCond .eq 8, 3) := by decide +kernel
theorem dX3_outlook_116 : decode cX3_outlook 116 = .ok (.ldc 69, 2) := by decide +kernel
theorem dX3_outlook_118 : decode cX3_outlook 118 = .ok (.goto 4, 3) := by decide +kernel
theorem dX3_outlook_121 : decode cX3_outlook 121 = .ok (.iconst 0, 1) := by decide +kernel
theorem dX3_outlook_122 : decode cX3_outlook 122 = .ok (.istore 5, 2) := by decide +kernel
theorem dX3_outlook_124 : decode cX3_outlook 124 = .ok (.iload_n 2, 1) := by decide +kernel
theorem dX3_outlook_125 : decode cX3_outlook 125 = .ok (.iload_n 3, 1) := by decide +kernel
theorem dX3_outlook_126 : decode cX3_outlook 126 = .ok (.iconst (-1), 1) := by decide +kernel
theorem dX3_outlook_127 : decode cX3_outlook 127 = .ok (.ixor, 1) := by decide +kernel
theorem dX3_outlook_128 : decode cX3_outlook 128 = .ok (.iand, 1) := by decide +kernel
theorem dX3_outlook_129 : decode cX3_outlook 129 = .ok (.iload 4, 2) := by decide +kernel
theorem dX3_outlook_131 : decode cX3_outlook 131 = .ok (.iconst (-1), 1) := by decide +kernel
theorem dX3_outlook_132 : decode cX3_outlook 132 = .ok (.ixor, 1) := by decide +kernel
theorem dX3_outlook_133 : decode cX3_outlook 133 = .ok (.iand, 1) := by decide +kernel
theorem dX3_outlook_134 : decode cX3_outlook 134 = .ok (.iload 5, 2) := by decide +kernel
theorem dX3_outlook_136 : decode cX3_outlook 136 = .ok (.ior, 1) := by decide +kernel
theorem dX3_outlook_137 : decode cX3_outlook 137 = .ok (.ireturn, 1) := by decide +kernel
theorem dX3_outlookBehind_0 : decode cX3_outlookBehind 0 = .ok (.iload_n 1, 1) := by decide +kernel
theorem dX3_outlookBehind_1 : decode cX3_outlookBehind 1 = .ok (.ifCond .lt 19, 3) := by decide +kernel
theorem dX3_outlookBehind_4 : decode cX3_outlookBehind 4 = .ok (.iload_n 1, 1) := by decide +kernel
theorem dX3_outlookBehind_5 : decode cX3_outlookBehind 5 = .ok (.bipush 25, 2) := by decide +kernel
theorem dX3_outlookBehind_7 : decode cX3_outlookBehind 7 = .ok (.if_icmp .ge 13, 3) := by decide +kernel
theorem dX3_outlookBehind_10 : decode cX3_outlookBehind 10 = .ok (.iload_n 2, 1) := by decide +kernel
theorem dX3_outlookBehind_11 : decode cX3_outlookBehind 11 = .ok (.ifCond .lt 9, 3) := by decide +kernel
theorem dX3_outlookBehind_14 : decode cX3_outlookBehind 14 = .ok (.iload_n 2, 1) := by decide +kernel
theorem dX3_outlookBehind_15 : decode cX3_outlookBehind 15 = .ok (.bipush 25, 2) := by decide +kernel
theorem dX3_outlookBehind_17 : decode cX3_outlookBehind 17 = .ok (.if_icmp .lt 5, 3) := by decide +kernel
theorem dX3_outlookBehind_20 : decode cX3_outlookBehind 20 = .ok (.iconst 0, 1) := by decide +kernel
theorem dX3_outlookBehind_21 : decode cX3_outlookBehind 21 = .ok (.ireturn, 1) := by decide +kernel
theorem dX3_outlookBehind_22 : decode cX3_outlookBehind 22 = .ok (.aload_n 0, 1) := by decide +kernel
theorem dX3_outlookBehind_23 : decode cX3_outlookBehind 23 = .ok (.getfield 9, 3) := by decide +kernel
theorem dX3_outlookBehind_26 : decode cX3_outlookBehind 26 = .ok (.iload_n 1, 1) := by decide +kernel
theorem dX3_outlookBehind_27 : decode cX3_outlookBehind 27 = .ok (.iaload, 1) := by decide +kernel
theorem dX3_outlookBehind_28 : decode cX3_outlookBehind 28 = .ok (.istore_n 3, 1) := by decide +kernel
theorem dX3_outlookBehind_29 : decode cX3_outlookBehind 29 = .ok (.aload_n 0, 1) := by decide +kernel
theorem dX3_outlookBehind_30 : decode cX3_outlookBehind 30 = .ok (.getfield 9, 3) := by decide +kernel
theorem dX3_outlookBehind_33 : decode cX3_outlookBehind 33 = .ok (.iload_n 2, 1) := by decide +kernel
theorem dX3_outlookBehind_34 : decode cX3_outlookBehind 34 = .ok (.iaload, 1) := by decide +kernel
theorem dX3_outlookBehind_35 : decode cX3_outlookBehind 35 = .ok (.istore 4, 2) := by decide +kernel
theorem dX3_outlookBehind_37 : decode cX3_outlookBehind 37 = .ok (.aload_n 0, 1) := by decide +kernel
theorem dX3_outlookBehind_38 : decode cX3_outlookBehind 38 = .ok (.getfield 9, 3) := by decide +kernel
theorem dX3_outlookBehind_41 : decode cX3_outlookBehind 41 = .ok (.iload_n 1, 1) := by decide +kernel
theorem dX3_outlookBehind_42 : decode cX3_outlookBehind 42 = .ok (.iconst 0, 1) := by decide +kernel
theorem dX3_outlookBehind_43 : decode cX3_outlookBehind 43 = .ok (.iastore, 1) := by decide +kernel
theorem dX3_outlookBehind_44 : decode cX3_outlookBehind 44 = .ok (.aload_n 0, 1) := by decide +kernel
theorem dX3_outlookBehind_45 : decode cX3_outlookBehind 45 = .ok (.getfield 9, 3) := by decide +kernel
theorem dX3_outlookBehind_48 : decode cX3_outlookBehind 48 = .ok (.iload_n 2, 1) := by decide +kernel
theorem dX3_outlookBehind_49 : decode cX3_outlookBehind 49 = .ok (.iload_n 3, 1) := by decide +kernel
theorem dX3_outlookBehind_50 : decode cX3_outlookBehind 50 = .ok (.iastore, 1) := by decide +kernel
theorem dX3_outlookBehind_51 : decode cX3_outlookBehind 51 = .ok (.aload_n 0, 1) := by decide +kernel
theorem dX3_outlookBehind_52 : decode cX3_outlookBehind 52 = .ok (.invokevirtual 70, 3) := by decide +kernel
theorem dX3_outlookBehind_55 : decode cX3_outlookBehind 55 = .ok (.istore 5, 2) := by decide +kernel
theorem dX3_outlookBehind_57 : decode cX3_outlookBehind 57 = .ok (.aload_n 0, 1) := by decide +kernel
theorem dX3_outlookBehind_58 : decode cX3_outlookBehind 58 = .ok (.getfield 9, 3) := by decide +kernel
theorem dX3_outlookBehind_61 : decode cX3_outlookBehind 61 = .ok (.iload_n 2, 1) := by decide +kernel
theorem dX3_outlookBehind_62 : decode cX3_outlookBehind 62 = .ok (.iload 4, 2) := by decide +kernel
theorem dX3_outlookBehind_64 : decode cX3_outlookBehind 64 = .ok (.iastore, 1) := by decide +kernel
theorem dX3_outlookBehind_65 : decode cX3_outlookBehind 65 = .ok (.aload_n 0, 1) := by decide +kernel
theorem dX3_outlookBehind_66 : decode cX3_outlookBehind 66 = .ok (.getfield 9, 3) := by decide +kernel
theorem dX3_outlookBehind_69 : decode cX3_outlookBehind 69 = .ok (.iload_n 1, 1) := by decide +kernel
theorem dX3_outlookBehind_70 : decode cX3_outlookBehind 70 = .ok (.iload_n 3, 1) := by decide +kernel
theorem dX3_outlookBehind_71 : decode cX3_outlookBehind 71 = .ok (.iastore, 1) := by decide +kernel
theorem dX3_outlookBehind_72 : decode cX3_outlookBehind 72 = .ok (.iload 5, 2) := by decide +kernel
theorem dX3_outlookBehind_74 : decode cX3_outlookBehind 74 = .ok (.ireturn, 1) := by decide +kernel
theorem dX3_kindOfMove_0 : decode cX3_kindOfMove 0 = .ok (.aload_n 0, 1) := by decide +kernel
theorem dX3_kindOfMove_1 : decode cX3_kindOfMove 1 = .ok (.iload_n 1, 1) := by decide +kernel
theorem dX3_kindOfMove_2 : decode cX3_kindOfMove 2 = .ok (.iload_n 2, 1) := by decide +kernel
theorem dX3_kindOfMove_3 : decode cX3_kindOfMove 3 = .ok (.invokevirtual 74, 3) := by decide +kernel
theorem dX3_kindOfMove_6 : decode cX3_kindOfMove 6 = .ok (.istore_n 3, 1) := by decide +kernel
theorem dX3_kindOfMove_7 : decode cX3_kindOfMove 7 = .ok (.iload_n 3, 1) := by decide +kernel
theorem dX3_kindOfMove_8 : decode cX3_kindOfMove 8 = .ok (.ldc 69, 2) := by decide +kernel
theorem dX3_kindOfMove_10 : decode cX3_kindOfMove 10 = .ok (.iand, 1) := by decide +kernel
theorem dX3_kindOfMove_11 : decode cX3_kindOfMove 11 = .ok (.ifCond .eq 7, 3) := by decide +kernel
theorem dX3_kindOfMove_14 : decode cX3_kindOfMove 14 = .ok (.iconst 1, 1) := by decide +kernel
theorem dX3_kindOfMove_15 : decode cX3_kindOfMove 15 = .ok (.goto 4, 3) := by decide +kernel
theorem dX3_kindOfMove_18 : decode cX3_kindOfMove 18 = .ok (.iconst 0, 1) := by decide +kernel
theorem dX3_kindOfMove_19 : decode cX3_kindOfMove 19 = .ok (.istore 4, 2) := by decide +kernel
theorem dX3_kindOfMove_21 : decode cX3_kindOfMove 21 = .ok (.iload_n 3, 1) := by decide +kernel
theorem dX3_kindOfMove_22 : decode cX3_kindOfMove 22 = .ok (.invokestatic 77, 3) := by decide +kernel
theorem dX3_kindOfMove_25 : decode cX3_kindOfMove 25 = .ok (.ifCond .eq 7, 3) := by decide +kernel
theorem dX3_kindOfMove_28 : decode cX3_kindOfMove 28 = .ok (.iconst 1, 1) := by decide +kernel
theorem dX3_kindOfMove_29 : decode cX3_kindOfMove 29 = .ok (.goto 4, 3) := by decide +kernel
theorem dX3_kindOfMove_32 : decode cX3_kindOfMove 32 = .ok (.iconst 0, 1) := by decide +kernel
theorem dX3_kindOfMove_33 : decode cX3_kindOfMove 33 = .ok (.istore 5, 2) := by decide +kernel
theorem dX3_kindOfMove_35 : decode cX3_kindOfMove 35 = .ok (.iload 4, 2) := by decide +kernel
theorem dX3_kindOfMove_37 : decode cX3_kindOfMove 37 = .ok (.ifCond .eq 14, 3) := by decide +kernel
theorem dX3_kindOfMove_40 : decode cX3_kindOfMove 40 = .ok (.iload 5, 2) := by decide +kernel
theorem dX3_kindOfMove_42 : decode cX3_kindOfMove 42 = .ok (.ifCond .eq 7, 3) := by decide +kernel
theorem dX3_kindOfMove_45 : decode cX3_kindOfMove 45 = .ok (.iconst 2, 1) := by decide +kernel
theorem dX3_kindOfMove_46 : decode cX3_kindOfMove 46 = .ok (.goto 4, 3) := by decide +kernel
theorem dX3_kindOfMove_49 : decode cX3_kindOfMove 49 = .ok (.iconst 3, 1) := by decide +kernel
theorem dX3_kindOfMove_50 : decode cX3_kindOfMove 50 = .ok (.ireturn, 1) := by decide +kernel
theorem dX3_kindOfMove_51 : decode cX3_kindOfMove 51 = .ok (.iload 5, 2) := by decide +kernel
theorem dX3_kindOfMove_53 : decode cX3_kindOfMove 53 = .ok (.ifCond .eq 7, 3) := by decide +kernel
theorem dX3_kindOfMove_56 : decode cX3_kindOfMove 56 = .ok (.iconst 0, 1) := by decide +kernel
theorem dX3_kindOfMove_57 : decode cX3_kindOfMove 57 = .ok (.goto 4, 3) := by decide +kernel
theorem dX3_kindOfMove_60 : decode cX3_kindOfMove 60 = .ok (.iconst 1, 1) := by decide +kernel
theorem dX3_kindOfMove_61 : decode cX3_kindOfMove 61 = .ok (.ireturn, 1) := by decide +kernel
theorem dX3_keysFrom_0 : decode cX3_keysFrom 0 = .ok (.aload_n 0, 1) := by decide +kernel
theorem dX3_keysFrom_1 : decode cX3_keysFrom 1 = .ok (.iload_n 1, 1) := by decide +kernel
theorem dX3_keysFrom_2 : decode cX3_keysFrom 2 = .ok (.invokevirtual 66, 3) := by decide +kernel
theorem dX3_keysFrom_5 : decode cX3_keysFrom 5 = .ok (.istore_n 2, 1) := by decide +kernel
theorem dX3_keysFrom_6 : decode cX3_keysFrom 6 = .ok (.iconst 0, 1) := by decide +kernel
theorem dX3_keysFrom_7 : decode cX3_keysFrom 7 = .ok (.istore_n 3, 1) := by decide +kernel
theorem dX3_keysFrom_8 : decode cX3_keysFrom 8 = .ok (.iconst 0, 1) := by decide +kernel
theorem dX3_keysFrom_9 : decode cX3_keysFrom 9 = .ok (.istore 4, 2) := by decide +kernel
theorem dX3_keysFrom_11 : decode cX3_keysFrom 11 = .ok (.iload 4, 2) := by decide +kernel
theorem dX3_keysFrom_13 : decode cX3_keysFrom 13 = .ok (.bipush 25, 2) := by decide +kernel
theorem dX3_keysFrom_15 : decode cX3_keysFrom 15 = .ok (.if_icmp .ge 37, 3) := by decide +kernel
theorem dX3_keysFrom_18 : decode cX3_keysFrom 18 = .ok (.iload_n 2, 1) := by decide +kernel
theorem dX3_keysFrom_19 : decode cX3_keysFrom 19 = .ok (.iload 4, 2) := by decide +kernel
theorem dX3_keysFrom_21 : decode cX3_keysFrom 21 = .ok (.ishr, 1) := by decide +kernel
theorem dX3_keysFrom_22 : decode cX3_keysFrom 22 = .ok (.iconst 1, 1) := by decide +kernel
theorem dX3_keysFrom_23 : decode cX3_keysFrom 23 = .ok (.iand, 1) := by decide +kernel
theorem dX3_keysFrom_24 : decode cX3_keysFrom 24 = .ok (.ifCond .eq 22, 3) := by decide +kernel
theorem dX3_keysFrom_27 : decode cX3_keysFrom 27 = .ok (.aload_n 0, 1) := by decide +kernel
theorem dX3_keysFrom_28 : decode cX3_keysFrom 28 = .ok (.iload_n 1, 1) := by decide +kernel
theorem dX3_keysFrom_29 : decode cX3_keysFrom 29 = .ok (.iload 4, 2) := by decide +kernel
theorem dX3_keysFrom_31 : decode cX3_keysFrom 31 = .ok (.invokevirtual 74, 3) := by decide +kernel
theorem dX3_keysFrom_34 : decode cX3_keysFrom 34 = .ok (.ldc 69, 2) := by decide +kernel
theorem dX3_keysFrom_36 : decode cX3_keysFrom 36 = .ok (.if_icmp .ne 10, 3) := by decide +kernel
theorem dX3_keysFrom_39 : decode cX3_keysFrom 39 = .ok (.iload_n 3, 1) := by decide +kernel
theorem dX3_keysFrom_40 : decode cX3_keysFrom 40 = .ok (.iconst 1, 1) := by decide +kernel
theorem dX3_keysFrom_41 : decode cX3_keysFrom 41 = .ok (.iload 4, 2) := by decide +kernel
theorem dX3_keysFrom_43 : decode cX3_keysFrom 43 = .ok (.ishl, 1) := by decide +kernel
theorem dX3_keysFrom_44 : decode cX3_keysFrom 44 = .ok (.ior, 1) := by decide +kernel
theorem dX3_keysFrom_45 : decode cX3_keysFrom 45 = .ok (.istore_n 3, 1) := by decide +kernel
theorem dX3_keysFrom_46 : decode cX3_keysFrom 46 = .ok (.iinc 4 1, 3) := by decide +kernel
theorem dX3_keysFrom_49 : decode cX3_keysFrom 49 = .ok (.goto (-38), 3) := by decide +kernel
theorem dX3_keysFrom_52 : decode cX3_keysFrom 52 = .ok (.iload_n 3, 1) := by decide +kernel
theorem dX3_keysFrom_53 : decode cX3_keysFrom 53 = .ok (.ireturn, 1) := by decide +kernel
theorem dX4_init_0 : decode cX4_init 0 = .ok (.aload_n 0, 1) := by decide +kernel
theorem dX4_init_1 : decode cX4_init 1 = .ok (.invokespecial 3, 3) := by decide +kernel
theorem dX4_init_4 : decode cX4_init 4 = .ok (.aload_n 0, 1) := by decide +kernel
theorem dX4_init_5 : decode cX4_init 5 = .ok (.bipush 70, 2) := by decide +kernel
theorem dX4_init_7 : decode cX4_init 7 = .ok (.newarray .int, 2) := by decide +kernel
theorem dX4_init_9 : decode cX4_init 9 = .ok (.putfield 9, 3) := by decide +kernel
theorem dX4_init_12 : decode cX4_init 12 = .ok (.aload_n 0, 1) := by decide +kernel
theorem dX4_init_13 : decode cX4_init 13 = .ok (.bipush 35, 2) := by decide +kernel
theorem dX4_init_15 : decode cX4_init 15 = .ok (.newarray .int, 2) := by decide +kernel
theorem dX4_init_17 : decode cX4_init 17 = .ok (.putfield 15, 3) := by decide +kernel
theorem dX4_init_20 : decode cX4_init 20 = .ok (.aload_n 0, 1) := by decide +kernel
theorem dX4_init_21 : decode cX4_init 21 = .ok (.bipush 35, 2) := by decide +kernel
theorem dX4_init_23 : decode cX4_init 23 = .ok (.newarray .int, 2) := by decide +kernel
theorem dX4_init_25 : decode cX4_init 25 = .ok (.putfield 18, 3) := by decide +kernel
theorem dX4_init_28 : decode cX4_init 28 = .ok (.aload_n 0, 1) := by decide +kernel
theorem dX4_init_29 : decode cX4_init 29 = .ok (.bipush 35, 2) := by decide +kernel
theorem dX4_init_31 : decode cX4_init 31 = .ok (.newarray .int, 2) := by decide +kernel
theorem dX4_init_33 : decode cX4_init 33 = .ok (.putfield 21, 3) := by decide +kernel
theorem dX4_init_36 : decode cX4_init 36 = .ok (.return_, 1) := by decide +kernel
theorem dX4_add_0 : decode cX4_add 0 = .ok (.iload_n 1, 1) := by decide +kernel
theorem dX4_add_1 : decode cX4_add 1 = .ok (.bipush 32, 2) := by decide +kernel
theorem dX4_add_3 : decode cX4_add 3 = .ok (.if_icmp .lt 25, 3) := by decide +kernel
theorem dX4_add_6 : decode cX4_add 6 = .ok (.iload_n 1, 1) := by decide +kernel
theorem dX4_add_7 : decode cX4_add 7 = .ok (.bipush 126, 2) := by decide +kernel
theorem dX4_add_9 : decode cX4_add 9 = .ok (.if_icmp .gt 19, 3) := by decide +kernel
theorem dX4_add_12 : decode cX4_add 12 = .ok (.aload_n 0, 1) := by decide +kernel
theorem dX4_add_13 : decode cX4_add 13 = .ok (.getfield 24, 3) := by decide +kernel
theorem dX4_add_16 : decode cX4_add 16 = .ok (.ifCond .lt 12, 3) := by decide +kernel
theorem dX4_add_19 : decode cX4_add 19 = .ok (.aload_n 0, 1) := by decide +kernel
theorem dX4_add_20 : decode cX4_add 20 = .ok (.getfield 24, 3) := by decide +kernel
theorem dX4_add_23 : decode cX4_add 23 = .ok (.bipush 70, 2) := by decide +kernel
theorem dX4_add_25 : decode cX4_add 25 = .ok (.if_icmp .lt 6, 3) := by decide +kernel
theorem dX4_add_28 : decode cX4_add 28 = .ok (.bipush (-2), 2) := by decide +kernel
theorem dX4_add_30 : decode cX4_add 30 = .ok (.ireturn, 1) := by decide +kernel
theorem dX4_add_31 : decode cX4_add 31 = .ok (.aload_n 0, 1) := by decide +kernel
theorem dX4_add_32 : decode cX4_add 32 = .ok (.getfield 9, 3) := by decide +kernel
theorem dX4_add_35 : decode cX4_add 35 = .ok (.aload_n 0, 1) := by decide +kernel
theorem dX4_add_36 : decode cX4_add 36 = .ok (.getfield 24, 3) := by decide +kernel
theorem dX4_add_39 : decode cX4_add 39 = .ok (.iload_n 1, 1) := by decide +kernel
theorem dX4_add_40 : decode cX4_add 40 = .ok (.iastore, 1) := by decide +kernel
theorem dX4_add_41 : decode cX4_add 41 = .ok (.aload_n 0, 1) := by decide +kernel
theorem dX4_add_42 : decode cX4_add 42 = .ok (.dup, 1) := by decide +kernel
theorem dX4_add_43 : decode cX4_add 43 = .ok (.getfield 24, 3) := by decide +kernel
theorem dX4_add_46 : decode cX4_add 46 = .ok (.iconst 1, 1) := by decide +kernel
theorem dX4_add_47 : decode cX4_add 47 = .ok (.iadd, 1) := by decide +kernel
theorem dX4_add_48 : decode cX4_add 48 = .ok (.putfield 24, 3) := by decide +kernel
theorem dX4_add_51 : decode cX4_add 51 = .ok (.aload_n 0, 1) := by decide +kernel
theorem dX4_add_52 : decode cX4_add 52 = .ok (.getfield 24, 3) := by decide +kernel
theorem dX4_add_55 : decode cX4_add 55 = .ok (.ireturn, 1) := by decide +kernel
theorem dX4_clear_0 : decode cX4_clear 0 = .ok (.aload_n 0, 1) := by decide +kernel
theorem dX4_clear_1 : decode cX4_clear 1 = .ok (.iconst 0, 1) := by decide +kernel
theorem dX4_clear_2 : decode cX4_clear 2 = .ok (.putfield 24, 3) := by decide +kernel
theorem dX4_clear_5 : decode cX4_clear 5 = .ok (.return_, 1) := by decide +kernel
theorem dX4_findFault_0 : decode cX4_findFault 0 = .ok (.aload_n 0, 1) := by decide +kernel
theorem dX4_findFault_1 : decode cX4_findFault 1 = .ok (.iconst 0, 1) := by decide +kernel
theorem dX4_findFault_2 : decode cX4_findFault 2 = .ok (.putfield 28, 3) := by decide +kernel
theorem dX4_findFault_5 : decode cX4_findFault 5 = .ok (.iconst 0, 1) := by decide +kernel
theorem dX4_findFault_6 : decode cX4_findFault 6 = .ok (.istore_n 1, 1) := by decide +kernel
theorem dX4_findFault_7 : decode cX4_findFault 7 = .ok (.iconst 0, 1) := by decide +kernel
theorem dX4_findFault_8 : decode cX4_findFault 8 = .ok (.istore_n 2, 1) := by decide +kernel
theorem dX4_findFault_9 : decode cX4_findFault 9 = .ok (.iload_n 2, 1) := by decide +kernel
theorem dX4_findFault_10 : decode cX4_findFault 10 = .ok (.aload_n 0, 1) := by decide +kernel
theorem dX4_findFault_11 : decode cX4_findFault 11 = .ok (.getfield 24, 3) := by decide +kernel
theorem dX4_findFault_14 : decode cX4_findFault 14 = .ok (.if_icmp .ge 43, 3) := by decide +kernel
theorem dX4_findFault_17 : decode cX4_findFault 17 = .ok (.iload_n 2, 1) := by decide +kernel
theorem dX4_findFault_18 : decode cX4_findFault 18 = .ok (.bipush 70, 2) := by decide +kernel
theorem dX4_findFault_20 : decode cX4_findFault 20 = .ok (.if_icmp .ge 37, 3) := by decide +kernel
theorem dX4_findFault_23 : decode cX4_findFault 23 = .ok (.aload_n 0, 1) := by decide +kernel
theorem dX4_findFault_24 : decode cX4_findFault 24 = .ok (.iload_n 1, 1) := by decide +kernel
theorem dX4_findFault_25 : decode cX4_findFault 25 = .ok (.aload_n 0, 1) := by decide +kernel
theorem dX4_findFault_26 : decode cX4_findFault 26 = .ok (.getfield 9, 3) := by decide +kernel
theorem dX4_findFault_29 : decode cX4_findFault 29 = .ok (.iload_n 2, 1) := by decide +kernel
theorem dX4_findFault_30 : decode cX4_findFault 30 = .ok (.iaload, 1) := by decide +kernel
theorem dX4_findFault_31 : decode cX4_findFault 31 = .ok (.invokevirtual 31, 3) := by decide +kernel
theorem dX4_findFault_34 : decode cX4_findFault 34 = .ok (.istore_n 1, 1) := by decide +kernel
theorem dX4_findFault_35 : decode cX4_findFault 35 = .ok (.iload_n 1, 1) := by decide +kernel
theorem dX4_findFault_36 : decode cX4_findFault 36 = .ok (.iconst (-1), 1) := by decide +kernel
theorem dX4_findFault_37 : decode cX4_findFault 37 = .ok (.if_icmp .ne 5, 3) := by decide +kernel
theorem dX4_findFault_40 : decode cX4_findFault 40 = .ok (.iload_n 2, 1) := by decide +kernel
theorem dX4_findFault_41 : decode cX4_findFault 41 = .ok (.ireturn, 1) := by decide +kernel
theorem dX4_findFault_42 : decode cX4_findFault 42 = .ok (.iload_n 1, 1) := by decide +kernel
theorem dX4_findFault_43 : decode cX4_findFault 43 = .ok (.iconst 5, 1) := by decide +kernel
theorem dX4_findFault_44 : decode cX4_findFault 44 = .ok (.if_icmp .ne 7, 3) := by decide +kernel
theorem dX4_findFault_47 : decode cX4_findFault 47 = .ok (.aload_n 0, 1) := by decide +kernel
theorem dX4_findFault_48 : decode cX4_findFault 48 = .ok (.invokevirtual 35, 3) := by decide +kernel
theorem dX4_findFault_51 : decode cX4_findFault 51 = .ok (.iinc 2 1, 3) := by decide +kernel
theorem dX4_findFault_54 : decode cX4_findFault 54 = .ok (.goto (-45), 3) := by decide +kernel
theorem dX4_findFault_57 : decode cX4_findFault 57 = .ok (.iload_n 1, 1) := by decide +kernel
theorem dX4_findFault_58 : decode cX4_findFault 58 = .ok (.iconst 5, 1) := by decide +kernel
theorem dX4_findFault_59 : decode cX4_findFault 59 = .ok (.if_icmp .ne 7, 3) := by decide +kernel
theorem dX4_findFault_62 : decode cX4_findFault 62 = .ok (.iconst (-1), 1) := by decide +kernel
theorem dX4_findFault_63 : decode cX4_findFault 63 = .ok (.goto 7, 3) := by decide +kernel
theorem dX4_findFault_66 : decode cX4_findFault 66 = .ok (.aload_n 0, 1) := by decide +kernel
theorem dX4_findFault_67 : decode cX4_findFault 67 = .ok (.getfield 24, 3) := by decide +kernel
theorem dX4_findFault_70 : decode cX4_findFault 70 = .ok (.ireturn, 1) := by decide +kernel
theorem dX4_keepCommand_0 : decode cX4_keepCommand 0 = .ok (.aload_n 0, 1) := by decide +kernel
theorem dX4_keepCommand_1 : decode cX4_keepCommand 1 = .ok (.getfield 28, 3) := by decide +kernel
theorem dX4_keepCommand_4 : decode cX4_keepCommand 4 = .ok (.ifCond .lt 61, 3) := by decide +kernel
theorem dX4_keepCommand_7 : decode cX4_keepCommand 7 = .ok (.aload_n 0, 1) := by decide +kernel
theorem dX4_keepCommand_8 : decode cX4_keepCommand 8 = .ok (.getfield 28, 3) := by decide +kernel
theorem dX4_keepCommand_11 : decode cX4_keepCommand 11 = .ok (.bipush 35, 2) := by decide +kernel
theorem dX4_keepCommand_13 : decode cX4_keepCommand 13 = .ok (.if_icmp .ge 52, 3) := by decide +kernel
theorem dX4_keepCommand_16 : decode cX4_keepCommand 16 = .ok (.aload_n 0, 1) := by decide +kernel
theorem dX4_keepCommand_17 : decode cX4_keepCommand 17 = .ok (.getfield 15, 3) := by decide +kernel
theorem dX4_keepCommand_20 : decode cX4_keepCommand 20 = .ok (.aload_n 0, 1) := by decide +kernel
theorem dX4_keepCommand_21 : decode cX4_keepCommand 21 = .ok (.getfield 28, 3) := by decide +kernel
theorem dX4_keepCommand_24 : decode cX4_keepCommand 24 = .ok (.aload_n 0, 1) := by decide +kernel
theorem dX4_keepCommand_25 : decode cX4_keepCommand 25 = .ok (.getfield 38, 3) := by decide +kernel
theorem dX4_keepCommand_28 : decode cX4_keepCommand 28 = .ok (.iastore, 1) := by decide +kernel
theorem dX4_keepCommand_29 : decode cX4_keepCommand 29 = .ok (.aload_n 0, 1) := by decide +kernel
theorem dX4_keepCommand_30 : decode cX4_keepCommand 30 = .ok (.getfield 18, 3) := by decide +kernel
theorem dX4_keepCommand_33 : decode cX4_keepCommand 33 = .ok (.aload_n 0, 1) := by decide +kernel
theorem dX4_keepCommand_34 : decode cX4_keepCommand 34 = .ok (.getfield 28, 3) := by decide +kernel
theorem dX4_keepCommand_37 : decode cX4_keepCommand 37 = .ok (.aload_n 0, 1) := by decide +kernel
theorem dX4_keepCommand_38 : decode cX4_keepCommand 38 = .ok (.getfield 41, 3) := by decide +kernel
theorem dX4_keepCommand_41 : decode cX4_keepCommand 41 = .ok (.iastore, 1) := by decide +kernel
theorem dX4_keepCommand_42 : decode cX4_keepCommand 42 = .ok (.aload_n 0, 1) := by decide +kernel
theorem dX4_keepCommand_43 : decode cX4_keepCommand 43 = .ok (.getfield 21, 3) := by decide +kernel
theorem dX4_keepCommand_46 : decode cX4_keepCommand 46 = .ok (.aload_n 0, 1) := by decide +kernel
theorem dX4_keepCommand_47 : decode cX4_keepCommand 47 = .ok (.getfield 28, 3) := by decide +kernel
theorem dX4_keepCommand_50 : decode cX4_keepCommand 50 = .ok (.aload_n 0, 1) := by decide +kernel
theorem dX4_keepCommand_51 : decode cX4_keepCommand 51 = .ok (.getfield 44, 3) := by decide +kernel
theorem dX4_keepCommand_54 : decode cX4_keepCommand 54 = .ok (.iastore, 1) := by decide +kernel
theorem dX4_keepCommand_55 : decode cX4_keepCommand 55 = .ok (.aload_n 0, 1) := by decide +kernel
theorem dX4_keepCommand_56 : decode cX4_keepCommand 56 = .ok (.dup, 1) := by decide +kernel
theorem dX4_keepCommand_57 : decode cX4_keepCommand 57 = .ok (.getfield 28, 3) := by decide +kernel
theorem dX4_keepCommand_60 : decode cX4_keepCommand 60 = .ok (.iconst 1, 1) := by decide +kernel
theorem dX4_keepCommand_61 : decode cX4_keepCommand 61 = .ok (.iadd, 1) := by decide +kernel
theorem dX4_keepCommand_62 : decode cX4_keepCommand 62 = .ok (.putfield 28, 3) := by decide +kernel
theorem dX4_keepCommand_65 : decode cX4_keepCommand 65 = .ok (.return_, 1) := by decide +kernel
theorem dX4_dueBehind_0 : decode cX4_dueBehind 0 = .ok (.iload_n 1, 1) := by decide +kernel
theorem dX4_dueBehind_1 : decode cX4_dueBehind 1 = .ok (.tableswitch 137 0 5 #[39, 45, 67, 79, 103, 125], 39) := by decide +kernel
theorem dX4_dueBehind_40 : decode cX4_dueBehind 40 = .ok (.aload_n 0, 1) := by decide +kernel
theorem dX4_dueBehind_41 : decode cX4_dueBehind 41 = .ok (.iload_n 2, 1) := by decide +kernel
theorem dX4_dueBehind_42 : decode cX4_dueBehind 42 = .ok (.invokevirtual 47, 3) := by decide +kernel
theorem dX4_dueBehind_45 : decode cX4_dueBehind 45 = .ok (.ireturn, 1) := by decide +kernel
theorem dX4_dueBehind_46 : decode cX4_dueBehind 46 = .ok (.aload_n 0, 1) := by decide +kernel
theorem dX4_dueBehind_47 : decode cX4_dueBehind 47 = .ok (.aload_n 0, 1) := by decide +kernel
theorem dX4_dueBehind_48 : decode cX4_dueBehind 48 = .ok (.iload_n 2, 1) := by decide +kernel
theorem dX4_dueBehind_49 : decode cX4_dueBehind 49 = .ok (.invokevirtual 51, 3) := by decide +kernel
theorem dX4_dueBehind_52 : decode cX4_dueBehind 52 = .ok (.putfield 41, 3) := by decide +kernel
theorem dX4_dueBehind_55 : decode cX4_dueBehind 55 = .ok (.aload_n 0, 1) := by decide +kernel
theorem dX4_dueBehind_56 : decode cX4_dueBehind 56 = .ok (.getfield 41, 3) := by decide +kernel
theorem dX4_dueBehind_59 : decode cX4_dueBehind 59 = .ok (.ifCond .ge 7, 3) := by decide +kernel
theorem dX4_dueBehind_62 : decode cX4_dueBehind 62 = .ok (.iconst (-1), 1) := by decide +kernel
theorem dX4_dueBehind_63 : decode cX4_dueBehind 63 = .ok (.goto 4, 3) := by decide +kernel
theorem dX4_dueBehind_66 : decode cX4_dueBehind 66 = .ok (.iconst 2, 1) := by decide +kernel
theorem dX4_dueBehind_67 : decode cX4_dueBehind 67 = .ok (.ireturn, 1) := by decide +kernel
theorem dX4_dueBehind_68 : decode cX4_dueBehind 68 = .ok (.iload_n 2, 1) := by decide +kernel
theorem dX4_dueBehind_69 : decode cX4_dueBehind 69 = .ok (.bipush 45, 2) := by decide +kernel
theorem dX4_dueBehind_71 : decode cX4_dueBehind 71 = .ok (.if_icmp .ne 7, 3) := by decide +kernel
theorem dX4_dueBehind_74 : decode cX4_dueBehind 74 = .ok (.iconst 3, 1) := by decide +kernel
theorem dX4_dueBehind_75 : decode cX4_dueBehind 75 = .ok (.goto 4, 3) := by decide +kernel
theorem dX4_dueBehind_78 : decode cX4_dueBehind 78 = .ok (.iconst (-1), 1) := by decide +kernel
theorem dX4_dueBehind_79 : decode cX4_dueBehind 79 = .ok (.ireturn, 1) := by decide +kernel
theorem dX4_dueBehind_80 : decode cX4_dueBehind 80 = .ok (.aload_n 0, 1) := by decide +kernel
theorem dX4_dueBehind_81 : decode cX4_dueBehind 81 = .ok (.iload_n 2, 1) := by decide +kernel
theorem dX4_dueBehind_82 : decode cX4_dueBehind 82 = .ok (.bipush 97, 2) := by decide +kernel
theorem dX4_dueBehind_84 : decode cX4_dueBehind 84 = .ok (.isub, 1) := by decide +kernel
theorem dX4_dueBehind_85 : decode cX4_dueBehind 85 = .ok (.putfield 54, 3) := by decide +kernel
theorem dX4_dueBehind_88 : decode cX4_dueBehind 88 = .ok (.aload_n 0, 1) := by decide +kernel
theorem dX4_dueBehind_89 : decode cX4_dueBehind 89 = .ok (.getfield 54, 3) := by decide +kernel
theorem dX4_dueBehind_92 : decode cX4_dueBehind 92 = .ok (.invokestatic 57, 3) := by decide +kernel
theorem dX4_dueBehind_95 : decode cX4_dueBehind 95 = .ok (.ifCond .eq 7, 3) := by decide +kernel
theorem dX4_dueBehind_98 : decode cX4_dueBehind 98 = .ok (.iconst 4, 1) := by decide +kernel
theorem dX4_dueBehind_99 : decode cX4_dueBehind 99 = .ok (.goto 4, 3) := by decide +kernel
theorem dX4_dueBehind_102 : decode cX4_dueBehind 102 = .ok (.iconst (-1), 1) := by decide +kernel
theorem dX4_dueBehind_103 : decode cX4_dueBehind 103 = .ok (.ireturn, 1) := by decide +kernel
theorem dX4_dueBehind_104 : decode cX4_dueBehind 104 = .ok (.aload_n 0, 1) := by decide +kernel
theorem dX4_dueBehind_105 : decode cX4_dueBehind 105 = .ok (.aload_n 0, 1) := by decide +kernel
theorem dX4_dueBehind_106 : decode cX4_dueBehind 106 = .ok (.iload_n 2, 1) := by decide +kernel
theorem dX4_dueBehind_107 : decode cX4_dueBehind 107 = .ok (.invokevirtual 51, 3) := by decide +kernel
theorem dX4_dueBehind_110 : decode cX4_dueBehind 110 = .ok (.putfield 44, 3) := by decide +kernel
theorem dX4_dueBehind_113 : decode cX4_dueBehind 113 = .ok (.aload_n 0, 1) := by decide +kernel
theorem dX4_dueBehind_114 : decode cX4_dueBehind 114 = .ok (.getfield 44, 3) := by decide +kernel
theorem dX4_dueBehind_117 : decode cX4_dueBehind 117 = .ok (.ifCond .ge 7, 3) := by decide +kernel
theorem dX4_dueBehind_120 : decode cX4_dueBehind 120 = .ok (.iconst (-1), 1) := by decide +kernel
theorem dX4_dueBehind_121 : decode cX4_dueBehind 121 = .ok (.goto 4, 3) := by decide +kernel
theorem dX4_dueBehind_124 : decode cX4_dueBehind 124 = .ok (.iconst 5, 1) := by decide +kernel
theorem dX4_dueBehind_125 : decode cX4_dueBehind 125 = .ok (.ireturn, 1) := by decide +kernel
theorem dX4_dueBehind_126 : decode cX4_dueBehind 126 = .ok (.iload_n 2, 1) := by decide +kernel
theorem dX4_dueBehind_127 : decode cX4_dueBehind 127 = .ok (.bipush 59, 2) := by decide +kernel
theorem dX4_dueBehind_129 : decode cX4_dueBehind 129 = .ok (.if_icmp .ne 7, 3) := by decide +kernel
theorem dX4_dueBehind_132 : decode cX4_dueBehind 132 = .ok (.iconst 0, 1) := by decide +kernel
theorem dX4_dueBehind_133 : decode cX4_dueBehind 133 = .ok (.goto 4, 3) := by decide +kernel
theorem dX4_dueBehind_136 : decode cX4_dueBehind 136 = .ok (.iconst (-1), 1) := by decide +kernel
theorem dX4_dueBehind_137 : decode cX4_dueBehind 137 = .ok (.ireturn, 1) := by decide +kernel
theorem dX4_dueBehind_138 : decode cX4_dueBehind 138 = .ok (.iconst (-1), 1) := by decide +kernel
theorem dX4_dueBehind_139 : decode cX4_dueBehind 139 = .ok (.ireturn, 1) := by decide +kernel
theorem dX4_dueBehindFirst_0 : decode cX4_dueBehindFirst 0 = .ok (.aload_n 0, 1) := by decide +kernel
theorem dX4_dueBehindFirst_1 : decode cX4_dueBehindFirst 1 = .ok (.iconst (-1), 1) := by decide +kernel
theorem dX4_dueBehindFirst_2 : decode cX4_dueBehindFirst 2 = .ok (.putfield 41, 3) := by decide +kernel
theorem dX4_dueBehindFirst_5 : decode cX4_dueBehindFirst 5 = .ok (.aload_n 0, 1) := by decide +kernel
theorem dX4_dueBehindFirst_6 : decode cX4_dueBehindFirst 6 = .ok (.iconst (-1), 1) := by decide +kernel
theorem dX4_dueBehindFirst_7 : decode cX4_dueBehindFirst 7 = .ok (.putfield 44, 3) := by decide +kernel
theorem dX4_dueBehindFirst_10 : decode cX4_dueBehindFirst 10 = .ok (.aload_n 0, 1) := by decide +kernel
theorem dX4_dueBehindFirst_11 : decode cX4_dueBehindFirst 11 = .ok (.iload_n 1, 1) := by decide +kernel
theorem dX4_dueBehindFirst_12 : decode cX4_dueBehindFirst 12 = .ok (.bipush 97, 2) := by decide +kernel
theorem dX4_dueBehindFirst_14 : decode cX4_dueBehindFirst 14 = .ok (.isub, 1) := by decide +kernel
theorem dX4_dueBehindFirst_15 : decode cX4_dueBehindFirst 15 = .ok (.putfield 54, 3) := by decide +kernel
theorem dX4_dueBehindFirst_18 : decode cX4_dueBehindFirst 18 = .ok (.aload_n 0, 1) := by decide +kernel
theorem dX4_dueBehindFirst_19 : decode cX4_dueBehindFirst 19 = .ok (.getfield 54, 3) := by decide +kernel
theorem dX4_dueBehindFirst_22 : decode cX4_dueBehindFirst 22 = .ok (.invokestatic 57, 3) := by decide +kernel
theorem dX4_dueBehindFirst_25 : decode cX4_dueBehindFirst 25 = .ok (.ifCond .eq 11, 3) := by decide +kernel
theorem dX4_dueBehindFirst_28 : decode cX4_dueBehindFirst 28 = .ok (.aload_n 0, 1) := by decide +kernel
theorem dX4_dueBehindFirst_29 : decode cX4_dueBehindFirst 29 = .ok (.bipush 9, 2) := by decide +kernel
theorem dX4_dueBehindFirst_31 : decode cX4_dueBehindFirst 31 = .ok (.putfield 38, 3) := by decide +kernel
theorem dX4_dueBehindFirst_34 : decode cX4_dueBehindFirst 34 = .ok (.iconst 1, 1) := by decide +kernel
theorem dX4_dueBehindFirst_35 : decode cX4_dueBehindFirst 35 = .ok (.ireturn, 1) := by decide +kernel
theorem dX4_dueBehindFirst_36 : decode cX4_dueBehindFirst 36 = .ok (.iload_n 1, 1) := by decide +kernel
theorem dX4_dueBehindFirst_37 : decode cX4_dueBehindFirst 37 = .ok (.bipush 45, 2) := by decide +kernel
theorem dX4_dueBehindFirst_39 : decode cX4_dueBehindFirst 39 = .ok (.if_icmp .ne 11, 3) := by decide +kernel
theorem dX4_dueBehindFirst_42 : decode cX4_dueBehindFirst 42 = .ok (.aload_n 0, 1) := by decide +kernel
theorem dX4_dueBehindFirst_43 : decode cX4_dueBehindFirst 43 = .ok (.bipush 8, 2) := by decide +kernel
theorem dX4_dueBehindFirst_45 : decode cX4_dueBehindFirst 45 = .ok (.putfield 38, 3) := by decide +kernel
theorem dX4_dueBehindFirst_48 : decode cX4_dueBehindFirst 48 = .ok (.iconst 3, 1) := by decide +kernel
theorem dX4_dueBehindFirst_49 : decode cX4_dueBehindFirst 49 = .ok (.ireturn, 1) := by decide +kernel
theorem dX4_dueBehindFirst_50 : decode cX4_dueBehindFirst 50 = .ok (.iload_n 1, 1) := by decide +kernel
theorem dX4_dueBehindFirst_51 : decode cX4_dueBehindFirst 51 = .ok (.bipush 116, 2) := by decide +kernel
theorem dX4_dueBehindFirst_53 : decode cX4_dueBehindFirst 53 = .ok (.if_icmp .eq 15, 3) := by decide +kernel
theorem dX4_dueBehindFirst_56 : decode cX4_dueBehindFirst 56 = .ok (.iload_n 1, 1) := by decide +kernel
theorem dX4_dueBehindFirst_57 : decode cX4_dueBehindFirst 57 = .ok (.bipush 109, 2) := by decide +kernel
theorem dX4_dueBehindFirst_59 : decode cX4_dueBehindFirst 59 = .ok (.if_icmp .eq 9, 3) := by decide +kernel
theorem dX4_dueBehindFirst_62 : decode cX4_dueBehindFirst 62 = .ok (.iload_n 1, 1) := by decide +kernel
theorem dX4_dueBehindFirst_63 : decode cX4_dueBehindFirst 63 = .ok (.bipush 115, 2) := by decide +kernel
theorem dX4_dueBehindFirst_65 : decode cX4_dueBehindFirst 65 = .ok (.if_icmp .ne 33, 3) := by decide +kernel
theorem dX4_dueBehindFirst_68 : decode cX4_dueBehindFirst 68 = .ok (.aload_n 0, 1) := by decide +kernel
theorem dX4_dueBehindFirst_69 : decode cX4_dueBehindFirst 69 = .ok (.iload_n 1, 1) := by decide +kernel
theorem dX4_dueBehindFirst_70 : decode cX4_dueBehindFirst 70 = .ok (.bipush 116, 2) := by decide +kernel
theorem dX4_dueBehindFirst_72 : decode cX4_dueBehindFirst 72 = .ok (.if_icmp .ne 8, 3) := by decide +kernel
theorem dX4_dueBehindFirst_75 : decode cX4_dueBehindFirst 75 = .ok (.bipush 10, 2) := by decide +kernel
theorem dX4_dueBehindFirst_77 : decode cX4_dueBehindFirst 77 = .ok (.goto 16, 3) := by decide +kernel
theorem dX4_dueBehindFirst_80 : decode cX4_dueBehindFirst 80 = .ok (.iload_n 1, 1) := by decide +kernel
theorem dX4_dueBehindFirst_81 : decode cX4_dueBehindFirst 81 = .ok (.bipush 109, 2) := by decide +kernel
theorem dX4_dueBehindFirst_83 : decode cX4_dueBehindFirst 83 = .ok (.if_icmp .ne 8, 3) := by decide +kernel
theorem dX4_dueBehindFirst_86 : decode cX4_dueBehindFirst 86 = .ok (.bipush 11, 2) := by decide +kernel
theorem dX4_dueBehindFirst_88 : decode cX4_dueBehindFirst 88 = .ok (.goto 5, 3) := by decide +kernel
theorem dX4_dueBehindFirst_91 : decode cX4_dueBehindFirst 91 = .ok (.bipush 12, 2) := by decide +kernel
theorem dX4_dueBehindFirst_93 : decode cX4_dueBehindFirst 93 = .ok (.putfield 38, 3) := by decide +kernel
theorem dX4_dueBehindFirst_96 : decode cX4_dueBehindFirst 96 = .ok (.iconst 5, 1) := by decide +kernel
theorem dX4_dueBehindFirst_97 : decode cX4_dueBehindFirst 97 = .ok (.ireturn, 1) := by decide +kernel
theorem dX4_dueBehindFirst_98 : decode cX4_dueBehindFirst 98 = .ok (.aload_n 0, 1) := by decide +kernel
theorem dX4_dueBehindFirst_99 : decode cX4_dueBehindFirst 99 = .ok (.ldc 61, 2) := by decide +kernel
theorem dX4_dueBehindFirst_101 : decode cX4_dueBehindFirst 101 = .ok (.iload_n 1, 1) := by decide +kernel
theorem dX4_dueBehindFirst_102 : decode cX4_dueBehindFirst 102 = .ok (.i2c, 1) := by decide +kernel
theorem dX4_dueBehindFirst_103 : decode cX4_dueBehindFirst 103 = .ok (.invokevirtual 63, 3) := by decide +kernel
theorem dX4_dueBehindFirst_106 : decode cX4_dueBehindFirst 106 = .ok (.putfield 38, 3) := by decide +kernel
theorem dX4_dueBehindFirst_109 : decode cX4_dueBehindFirst 109 = .ok (.aload_n 0, 1) := by decide +kernel
theorem dX4_dueBehindFirst_110 : decode cX4_dueBehindFirst 110 = .ok (.getfield 38, 3) := by decide +kernel
theorem dX4_dueBehindFirst_113 : decode cX4_dueBehindFirst 113 = .ok (.ifCond .le 7, 3) := by decide +kernel
theorem dX4_dueBehindFirst_116 : decode cX4_dueBehindFirst 116 = .ok (.iconst 3, 1) := by decide +kernel
theorem dX4_dueBehindFirst_117 : decode cX4_dueBehindFirst 117 = .ok (.goto 4, 3) := by decide +kernel
theorem dX4_dueBehindFirst_120 : decode cX4_dueBehindFirst 120 = .ok (.iconst (-1), 1) := by decide +kernel
theorem dX4_dueBehindFirst_121 : decode cX4_dueBehindFirst 121 = .ok (.ireturn, 1) := by decide +kernel
theorem dX4_squareIn_0 : decode cX4_squareIn 0 = .ok (.iload_n 1, 1) := by decide +kernel
theorem dX4_squareIn_1 : decode cX4_squareIn 1 = .ok (.bipush 49, 2) := by decide +kernel
theorem dX4_squareIn_3 : decode cX4_squareIn 3 = .ok (.isub, 1) := by decide +kernel
theorem dX4_squareIn_4 : decode cX4_squareIn 4 = .ok (.istore_n 2, 1) := by decide +kernel
theorem dX4_squareIn_5 : decode cX4_squareIn 5 = .ok (.iload_n 2, 1) := by decide +kernel
theorem dX4_squareIn_6 : decode cX4_squareIn 6 = .ok (.invokestatic 57, 3) := by decide +kernel
theorem dX4_squareIn_9 : decode cX4_squareIn 9 = .ok (.ifCond .eq 14, 3) := by decide +kernel
theorem dX4_squareIn_12 : decode cX4_squareIn 12 = .ok (.iload_n 2, 1) := by decide +kernel
theorem dX4_squareIn_13 : decode cX4_squareIn 13 = .ok (.iconst 5, 1) := by decide +kernel
theorem dX4_squareIn_14 : decode cX4_squareIn 14 = .ok (.imul, 1) := by decide +kernel
theorem dX4_squareIn_15 : decode cX4_squareIn 15 = .ok (.aload_n 0, 1) := by decide +kernel
theorem dX4_squareIn_16 : decode cX4_squareIn 16 = .ok (.getfield 54, 3) := by decide +kernel
theorem dX4_squareIn_19 : decode cX4_squareIn 19 = .ok (.iadd, 1) := by decide +kernel
theorem dX4_squareIn_20 : decode cX4_squareIn 20 = .ok (.goto 4, 3) := by decide +kernel
theorem dX4_squareIn_23 : decode cX4_squareIn 23 = .ok (.iconst (-1), 1) := by decide +kernel
theorem dX4_squareIn_24 : decode cX4_squareIn 24 = .ok (.ireturn, 1) := by decide +kernel
theorem dX4_isLine_0 : decode cX4_isLine 0 = .ok (.iload_n 0, 1) := by decide +kernel
theorem dX4_isLine_1 : decode cX4_isLine 1 = .ok (.ifCond .lt 12, 3) := by decide +kernel
theorem dX4_isLine_4 : decode cX4_isLine 4 = .ok (.iload_n 0, 1) := by decide +kernel
theorem dX4_isLine_5 : decode cX4_isLine 5 = .ok (.iconst 5, 1) := by decide +kernel
theorem dX4_isLine_6 : decode cX4_isLine 6 = .ok (.if_icmp .ge 7, 3) := by decide +kernel
theorem dX4_isLine_9 : decode cX4_isLine 9 = .ok (.iconst 1, 1) := by decide +kernel
theorem dX4_isLine_10 : decode cX4_isLine 10 = .ok (.goto 4, 3) := by decide +kernel
theorem dX4_isLine_13 : decode cX4_isLine 13 = .ok (.iconst 0, 1) := by decide +kernel
theorem dX4_isLine_14 : decode cX4_isLine 14 = .ok (.ireturn, 1) := by decide +kernel
theorem dX4_whatOf_0 : decode cX4_whatOf 0 = .ok (.iload_n 1, 1) := by decide +kernel
theorem dX4_whatOf_1 : decode cX4_whatOf 1 = .ok (.ifCond .lt 18, 3) := by decide +kernel
theorem dX4_whatOf_4 : decode cX4_whatOf 4 = .ok (.iload_n 1, 1) := by decide +kernel
theorem dX4_whatOf_5 : decode cX4_whatOf 5 = .ok (.bipush 35, 2) := by decide +kernel
theorem dX4_whatOf_7 : decode cX4_whatOf 7 = .ok (.if_icmp .ge 12, 3) := by decide +kernel
theorem dX4_whatOf_10 : decode cX4_whatOf 10 = .ok (.aload_n 0, 1) := by decide +kernel
theorem dX4_whatOf_11 : decode cX4_whatOf 11 = .ok (.getfield 15, 3) := by decide +kernel
theorem dX4_whatOf_14 : decode cX4_whatOf 14 = .ok (.iload_n 1, 1) := by decide +kernel
theorem dX4_whatOf_15 : decode cX4_whatOf 15 = .ok (.iaload, 1) := by decide +kernel
theorem dX4_whatOf_16 : decode cX4_whatOf 16 = .ok (.goto 4, 3) := by decide +kernel
theorem dX4_whatOf_19 : decode cX4_whatOf 19 = .ok (.iconst (-1), 1) := by decide +kernel
theorem dX4_whatOf_20 : decode cX4_whatOf 20 = .ok (.ireturn, 1) := by decide +kernel
theorem dX4_originOf_0 : decode cX4_originOf 0 = .ok (.iload_n 1, 1) := by decide +kernel
theorem dX4_originOf_1 : decode cX4_originOf 1 = .ok (.ifCond .lt 18, 3) := by decide +kernel
theorem dX4_originOf_4 : decode cX4_originOf 4 = .ok (.iload_n 1, 1) := by decide +kernel
theorem dX4_originOf_5 : decode cX4_originOf 5 = .ok (.bipush 35, 2) := by decide +kernel
theorem dX4_originOf_7 : decode cX4_originOf 7 = .ok (.if_icmp .ge 12, 3) := by decide +kernel
theorem dX4_originOf_10 : decode cX4_originOf 10 = .ok (.aload_n 0, 1) := by decide +kernel
theorem dX4_originOf_11 : decode cX4_originOf 11 = .ok (.getfield 18, 3) := by decide +kernel
theorem dX4_originOf_14 : decode cX4_originOf 14 = .ok (.iload_n 1, 1) := by decide +kernel
theorem dX4_originOf_15 : decode cX4_originOf 15 = .ok (.iaload, 1) := by decide +kernel
theorem dX4_originOf_16 : decode cX4_originOf 16 = .ok (.goto 4, 3) := by decide +kernel
theorem dX4_originOf_19 : decode cX4_originOf 19 = .ok (.iconst (-1), 1) := by decide +kernel
theorem dX4_originOf_20 : decode cX4_originOf 20 = .ok (.ireturn, 1) := by decide +kernel
theorem dX4_squareOf_0 : decode cX4_squareOf 0 = .ok (.iload_n 1, 1) := by decide +kernel
theorem dX4_squareOf_1 : decode cX4_squareOf 1 = .ok (.ifCond .lt 18, 3) := by decide +kernel
theorem dX4_squareOf_4 : decode cX4_squareOf 4 = .ok (.iload_n 1, 1) := by decide +kernel
theorem dX4_squareOf_5 : decode cX4_squareOf 5 = .ok (.bipush 35, 2) := by decide +kernel
theorem dX4_squareOf_7 : decode cX4_squareOf 7 = .ok (.if_icmp .ge 12, 3) := by decide +kernel
theorem dX4_squareOf_10 : decode cX4_squareOf 10 = .ok (.aload_n 0, 1) := by decide +kernel
theorem dX4_squareOf_11 : decode cX4_squareOf 11 = .ok (.getfield 21, 3) := by decide +kernel
theorem dX4_squareOf_14 : decode cX4_squareOf 14 = .ok (.iload_n 1, 1) := by decide +kernel
theorem dX4_squareOf_15 : decode cX4_squareOf 15 = .ok (.iaload, 1) := by decide +kernel
theorem dX4_squareOf_16 : decode cX4_squareOf 16 = .ok (.goto 4, 3) := by decide +kernel
theorem dX4_squareOf_19 : decode cX4_squareOf 19 = .ok (.iconst (-1), 1) := by decide +kernel
theorem dX4_squareOf_20 : decode cX4_squareOf 20 = .ok (.ireturn, 1) := by decide +kernel
end
section
theorem dX5_init_0 : decode cX5_init 0 = .ok (.aload_n 0, 1) := by decide +kernel
theorem dX5_init_1 : decode cX5_init 1 = .ok (.invokespecial 3, 3) := by decide +kernel
theorem dX5_init_4 : decode cX5_init 4 = .ok (.aload_n 0, 1) := by decide +kernel
theorem dX5_init_5 : decode cX5_init 5 = .ok (.new 9, 3) := by decide +kernel
theorem dX5_init_8 : decode cX5_init 8 = .ok (.dup, 1) := by decide +kernel
theorem dX5_init_9 : decode cX5_init 9 = .ok (.invokespecial 11, 3) := by decide +kernel
theorem dX5_init_12 : decode cX5_init 12 = .ok (.putfield 12, 3) := by decide +kernel
theorem dX5_init_15 : decode cX5_init 15 = .ok (.aload_n 0, 1) := by decide +kernel
theorem dX5_init_16 : decode cX5_init 16 = .ok (.new 9, 3) := by decide +kernel
theorem dX5_init_19 : decode cX5_init 19 = .ok (.dup, 1) := by decide +kernel
theorem dX5_init_20 : decode cX5_init 20 = .ok (.invokespecial 11, 3) := by decide +kernel
theorem dX5_init_23 : decode cX5_init 23 = .ok (.putfield 16, 3) := by decide +kernel
theorem dX5_init_26 : decode cX5_init 26 = .ok (.aload_n 0, 1) := by decide +kernel
theorem dX5_init_27 : decode cX5_init 27 = .ok (.new 9, 3) := by decide +kernel
theorem dX5_init_30 : decode cX5_init 30 = .ok (.dup, 1) := by decide +kernel
theorem dX5_init_31 : decode cX5_init 31 = .ok (.invokespecial 11, 3) := by decide +kernel
theorem dX5_init_34 : decode cX5_init 34 = .ok (.putfield 19, 3) := by decide +kernel
theorem dX5_init_37 : decode cX5_init 37 = .ok (.aload_n 0, 1) := by decide +kernel
theorem dX5_init_38 : decode cX5_init 38 = .ok (.new 9, 3) := by decide +kernel
theorem dX5_init_41 : decode cX5_init 41 = .ok (.dup, 1) := by decide +kernel
theorem dX5_init_42 : decode cX5_init 42 = .ok (.invokespecial 11, 3) := by decide +kernel
theorem dX5_init_45 : decode cX5_init 45 = .ok (.putfield 22, 3) := by decide +kernel
theorem dX5_init_48 : decode cX5_init 48 = .ok (.aload_n 0, 1) := by decide +kernel
theorem dX5_init_49 : decode cX5_init 49 = .ok (.new 25, 3) := by decide +kernel
theorem dX5_init_52 : decode cX5_init 52 = .ok (.dup, 1) := by decide +kernel
theorem dX5_init_53 : decode cX5_init 53 = .ok (.invokespecial 27, 3) := by decide +kernel
theorem dX5_init_56 : decode cX5_init 56 = .ok (.putfield 28, 3) := by decide +kernel
theorem dX5_init_59 : decode cX5_init 59 = .ok (.aload_n 0, 1) := by decide +kernel
theorem dX5_init_60 : decode cX5_init 60 = .ok (.new 32, 3) := by decide +kernel
theorem dX5_init_63 : decode cX5_init 63 = .ok (.dup, 1) := by decide +kernel
theorem dX5_init_64 : decode cX5_init 64 = .ok (.invokespecial 34, 3) := by decide +kernel
theorem dX5_init_67 : decode cX5_init 67 = .ok (.putfield 35, 3) := by decide +kernel
theorem dX5_init_70 : decode cX5_init 70 = .ok (.aload_n 0, 1) := by decide +kernel
theorem dX5_init_71 : decode cX5_init 71 = .ok (.new 32, 3) := by decide +kernel
theorem dX5_init_74 : decode cX5_init 74 = .ok (.dup, 1) := by decide +kernel
theorem dX5_init_75 : decode cX5_init 75 = .ok (.invokespecial 34, 3) := by decide +kernel
theorem dX5_init_78 : decode cX5_init 78 = .ok (.putfield 39, 3) := by decide +kernel
theorem dX5_init_81 : decode cX5_init 81 = .ok (.aload_n 0, 1) := by decide +kernel
theorem dX5_init_82 : decode cX5_init 82 = .ok (.iconst 4, 1) := by decide +kernel
theorem dX5_init_83 : decode cX5_init 83 = .ok (.newarray .int, 2) := by decide +kernel
theorem dX5_init_85 : decode cX5_init 85 = .ok (.putfield 42, 3) := by decide +kernel
theorem dX5_init_88 : decode cX5_init 88 = .ok (.aload_n 0, 1) := by decide +kernel
theorem dX5_init_89 : decode cX5_init 89 = .ok (.bipush 25, 2) := by decide +kernel
theorem dX5_init_91 : decode cX5_init 91 = .ok (.newarray .int, 2) := by decide +kernel
theorem dX5_init_93 : decode cX5_init 93 = .ok (.putfield 46, 3) := by decide +kernel
theorem dX5_init_96 : decode cX5_init 96 = .ok (.aload_n 0, 1) := by decide +kernel
theorem dX5_init_97 : decode cX5_init 97 = .ok (.new 49, 3) := by decide +kernel
theorem dX5_init_100 : decode cX5_init 100 = .ok (.dup, 1) := by decide +kernel
theorem dX5_init_101 : decode cX5_init 101 = .ok (.invokespecial 51, 3) := by decide +kernel
theorem dX5_init_104 : decode cX5_init 104 = .ok (.putfield 52, 3) := by decide +kernel
theorem dX5_init_107 : decode cX5_init 107 = .ok (.aload_n 0, 1) := by decide +kernel
theorem dX5_init_108 : decode cX5_init 108 = .ok (.new 56, 3) := by decide +kernel
theorem dX5_init_111 : decode cX5_init 111 = .ok (.dup, 1) := by decide +kernel
theorem dX5_init_112 : decode cX5_init 112 = .ok (.invokespecial 58, 3) := by decide +kernel
theorem dX5_init_115 : decode cX5_init 115 = .ok (.putfield 59, 3) := by decide +kernel
theorem dX5_init_118 : decode cX5_init 118 = .ok (.aload_n 0, 1) := by decide +kernel
theorem dX5_init_119 : decode cX5_init 119 = .ok (.bipush (-4), 2) := by decide +kernel
theorem dX5_init_121 : decode cX5_init 121 = .ok (.putfield 63, 3) := by decide +kernel
theorem dX5_init_124 : decode cX5_init 124 = .ok (.return_, 1) := by decide +kernel
theorem dX5_put_0 : decode cX5_put 0 = .ok (.aload_n 0, 1) := by decide +kernel
theorem dX5_put_1 : decode cX5_put 1 = .ok (.getfield 16, 3) := by decide +kernel
theorem dX5_put_4 : decode cX5_put 4 = .ok (.aload_n 0, 1) := by decide +kernel
theorem dX5_put_5 : decode cX5_put 5 = .ok (.getfield 12, 3) := by decide +kernel
theorem dX5_put_8 : decode cX5_put 8 = .ok (.invokevirtual 67, 3) := by decide +kernel
theorem dX5_put_11 : decode cX5_put 11 = .ok (.aload_n 0, 1) := by decide +kernel
theorem dX5_put_12 : decode cX5_put 12 = .ok (.aload_n 0, 1) := by decide +kernel
theorem dX5_put_13 : decode cX5_put 13 = .ok (.iload_n 1, 1) := by decide +kernel
theorem dX5_put_14 : decode cX5_put 14 = .ok (.iload_n 2, 1) := by decide +kernel
theorem dX5_put_15 : decode cX5_put 15 = .ok (.invokevirtual 71, 3) := by decide +kernel
theorem dX5_put_18 : decode cX5_put 18 = .ok (.invokevirtual 75, 3) := by decide +kernel
theorem dX5_put_21 : decode cX5_put 21 = .ok (.ireturn, 1) := by decide +kernel
theorem dX5_lift_0 : decode cX5_lift 0 = .ok (.aload_n 0, 1) := by decide +kernel
theorem dX5_lift_1 : decode cX5_lift 1 = .ok (.getfield 16, 3) := by decide +kernel
theorem dX5_lift_4 : decode cX5_lift 4 = .ok (.aload_n 0, 1) := by decide +kernel
theorem dX5_lift_5 : decode cX5_lift 5 = .ok (.getfield 12, 3) := by decide +kernel
theorem dX5_lift_8 : decode cX5_lift 8 = .ok (.invokevirtual 67, 3) := by decide +kernel
theorem dX5_lift_11 : decode cX5_lift 11 = .ok (.aload_n 0, 1) := by decide +kernel
theorem dX5_lift_12 : decode cX5_lift 12 = .ok (.aload_n 0, 1) := by decide +kernel
theorem dX5_lift_13 : decode cX5_lift 13 = .ok (.iload_n 1, 1) := by decide +kernel
theorem dX5_lift_14 : decode cX5_lift 14 = .ok (.invokevirtual 79, 3) := by decide +kernel
theorem dX5_lift_17 : decode cX5_lift 17 = .ok (.invokevirtual 75, 3) := by decide +kernel
theorem dX5_lift_20 : decode cX5_lift 20 = .ok (.ireturn, 1) := by decide +kernel
theorem dX5_play_0 : decode cX5_play 0 = .ok (.aload_n 0, 1) := by decide +kernel
theorem dX5_play_1 : decode cX5_play 1 = .ok (.getfield 16, 3) := by decide +kernel
theorem dX5_play_4 : decode cX5_play 4 = .ok (.aload_n 0, 1) := by decide +kernel
theorem dX5_play_5 : decode cX5_play 5 = .ok (.getfield 12, 3) := by decide +kernel
theorem dX5_play_8 : decode cX5_play 8 = .ok (.invokevirtual 67, 3) := by decide +kernel
theorem dX5_play_11 : decode cX5_play 11 = .ok (.aload_n 0, 1) := by decide +kernel
theorem dX5_play_12 : decode cX5_play 12 = .ok (.aload_n 0, 1) := by decide +kernel
theorem dX5_play_13 : decode cX5_play 13 = .ok (.iload_n 1, 1) := by decide +kernel
theorem dX5_play_14 : decode cX5_play 14 = .ok (.iload_n 2, 1) := by decide +kernel
theorem dX5_play_15 : decode cX5_play 15 = .ok (.invokevirtual 82, 3) := by decide +kernel
theorem dX5_play_18 : decode cX5_play 18 = .ok (.invokevirtual 75, 3) := by decide +kernel
theorem dX5_play_21 : decode cX5_play 21 = .ok (.ireturn, 1) := by decide +kernel
theorem dX5_turn_0 : decode cX5_turn 0 = .ok (.aload_n 0, 1) := by decide +kernel
theorem dX5_turn_1 : decode cX5_turn 1 = .ok (.getfield 16, 3) := by decide +kernel
theorem dX5_turn_4 : decode cX5_turn 4 = .ok (.aload_n 0, 1) := by decide +kernel
theorem dX5_turn_5 : decode cX5_turn 5 = .ok (.getfield 12, 3) := by decide +kernel
theorem dX5_turn_8 : decode cX5_turn 8 = .ok (.invokevirtual 67, 3) := by decide +kernel
theorem dX5_turn_11 : decode cX5_turn 11 = .ok (.aload_n 0, 1) := by decide +kernel
theorem dX5_turn_12 : decode cX5_turn 12 = .ok (.aload_n 0, 1) := by decide +kernel
theorem dX5_turn_13 : decode cX5_turn 13 = .ok (.invokevirtual 85, 3) := by decide +kernel
theorem dX5_turn_16 : decode cX5_turn 16 = .ok (.invokevirtual 75, 3) := by decide +kernel
theorem dX5_turn_19 : decode cX5_turn 19 = .ok (.ireturn, 1) := by decide +kernel
theorem dX5_mirror_0 : decode cX5_mirror 0 = .ok (.aload_n 0, 1) := by decide +kernel
theorem dX5_mirror_1 : decode cX5_mirror 1 = .ok (.getfield 16, 3) := by decide +kernel
theorem dX5_mirror_4 : decode cX5_mirror 4 = .ok (.aload_n 0, 1) := by decide +kernel
theorem dX5_mirror_5 : decode cX5_mirror 5 = .ok (.getfield 12, 3) := by decide +kernel
theorem dX5_mirror_8 : decode cX5_mirror 8 = .ok (.invokevirtual 67, 3) := by decide +kernel
theorem dX5_mirror_11 : decode cX5_mirror 11 = .ok (.aload_n 0, 1) := by decide +kernel
theorem dX5_mirror_12 : decode cX5_mirror 12 = .ok (.aload_n 0, 1) := by decide +kernel
theorem dX5_mirror_13 : decode cX5_mirror 13 = .ok (.invokevirtual 89, 3) := by decide +kernel
theorem dX5_mirror_16 : decode cX5_mirror 16 = .ok (.invokevirtual 75, 3) := by decide +kernel
theorem dX5_mirror_19 : decode cX5_mirror 19 = .ok (.ireturn, 1) := by decide +kernel
theorem dX5_thrift_0 : decode cX5_thrift 0 = .ok (.aload_n 0, 1) := by decide +kernel
theorem dX5_thrift_1 : decode cX5_thrift 1 = .ok (.getfield 16, 3) := by decide +kernel
theorem dX5_thrift_4 : decode cX5_thrift 4 = .ok (.aload_n 0, 1) := by decide +kernel
theorem dX5_thrift_5 : decode cX5_thrift 5 = .ok (.getfield 12, 3) := by decide +kernel
theorem dX5_thrift_8 : decode cX5_thrift 8 = .ok (.invokevirtual 67, 3) := by decide +kernel
theorem dX5_thrift_11 : decode cX5_thrift 11 = .ok (.aload_n 0, 1) := by decide +kernel
theorem dX5_thrift_12 : decode cX5_thrift 12 = .ok (.aload_n 0, 1) := by decide +kernel
theorem dX5_thrift_13 : decode cX5_thrift 13 = .ok (.invokevirtual 92, 3) := by decide +kernel
theorem dX5_thrift_16 : decode cX5_thrift 16 = .ok (.invokevirtual 75, 3) := by decide +kernel
theorem dX5_thrift_19 : decode cX5_thrift 19 = .ok (.ireturn, 1) := by decide +kernel
theorem dX5_at_0 : decode cX5_at 0 = .ok (.iload_n 1, 1) := by decide +kernel
theorem dX5_at_1 : decode cX5_at 1 = .ok (.invokestatic 95, 3) := by decide +kernel
theorem dX5_at_4 : decode cX5_at 4 = .ok (.ifCond .eq 14, 3) := by decide +kernel
theorem dX5_at_7 : decode cX5_at 7 = .ok (.aload_n 0, 1) := by decide +kernel
theorem dX5_at_8 : decode cX5_at 8 = .ok (.getfield 12, 3) := by decide +kernel
theorem dX5_at_11 : decode cX5_at 11 = .ok (.iload_n 1, 1) := by decide +kernel
theorem dX5_at_12 : decode cX5_at 12 = .ok (.invokevirtual 99, 3) := by decide +kernel
theorem dX5_at_15 : decode cX5_at 15 = .ok (.goto 4, 3) := by decide +kernel
theorem dX5_at_18 : decode cX5_at 18 = .ok (.iconst (-1), 1) := by decide +kernel
theorem dX5_at_19 : decode cX5_at 19 = .ok (.ireturn, 1) := by decide +kernel
theorem dX5_attackers_0 : decode cX5_attackers 0 = .ok (.iload_n 1, 1) := by decide +kernel
theorem dX5_attackers_1 : decode cX5_attackers 1 = .ok (.invokestatic 95, 3) := by decide +kernel
theorem dX5_attackers_4 : decode cX5_attackers 4 = .ok (.ifCond .eq 14, 3) := by decide +kernel
theorem dX5_attackers_7 : decode cX5_attackers 7 = .ok (.aload_n 0, 1) := by decide +kernel
theorem dX5_attackers_8 : decode cX5_attackers 8 = .ok (.getfield 12, 3) := by decide +kernel
theorem dX5_attackers_11 : decode cX5_attackers 11 = .ok (.iload_n 1, 1) := by decide +kernel
theorem dX5_attackers_12 : decode cX5_attackers 12 = .ok (.invokevirtual 102, 3) := by decide +kernel
theorem dX5_attackers_15 : decode cX5_attackers 15 = .ok (.goto 4, 3) := by decide +kernel
theorem dX5_attackers_18 : decode cX5_attackers 18 = .ok (.iconst (-1), 1) := by decide +kernel
theorem dX5_attackers_19 : decode cX5_attackers 19 = .ok (.ireturn, 1) := by decide +kernel
theorem dX5_attackersAgain_0 : decode cX5_attackersAgain 0 = .ok (.iload_n 1, 1) := by decide +kernel
theorem dX5_attackersAgain_1 : decode cX5_attackersAgain 1 = .ok (.invokestatic 95, 3) := by decide +kernel
theorem dX5_attackersAgain_4 : decode cX5_attackersAgain 4 = .ok (.ifCond .eq 14, 3) := by decide +kernel
theorem dX5_attackersAgain_7 : decode cX5_attackersAgain 7 = .ok (.aload_n 0, 1) := by decide +kernel
theorem dX5_attackersAgain_8 : decode cX5_attackersAgain 8 = .ok (.getfield 12, 3) := by decide +kernel
theorem dX5_attackersAgain_11 : decode cX5_attackersAgain 11 = .ok (.iload_n 1, 1) := by decide +kernel
theorem dX5_attackersAgain_12 : decode cX5_attackersAgain 12 = .ok (.invokevirtual 105, 3) := by decide +kernel
theorem dX5_attackersAgain_15 : decode cX5_attackersAgain 15 = .ok (.goto 4, 3) := by decide +kernel
theorem dX5_attackersAgain_18 : decode cX5_attackersAgain 18 = .ok (.iconst (-1), 1) := by decide +kernel
theorem dX5_attackersAgain_19 : decode cX5_attackersAgain 19 = .ok (.ireturn, 1) := by decide +kernel
theorem dX5_manOf_0 : decode cX5_manOf 0 = .ok (.iload_n 1, 1) := by decide +kernel
theorem dX5_manOf_1 : decode cX5_manOf 1 = .ok (.invokestatic 95, 3) := by decide +kernel
theorem dX5_manOf_4 : decode cX5_manOf 4 = .ok (.ifCond .ne 5, 3) := by decide +kernel
theorem dX5_manOf_7 : decode cX5_manOf 7 = .ok (.iconst (-1), 1) := by decide +kernel
theorem dX5_manOf_8 : decode cX5_manOf 8 = .ok (.ireturn, 1) := by decide +kernel
theorem dX5_manOf_9 : decode cX5_manOf 9 = .ok (.iload_n 2, 1) := by decide +kernel
theorem dX5_manOf_10 : decode cX5_manOf 10 = .ok (.ifCond .lt 8, 3) := by decide +kernel
theorem dX5_manOf_13 : decode cX5_manOf 13 = .ok (.iload_n 2, 1) := by decide +kernel
theorem dX5_manOf_14 : decode cX5_manOf 14 = .ok (.iconst 3, 1) := by decide +kernel
theorem dX5_manOf_15 : decode cX5_manOf 15 = .ok (.if_icmp .le 6, 3) := by decide +kernel
theorem dX5_manOf_18 : decode cX5_manOf 18 = .ok (.bipush (-2), 2) := by decide +kernel
theorem dX5_manOf_20 : decode cX5_manOf 20 = .ok (.ireturn, 1) := by decide +kernel
theorem dX5_manOf_21 : decode cX5_manOf 21 = .ok (.aload_n 0, 1) := by decide +kernel
theorem dX5_manOf_22 : decode cX5_manOf 22 = .ok (.getfield 12, 3) := by decide +kernel
theorem dX5_manOf_25 : decode cX5_manOf 25 = .ok (.iload_n 1, 1) := by decide +kernel
theorem dX5_manOf_26 : decode cX5_manOf 26 = .ok (.invokevirtual 99, 3) := by decide +kernel
theorem dX5_manOf_29 : decode cX5_manOf 29 = .ok (.ifCond .ne 6, 3) := by decide +kernel
theorem dX5_manOf_32 : decode cX5_manOf 32 = .ok (.bipush (-4), 2) := by decide +kernel
theorem dX5_manOf_34 : decode cX5_manOf 34 = .ok (.ireturn, 1) := by decide +kernel
theorem dX5_manOf_35 : decode cX5_manOf 35 = .ok (.iload_n 2, 1) := by decide +kernel
theorem dX5_manOf_36 : decode cX5_manOf 36 = .ok (.ifCond .ne 15, 3) := by decide +kernel
theorem dX5_manOf_39 : decode cX5_manOf 39 = .ok (.aload_n 0, 1) := by decide +kernel
theorem dX5_manOf_40 : decode cX5_manOf 40 = .ok (.getfield 12, 3) := by decide +kernel
theorem dX5_manOf_43 : decode cX5_manOf 43 = .ok (.iload_n 1, 1) := by decide +kernel
theorem dX5_manOf_44 : decode cX5_manOf 44 = .ok (.invokevirtual 108, 3) := by decide +kernel
theorem dX5_manOf_47 : decode cX5_manOf 47 = .ok (.invokestatic 111, 3) := by decide +kernel
theorem dX5_manOf_50 : decode cX5_manOf 50 = .ok (.ireturn, 1) := by decide +kernel
theorem dX5_manOf_51 : decode cX5_manOf 51 = .ok (.iload_n 2, 1) := by decide +kernel
theorem dX5_manOf_52 : decode cX5_manOf 52 = .ok (.iconst 1, 1) := by decide +kernel
theorem dX5_manOf_53 : decode cX5_manOf 53 = .ok (.if_icmp .ne 15, 3) := by decide +kernel
theorem dX5_manOf_56 : decode cX5_manOf 56 = .ok (.aload_n 0, 1) := by decide +kernel
theorem dX5_manOf_57 : decode cX5_manOf 57 = .ok (.getfield 12, 3) := by decide +kernel
theorem dX5_manOf_60 : decode cX5_manOf 60 = .ok (.iload_n 1, 1) := by decide +kernel
theorem dX5_manOf_61 : decode cX5_manOf 61 = .ok (.invokevirtual 114, 3) := by decide +kernel
theorem dX5_manOf_64 : decode cX5_manOf 64 = .ok (.invokestatic 111, 3) := by decide +kernel
theorem dX5_manOf_67 : decode cX5_manOf 67 = .ok (.ireturn, 1) := by decide +kernel
theorem dX5_manOf_68 : decode cX5_manOf 68 = .ok (.aload_n 0, 1) := by decide +kernel
theorem dX5_manOf_69 : decode cX5_manOf 69 = .ok (.getfield 12, 3) := by decide +kernel
theorem dX5_manOf_72 : decode cX5_manOf 72 = .ok (.invokevirtual 117, 3) := by decide +kernel
theorem dX5_manOf_75 : decode cX5_manOf 75 = .ok (.ifCond .ne 6, 3) := by decide +kernel
theorem dX5_manOf_78 : decode cX5_manOf 78 = .ok (.bipush (-4), 2) := by decide +kernel
theorem dX5_manOf_80 : decode cX5_manOf 80 = .ok (.ireturn, 1) := by decide +kernel
theorem dX5_manOf_81 : decode cX5_manOf 81 = .ok (.iload_n 2, 1) := by decide +kernel
theorem dX5_manOf_82 : decode cX5_manOf 82 = .ok (.iconst 2, 1) := by decide +kernel
theorem dX5_manOf_83 : decode cX5_manOf 83 = .ok (.if_icmp .ne 15, 3) := by decide +kernel
theorem dX5_manOf_86 : decode cX5_manOf 86 = .ok (.aload_n 0, 1) := by decide +kernel
theorem dX5_manOf_87 : decode cX5_manOf 87 = .ok (.getfield 12, 3) := by decide +kernel
theorem dX5_manOf_90 : decode cX5_manOf 90 = .ok (.iload_n 1, 1) := by decide +kernel
theorem dX5_manOf_91 : decode cX5_manOf 91 = .ok (.invokevirtual 121, 3) := by decide +kernel
theorem dX5_manOf_94 : decode cX5_manOf 94 = .ok (.invokestatic 111, 3) := by decide +kernel
theorem dX5_manOf_97 : decode cX5_manOf 97 = .ok (.ireturn, 1) := by decide +kernel
theorem dX5_manOf_98 : decode cX5_manOf 98 = .ok (.aload_n 0, 1) := by decide +kernel
theorem dX5_manOf_99 : decode cX5_manOf 99 = .ok (.getfield 39, 3) := by decide +kernel
theorem dX5_manOf_102 : decode cX5_manOf 102 = .ok (.aload_n 0, 1) := by decide +kernel
theorem dX5_manOf_103 : decode cX5_manOf 103 = .ok (.getfield 12, 3) := by decide +kernel
theorem dX5_manOf_106 : decode cX5_manOf 106 = .ok (.invokevirtual 124, 3) := by decide +kernel
theorem dX5_manOf_109 : decode cX5_manOf 109 = .ok (.aload_n 0, 1) := by decide +kernel
theorem dX5_manOf_110 : decode cX5_manOf 110 = .ok (.iload_n 1, 1) := by decide +kernel
theorem dX5_manOf_111 : decode cX5_manOf 111 = .ok (.invokevirtual 127, 3) := by decide +kernel
theorem dX5_manOf_114 : decode cX5_manOf 114 = .ok (.ifCond .eq 7, 3) := by decide +kernel
theorem dX5_manOf_117 : decode cX5_manOf 117 = .ok (.iconst 1, 1) := by decide +kernel
theorem dX5_manOf_118 : decode cX5_manOf 118 = .ok (.goto 4, 3) := by decide +kernel
theorem dX5_manOf_121 : decode cX5_manOf 121 = .ok (.iconst 0, 1) := by decide +kernel
theorem dX5_manOf_122 : decode cX5_manOf 122 = .ok (.ireturn, 1) := by decide +kernel
theorem dX5_move_0 : decode cX5_move 0 = .ok (.aload_n 0, 1) := by decide +kernel
theorem dX5_move_1 : decode cX5_move 1 = .ok (.getfield 35, 3) := by decide +kernel
theorem dX5_move_4 : decode cX5_move 4 = .ok (.aload_n 0, 1) := by decide +kernel
theorem dX5_move_5 : decode cX5_move 5 = .ok (.getfield 12, 3) := by decide +kernel
theorem dX5_move_8 : decode cX5_move 8 = .ok (.invokevirtual 130, 3) := by decide +kernel
theorem dX5_move_11 : decode cX5_move 11 = .ok (.aload_n 0, 1) := by decide +kernel
theorem dX5_move_12 : decode cX5_move 12 = .ok (.getfield 35, 3) := by decide +kernel
theorem dX5_move_15 : decode cX5_move 15 = .ok (.iload_n 1, 1) := by decide +kernel
theorem dX5_move_16 : decode cX5_move 16 = .ok (.invokevirtual 133, 3) := by decide +kernel
theorem dX5_move_19 : decode cX5_move 19 = .ok (.ireturn, 1) := by decide +kernel
theorem dX5_escapes_0 : decode cX5_escapes 0 = .ok (.aload_n 0, 1) := by decide +kernel
theorem dX5_escapes_1 : decode cX5_escapes 1 = .ok (.getfield 12, 3) := by decide +kernel
theorem dX5_escapes_4 : decode cX5_escapes 4 = .ok (.bipush 7, 2) := by decide +kernel
theorem dX5_escapes_6 : decode cX5_escapes 6 = .ok (.invokevirtual 136, 3) := by decide +kernel
theorem dX5_escapes_9 : decode cX5_escapes 9 = .ok (.ifCond .ge 6, 3) := by decide +kernel
theorem dX5_escapes_12 : decode cX5_escapes 12 = .ok (.bipush (-4), 2) := by decide +kernel
theorem dX5_escapes_14 : decode cX5_escapes 14 = .ok (.ireturn, 1) := by decide +kernel
theorem dX5_escapes_15 : decode cX5_escapes 15 = .ok (.aload_n 0, 1) := by decide +kernel
theorem dX5_escapes_16 : decode cX5_escapes 16 = .ok (.getfield 12, 3) := by decide +kernel
theorem dX5_escapes_19 : decode cX5_escapes 19 = .ok (.invokevirtual 139, 3) := by decide +kernel
theorem dX5_escapes_22 : decode cX5_escapes 22 = .ok (.invokestatic 142, 3) := by decide +kernel
theorem dX5_escapes_25 : decode cX5_escapes 25 = .ok (.ireturn, 1) := by decide +kernel
theorem dX5_isFit_0 : decode cX5_isFit 0 = .ok (.aload_n 0, 1) := by decide +kernel
theorem dX5_isFit_1 : decode cX5_isFit 1 = .ok (.getfield 12, 3) := by decide +kernel
theorem dX5_isFit_4 : decode cX5_isFit 4 = .ok (.invokevirtual 117, 3) := by decide +kernel
theorem dX5_isFit_7 : decode cX5_isFit 7 = .ok (.ifCond .eq 7, 3) := by decide +kernel
theorem dX5_isFit_10 : decode cX5_isFit 10 = .ok (.iconst 1, 1) := by decide +kernel
theorem dX5_isFit_11 : decode cX5_isFit 11 = .ok (.goto 4, 3) := by decide +kernel
theorem dX5_isFit_14 : decode cX5_isFit 14 = .ok (.iconst 0, 1) := by decide +kernel
theorem dX5_isFit_15 : decode cX5_isFit 15 = .ok (.ireturn, 1) := by decide +kernel
theorem dX5_key_0 : decode cX5_key 0 = .ok (.aload_n 0, 1) := by decide +kernel
theorem dX5_key_1 : decode cX5_key 1 = .ok (.getfield 12, 3) := by decide +kernel
theorem dX5_key_4 : decode cX5_key 4 = .ok (.invokevirtual 117, 3) := by decide +kernel
theorem dX5_key_7 : decode cX5_key 7 = .ok (.ifCond .ne 6, 3) := by decide +kernel
theorem dX5_key_10 : decode cX5_key 10 = .ok (.bipush (-4), 2) := by decide +kernel
theorem dX5_key_12 : decode cX5_key 12 = .ok (.ireturn, 1) := by decide +kernel
theorem dX5_key_13 : decode cX5_key 13 = .ok (.aload_n 0, 1) := by decide +kernel
theorem dX5_key_14 : decode cX5_key 14 = .ok (.getfield 39, 3) := by decide +kernel
theorem dX5_key_17 : decode cX5_key 17 = .ok (.aload_n 0, 1) := by decide +kernel
theorem dX5_key_18 : decode cX5_key 18 = .ok (.getfield 12, 3) := by decide +kernel
theorem dX5_key_21 : decode cX5_key 21 = .ok (.invokevirtual 124, 3) := by decide +kernel
theorem dX5_key_24 : decode cX5_key 24 = .ok (.aload_n 0, 1) := by decide +kernel
theorem dX5_key_25 : decode cX5_key 25 = .ok (.getfield 39, 3) := by decide +kernel
theorem dX5_key_28 : decode cX5_key 28 = .ok (.iload_n 1, 1) := by decide +kernel
theorem dX5_key_29 : decode cX5_key 29 = .ok (.invokevirtual 133, 3) := by decide +kernel
theorem dX5_key_32 : decode cX5_key 32 = .ok (.ireturn, 1) := by decide +kernel
theorem dX5_kind_0 : decode cX5_kind 0 = .ok (.aload_n 0, 1) := by decide +kernel
theorem dX5_kind_1 : decode cX5_kind 1 = .ok (.getfield 12, 3) := by decide +kernel
theorem dX5_kind_4 : decode cX5_kind 4 = .ok (.iload_n 1, 1) := by decide +kernel
theorem dX5_kind_5 : decode cX5_kind 5 = .ok (.iload_n 2, 1) := by decide +kernel
theorem dX5_kind_6 : decode cX5_kind 6 = .ok (.invokevirtual 145, 3) := by decide +kernel
theorem dX5_kind_9 : decode cX5_kind 9 = .ok (.ifCond .ne 5, 3) := by decide +kernel
theorem dX5_kind_12 : decode cX5_kind 12 = .ok (.iconst (-1), 1) := by decide +kernel
theorem dX5_kind_13 : decode cX5_kind 13 = .ok (.ireturn, 1) := by decide +kernel
theorem dX5_kind_14 : decode cX5_kind 14 = .ok (.aload_n 0, 1) := by decide +kernel
theorem dX5_kind_15 : decode cX5_kind 15 = .ok (.getfield 12, 3) := by decide +kernel
theorem dX5_kind_18 : decode cX5_kind 18 = .ok (.invokevirtual 117, 3) := by decide +kernel
theorem dX5_kind_21 : decode cX5_kind 21 = .ok (.ifCond .ne 6, 3) := by decide +kernel
theorem dX5_kind_24 : decode cX5_kind 24 = .ok (.bipush (-4), 2) := by decide +kernel
theorem dX5_kind_26 : decode cX5_kind 26 = .ok (.ireturn, 1) := by decide +kernel
theorem dX5_kind_27 : decode cX5_kind 27 = .ok (.aload_n 0, 1) := by decide +kernel
theorem dX5_kind_28 : decode cX5_kind 28 = .ok (.getfield 12, 3) := by decide +kernel
theorem dX5_kind_31 : decode cX5_kind 31 = .ok (.iload_n 1, 1) := by decide +kernel
theorem dX5_kind_32 : decode cX5_kind 32 = .ok (.iload_n 2, 1) := by decide +kernel
theorem dX5_kind_33 : decode cX5_kind 33 = .ok (.invokevirtual 149, 3) := by decide +kernel
theorem dX5_kind_36 : decode cX5_kind 36 = .ok (.ireturn, 1) := by decide +kernel
theorem dX5_refutation_0 : decode cX5_refutation 0 = .ok (.iload_n 1, 1) := by decide +kernel
theorem dX5_refutation_1 : decode cX5_refutation 1 = .ok (.invokestatic 95, 3) := by decide +kernel
theorem dX5_refutation_4 : decode cX5_refutation 4 = .ok (.ifCond .eq 10, 3) := by decide +kernel
theorem dX5_refutation_7 : decode cX5_refutation 7 = .ok (.iload_n 2, 1) := by decide +kernel
theorem dX5_refutation_8 : decode cX5_refutation 8 = .ok (.invokestatic 95, 3) := by decide +kernel
theorem dX5_refutation_11 : decode cX5_refutation 11 = .ok (.ifCond .ne 5, 3) := by decide +kernel
theorem dX5_refutation_14 : decode cX5_refutation 14 = .ok (.iconst (-1), 1) := by decide +kernel
theorem dX5_refutation_15 : decode cX5_refutation 15 = .ok (.ireturn, 1) := by decide +kernel
theorem dX5_refutation_16 : decode cX5_refutation 16 = .ok (.aload_n 0, 1) := by decide +kernel
theorem dX5_refutation_17 : decode cX5_refutation 17 = .ok (.getfield 12, 3) := by decide +kernel
theorem dX5_refutation_20 : decode cX5_refutation 20 = .ok (.invokevirtual 117, 3) := by decide +kernel
theorem dX5_refutation_23 : decode cX5_refutation 23 = .ok (.ifCond .ne 6, 3) := by decide +kernel
theorem dX5_refutation_26 : decode cX5_refutation 26 = .ok (.bipush (-4), 2) := by decide +kernel
theorem dX5_refutation_28 : decode cX5_refutation 28 = .ok (.ireturn, 1) := by decide +kernel
theorem dX5_refutation_29 : decode cX5_refutation 29 = .ok (.aload_n 0, 1) := by decide +kernel
theorem dX5_refutation_30 : decode cX5_refutation 30 = .ok (.getfield 12, 3) := by decide +kernel
theorem dX5_refutation_33 : decode cX5_refutation 33 = .ok (.iload_n 1, 1) := by decide +kernel
theorem dX5_refutation_34 : decode cX5_refutation 34 = .ok (.iload_n 2, 1) := by decide +kernel
theorem dX5_refutation_35 : decode cX5_refutation 35 = .ok (.invokevirtual 145, 3) := by decide +kernel
theorem dX5_refutation_38 : decode cX5_refutation 38 = .ok (.ifCond .eq 16, 3) := by decide +kernel
theorem dX5_refutation_41 : decode cX5_refutation 41 = .ok (.aload_n 0, 1) := by decide +kernel
theorem dX5_refutation_42 : decode cX5_refutation 42 = .ok (.getfield 12, 3) := by decide +kernel
theorem dX5_refutation_45 : decode cX5_refutation 45 = .ok (.iload_n 1, 1) := by decide +kernel
theorem dX5_refutation_46 : decode cX5_refutation 46 = .ok (.iload_n 2, 1) := by decide +kernel
theorem dX5_refutation_47 : decode cX5_refutation 47 = .ok (.invokevirtual 149, 3) := by decide +kernel
theorem dX5_refutation_50 : decode cX5_refutation 50 = .ok (.iconst 2, 1) := by decide +kernel
theorem dX5_refutation_51 : decode cX5_refutation 51 = .ok (.if_icmp .eq 5, 3) := by decide +kernel
theorem dX5_refutation_54 : decode cX5_refutation 54 = .ok (.iconst (-1), 1) := by decide +kernel
theorem dX5_refutation_55 : decode cX5_refutation 55 = .ok (.ireturn, 1) := by decide +kernel
theorem dX5_refutation_56 : decode cX5_refutation 56 = .ok (.aload_n 0, 1) := by decide +kernel
theorem dX5_refutation_57 : decode cX5_refutation 57 = .ok (.getfield 12, 3) := by decide +kernel
theorem dX5_refutation_60 : decode cX5_refutation 60 = .ok (.iload_n 1, 1) := by decide +kernel
theorem dX5_refutation_61 : decode cX5_refutation 61 = .ok (.iload_n 2, 1) := by decide +kernel
theorem dX5_refutation_62 : decode cX5_refutation 62 = .ok (.invokevirtual 152, 3) := by decide +kernel
theorem dX5_refutation_65 : decode cX5_refutation 65 = .ok (.invokestatic 142, 3) := by decide +kernel
theorem dX5_refutation_68 : decode cX5_refutation 68 = .ok (.invokestatic 155, 3) := by decide +kernel
theorem dX5_refutation_71 : decode cX5_refutation 71 = .ok (.ireturn, 1) := by decide +kernel
theorem dX5_many_0 : decode cX5_many 0 = .ok (.iload_n 1, 1) := by decide +kernel
theorem dX5_many_1 : decode cX5_many 1 = .ok (.ifCond .lt 8, 3) := by decide +kernel
theorem dX5_many_4 : decode cX5_many 4 = .ok (.iload_n 1, 1) := by decide +kernel
theorem dX5_many_5 : decode cX5_many 5 = .ok (.iconst 4, 1) := by decide +kernel
theorem dX5_many_6 : decode cX5_many 6 = .ok (.if_icmp .lt 6, 3) := by decide +kernel
theorem dX5_many_9 : decode cX5_many 9 = .ok (.bipush (-2), 2) := by decide +kernel
theorem dX5_many_11 : decode cX5_many 11 = .ok (.ireturn, 1) := by decide +kernel
theorem dX5_many_12 : decode cX5_many 12 = .ok (.aload_n 0, 1) := by decide +kernel
theorem dX5_many_13 : decode cX5_many 13 = .ok (.getfield 12, 3) := by decide +kernel
theorem dX5_many_16 : decode cX5_many 16 = .ok (.invokevirtual 117, 3) := by decide +kernel
theorem dX5_many_19 : decode cX5_many 19 = .ok (.ifCond .ne 6, 3) := by decide +kernel
theorem dX5_many_22 : decode cX5_many 22 = .ok (.bipush (-4), 2) := by decide +kernel
theorem dX5_many_24 : decode cX5_many 24 = .ok (.ireturn, 1) := by decide +kernel
theorem dX5_many_25 : decode cX5_many 25 = .ok (.aload_n 0, 1) := by decide +kernel
theorem dX5_many_26 : decode cX5_many 26 = .ok (.invokevirtual 158, 3) := by decide +kernel
theorem dX5_many_29 : decode cX5_many 29 = .ok (.aload_n 0, 1) := by decide +kernel
theorem dX5_many_30 : decode cX5_many 30 = .ok (.getfield 42, 3) := by decide +kernel
theorem dX5_many_33 : decode cX5_many 33 = .ok (.iload_n 1, 1) := by decide +kernel
theorem dX5_many_34 : decode cX5_many 34 = .ok (.iaload, 1) := by decide +kernel
theorem dX5_many_35 : decode cX5_many 35 = .ok (.ireturn, 1) := by decide +kernel
theorem dX5_duals_0 : decode cX5_duals 0 = .ok (.aload_n 0, 1) := by decide +kernel
theorem dX5_duals_1 : decode cX5_duals 1 = .ok (.getfield 12, 3) := by decide +kernel
theorem dX5_duals_4 : decode cX5_duals 4 = .ok (.invokevirtual 117, 3) := by decide +kernel
theorem dX5_duals_7 : decode cX5_duals 7 = .ok (.ifCond .ne 6, 3) := by decide +kernel
theorem dX5_duals_10 : decode cX5_duals 10 = .ok (.bipush (-4), 2) := by decide +kernel
theorem dX5_duals_12 : decode cX5_duals 12 = .ok (.ireturn, 1) := by decide +kernel
theorem dX5_duals_13 : decode cX5_duals 13 = .ok (.aload_n 0, 1) := by decide +kernel
theorem dX5_duals_14 : decode cX5_duals 14 = .ok (.getfield 39, 3) := by decide +kernel
theorem dX5_duals_17 : decode cX5_duals 17 = .ok (.aload_n 0, 1) := by decide +kernel
theorem dX5_duals_18 : decode cX5_duals 18 = .ok (.getfield 12, 3) := by decide +kernel
theorem dX5_duals_21 : decode cX5_duals 21 = .ok (.invokevirtual 124, 3) := by decide +kernel
theorem dX5_duals_24 : decode cX5_duals 24 = .ok (.aload_n 0, 1) := by decide +kernel
theorem dX5_duals_25 : decode cX5_duals 25 = .ok (.getfield 39, 3) := by decide +kernel
theorem dX5_duals_28 : decode cX5_duals 28 = .ok (.invokevirtual 161, 3) := by decide +kernel
theorem dX5_duals_31 : decode cX5_duals 31 = .ok (.istore_n 1, 1) := by decide +kernel
theorem dX5_duals_32 : decode cX5_duals 32 = .ok (.iload_n 1, 1) := by decide +kernel
theorem dX5_duals_33 : decode cX5_duals 33 = .ok (.ifCond .le 9, 3) := by decide +kernel
theorem dX5_duals_36 : decode cX5_duals 36 = .ok (.iload_n 1, 1) := by decide +kernel
theorem dX5_duals_37 : decode cX5_duals 37 = .ok (.iconst 1, 1) := by decide +kernel
theorem dX5_duals_38 : decode cX5_duals 38 = .ok (.isub, 1) := by decide +kernel
theorem dX5_duals_39 : decode cX5_duals 39 = .ok (.goto 4, 3) := by decide +kernel
theorem dX5_duals_42 : decode cX5_duals 42 = .ok (.iconst 0, 1) := by decide +kernel
theorem dX5_duals_43 : decode cX5_duals 43 = .ok (.ireturn, 1) := by decide +kernel
theorem dX5_would_0 : decode cX5_would 0 = .ok (.iload_n 2, 1) := by decide +kernel
theorem dX5_would_1 : decode cX5_would 1 = .ok (.invokestatic 95, 3) := by decide +kernel
theorem dX5_would_4 : decode cX5_would 4 = .ok (.ifCond .eq 17, 3) := by decide +kernel
theorem dX5_would_7 : decode cX5_would 7 = .ok (.aload_n 0, 1) := by decide +kernel
theorem dX5_would_8 : decode cX5_would 8 = .ok (.getfield 12, 3) := by decide +kernel
theorem dX5_would_11 : decode cX5_would 11 = .ok (.iload_n 2, 1) := by decide +kernel
theorem dX5_would_12 : decode cX5_would 12 = .ok (.invokevirtual 99, 3) := by decide +kernel
theorem dX5_would_15 : decode cX5_would 15 = .ok (.invokestatic 164, 3) := by decide +kernel
theorem dX5_would_18 : decode cX5_would 18 = .ok (.ifCond .eq 5, 3) := by decide +kernel
theorem dX5_would_21 : decode cX5_would 21 = .ok (.iconst (-1), 1) := by decide +kernel
theorem dX5_would_22 : decode cX5_would 22 = .ok (.ireturn, 1) := by decide +kernel
theorem dX5_would_23 : decode cX5_would 23 = .ok (.iload_n 1, 1) := by decide +kernel
theorem dX5_would_24 : decode cX5_would 24 = .ok (.ifCond .lt 9, 3) := by decide +kernel
theorem dX5_would_27 : decode cX5_would 27 = .ok (.iload_n 1, 1) := by decide +kernel
theorem dX5_would_28 : decode cX5_would 28 = .ok (.bipush 6, 2) := by decide +kernel
theorem dX5_would_30 : decode cX5_would 30 = .ok (.if_icmp .le 6, 3) := by decide +kernel
theorem dX5_would_33 : decode cX5_would 33 = .ok (.bipush (-2), 2) := by decide +kernel
theorem dX5_would_35 : decode cX5_would 35 = .ok (.ireturn, 1) := by decide +kernel
theorem dX5_would_36 : decode cX5_would 36 = .ok (.iload_n 1, 1) := by decide +kernel
theorem dX5_would_37 : decode cX5_would 37 = .ok (.iconst 1, 1) := by decide +kernel
theorem dX5_would_38 : decode cX5_would 38 = .ok (.if_icmp .ne 17, 3) := by decide +kernel
theorem dX5_would_41 : decode cX5_would 41 = .ok (.aload_n 0, 1) := by decide +kernel
theorem dX5_would_42 : decode cX5_would 42 = .ok (.getfield 12, 3) := by decide +kernel
theorem dX5_would_45 : decode cX5_would 45 = .ok (.iconst 1, 1) := by decide +kernel
theorem dX5_would_46 : decode cX5_would 46 = .ok (.invokevirtual 136, 3) := by decide +kernel
theorem dX5_would_49 : decode cX5_would 49 = .ok (.ifCond .lt 6, 3) := by decide +kernel
theorem dX5_would_52 : decode cX5_would 52 = .ok (.bipush (-2), 2) := by decide +kernel
theorem dX5_would_54 : decode cX5_would 54 = .ok (.ireturn, 1) := by decide +kernel
theorem dX5_would_55 : decode cX5_would 55 = .ok (.aload_n 0, 1) := by decide +kernel
theorem dX5_would_56 : decode cX5_would 56 = .ok (.getfield 19, 3) := by decide +kernel
theorem dX5_would_59 : decode cX5_would 59 = .ok (.aload_n 0, 1) := by decide +kernel
theorem dX5_would_60 : decode cX5_would 60 = .ok (.getfield 12, 3) := by decide +kernel
theorem dX5_would_63 : decode cX5_would 63 = .ok (.invokevirtual 67, 3) := by decide +kernel
theorem dX5_would_66 : decode cX5_would 66 = .ok (.aload_n 0, 1) := by decide +kernel
theorem dX5_would_67 : decode cX5_would 67 = .ok (.getfield 19, 3) := by decide +kernel
theorem dX5_would_70 : decode cX5_would 70 = .ok (.iload_n 2, 1) := by decide +kernel
theorem dX5_would_71 : decode cX5_would 71 = .ok (.iload_n 1, 1) := by decide +kernel
theorem dX5_would_72 : decode cX5_would 72 = .ok (.invokevirtual 167, 3) := by decide +kernel
theorem dX5_would_75 : decode cX5_would 75 = .ok (.aload_n 0, 1) := by decide +kernel
theorem dX5_would_76 : decode cX5_would 76 = .ok (.getfield 19, 3) := by decide +kernel
theorem dX5_would_79 : decode cX5_would 79 = .ok (.invokevirtual 117, 3) := by decide +kernel
theorem dX5_would_82 : decode cX5_would 82 = .ok (.ifCond .ne 6, 3) := by decide +kernel
theorem dX5_would_85 : decode cX5_would 85 = .ok (.bipush (-4), 2) := by decide +kernel
theorem dX5_would_87 : decode cX5_would 87 = .ok (.ireturn, 1) := by decide +kernel
theorem dX5_would_88 : decode cX5_would 88 = .ok (.aload_n 0, 1) := by decide +kernel
theorem dX5_would_89 : decode cX5_would 89 = .ok (.getfield 39, 3) := by decide +kernel
theorem dX5_would_92 : decode cX5_would 92 = .ok (.aload_n 0, 1) := by decide +kernel
theorem dX5_would_93 : decode cX5_would 93 = .ok (.getfield 19, 3) := by decide +kernel
theorem dX5_would_96 : decode cX5_would 96 = .ok (.invokevirtual 124, 3) := by decide +kernel
theorem dX5_would_99 : decode cX5_would 99 = .ok (.aload_n 0, 1) := by decide +kernel
theorem dX5_would_100 : decode cX5_would 100 = .ok (.getfield 39, 3) := by decide +kernel
theorem dX5_would_103 : decode cX5_would 103 = .ok (.invokevirtual 161, 3) := by decide +kernel
theorem dX5_would_106 : decode cX5_would 106 = .ok (.ireturn, 1) := by decide +kernel
theorem dX5_ranked_0 : decode cX5_ranked 0 = .ok (.iconst 0, 1) := by decide +kernel
theorem dX5_ranked_1 : decode cX5_ranked 1 = .ok (.istore_n 2, 1) := by decide +kernel
theorem dX5_ranked_2 : decode cX5_ranked 2 = .ok (.iload_n 2, 1) := by decide +kernel
theorem dX5_ranked_3 : decode cX5_ranked 3 = .ok (.bipush 25, 2) := by decide +kernel
theorem dX5_ranked_5 : decode cX5_ranked 5 = .ok (.if_icmp .ge 26, 3) := by decide +kernel
theorem dX5_ranked_8 : decode cX5_ranked 8 = .ok (.aload_n 0, 1) := by decide +kernel
theorem dX5_ranked_9 : decode cX5_ranked 9 = .ok (.getfield 46, 3) := by decide +kernel
theorem dX5_ranked_12 : decode cX5_ranked 12 = .ok (.iload_n 2, 1) := by decide +kernel
theorem dX5_ranked_13 : decode cX5_ranked 13 = .ok (.aload_n 0, 1) := by decide +kernel
theorem dX5_ranked_14 : decode cX5_ranked 14 = .ok (.getfield 12, 3) := by decide +kernel
theorem dX5_ranked_17 : decode cX5_ranked 17 = .ok (.iload_n 2, 1) := by decide +kernel
theorem dX5_ranked_18 : decode cX5_ranked 18 = .ok (.invokevirtual 114, 3) := by decide +kernel
theorem dX5_ranked_21 : decode cX5_ranked 21 = .ok (.invokestatic 111, 3) := by decide +kernel
theorem dX5_ranked_24 : decode cX5_ranked 24 = .ok (.iastore, 1) := by decide +kernel
theorem dX5_ranked_25 : decode cX5_ranked 25 = .ok (.iinc 2 1, 3) := by decide +kernel
theorem dX5_ranked_28 : decode cX5_ranked 28 = .ok (.goto (-26), 3) := by decide +kernel
theorem dX5_ranked_31 : decode cX5_ranked 31 = .ok (.iconst 0, 1) := by decide +kernel
theorem dX5_ranked_32 : decode cX5_ranked 32 = .ok (.istore_n 2, 1) := by decide +kernel
theorem dX5_ranked_33 : decode cX5_ranked 33 = .ok (.iload_n 2, 1) := by decide +kernel
theorem dX5_ranked_34 : decode cX5_ranked 34 = .ok (.bipush 25, 2) := by decide +kernel
theorem dX5_ranked_36 : decode cX5_ranked 36 = .ok (.if_icmp .ge 34, 3) := by decide +kernel
theorem dX5_ranked_39 : decode cX5_ranked 39 = .ok (.aload_n 0, 1) := by decide +kernel
theorem dX5_ranked_40 : decode cX5_ranked 40 = .ok (.getfield 12, 3) := by decide +kernel
theorem dX5_ranked_43 : decode cX5_ranked 43 = .ok (.iload_n 2, 1) := by decide +kernel
theorem dX5_ranked_44 : decode cX5_ranked 44 = .ok (.invokevirtual 99, 3) := by decide +kernel
theorem dX5_ranked_47 : decode cX5_ranked 47 = .ok (.invokestatic 171, 3) := by decide +kernel
theorem dX5_ranked_50 : decode cX5_ranked 50 = .ok (.ifCond .eq 14, 3) := by decide +kernel
theorem dX5_ranked_53 : decode cX5_ranked 53 = .ok (.aload_n 0, 1) := by decide +kernel
theorem dX5_ranked_54 : decode cX5_ranked 54 = .ok (.iload_n 2, 1) := by decide +kernel
theorem dX5_ranked_55 : decode cX5_ranked 55 = .ok (.invokevirtual 174, 3) := by decide +kernel
theorem dX5_ranked_58 : decode cX5_ranked 58 = .ok (.iload_n 1, 1) := by decide +kernel
theorem dX5_ranked_59 : decode cX5_ranked 59 = .ok (.if_icmp .ne 5, 3) := by decide +kernel
theorem dX5_ranked_62 : decode cX5_ranked 62 = .ok (.iload_n 2, 1) := by decide +kernel
theorem dX5_ranked_63 : decode cX5_ranked 63 = .ok (.ireturn, 1) := by decide +kernel
theorem dX5_ranked_64 : decode cX5_ranked 64 = .ok (.iinc 2 1, 3) := by decide +kernel
theorem dX5_ranked_67 : decode cX5_ranked 67 = .ok (.goto (-34), 3) := by decide +kernel
theorem dX5_ranked_70 : decode cX5_ranked 70 = .ok (.iconst (-1), 1) := by decide +kernel
theorem dX5_ranked_71 : decode cX5_ranked 71 = .ok (.ireturn, 1) := by decide +kernel
theorem dX5_show_0 : decode cX5_show 0 = .ok (.aload_n 0, 1) := by decide +kernel
theorem dX5_show_1 : decode cX5_show 1 = .ok (.getfield 52, 3) := by decide +kernel
theorem dX5_show_4 : decode cX5_show 4 = .ok (.invokevirtual 177, 3) := by decide +kernel
theorem dX5_show_7 : decode cX5_show 7 = .ok (.iconst 4, 1) := by decide +kernel
theorem dX5_show_8 : decode cX5_show 8 = .ok (.istore_n 1, 1) := by decide +kernel
theorem dX5_show_9 : decode cX5_show 9 = .ok (.iload_n 1, 1) := by decide +kernel
theorem dX5_show_10 : decode cX5_show 10 = .ok (.ifCond .lt 54, 3) := by decide +kernel
theorem dX5_show_13 : decode cX5_show 13 = .ok (.iconst 0, 1) := by decide +kernel
theorem dX5_show_14 : decode cX5_show 14 = .ok (.istore_n 2, 1) := by decide +kernel
theorem dX5_show_15 : decode cX5_show 15 = .ok (.iload_n 2, 1) := by decide +kernel
theorem dX5_show_16 : decode cX5_show 16 = .ok (.iconst 5, 1) := by decide +kernel
theorem dX5_show_17 : decode cX5_show 17 = .ok (.if_icmp .ge 28, 3) := by decide +kernel
theorem dX5_show_20 : decode cX5_show 20 = .ok (.aload_n 0, 1) := by decide +kernel
theorem dX5_show_21 : decode cX5_show 21 = .ok (.getfield 52, 3) := by decide +kernel
theorem dX5_show_24 : decode cX5_show 24 = .ok (.aload_n 0, 1) := by decide +kernel
theorem dX5_show_25 : decode cX5_show 25 = .ok (.getfield 12, 3) := by decide +kernel
theorem dX5_show_28 : decode cX5_show 28 = .ok (.iload_n 1, 1) := by decide +kernel
theorem dX5_show_29 : decode cX5_show 29 = .ok (.iconst 5, 1) := by decide +kernel
theorem dX5_show_30 : decode cX5_show 30 = .ok (.imul, 1) := by decide +kernel
theorem dX5_show_31 : decode cX5_show 31 = .ok (.iload_n 2, 1) := by decide +kernel
theorem dX5_show_32 : decode cX5_show 32 = .ok (.iadd, 1) := by decide +kernel
theorem dX5_show_33 : decode cX5_show 33 = .ok (.invokevirtual 99, 3) := by decide +kernel
theorem dX5_show_36 : decode cX5_show 36 = .ok (.invokevirtual 180, 3) := by decide +kernel
theorem dX5_show_39 : decode cX5_show 39 = .ok (.iinc 2 1, 3) := by decide +kernel
theorem dX5_show_42 : decode cX5_show 42 = .ok (.goto (-27), 3) := by decide +kernel
theorem dX5_show_45 : decode cX5_show 45 = .ok (.iload_n 1, 1) := by decide +kernel
theorem dX5_show_46 : decode cX5_show 46 = .ok (.ifCond .le 12, 3) := by decide +kernel
theorem dX5_show_49 : decode cX5_show 49 = .ok (.aload_n 0, 1) := by decide +kernel
theorem dX5_show_50 : decode cX5_show 50 = .ok (.getfield 52, 3) := by decide +kernel
theorem dX5_show_53 : decode cX5_show 53 = .ok (.bipush 47, 2) := by decide +kernel
theorem dX5_show_55 : decode cX5_show 55 = .ok (.invokevirtual 184, 3) := by decide +kernel
theorem dX5_show_58 : decode cX5_show 58 = .ok (.iinc 1 (-1), 3) := by decide +kernel
theorem dX5_show_61 : decode cX5_show 61 = .ok (.goto (-52), 3) := by decide +kernel
theorem dX5_show_64 : decode cX5_show 64 = .ok (.aload_n 0, 1) := by decide +kernel
theorem dX5_show_65 : decode cX5_show 65 = .ok (.getfield 52, 3) := by decide +kernel
theorem dX5_show_68 : decode cX5_show 68 = .ok (.getfield 187, 3) := by decide +kernel
theorem dX5_show_71 : decode cX5_show 71 = .ok (.ireturn, 1) := by decide +kernel
theorem dX5_tell_0 : decode cX5_tell 0 = .ok (.aload_n 0, 1) := by decide +kernel
theorem dX5_tell_1 : decode cX5_tell 1 = .ok (.getfield 12, 3) := by decide +kernel
theorem dX5_tell_4 : decode cX5_tell 4 = .ok (.iload_n 1, 1) := by decide +kernel
theorem dX5_tell_5 : decode cX5_tell 5 = .ok (.iload_n 2, 1) := by decide +kernel
theorem dX5_tell_6 : decode cX5_tell 6 = .ok (.invokevirtual 145, 3) := by decide +kernel
theorem dX5_tell_9 : decode cX5_tell 9 = .ok (.ifCond .ne 5, 3) := by decide +kernel
theorem dX5_tell_12 : decode cX5_tell 12 = .ok (.iconst (-1), 1) := by decide +kernel
theorem dX5_tell_13 : decode cX5_tell 13 = .ok (.ireturn, 1) := by decide +kernel
theorem dX5_tell_14 : decode cX5_tell 14 = .ok (.aload_n 0, 1) := by decide +kernel
theorem dX5_tell_15 : decode cX5_tell 15 = .ok (.getfield 12, 3) := by decide +kernel
theorem dX5_tell_18 : decode cX5_tell 18 = .ok (.invokevirtual 117, 3) := by decide +kernel
theorem dX5_tell_21 : decode cX5_tell 21 = .ok (.ifCond .ne 6, 3) := by decide +kernel
theorem dX5_tell_24 : decode cX5_tell 24 = .ok (.bipush (-4), 2) := by decide +kernel
theorem dX5_tell_26 : decode cX5_tell 26 = .ok (.ireturn, 1) := by decide +kernel
theorem dX5_tell_27 : decode cX5_tell 27 = .ok (.aload_n 0, 1) := by decide +kernel
theorem dX5_tell_28 : decode cX5_tell 28 = .ok (.getfield 52, 3) := by decide +kernel
theorem dX5_tell_31 : decode cX5_tell 31 = .ok (.invokevirtual 177, 3) := by decide +kernel
theorem dX5_tell_34 : decode cX5_tell 34 = .ok (.aload_n 0, 1) := by decide +kernel
theorem dX5_tell_35 : decode cX5_tell 35 = .ok (.getfield 52, 3) := by decide +kernel
theorem dX5_tell_38 : decode cX5_tell 38 = .ok (.aload_n 0, 1) := by decide +kernel
theorem dX5_tell_39 : decode cX5_tell 39 = .ok (.getfield 12, 3) := by decide +kernel
theorem dX5_tell_42 : decode cX5_tell 42 = .ok (.iload_n 1, 1) := by decide +kernel
theorem dX5_tell_43 : decode cX5_tell 43 = .ok (.invokevirtual 99, 3) := by decide +kernel
theorem dX5_tell_46 : decode cX5_tell 46 = .ok (.invokevirtual 180, 3) := by decide +kernel
theorem dX5_tell_49 : decode cX5_tell 49 = .ok (.aload_n 0, 1) := by decide +kernel
theorem dX5_tell_50 : decode cX5_tell 50 = .ok (.getfield 52, 3) := by decide +kernel
theorem dX5_tell_53 : decode cX5_tell 53 = .ok (.iload_n 1, 1) := by decide +kernel
theorem dX5_tell_54 : decode cX5_tell 54 = .ok (.invokevirtual 190, 3) := by decide +kernel
theorem dX5_tell_57 : decode cX5_tell 57 = .ok (.aload_n 0, 1) := by decide +kernel
theorem dX5_tell_58 : decode cX5_tell 58 = .ok (.getfield 52, 3) := by decide +kernel
theorem dX5_tell_61 : decode cX5_tell 61 = .ok (.aload_n 0, 1) := by decide +kernel
theorem dX5_tell_62 : decode cX5_tell 62 = .ok (.getfield 12, 3) := by decide +kernel
theorem dX5_tell_65 : decode cX5_tell 65 = .ok (.iload_n 2, 1) := by decide +kernel
theorem dX5_tell_66 : decode cX5_tell 66 = .ok (.invokevirtual 99, 3) := by decide +kernel
theorem dX5_tell_69 : decode cX5_tell 69 = .ok (.bipush 6, 2) := by decide +kernel
theorem dX5_tell_71 : decode cX5_tell 71 = .ok (.if_icmp .ne 8, 3) := by decide +kernel
theorem dX5_tell_74 : decode cX5_tell 74 = .ok (.bipush 120, 2) := by decide +kernel
theorem dX5_tell_76 : decode cX5_tell 76 = .ok (.goto 5, 3) := by decide +kernel
theorem dX5_tell_79 : decode cX5_tell 79 = .ok (.bipush 45, 2) := by decide +kernel
theorem dX5_tell_81 : decode cX5_tell 81 = .ok (.invokevirtual 184, 3) := by decide +kernel
theorem dX5_tell_84 : decode cX5_tell 84 = .ok (.aload_n 0, 1) := by decide +kernel
theorem dX5_tell_85 : decode cX5_tell 85 = .ok (.getfield 52, 3) := by decide +kernel
theorem dX5_tell_88 : decode cX5_tell 88 = .ok (.iload_n 2, 1) := by decide +kernel
theorem dX5_tell_89 : decode cX5_tell 89 = .ok (.invokevirtual 190, 3) := by decide +kernel
theorem dX5_tell_92 : decode cX5_tell 92 = .ok (.aload_n 0, 1) := by decide +kernel
theorem dX5_tell_93 : decode cX5_tell 93 = .ok (.getfield 52, 3) := by decide +kernel
theorem dX5_tell_96 : decode cX5_tell 96 = .ok (.aload_n 0, 1) := by decide +kernel
theorem dX5_tell_97 : decode cX5_tell 97 = .ok (.getfield 12, 3) := by decide +kernel
theorem dX5_tell_100 : decode cX5_tell 100 = .ok (.iload_n 1, 1) := by decide +kernel
theorem dX5_tell_101 : decode cX5_tell 101 = .ok (.iload_n 2, 1) := by decide +kernel
theorem dX5_tell_102 : decode cX5_tell 102 = .ok (.invokevirtual 149, 3) := by decide +kernel
theorem dX5_tell_105 : decode cX5_tell 105 = .ok (.invokevirtual 193, 3) := by decide +kernel
theorem dX5_tell_108 : decode cX5_tell 108 = .ok (.aload_n 0, 1) := by decide +kernel
theorem dX5_tell_109 : decode cX5_tell 109 = .ok (.getfield 52, 3) := by decide +kernel
theorem dX5_tell_112 : decode cX5_tell 112 = .ok (.getfield 187, 3) := by decide +kernel
theorem dX5_tell_115 : decode cX5_tell 115 = .ok (.ireturn, 1) := by decide +kernel
theorem dX5_sign_0 : decode cX5_sign 0 = .ok (.aload_n 0, 1) := by decide +kernel
theorem dX5_sign_1 : decode cX5_sign 1 = .ok (.getfield 52, 3) := by decide +kernel
theorem dX5_sign_4 : decode cX5_sign 4 = .ok (.iload_n 1, 1) := by decide +kernel
theorem dX5_sign_5 : decode cX5_sign 5 = .ok (.invokevirtual 196, 3) := by decide +kernel
theorem dX5_sign_8 : decode cX5_sign 8 = .ok (.ireturn, 1) := by decide +kernel
theorem dX5_append_0 : decode cX5_append 0 = .ok (.aload_n 0, 1) := by decide +kernel
theorem dX5_append_1 : decode cX5_append 1 = .ok (.getfield 59, 3) := by decide +kernel
theorem dX5_append_4 : decode cX5_append 4 = .ok (.iload_n 1, 1) := by decide +kernel
theorem dX5_append_5 : decode cX5_append 5 = .ok (.invokevirtual 199, 3) := by decide +kernel
theorem dX5_append_8 : decode cX5_append 8 = .ok (.ireturn, 1) := by decide +kernel
theorem dX5_read_0 : decode cX5_read 0 = .ok (.aload_n 0, 1) := by decide +kernel
theorem dX5_read_1 : decode cX5_read 1 = .ok (.getfield 59, 3) := by decide +kernel
theorem dX5_read_4 : decode cX5_read 4 = .ok (.invokevirtual 202, 3) := by decide +kernel
theorem dX5_read_7 : decode cX5_read 7 = .ok (.istore_n 1, 1) := by decide +kernel
theorem dX5_read_8 : decode cX5_read 8 = .ok (.aload_n 0, 1) := by decide +kernel
theorem dX5_read_9 : decode cX5_read 9 = .ok (.getfield 59, 3) := by decide +kernel
theorem dX5_read_12 : decode cX5_read 12 = .ok (.invokevirtual 205, 3) := by decide +kernel
theorem dX5_read_15 : decode cX5_read 15 = .ok (.iload_n 1, 1) := by decide +kernel
theorem dX5_read_16 : decode cX5_read 16 = .ok (.ifCond .lt 8, 3) := by decide +kernel
theorem dX5_read_19 : decode cX5_read 19 = .ok (.bipush (-100), 2) := by decide +kernel
theorem dX5_read_21 : decode cX5_read 21 = .ok (.iload_n 1, 1) := by decide +kernel
theorem dX5_read_22 : decode cX5_read 22 = .ok (.isub, 1) := by decide +kernel
theorem dX5_read_23 : decode cX5_read 23 = .ok (.ireturn, 1) := by decide +kernel
theorem dX5_read_24 : decode cX5_read 24 = .ok (.aload_n 0, 1) := by decide +kernel
theorem dX5_read_25 : decode cX5_read 25 = .ok (.getfield 16, 3) := by decide +kernel
theorem dX5_read_28 : decode cX5_read 28 = .ok (.aload_n 0, 1) := by decide +kernel
theorem dX5_read_29 : decode cX5_read 29 = .ok (.getfield 12, 3) := by decide +kernel
theorem dX5_read_32 : decode cX5_read 32 = .ok (.invokevirtual 67, 3) := by decide +kernel
theorem dX5_read_35 : decode cX5_read 35 = .ok (.iconst 0, 1) := by decide +kernel
theorem dX5_read_36 : decode cX5_read 36 = .ok (.istore_n 2, 1) := by decide +kernel
theorem dX5_read_37 : decode cX5_read 37 = .ok (.aload_n 0, 1) := by decide +kernel
theorem dX5_read_38 : decode cX5_read 38 = .ok (.getfield 59, 3) := by decide +kernel
theorem dX5_read_41 : decode cX5_read 41 = .ok (.getfield 206, 3) := by decide +kernel
theorem dX5_read_44 : decode cX5_read 44 = .ok (.istore_n 3, 1) := by decide +kernel
theorem dX5_read_45 : decode cX5_read 45 = .ok (.iconst 0, 1) := by decide +kernel
theorem dX5_read_46 : decode cX5_read 46 = .ok (.istore 4, 2) := by decide +kernel
theorem dX5_read_48 : decode cX5_read 48 = .ok (.iload 4, 2) := by decide +kernel
theorem dX5_read_50 : decode cX5_read 50 = .ok (.iload_n 3, 1) := by decide +kernel
theorem dX5_read_51 : decode cX5_read 51 = .ok (.if_icmp .ge 138, 3) := by decide +kernel
theorem dX5_read_54 : decode cX5_read 54 = .ok (.iload_n 2, 1) := by decide +kernel
theorem dX5_read_55 : decode cX5_read 55 = .ok (.ifCond .lt 134, 3) := by decide +kernel
theorem dX5_read_58 : decode cX5_read 58 = .ok (.aload_n 0, 1) := by decide +kernel
theorem dX5_read_59 : decode cX5_read 59 = .ok (.iload 4, 2) := by decide +kernel
theorem dX5_read_61 : decode cX5_read 61 = .ok (.putfield 63, 3) := by decide +kernel
theorem dX5_read_64 : decode cX5_read 64 = .ok (.aload_n 0, 1) := by decide +kernel
theorem dX5_read_65 : decode cX5_read 65 = .ok (.getfield 59, 3) := by decide +kernel
theorem dX5_read_68 : decode cX5_read 68 = .ok (.iload 4, 2) := by decide +kernel
theorem dX5_read_70 : decode cX5_read 70 = .ok (.invokevirtual 209, 3) := by decide +kernel
theorem dX5_read_73 : decode cX5_read 73 = .ok (.istore 5, 2) := by decide +kernel
theorem dX5_read_75 : decode cX5_read 75 = .ok (.aload_n 0, 1) := by decide +kernel
theorem dX5_read_76 : decode cX5_read 76 = .ok (.getfield 59, 3) := by decide +kernel
theorem dX5_read_79 : decode cX5_read 79 = .ok (.iload 4, 2) := by decide +kernel
theorem dX5_read_81 : decode cX5_read 81 = .ok (.invokevirtual 212, 3) := by decide +kernel
theorem dX5_read_84 : decode cX5_read 84 = .ok (.istore 6, 2) := by decide +kernel
theorem dX5_read_86 : decode cX5_read 86 = .ok (.iload 5, 2) := by decide +kernel
theorem dX5_read_88 : decode cX5_read 88 = .ok (.bipush 8, 2) := by decide +kernel
theorem dX5_read_90 : decode cX5_read 90 = .ok (.if_icmp .ne 13, 3) := by decide +kernel
theorem dX5_read_93 : decode cX5_read 93 = .ok (.aload_n 0, 1) := by decide +kernel
theorem dX5_read_94 : decode cX5_read 94 = .ok (.iload 6, 2) := by decide +kernel
theorem dX5_read_96 : decode cX5_read 96 = .ok (.invokevirtual 79, 3) := by decide +kernel
theorem dX5_read_99 : decode cX5_read 99 = .ok (.istore_n 2, 1) := by decide +kernel
theorem dX5_read_100 : decode cX5_read 100 = .ok (.goto 83, 3) := by decide +kernel
theorem dX5_read_103 : decode cX5_read 103 = .ok (.iload 5, 2) := by decide +kernel
theorem dX5_read_105 : decode cX5_read 105 = .ok (.bipush 9, 2) := by decide +kernel
theorem dX5_read_107 : decode cX5_read 107 = .ok (.if_icmp .ne 22, 3) := by decide +kernel
theorem dX5_read_110 : decode cX5_read 110 = .ok (.aload_n 0, 1) := by decide +kernel
theorem dX5_read_111 : decode cX5_read 111 = .ok (.aload_n 0, 1) := by decide +kernel
theorem dX5_read_112 : decode cX5_read 112 = .ok (.getfield 59, 3) := by decide +kernel
theorem dX5_read_115 : decode cX5_read 115 = .ok (.iload 4, 2) := by decide +kernel
theorem dX5_read_117 : decode cX5_read 117 = .ok (.invokevirtual 213, 3) := by decide +kernel
theorem dX5_read_120 : decode cX5_read 120 = .ok (.iload 6, 2) := by decide +kernel
theorem dX5_read_122 : decode cX5_read 122 = .ok (.invokevirtual 82, 3) := by decide +kernel
theorem dX5_read_125 : decode cX5_read 125 = .ok (.istore_n 2, 1) := by decide +kernel
theorem dX5_read_126 : decode cX5_read 126 = .ok (.goto 57, 3) := by decide +kernel
theorem dX5_read_129 : decode cX5_read 129 = .ok (.iload 5, 2) := by decide +kernel
theorem dX5_read_131 : decode cX5_read 131 = .ok (.bipush 10, 2) := by decide +kernel
theorem dX5_read_133 : decode cX5_read 133 = .ok (.if_icmp .ne 11, 3) := by decide +kernel
theorem dX5_read_136 : decode cX5_read 136 = .ok (.aload_n 0, 1) := by decide +kernel
theorem dX5_read_137 : decode cX5_read 137 = .ok (.invokevirtual 85, 3) := by decide +kernel
theorem dX5_read_140 : decode cX5_read 140 = .ok (.istore_n 2, 1) := by decide +kernel
theorem dX5_read_141 : decode cX5_read 141 = .ok (.goto 42, 3) := by decide +kernel
theorem dX5_read_144 : decode cX5_read 144 = .ok (.iload 5, 2) := by decide +kernel
theorem dX5_read_146 : decode cX5_read 146 = .ok (.bipush 11, 2) := by decide +kernel
theorem dX5_read_148 : decode cX5_read 148 = .ok (.if_icmp .ne 11, 3) := by decide +kernel
theorem dX5_read_151 : decode cX5_read 151 = .ok (.aload_n 0, 1) := by decide +kernel
theorem dX5_read_152 : decode cX5_read 152 = .ok (.invokevirtual 89, 3) := by decide +kernel
theorem dX5_read_155 : decode cX5_read 155 = .ok (.istore_n 2, 1) := by decide +kernel
theorem dX5_read_156 : decode cX5_read 156 = .ok (.goto 27, 3) := by decide +kernel
theorem dX5_read_159 : decode cX5_read 159 = .ok (.iload 5, 2) := by decide +kernel
theorem dX5_read_161 : decode cX5_read 161 = .ok (.bipush 12, 2) := by decide +kernel
theorem dX5_read_163 : decode cX5_read 163 = .ok (.if_icmp .ne 11, 3) := by decide +kernel
theorem dX5_read_166 : decode cX5_read 166 = .ok (.aload_n 0, 1) := by decide +kernel
theorem dX5_read_167 : decode cX5_read 167 = .ok (.invokevirtual 92, 3) := by decide +kernel
theorem dX5_read_170 : decode cX5_read 170 = .ok (.istore_n 2, 1) := by decide +kernel
theorem dX5_read_171 : decode cX5_read 171 = .ok (.goto 12, 3) := by decide +kernel
theorem dX5_read_174 : decode cX5_read 174 = .ok (.aload_n 0, 1) := by decide +kernel
theorem dX5_read_175 : decode cX5_read 175 = .ok (.iload 5, 2) := by decide +kernel
theorem dX5_read_177 : decode cX5_read 177 = .ok (.iload 6, 2) := by decide +kernel
theorem dX5_read_179 : decode cX5_read 179 = .ok (.invokevirtual 71, 3) := by decide +kernel
theorem dX5_read_182 : decode cX5_read 182 = .ok (.istore_n 2, 1) := by decide +kernel
theorem dX5_read_183 : decode cX5_read 183 = .ok (.iinc 4 1, 3) := by decide +kernel
theorem dX5_read_186 : decode cX5_read 186 = .ok (.goto (-138), 3) := by decide +kernel
theorem dX5_read_189 : decode cX5_read 189 = .ok (.aload_n 0, 1) := by decide +kernel
theorem dX5_read_190 : decode cX5_read 190 = .ok (.bipush (-4), 2) := by decide +kernel
theorem dX5_read_192 : decode cX5_read 192 = .ok (.putfield 63, 3) := by decide +kernel
theorem dX5_read_195 : decode cX5_read 195 = .ok (.iload_n 2, 1) := by decide +kernel
theorem dX5_read_196 : decode cX5_read 196 = .ok (.ifCond .ge 17, 3) := by decide +kernel
theorem dX5_read_199 : decode cX5_read 199 = .ok (.aload_n 0, 1) := by decide +kernel
theorem dX5_read_200 : decode cX5_read 200 = .ok (.getfield 12, 3) := by decide +kernel
theorem dX5_read_203 : decode cX5_read 203 = .ok (.aload_n 0, 1) := by decide +kernel
theorem dX5_read_204 : decode cX5_read 204 = .ok (.getfield 16, 3) := by decide +kernel
theorem dX5_read_207 : decode cX5_read 207 = .ok (.invokevirtual 67, 3) := by decide +kernel
theorem dX5_read_210 : decode cX5_read 210 = .ok (.bipush (-3), 2) := by decide +kernel
theorem dX5_read_212 : decode cX5_read 212 = .ok (.ireturn, 1) := by decide +kernel
theorem dX5_read_213 : decode cX5_read 213 = .ok (.aload_n 0, 1) := by decide +kernel
theorem dX5_read_214 : decode cX5_read 214 = .ok (.getfield 28, 3) := by decide +kernel
theorem dX5_read_217 : decode cX5_read 217 = .ok (.aload_n 0, 1) := by decide +kernel
theorem dX5_read_218 : decode cX5_read 218 = .ok (.getfield 16, 3) := by decide +kernel
theorem dX5_read_221 : decode cX5_read 221 = .ok (.invokevirtual 216, 3) := by decide +kernel
theorem dX5_read_224 : decode cX5_read 224 = .ok (.iload_n 3, 1) := by decide +kernel
theorem dX5_read_225 : decode cX5_read 225 = .ok (.ireturn, 1) := by decide +kernel
theorem dX5_refusal_0 : decode cX5_refusal 0 = .ok (.iload_n 1, 1) := by decide +kernel
theorem dX5_refusal_1 : decode cX5_refusal 1 = .ok (.ifCond .lt 8, 3) := by decide +kernel
theorem dX5_refusal_4 : decode cX5_refusal 4 = .ok (.iload_n 1, 1) := by decide +kernel
theorem dX5_refusal_5 : decode cX5_refusal 5 = .ok (.iconst 2, 1) := by decide +kernel
theorem dX5_refusal_6 : decode cX5_refusal 6 = .ok (.if_icmp .le 6, 3) := by decide +kernel
theorem dX5_refusal_9 : decode cX5_refusal 9 = .ok (.bipush (-2), 2) := by decide +kernel
theorem dX5_refusal_11 : decode cX5_refusal 11 = .ok (.ireturn, 1) := by decide +kernel
theorem dX5_refusal_12 : decode cX5_refusal 12 = .ok (.aload_n 0, 1) := by decide +kernel
theorem dX5_refusal_13 : decode cX5_refusal 13 = .ok (.getfield 219, 3) := by decide +kernel
theorem dX5_refusal_16 : decode cX5_refusal 16 = .ok (.ifCond .ne 6, 3) := by decide +kernel
theorem dX5_refusal_19 : decode cX5_refusal 19 = .ok (.bipush (-4), 2) := by decide +kernel
theorem dX5_refusal_21 : decode cX5_refusal 21 = .ok (.ireturn, 1) := by decide +kernel
theorem dX5_refusal_22 : decode cX5_refusal 22 = .ok (.iload_n 1, 1) := by decide +kernel
theorem dX5_refusal_23 : decode cX5_refusal 23 = .ok (.ifCond .ne 8, 3) := by decide +kernel
theorem dX5_refusal_26 : decode cX5_refusal 26 = .ok (.aload_n 0, 1) := by decide +kernel
theorem dX5_refusal_27 : decode cX5_refusal 27 = .ok (.getfield 219, 3) := by decide +kernel
theorem dX5_refusal_30 : decode cX5_refusal 30 = .ok (.ireturn, 1) := by decide +kernel
theorem dX5_refusal_31 : decode cX5_refusal 31 = .ok (.iload_n 1, 1) := by decide +kernel
theorem dX5_refusal_32 : decode cX5_refusal 32 = .ok (.iconst 1, 1) := by decide +kernel
theorem dX5_refusal_33 : decode cX5_refusal 33 = .ok (.if_icmp .ne 10, 3) := by decide +kernel
theorem dX5_refusal_36 : decode cX5_refusal 36 = .ok (.aload_n 0, 1) := by decide +kernel
theorem dX5_refusal_37 : decode cX5_refusal 37 = .ok (.getfield 222, 3) := by decide +kernel
theorem dX5_refusal_40 : decode cX5_refusal 40 = .ok (.goto 7, 3) := by decide +kernel
theorem dX5_refusal_43 : decode cX5_refusal 43 = .ok (.aload_n 0, 1) := by decide +kernel
theorem dX5_refusal_44 : decode cX5_refusal 44 = .ok (.getfield 225, 3) := by decide +kernel
theorem dX5_refusal_47 : decode cX5_refusal 47 = .ok (.ireturn, 1) := by decide +kernel
theorem dX5_account_0 : decode cX5_account 0 = .ok (.iload_n 1, 1) := by decide +kernel
theorem dX5_account_1 : decode cX5_account 1 = .ok (.tableswitch 198 0 11 #[63, 71, 81, 93, 120, 139, 150, 158, 166, 174, 182, 190], 63) := by decide +kernel
theorem dX5_account_64 : decode cX5_account 64 = .ok (.aload_n 0, 1) := by decide +kernel
theorem dX5_account_65 : decode cX5_account 65 = .ok (.getfield 12, 3) := by decide +kernel
theorem dX5_account_68 : decode cX5_account 68 = .ok (.invokevirtual 228, 3) := by decide +kernel
theorem dX5_account_71 : decode cX5_account 71 = .ok (.ireturn, 1) := by decide +kernel
theorem dX5_account_72 : decode cX5_account 72 = .ok (.aload_n 0, 1) := by decide +kernel
theorem dX5_account_73 : decode cX5_account 73 = .ok (.getfield 12, 3) := by decide +kernel
theorem dX5_account_76 : decode cX5_account 76 = .ok (.iconst 1, 1) := by decide +kernel
theorem dX5_account_77 : decode cX5_account 77 = .ok (.iconst 5, 1) := by decide +kernel
theorem dX5_account_78 : decode cX5_account 78 = .ok (.invokevirtual 231, 3) := by decide +kernel
theorem dX5_account_81 : decode cX5_account 81 = .ok (.ireturn, 1) := by decide +kernel
theorem dX5_account_82 : decode cX5_account 82 = .ok (.aload_n 0, 1) := by decide +kernel
theorem dX5_account_83 : decode cX5_account 83 = .ok (.getfield 12, 3) := by decide +kernel
theorem dX5_account_86 : decode cX5_account 86 = .ok (.bipush 6, 2) := by decide +kernel
theorem dX5_account_88 : decode cX5_account 88 = .ok (.bipush 6, 2) := by decide +kernel
theorem dX5_account_90 : decode cX5_account 90 = .ok (.invokevirtual 231, 3) := by decide +kernel
theorem dX5_account_93 : decode cX5_account 93 = .ok (.ireturn, 1) := by decide +kernel
theorem dX5_account_94 : decode cX5_account 94 = .ok (.aload_n 0, 1) := by decide +kernel
theorem dX5_account_95 : decode cX5_account 95 = .ok (.getfield 12, 3) := by decide +kernel
theorem dX5_account_98 : decode cX5_account 98 = .ok (.bipush 7, 2) := by decide +kernel
theorem dX5_account_100 : decode cX5_account 100 = .ok (.invokevirtual 136, 3) := by decide +kernel
theorem dX5_account_103 : decode cX5_account 103 = .ok (.ifCond .ge 8, 3) := by decide +kernel
theorem dX5_account_106 : decode cX5_account 106 = .ok (.bipush (-4), 2) := by decide +kernel
theorem dX5_account_108 : decode cX5_account 108 = .ok (.goto 12, 3) := by decide +kernel
theorem dX5_account_111 : decode cX5_account 111 = .ok (.aload_n 0, 1) := by decide +kernel
theorem dX5_account_112 : decode cX5_account 112 = .ok (.getfield 12, 3) := by decide +kernel
theorem dX5_account_115 : decode cX5_account 115 = .ok (.bipush 7, 2) := by decide +kernel
theorem dX5_account_117 : decode cX5_account 117 = .ok (.invokevirtual 136, 3) := by decide +kernel
theorem dX5_account_120 : decode cX5_account 120 = .ok (.ireturn, 1) := by decide +kernel
theorem dX5_account_121 : decode cX5_account 121 = .ok (.aload_n 0, 1) := by decide +kernel
theorem dX5_account_122 : decode cX5_account 122 = .ok (.getfield 35, 3) := by decide +kernel
theorem dX5_account_125 : decode cX5_account 125 = .ok (.aload_n 0, 1) := by decide +kernel
theorem dX5_account_126 : decode cX5_account 126 = .ok (.getfield 12, 3) := by decide +kernel
theorem dX5_account_129 : decode cX5_account 129 = .ok (.invokevirtual 130, 3) := by decide +kernel
theorem dX5_account_132 : decode cX5_account 132 = .ok (.aload_n 0, 1) := by decide +kernel
theorem dX5_account_133 : decode cX5_account 133 = .ok (.getfield 35, 3) := by decide +kernel
theorem dX5_account_136 : decode cX5_account 136 = .ok (.invokevirtual 161, 3) := by decide +kernel
theorem dX5_account_139 : decode cX5_account 139 = .ok (.ireturn, 1) := by decide +kernel
theorem dX5_account_140 : decode cX5_account 140 = .ok (.aload_n 0, 1) := by decide +kernel
theorem dX5_account_141 : decode cX5_account 141 = .ok (.getfield 12, 3) := by decide +kernel
theorem dX5_account_144 : decode cX5_account 144 = .ok (.invokevirtual 234, 3) := by decide +kernel
theorem dX5_account_147 : decode cX5_account 147 = .ok (.invokestatic 111, 3) := by decide +kernel
theorem dX5_account_150 : decode cX5_account 150 = .ok (.ireturn, 1) := by decide +kernel
theorem dX5_account_151 : decode cX5_account 151 = .ok (.aload_n 0, 1) := by decide +kernel
theorem dX5_account_152 : decode cX5_account 152 = .ok (.getfield 12, 3) := by decide +kernel
theorem dX5_account_155 : decode cX5_account 155 = .ok (.getfield 237, 3) := by decide +kernel
theorem dX5_account_158 : decode cX5_account 158 = .ok (.ireturn, 1) := by decide +kernel
theorem dX5_account_159 : decode cX5_account 159 = .ok (.aload_n 0, 1) := by decide +kernel
theorem dX5_account_160 : decode cX5_account 160 = .ok (.getfield 12, 3) := by decide +kernel
theorem dX5_account_163 : decode cX5_account 163 = .ok (.getfield 240, 3) := by decide +kernel
theorem dX5_account_166 : decode cX5_account 166 = .ok (.ireturn, 1) := by decide +kernel
theorem dX5_account_167 : decode cX5_account 167 = .ok (.aload_n 0, 1) := by decide +kernel
theorem dX5_account_168 : decode cX5_account 168 = .ok (.getfield 12, 3) := by decide +kernel
theorem dX5_account_171 : decode cX5_account 171 = .ok (.getfield 243, 3) := by decide +kernel
theorem dX5_account_174 : decode cX5_account 174 = .ok (.ireturn, 1) := by decide +kernel
theorem dX5_account_175 : decode cX5_account 175 = .ok (.aload_n 0, 1) := by decide +kernel
theorem dX5_account_176 : decode cX5_account 176 = .ok (.getfield 12, 3) := by decide +kernel
theorem dX5_account_179 : decode cX5_account 179 = .ok (.getfield 246, 3) := by decide +kernel
theorem dX5_account_182 : decode cX5_account 182 = .ok (.ireturn, 1) := by decide +kernel
theorem dX5_account_183 : decode cX5_account 183 = .ok (.aload_n 0, 1) := by decide +kernel
theorem dX5_account_184 : decode cX5_account 184 = .ok (.getfield 59, 3) := by decide +kernel
theorem dX5_account_187 : decode cX5_account 187 = .ok (.getfield 249, 3) := by decide +kernel
theorem dX5_account_190 : decode cX5_account 190 = .ok (.ireturn, 1) := by decide +kernel
theorem dX5_account_191 : decode cX5_account 191 = .ok (.aload_n 0, 1) := by decide +kernel
theorem dX5_account_192 : decode cX5_account 192 = .ok (.getfield 28, 3) := by decide +kernel
theorem dX5_account_195 : decode cX5_account 195 = .ok (.getfield 250, 3) := by decide +kernel
theorem dX5_account_198 : decode cX5_account 198 = .ok (.ireturn, 1) := by decide +kernel
theorem dX5_account_199 : decode cX5_account 199 = .ok (.bipush (-2), 2) := by decide +kernel
theorem dX5_account_201 : decode cX5_account 201 = .ok (.ireturn, 1) := by decide +kernel
theorem dX5_isWell_0 : decode cX5_isWell 0 = .ok (.iconst 0, 1) := by decide +kernel
theorem dX5_isWell_1 : decode cX5_isWell 1 = .ok (.istore_n 1, 1) := by decide +kernel
theorem dX5_isWell_2 : decode cX5_isWell 2 = .ok (.iload_n 1, 1) := by decide +kernel
theorem dX5_isWell_3 : decode cX5_isWell 3 = .ok (.bipush 25, 2) := by decide +kernel
theorem dX5_isWell_5 : decode cX5_isWell 5 = .ok (.if_icmp .ge 30, 3) := by decide +kernel
theorem dX5_isWell_8 : decode cX5_isWell 8 = .ok (.aload_n 0, 1) := by decide +kernel
theorem dX5_isWell_9 : decode cX5_isWell 9 = .ok (.getfield 12, 3) := by decide +kernel
theorem dX5_isWell_12 : decode cX5_isWell 12 = .ok (.iload_n 1, 1) := by decide +kernel
theorem dX5_isWell_13 : decode cX5_isWell 13 = .ok (.invokevirtual 102, 3) := by decide +kernel
theorem dX5_isWell_16 : decode cX5_isWell 16 = .ok (.aload_n 0, 1) := by decide +kernel
theorem dX5_isWell_17 : decode cX5_isWell 17 = .ok (.getfield 12, 3) := by decide +kernel
theorem dX5_isWell_20 : decode cX5_isWell 20 = .ok (.iload_n 1, 1) := by decide +kernel
theorem dX5_isWell_21 : decode cX5_isWell 21 = .ok (.invokevirtual 105, 3) := by decide +kernel
theorem dX5_isWell_24 : decode cX5_isWell 24 = .ok (.if_icmp .eq 5, 3) := by decide +kernel
theorem dX5_isWell_27 : decode cX5_isWell 27 = .ok (.iconst 0, 1) := by decide +kernel
theorem dX5_isWell_28 : decode cX5_isWell 28 = .ok (.ireturn, 1) := by decide +kernel
theorem dX5_isWell_29 : decode cX5_isWell 29 = .ok (.iinc 1 1, 3) := by decide +kernel
theorem dX5_isWell_32 : decode cX5_isWell 32 = .ok (.goto (-30), 3) := by decide +kernel
theorem dX5_isWell_35 : decode cX5_isWell 35 = .ok (.aload_n 0, 1) := by decide +kernel
theorem dX5_isWell_36 : decode cX5_isWell 36 = .ok (.getfield 12, 3) := by decide +kernel
theorem dX5_isWell_39 : decode cX5_isWell 39 = .ok (.invokevirtual 117, 3) := by decide +kernel
theorem dX5_isWell_42 : decode cX5_isWell 42 = .ok (.ifCond .ne 5, 3) := by decide +kernel
theorem dX5_isWell_45 : decode cX5_isWell 45 = .ok (.iconst 1, 1) := by decide +kernel
theorem dX5_isWell_46 : decode cX5_isWell 46 = .ok (.ireturn, 1) := by decide +kernel
theorem dX5_isWell_47 : decode cX5_isWell 47 = .ok (.aload_n 0, 1) := by decide +kernel
theorem dX5_isWell_48 : decode cX5_isWell 48 = .ok (.invokevirtual 253, 3) := by decide +kernel
theorem dX5_isWell_51 : decode cX5_isWell 51 = .ok (.ifCond .eq 14, 3) := by decide +kernel
theorem dX5_isWell_54 : decode cX5_isWell 54 = .ok (.aload_n 0, 1) := by decide +kernel
theorem dX5_isWell_55 : decode cX5_isWell 55 = .ok (.invokevirtual 256, 3) := by decide +kernel
theorem dX5_isWell_58 : decode cX5_isWell 58 = .ok (.ifCond .eq 7, 3) := by decide +kernel
theorem dX5_isWell_61 : decode cX5_isWell 61 = .ok (.iconst 1, 1) := by decide +kernel
theorem dX5_isWell_62 : decode cX5_isWell 62 = .ok (.goto 4, 3) := by decide +kernel
theorem dX5_isWell_65 : decode cX5_isWell 65 = .ok (.iconst 0, 1) := by decide +kernel
theorem dX5_isWell_66 : decode cX5_isWell 66 = .ok (.ireturn, 1) := by decide +kernel
theorem dX5_share_0 : decode cX5_share 0 = .ok (.aload_n 0, 1) := by decide +kernel
theorem dX5_share_1 : decode cX5_share 1 = .ok (.getfield 12, 3) := by decide +kernel
theorem dX5_share_4 : decode cX5_share 4 = .ok (.invokevirtual 234, 3) := by decide +kernel
theorem dX5_share_7 : decode cX5_share 7 = .ok (.invokestatic 111, 3) := by decide +kernel
theorem dX5_share_10 : decode cX5_share 10 = .ok (.i2f, 1) := by decide +kernel
theorem dX5_share_11 : decode cX5_share 11 = .ok (.fstore_n 1, 1) := by decide +kernel
theorem dX5_share_12 : decode cX5_share 12 = .ok (.fload_n 1, 1) := by decide +kernel
theorem dX5_share_13 : decode cX5_share 13 = .ok (.ldc_w 259, 3) := by decide +kernel
theorem dX5_share_16 : decode cX5_share 16 = .ok (.fdiv, 1) := by decide +kernel
theorem dX5_share_17 : decode cX5_share 17 = .ok (.invokestatic 260, 3) := by decide +kernel
theorem dX5_share_20 : decode cX5_share 20 = .ok (.ireturn, 1) := by decide +kernel
theorem dX5_undo_0 : decode cX5_undo 0 = .ok (.aload_n 0, 1) := by decide +kernel
theorem dX5_undo_1 : decode cX5_undo 1 = .ok (.getfield 28, 3) := by decide +kernel
theorem dX5_undo_4 : decode cX5_undo 4 = .ok (.getfield 250, 3) := by decide +kernel
theorem dX5_undo_7 : decode cX5_undo 7 = .ok (.ifCond .ne 6, 3) := by decide +kernel
theorem dX5_undo_10 : decode cX5_undo 10 = .ok (.bipush (-4), 2) := by decide +kernel
theorem dX5_undo_12 : decode cX5_undo 12 = .ok (.ireturn, 1) := by decide +kernel
theorem dX5_undo_13 : decode cX5_undo 13 = .ok (.aload_n 0, 1) := by decide +kernel
theorem dX5_undo_14 : decode cX5_undo 14 = .ok (.getfield 28, 3) := by decide +kernel
theorem dX5_undo_17 : decode cX5_undo 17 = .ok (.aload_n 0, 1) := by decide +kernel
theorem dX5_undo_18 : decode cX5_undo 18 = .ok (.getfield 12, 3) := by decide +kernel
theorem dX5_undo_21 : decode cX5_undo 21 = .ok (.invokevirtual 264, 3) := by decide +kernel
theorem dX5_undo_24 : decode cX5_undo 24 = .ok (.aload_n 0, 1) := by decide +kernel
theorem dX5_undo_25 : decode cX5_undo 25 = .ok (.getfield 28, 3) := by decide +kernel
theorem dX5_undo_28 : decode cX5_undo 28 = .ok (.getfield 250, 3) := by decide +kernel
theorem dX5_undo_31 : decode cX5_undo 31 = .ok (.ireturn, 1) := by decide +kernel
theorem dX5_save_0 : decode cX5_save 0 = .ok (.aload_n 0, 1) := by decide +kernel
theorem dX5_save_1 : decode cX5_save 1 = .ok (.getfield 22, 3) := by decide +kernel
theorem dX5_save_4 : decode cX5_save 4 = .ok (.aload_n 0, 1) := by decide +kernel
theorem dX5_save_5 : decode cX5_save 5 = .ok (.getfield 12, 3) := by decide +kernel
theorem dX5_save_8 : decode cX5_save 8 = .ok (.invokevirtual 67, 3) := by decide +kernel
theorem dX5_save_11 : decode cX5_save 11 = .ok (.aload_n 0, 1) := by decide +kernel
theorem dX5_save_12 : decode cX5_save 12 = .ok (.iconst 1, 1) := by decide +kernel
theorem dX5_save_13 : decode cX5_save 13 = .ok (.putfield 267, 3) := by decide +kernel
theorem dX5_save_16 : decode cX5_save 16 = .ok (.aload_n 0, 1) := by decide +kernel
theorem dX5_save_17 : decode cX5_save 17 = .ok (.getfield 12, 3) := by decide +kernel
theorem dX5_save_20 : decode cX5_save 20 = .ok (.invokevirtual 228, 3) := by decide +kernel
theorem dX5_save_23 : decode cX5_save 23 = .ok (.ireturn, 1) := by decide +kernel
theorem dX5_restore_0 : decode cX5_restore 0 = .ok (.aload_n 0, 1) := by decide +kernel
theorem dX5_restore_1 : decode cX5_restore 1 = .ok (.getfield 267, 3) := by decide +kernel
theorem dX5_restore_4 : decode cX5_restore 4 = .ok (.ifCond .ne 6, 3) := by decide +kernel
theorem dX5_restore_7 : decode cX5_restore 7 = .ok (.bipush (-4), 2) := by decide +kernel
theorem dX5_restore_9 : decode cX5_restore 9 = .ok (.ireturn, 1) := by decide +kernel
theorem dX5_restore_10 : decode cX5_restore 10 = .ok (.aload_n 0, 1) := by decide +kernel
theorem dX5_restore_11 : decode cX5_restore 11 = .ok (.getfield 12, 3) := by decide +kernel
theorem dX5_restore_14 : decode cX5_restore 14 = .ok (.aload_n 0, 1) := by decide +kernel
theorem dX5_restore_15 : decode cX5_restore 15 = .ok (.getfield 22, 3) := by decide +kernel
theorem dX5_restore_18 : decode cX5_restore 18 = .ok (.invokevirtual 67, 3) := by decide +kernel
theorem dX5_restore_21 : decode cX5_restore 21 = .ok (.aload_n 0, 1) := by decide +kernel
theorem dX5_restore_22 : decode cX5_restore 22 = .ok (.getfield 28, 3) := by decide +kernel
theorem dX5_restore_25 : decode cX5_restore 25 = .ok (.invokevirtual 271, 3) := by decide +kernel
theorem dX5_restore_28 : decode cX5_restore 28 = .ok (.aload_n 0, 1) := by decide +kernel
theorem dX5_restore_29 : decode cX5_restore 29 = .ok (.getfield 12, 3) := by decide +kernel
theorem dX5_restore_32 : decode cX5_restore 32 = .ok (.invokevirtual 228, 3) := by decide +kernel
theorem dX5_restore_35 : decode cX5_restore 35 = .ok (.ireturn, 1) := by decide +kernel
theorem dX5_putNow_0 : decode cX5_putNow 0 = .ok (.iload_n 2, 1) := by decide +kernel
theorem dX5_putNow_1 : decode cX5_putNow 1 = .ok (.invokestatic 95, 3) := by decide +kernel
theorem dX5_putNow_4 : decode cX5_putNow 4 = .ok (.ifCond .ne 5, 3) := by decide +kernel
theorem dX5_putNow_7 : decode cX5_putNow 7 = .ok (.iconst (-1), 1) := by decide +kernel
theorem dX5_putNow_8 : decode cX5_putNow 8 = .ok (.ireturn, 1) := by decide +kernel
theorem dX5_putNow_9 : decode cX5_putNow 9 = .ok (.iload_n 1, 1) := by decide +kernel
theorem dX5_putNow_10 : decode cX5_putNow 10 = .ok (.iconst 1, 1) := by decide +kernel
theorem dX5_putNow_11 : decode cX5_putNow 11 = .ok (.if_icmp .lt 9, 3) := by decide +kernel
theorem dX5_putNow_14 : decode cX5_putNow 14 = .ok (.iload_n 1, 1) := by decide +kernel
theorem dX5_putNow_15 : decode cX5_putNow 15 = .ok (.bipush 7, 2) := by decide +kernel
theorem dX5_putNow_17 : decode cX5_putNow 17 = .ok (.if_icmp .le 6, 3) := by decide +kernel
theorem dX5_putNow_20 : decode cX5_putNow 20 = .ok (.bipush (-2), 2) := by decide +kernel
theorem dX5_putNow_22 : decode cX5_putNow 22 = .ok (.ireturn, 1) := by decide +kernel
theorem dX5_putNow_23 : decode cX5_putNow 23 = .ok (.aload_n 0, 1) := by decide +kernel
theorem dX5_putNow_24 : decode cX5_putNow 24 = .ok (.getfield 12, 3) := by decide +kernel
theorem dX5_putNow_27 : decode cX5_putNow 27 = .ok (.iload_n 2, 1) := by decide +kernel
theorem dX5_putNow_28 : decode cX5_putNow 28 = .ok (.invokevirtual 99, 3) := by decide +kernel
theorem dX5_putNow_31 : decode cX5_putNow 31 = .ok (.ifCond .eq 17, 3) := by decide +kernel
theorem dX5_putNow_34 : decode cX5_putNow 34 = .ok (.aload_n 0, 1) := by decide +kernel
theorem dX5_putNow_35 : decode cX5_putNow 35 = .ok (.iconst 1, 1) := by decide +kernel
theorem dX5_putNow_36 : decode cX5_putNow 36 = .ok (.aload_n 0, 1) := by decide +kernel
theorem dX5_putNow_37 : decode cX5_putNow 37 = .ok (.getfield 12, 3) := by decide +kernel
theorem dX5_putNow_40 : decode cX5_putNow 40 = .ok (.iload_n 2, 1) := by decide +kernel
theorem dX5_putNow_41 : decode cX5_putNow 41 = .ok (.invokevirtual 99, 3) := by decide +kernel
theorem dX5_putNow_44 : decode cX5_putNow 44 = .ok (.invokevirtual 272, 3) := by decide +kernel
theorem dX5_putNow_47 : decode cX5_putNow 47 = .ok (.ireturn, 1) := by decide +kernel
theorem dX5_putNow_48 : decode cX5_putNow 48 = .ok (.iload_n 1, 1) := by decide +kernel
theorem dX5_putNow_49 : decode cX5_putNow 49 = .ok (.invokestatic 164, 3) := by decide +kernel
theorem dX5_putNow_52 : decode cX5_putNow 52 = .ok (.ifCond .eq 28, 3) := by decide +kernel
theorem dX5_putNow_55 : decode cX5_putNow 55 = .ok (.aload_n 0, 1) := by decide +kernel
theorem dX5_putNow_56 : decode cX5_putNow 56 = .ok (.getfield 12, 3) := by decide +kernel
theorem dX5_putNow_59 : decode cX5_putNow 59 = .ok (.iload_n 1, 1) := by decide +kernel
theorem dX5_putNow_60 : decode cX5_putNow 60 = .ok (.invokevirtual 136, 3) := by decide +kernel
theorem dX5_putNow_63 : decode cX5_putNow 63 = .ok (.ifCond .lt 17, 3) := by decide +kernel
theorem dX5_putNow_66 : decode cX5_putNow 66 = .ok (.aload_n 0, 1) := by decide +kernel
theorem dX5_putNow_67 : decode cX5_putNow 67 = .ok (.iconst 2, 1) := by decide +kernel
theorem dX5_putNow_68 : decode cX5_putNow 68 = .ok (.aload_n 0, 1) := by decide +kernel
theorem dX5_putNow_69 : decode cX5_putNow 69 = .ok (.getfield 12, 3) := by decide +kernel
theorem dX5_putNow_72 : decode cX5_putNow 72 = .ok (.iload_n 1, 1) := by decide +kernel
theorem dX5_putNow_73 : decode cX5_putNow 73 = .ok (.invokevirtual 136, 3) := by decide +kernel
theorem dX5_putNow_76 : decode cX5_putNow 76 = .ok (.invokevirtual 272, 3) := by decide +kernel
theorem dX5_putNow_79 : decode cX5_putNow 79 = .ok (.ireturn, 1) := by decide +kernel
theorem dX5_putNow_80 : decode cX5_putNow 80 = .ok (.aload_n 0, 1) := by decide +kernel
theorem dX5_putNow_81 : decode cX5_putNow 81 = .ok (.getfield 12, 3) := by decide +kernel
theorem dX5_putNow_84 : decode cX5_putNow 84 = .ok (.invokevirtual 228, 3) := by decide +kernel
theorem dX5_putNow_87 : decode cX5_putNow 87 = .ok (.bipush 12, 2) := by decide +kernel
theorem dX5_putNow_89 : decode cX5_putNow 89 = .ok (.if_icmp .lt 11, 3) := by decide +kernel
theorem dX5_putNow_92 : decode cX5_putNow 92 = .ok (.aload_n 0, 1) := by decide +kernel
theorem dX5_putNow_93 : decode cX5_putNow 93 = .ok (.iconst 3, 1) := by decide +kernel
theorem dX5_putNow_94 : decode cX5_putNow 94 = .ok (.bipush 12, 2) := by decide +kernel
theorem dX5_putNow_96 : decode cX5_putNow 96 = .ok (.invokevirtual 272, 3) := by decide +kernel
theorem dX5_putNow_99 : decode cX5_putNow 99 = .ok (.ireturn, 1) := by decide +kernel
theorem dX5_putNow_100 : decode cX5_putNow 100 = .ok (.aload_n 0, 1) := by decide +kernel
theorem dX5_putNow_101 : decode cX5_putNow 101 = .ok (.getfield 12, 3) := by decide +kernel
theorem dX5_putNow_104 : decode cX5_putNow 104 = .ok (.iload_n 2, 1) := by decide +kernel
theorem dX5_putNow_105 : decode cX5_putNow 105 = .ok (.iload_n 1, 1) := by decide +kernel
theorem dX5_putNow_106 : decode cX5_putNow 106 = .ok (.invokevirtual 167, 3) := by decide +kernel
theorem dX5_putNow_109 : decode cX5_putNow 109 = .ok (.aload_n 0, 1) := by decide +kernel
theorem dX5_putNow_110 : decode cX5_putNow 110 = .ok (.getfield 12, 3) := by decide +kernel
theorem dX5_putNow_113 : decode cX5_putNow 113 = .ok (.invokevirtual 228, 3) := by decide +kernel
theorem dX5_putNow_116 : decode cX5_putNow 116 = .ok (.ireturn, 1) := by decide +kernel
theorem dX5_liftNow_0 : decode cX5_liftNow 0 = .ok (.iload_n 1, 1) := by decide +kernel
theorem dX5_liftNow_1 : decode cX5_liftNow 1 = .ok (.invokestatic 95, 3) := by decide +kernel
theorem dX5_liftNow_4 : decode cX5_liftNow 4 = .ok (.ifCond .ne 5, 3) := by decide +kernel
theorem dX5_liftNow_7 : decode cX5_liftNow 7 = .ok (.iconst (-1), 1) := by decide +kernel
theorem dX5_liftNow_8 : decode cX5_liftNow 8 = .ok (.ireturn, 1) := by decide +kernel
theorem dX5_liftNow_9 : decode cX5_liftNow 9 = .ok (.aload_n 0, 1) := by decide +kernel
theorem dX5_liftNow_10 : decode cX5_liftNow 10 = .ok (.getfield 12, 3) := by decide +kernel
theorem dX5_liftNow_13 : decode cX5_liftNow 13 = .ok (.iload_n 1, 1) := by decide +kernel
theorem dX5_liftNow_14 : decode cX5_liftNow 14 = .ok (.invokevirtual 99, 3) := by decide +kernel
theorem dX5_liftNow_17 : decode cX5_liftNow 17 = .ok (.istore_n 2, 1) := by decide +kernel
theorem dX5_liftNow_18 : decode cX5_liftNow 18 = .ok (.iload_n 2, 1) := by decide +kernel
theorem dX5_liftNow_19 : decode cX5_liftNow 19 = .ok (.ifCond .ne 10, 3) := by decide +kernel
theorem dX5_liftNow_22 : decode cX5_liftNow 22 = .ok (.aload_n 0, 1) := by decide +kernel
theorem dX5_liftNow_23 : decode cX5_liftNow 23 = .ok (.iconst 4, 1) := by decide +kernel
theorem dX5_liftNow_24 : decode cX5_liftNow 24 = .ok (.iload_n 1, 1) := by decide +kernel
theorem dX5_liftNow_25 : decode cX5_liftNow 25 = .ok (.invokevirtual 272, 3) := by decide +kernel
theorem dX5_liftNow_28 : decode cX5_liftNow 28 = .ok (.ireturn, 1) := by decide +kernel
theorem dX5_liftNow_29 : decode cX5_liftNow 29 = .ok (.aload_n 0, 1) := by decide +kernel
theorem dX5_liftNow_30 : decode cX5_liftNow 30 = .ok (.getfield 12, 3) := by decide +kernel
theorem dX5_liftNow_33 : decode cX5_liftNow 33 = .ok (.iload_n 1, 1) := by decide +kernel
theorem dX5_liftNow_34 : decode cX5_liftNow 34 = .ok (.iconst 0, 1) := by decide +kernel
theorem dX5_liftNow_35 : decode cX5_liftNow 35 = .ok (.invokevirtual 167, 3) := by decide +kernel
theorem dX5_liftNow_38 : decode cX5_liftNow 38 = .ok (.iload_n 2, 1) := by decide +kernel
theorem dX5_liftNow_39 : decode cX5_liftNow 39 = .ok (.ireturn, 1) := by decide +kernel
theorem dX5_playNow_0 : decode cX5_playNow 0 = .ok (.iload_n 1, 1) := by decide +kernel
theorem dX5_playNow_1 : decode cX5_playNow 1 = .ok (.invokestatic 95, 3) := by decide +kernel
theorem dX5_playNow_4 : decode cX5_playNow 4 = .ok (.ifCond .eq 10, 3) := by decide +kernel
theorem dX5_playNow_7 : decode cX5_playNow 7 = .ok (.iload_n 2, 1) := by decide +kernel
theorem dX5_playNow_8 : decode cX5_playNow 8 = .ok (.invokestatic 95, 3) := by decide +kernel
theorem dX5_playNow_11 : decode cX5_playNow 11 = .ok (.ifCond .ne 5, 3) := by decide +kernel
theorem dX5_playNow_14 : decode cX5_playNow 14 = .ok (.iconst (-1), 1) := by decide +kernel
theorem dX5_playNow_15 : decode cX5_playNow 15 = .ok (.ireturn, 1) := by decide +kernel
theorem dX5_playNow_16 : decode cX5_playNow 16 = .ok (.aload_n 0, 1) := by decide +kernel
theorem dX5_playNow_17 : decode cX5_playNow 17 = .ok (.getfield 12, 3) := by decide +kernel
theorem dX5_playNow_20 : decode cX5_playNow 20 = .ok (.iload_n 1, 1) := by decide +kernel
theorem dX5_playNow_21 : decode cX5_playNow 21 = .ok (.invokevirtual 99, 3) := by decide +kernel
theorem dX5_playNow_24 : decode cX5_playNow 24 = .ok (.istore_n 3, 1) := by decide +kernel
theorem dX5_playNow_25 : decode cX5_playNow 25 = .ok (.iload_n 3, 1) := by decide +kernel
theorem dX5_playNow_26 : decode cX5_playNow 26 = .ok (.ifCond .ne 10, 3) := by decide +kernel
theorem dX5_playNow_29 : decode cX5_playNow 29 = .ok (.aload_n 0, 1) := by decide +kernel
theorem dX5_playNow_30 : decode cX5_playNow 30 = .ok (.iconst 4, 1) := by decide +kernel
theorem dX5_playNow_31 : decode cX5_playNow 31 = .ok (.iload_n 1, 1) := by decide +kernel
theorem dX5_playNow_32 : decode cX5_playNow 32 = .ok (.invokevirtual 272, 3) := by decide +kernel
theorem dX5_playNow_35 : decode cX5_playNow 35 = .ok (.ireturn, 1) := by decide +kernel
theorem dX5_playNow_36 : decode cX5_playNow 36 = .ok (.aload_n 0, 1) := by decide +kernel
theorem dX5_playNow_37 : decode cX5_playNow 37 = .ok (.getfield 12, 3) := by decide +kernel
theorem dX5_playNow_40 : decode cX5_playNow 40 = .ok (.iload_n 1, 1) := by decide +kernel
theorem dX5_playNow_41 : decode cX5_playNow 41 = .ok (.iload_n 2, 1) := by decide +kernel
theorem dX5_playNow_42 : decode cX5_playNow 42 = .ok (.invokevirtual 145, 3) := by decide +kernel
theorem dX5_playNow_45 : decode cX5_playNow 45 = .ok (.ifCond .ne 10, 3) := by decide +kernel
theorem dX5_playNow_48 : decode cX5_playNow 48 = .ok (.aload_n 0, 1) := by decide +kernel
theorem dX5_playNow_49 : decode cX5_playNow 49 = .ok (.iconst 5, 1) := by decide +kernel
theorem dX5_playNow_50 : decode cX5_playNow 50 = .ok (.iload_n 3, 1) := by decide +kernel
theorem dX5_playNow_51 : decode cX5_playNow 51 = .ok (.invokevirtual 272, 3) := by decide +kernel
theorem dX5_playNow_54 : decode cX5_playNow 54 = .ok (.ireturn, 1) := by decide +kernel
theorem dX5_playNow_55 : decode cX5_playNow 55 = .ok (.aload_n 0, 1) := by decide +kernel
theorem dX5_playNow_56 : decode cX5_playNow 56 = .ok (.getfield 12, 3) := by decide +kernel
theorem dX5_playNow_59 : decode cX5_playNow 59 = .ok (.iload_n 2, 1) := by decide +kernel
theorem dX5_playNow_60 : decode cX5_playNow 60 = .ok (.invokevirtual 99, 3) := by decide +kernel
theorem dX5_playNow_63 : decode cX5_playNow 63 = .ok (.istore 4, 2) := by decide +kernel
theorem dX5_playNow_65 : decode cX5_playNow 65 = .ok (.aload_n 0, 1) := by decide +kernel
theorem dX5_playNow_66 : decode cX5_playNow 66 = .ok (.getfield 12, 3) := by decide +kernel
theorem dX5_playNow_69 : decode cX5_playNow 69 = .ok (.iload_n 1, 1) := by decide +kernel
theorem dX5_playNow_70 : decode cX5_playNow 70 = .ok (.iconst 0, 1) := by decide +kernel
theorem dX5_playNow_71 : decode cX5_playNow 71 = .ok (.invokevirtual 167, 3) := by decide +kernel
theorem dX5_playNow_74 : decode cX5_playNow 74 = .ok (.aload_n 0, 1) := by decide +kernel
theorem dX5_playNow_75 : decode cX5_playNow 75 = .ok (.getfield 12, 3) := by decide +kernel
theorem dX5_playNow_78 : decode cX5_playNow 78 = .ok (.iload_n 2, 1) := by decide +kernel
theorem dX5_playNow_79 : decode cX5_playNow 79 = .ok (.iload_n 3, 1) := by decide +kernel
theorem dX5_playNow_80 : decode cX5_playNow 80 = .ok (.invokevirtual 167, 3) := by decide +kernel
theorem dX5_playNow_83 : decode cX5_playNow 83 = .ok (.aload_n 0, 1) := by decide +kernel
theorem dX5_playNow_84 : decode cX5_playNow 84 = .ok (.getfield 12, 3) := by decide +kernel
theorem dX5_playNow_87 : decode cX5_playNow 87 = .ok (.dup, 1) := by decide +kernel
theorem dX5_playNow_88 : decode cX5_playNow 88 = .ok (.getfield 237, 3) := by decide +kernel
theorem dX5_playNow_91 : decode cX5_playNow 91 = .ok (.iconst 1, 1) := by decide +kernel
theorem dX5_playNow_92 : decode cX5_playNow 92 = .ok (.iadd, 1) := by decide +kernel
theorem dX5_playNow_93 : decode cX5_playNow 93 = .ok (.putfield 237, 3) := by decide +kernel
theorem dX5_playNow_96 : decode cX5_playNow 96 = .ok (.iload 4, 2) := by decide +kernel
theorem dX5_playNow_98 : decode cX5_playNow 98 = .ok (.bipush 6, 2) := by decide +kernel
theorem dX5_playNow_100 : decode cX5_playNow 100 = .ok (.if_icmp .ne 16, 3) := by decide +kernel
theorem dX5_playNow_103 : decode cX5_playNow 103 = .ok (.aload_n 0, 1) := by decide +kernel
theorem dX5_playNow_104 : decode cX5_playNow 104 = .ok (.getfield 12, 3) := by decide +kernel
theorem dX5_playNow_107 : decode cX5_playNow 107 = .ok (.dup, 1) := by decide +kernel
theorem dX5_playNow_108 : decode cX5_playNow 108 = .ok (.getfield 240, 3) := by decide +kernel
theorem dX5_playNow_111 : decode cX5_playNow 111 = .ok (.iconst 1, 1) := by decide +kernel
theorem dX5_playNow_112 : decode cX5_playNow 112 = .ok (.iadd, 1) := by decide +kernel
theorem dX5_playNow_113 : decode cX5_playNow 113 = .ok (.putfield 240, 3) := by decide +kernel
theorem dX5_playNow_116 : decode cX5_playNow 116 = .ok (.iload 4, 2) := by decide +kernel
theorem dX5_playNow_118 : decode cX5_playNow 118 = .ok (.ireturn, 1) := by decide +kernel
theorem dX5_turnNow_0 : decode cX5_turnNow 0 = .ok (.aload_n 0, 1) := by decide +kernel
theorem dX5_turnNow_1 : decode cX5_turnNow 1 = .ok (.getfield 19, 3) := by decide +kernel
theorem dX5_turnNow_4 : decode cX5_turnNow 4 = .ok (.aload_n 0, 1) := by decide +kernel
theorem dX5_turnNow_5 : decode cX5_turnNow 5 = .ok (.getfield 12, 3) := by decide +kernel
theorem dX5_turnNow_8 : decode cX5_turnNow 8 = .ok (.invokevirtual 67, 3) := by decide +kernel
theorem dX5_turnNow_11 : decode cX5_turnNow 11 = .ok (.iconst 0, 1) := by decide +kernel
theorem dX5_turnNow_12 : decode cX5_turnNow 12 = .ok (.istore_n 1, 1) := by decide +kernel
theorem dX5_turnNow_13 : decode cX5_turnNow 13 = .ok (.iload_n 1, 1) := by decide +kernel
theorem dX5_turnNow_14 : decode cX5_turnNow 14 = .ok (.bipush 25, 2) := by decide +kernel
theorem dX5_turnNow_16 : decode cX5_turnNow 16 = .ok (.if_icmp .ge 39, 3) := by decide +kernel
theorem dX5_turnNow_19 : decode cX5_turnNow 19 = .ok (.iload_n 1, 1) := by decide +kernel
theorem dX5_turnNow_20 : decode cX5_turnNow 20 = .ok (.iconst 5, 1) := by decide +kernel
theorem dX5_turnNow_21 : decode cX5_turnNow 21 = .ok (.irem, 1) := by decide +kernel
theorem dX5_turnNow_22 : decode cX5_turnNow 22 = .ok (.istore_n 2, 1) := by decide +kernel
theorem dX5_turnNow_23 : decode cX5_turnNow 23 = .ok (.iload_n 1, 1) := by decide +kernel
theorem dX5_turnNow_24 : decode cX5_turnNow 24 = .ok (.iconst 5, 1) := by decide +kernel
theorem dX5_turnNow_25 : decode cX5_turnNow 25 = .ok (.idiv, 1) := by decide +kernel
theorem dX5_turnNow_26 : decode cX5_turnNow 26 = .ok (.istore_n 3, 1) := by decide +kernel
theorem dX5_turnNow_27 : decode cX5_turnNow 27 = .ok (.aload_n 0, 1) := by decide +kernel
theorem dX5_turnNow_28 : decode cX5_turnNow 28 = .ok (.getfield 12, 3) := by decide +kernel
theorem dX5_turnNow_31 : decode cX5_turnNow 31 = .ok (.iconst 4, 1) := by decide +kernel
theorem dX5_turnNow_32 : decode cX5_turnNow 32 = .ok (.iload_n 2, 1) := by decide +kernel
theorem dX5_turnNow_33 : decode cX5_turnNow 33 = .ok (.isub, 1) := by decide +kernel
theorem dX5_turnNow_34 : decode cX5_turnNow 34 = .ok (.iconst 5, 1) := by decide +kernel
theorem dX5_turnNow_35 : decode cX5_turnNow 35 = .ok (.imul, 1) := by decide +kernel
theorem dX5_turnNow_36 : decode cX5_turnNow 36 = .ok (.iload_n 3, 1) := by decide +kernel
theorem dX5_turnNow_37 : decode cX5_turnNow 37 = .ok (.iadd, 1) := by decide +kernel
theorem dX5_turnNow_38 : decode cX5_turnNow 38 = .ok (.aload_n 0, 1) := by decide +kernel
theorem dX5_turnNow_39 : decode cX5_turnNow 39 = .ok (.getfield 19, 3) := by decide +kernel
theorem dX5_turnNow_42 : decode cX5_turnNow 42 = .ok (.iload_n 1, 1) := by decide +kernel
theorem dX5_turnNow_43 : decode cX5_turnNow 43 = .ok (.invokevirtual 99, 3) := by decide +kernel
theorem dX5_turnNow_46 : decode cX5_turnNow 46 = .ok (.invokevirtual 167, 3) := by decide +kernel
theorem dX5_turnNow_49 : decode cX5_turnNow 49 = .ok (.iinc 1 1, 3) := by decide +kernel
theorem dX5_turnNow_52 : decode cX5_turnNow 52 = .ok (.goto (-39), 3) := by decide +kernel
theorem dX5_turnNow_55 : decode cX5_turnNow 55 = .ok (.aload_n 0, 1) := by decide +kernel
theorem dX5_turnNow_56 : decode cX5_turnNow 56 = .ok (.getfield 12, 3) := by decide +kernel
theorem dX5_turnNow_59 : decode cX5_turnNow 59 = .ok (.dup, 1) := by decide +kernel
theorem dX5_turnNow_60 : decode cX5_turnNow 60 = .ok (.getfield 246, 3) := by decide +kernel
theorem dX5_turnNow_63 : decode cX5_turnNow 63 = .ok (.iconst 1, 1) := by decide +kernel
theorem dX5_turnNow_64 : decode cX5_turnNow 64 = .ok (.iadd, 1) := by decide +kernel
theorem dX5_turnNow_65 : decode cX5_turnNow 65 = .ok (.putfield 246, 3) := by decide +kernel
theorem dX5_turnNow_68 : decode cX5_turnNow 68 = .ok (.aload_n 0, 1) := by decide +kernel
theorem dX5_turnNow_69 : decode cX5_turnNow 69 = .ok (.getfield 12, 3) := by decide +kernel
theorem dX5_turnNow_72 : decode cX5_turnNow 72 = .ok (.invokevirtual 228, 3) := by decide +kernel
theorem dX5_turnNow_75 : decode cX5_turnNow 75 = .ok (.ireturn, 1) := by decide +kernel
theorem dX5_mirrorNow_0 : decode cX5_mirrorNow 0 = .ok (.aload_n 0, 1) := by decide +kernel
theorem dX5_mirrorNow_1 : decode cX5_mirrorNow 1 = .ok (.getfield 19, 3) := by decide +kernel
theorem dX5_mirrorNow_4 : decode cX5_mirrorNow 4 = .ok (.aload_n 0, 1) := by decide +kernel
theorem dX5_mirrorNow_5 : decode cX5_mirrorNow 5 = .ok (.getfield 12, 3) := by decide +kernel
theorem dX5_mirrorNow_8 : decode cX5_mirrorNow 8 = .ok (.invokevirtual 67, 3) := by decide +kernel
theorem dX5_mirrorNow_11 : decode cX5_mirrorNow 11 = .ok (.iconst 0, 1) := by decide +kernel
theorem dX5_mirrorNow_12 : decode cX5_mirrorNow 12 = .ok (.istore_n 1, 1) := by decide +kernel
theorem dX5_mirrorNow_13 : decode cX5_mirrorNow 13 = .ok (.iload_n 1, 1) := by decide +kernel
theorem dX5_mirrorNow_14 : decode cX5_mirrorNow 14 = .ok (.bipush 25, 2) := by decide +kernel
theorem dX5_mirrorNow_16 : decode cX5_mirrorNow 16 = .ok (.if_icmp .ge 41, 3) := by decide +kernel
theorem dX5_mirrorNow_19 : decode cX5_mirrorNow 19 = .ok (.iload_n 1, 1) := by decide +kernel
theorem dX5_mirrorNow_20 : decode cX5_mirrorNow 20 = .ok (.iconst 5, 1) := by decide +kernel
theorem dX5_mirrorNow_21 : decode cX5_mirrorNow 21 = .ok (.irem, 1) := by decide +kernel
theorem dX5_mirrorNow_22 : decode cX5_mirrorNow 22 = .ok (.istore_n 2, 1) := by decide +kernel
theorem dX5_mirrorNow_23 : decode cX5_mirrorNow 23 = .ok (.iload_n 1, 1) := by decide +kernel
theorem dX5_mirrorNow_24 : decode cX5_mirrorNow 24 = .ok (.iconst 5, 1) := by decide +kernel
theorem dX5_mirrorNow_25 : decode cX5_mirrorNow 25 = .ok (.idiv, 1) := by decide +kernel
theorem dX5_mirrorNow_26 : decode cX5_mirrorNow 26 = .ok (.istore_n 3, 1) := by decide +kernel
theorem dX5_mirrorNow_27 : decode cX5_mirrorNow 27 = .ok (.aload_n 0, 1) := by decide +kernel
theorem dX5_mirrorNow_28 : decode cX5_mirrorNow 28 = .ok (.getfield 12, 3) := by decide +kernel
theorem dX5_mirrorNow_31 : decode cX5_mirrorNow 31 = .ok (.iload_n 3, 1) := by decide +kernel
theorem dX5_mirrorNow_32 : decode cX5_mirrorNow 32 = .ok (.iconst 5, 1) := by decide +kernel
theorem dX5_mirrorNow_33 : decode cX5_mirrorNow 33 = .ok (.imul, 1) := by decide +kernel
theorem dX5_mirrorNow_34 : decode cX5_mirrorNow 34 = .ok (.iconst 5, 1) := by decide +kernel
theorem dX5_mirrorNow_35 : decode cX5_mirrorNow 35 = .ok (.iadd, 1) := by decide +kernel
theorem dX5_mirrorNow_36 : decode cX5_mirrorNow 36 = .ok (.iconst 1, 1) := by decide +kernel
theorem dX5_mirrorNow_37 : decode cX5_mirrorNow 37 = .ok (.isub, 1) := by decide +kernel
theorem dX5_mirrorNow_38 : decode cX5_mirrorNow 38 = .ok (.iload_n 2, 1) := by decide +kernel
theorem dX5_mirrorNow_39 : decode cX5_mirrorNow 39 = .ok (.isub, 1) := by decide +kernel
theorem dX5_mirrorNow_40 : decode cX5_mirrorNow 40 = .ok (.aload_n 0, 1) := by decide +kernel
theorem dX5_mirrorNow_41 : decode cX5_mirrorNow 41 = .ok (.getfield 19, 3) := by decide +kernel
theorem dX5_mirrorNow_44 : decode cX5_mirrorNow 44 = .ok (.iload_n 1, 1) := by decide +kernel
theorem dX5_mirrorNow_45 : decode cX5_mirrorNow 45 = .ok (.invokevirtual 99, 3) := by decide +kernel
theorem dX5_mirrorNow_48 : decode cX5_mirrorNow 48 = .ok (.invokevirtual 167, 3) := by decide +kernel
theorem dX5_mirrorNow_51 : decode cX5_mirrorNow 51 = .ok (.iinc 1 1, 3) := by decide +kernel
theorem dX5_mirrorNow_54 : decode cX5_mirrorNow 54 = .ok (.goto (-41), 3) := by decide +kernel
theorem dX5_mirrorNow_57 : decode cX5_mirrorNow 57 = .ok (.aload_n 0, 1) := by decide +kernel
theorem dX5_mirrorNow_58 : decode cX5_mirrorNow 58 = .ok (.getfield 12, 3) := by decide +kernel
theorem dX5_mirrorNow_61 : decode cX5_mirrorNow 61 = .ok (.dup, 1) := by decide +kernel
theorem dX5_mirrorNow_62 : decode cX5_mirrorNow 62 = .ok (.getfield 246, 3) := by decide +kernel
theorem dX5_mirrorNow_65 : decode cX5_mirrorNow 65 = .ok (.iconst 1, 1) := by decide +kernel
theorem dX5_mirrorNow_66 : decode cX5_mirrorNow 66 = .ok (.iadd, 1) := by decide +kernel
theorem dX5_mirrorNow_67 : decode cX5_mirrorNow 67 = .ok (.putfield 246, 3) := by decide +kernel
theorem dX5_mirrorNow_70 : decode cX5_mirrorNow 70 = .ok (.aload_n 0, 1) := by decide +kernel
theorem dX5_mirrorNow_71 : decode cX5_mirrorNow 71 = .ok (.getfield 12, 3) := by decide +kernel
theorem dX5_mirrorNow_74 : decode cX5_mirrorNow 74 = .ok (.invokevirtual 228, 3) := by decide +kernel
theorem dX5_mirrorNow_77 : decode cX5_mirrorNow 77 = .ok (.ireturn, 1) := by decide +kernel
theorem dX5_thriftNow_0 : decode cX5_thriftNow 0 = .ok (.aload_n 0, 1) := by decide +kernel
theorem dX5_thriftNow_1 : decode cX5_thriftNow 1 = .ok (.getfield 12, 3) := by decide +kernel
theorem dX5_thriftNow_4 : decode cX5_thriftNow 4 = .ok (.invokevirtual 117, 3) := by decide +kernel
theorem dX5_thriftNow_7 : decode cX5_thriftNow 7 = .ok (.ifCond .ne 36, 3) := by decide +kernel
theorem dX5_thriftNow_10 : decode cX5_thriftNow 10 = .ok (.aload_n 0, 1) := by decide +kernel
theorem dX5_thriftNow_11 : decode cX5_thriftNow 11 = .ok (.getfield 12, 3) := by decide +kernel
theorem dX5_thriftNow_14 : decode cX5_thriftNow 14 = .ok (.bipush 7, 2) := by decide +kernel
theorem dX5_thriftNow_16 : decode cX5_thriftNow 16 = .ok (.invokevirtual 136, 3) := by decide +kernel
theorem dX5_thriftNow_19 : decode cX5_thriftNow 19 = .ok (.istore_n 1, 1) := by decide +kernel
theorem dX5_thriftNow_20 : decode cX5_thriftNow 20 = .ok (.aload_n 0, 1) := by decide +kernel
theorem dX5_thriftNow_21 : decode cX5_thriftNow 21 = .ok (.bipush 7, 2) := by decide +kernel
theorem dX5_thriftNow_23 : decode cX5_thriftNow 23 = .ok (.iload_n 1, 1) := by decide +kernel
theorem dX5_thriftNow_24 : decode cX5_thriftNow 24 = .ok (.ifCond .ge 7, 3) := by decide +kernel
theorem dX5_thriftNow_27 : decode cX5_thriftNow 27 = .ok (.iconst 0, 1) := by decide +kernel
theorem dX5_thriftNow_28 : decode cX5_thriftNow 28 = .ok (.goto 11, 3) := by decide +kernel
theorem dX5_thriftNow_31 : decode cX5_thriftNow 31 = .ok (.aload_n 0, 1) := by decide +kernel
theorem dX5_thriftNow_32 : decode cX5_thriftNow 32 = .ok (.getfield 12, 3) := by decide +kernel
theorem dX5_thriftNow_35 : decode cX5_thriftNow 35 = .ok (.iload_n 1, 1) := by decide +kernel
theorem dX5_thriftNow_36 : decode cX5_thriftNow 36 = .ok (.invokevirtual 102, 3) := by decide +kernel
theorem dX5_thriftNow_39 : decode cX5_thriftNow 39 = .ok (.invokevirtual 272, 3) := by decide +kernel
theorem dX5_thriftNow_42 : decode cX5_thriftNow 42 = .ok (.ireturn, 1) := by decide +kernel
theorem dX5_thriftNow_43 : decode cX5_thriftNow 43 = .ok (.aload_n 0, 1) := by decide +kernel
theorem dX5_thriftNow_44 : decode cX5_thriftNow 44 = .ok (.getfield 39, 3) := by decide +kernel
theorem dX5_thriftNow_47 : decode cX5_thriftNow 47 = .ok (.aload_n 0, 1) := by decide +kernel
theorem dX5_thriftNow_48 : decode cX5_thriftNow 48 = .ok (.getfield 12, 3) := by decide +kernel
theorem dX5_thriftNow_51 : decode cX5_thriftNow 51 = .ok (.invokevirtual 124, 3) := by decide +kernel
theorem dX5_thriftNow_54 : decode cX5_thriftNow 54 = .ok (.iconst 0, 1) := by decide +kernel
theorem dX5_thriftNow_55 : decode cX5_thriftNow 55 = .ok (.istore_n 1, 1) := by decide +kernel
theorem dX5_thriftNow_56 : decode cX5_thriftNow 56 = .ok (.iconst 0, 1) := by decide +kernel
theorem dX5_thriftNow_57 : decode cX5_thriftNow 57 = .ok (.istore_n 2, 1) := by decide +kernel
theorem dX5_thriftNow_58 : decode cX5_thriftNow 58 = .ok (.iload_n 2, 1) := by decide +kernel
theorem dX5_thriftNow_59 : decode cX5_thriftNow 59 = .ok (.bipush 12, 2) := by decide +kernel
theorem dX5_thriftNow_61 : decode cX5_thriftNow 61 = .ok (.if_icmp .ge 49, 3) := by decide +kernel
theorem dX5_thriftNow_64 : decode cX5_thriftNow 64 = .ok (.bipush 24, 2) := by decide +kernel
theorem dX5_thriftNow_66 : decode cX5_thriftNow 66 = .ok (.istore_n 3, 1) := by decide +kernel
theorem dX5_thriftNow_67 : decode cX5_thriftNow 67 = .ok (.iload_n 3, 1) := by decide +kernel
theorem dX5_thriftNow_68 : decode cX5_thriftNow 68 = .ok (.ifCond .lt 17, 3) := by decide +kernel
theorem dX5_thriftNow_71 : decode cX5_thriftNow 71 = .ok (.aload_n 0, 1) := by decide +kernel
theorem dX5_thriftNow_72 : decode cX5_thriftNow 72 = .ok (.iload_n 3, 1) := by decide +kernel
theorem dX5_thriftNow_73 : decode cX5_thriftNow 73 = .ok (.invokevirtual 127, 3) := by decide +kernel
theorem dX5_thriftNow_76 : decode cX5_thriftNow 76 = .ok (.ifCond .ne 9, 3) := by decide +kernel
theorem dX5_thriftNow_79 : decode cX5_thriftNow 79 = .ok (.iinc 3 (-1), 3) := by decide +kernel
theorem dX5_thriftNow_82 : decode cX5_thriftNow 82 = .ok (.goto (-15), 3) := by decide +kernel
theorem dX5_thriftNow_85 : decode cX5_thriftNow 85 = .ok (.iload_n 3, 1) := by decide +kernel
theorem dX5_thriftNow_86 : decode cX5_thriftNow 86 = .ok (.ifCond .ge 6, 3) := by decide +kernel
theorem dX5_thriftNow_89 : decode cX5_thriftNow 89 = .ok (.goto 21, 3) := by decide +kernel
theorem dX5_thriftNow_92 : decode cX5_thriftNow 92 = .ok (.aload_n 0, 1) := by decide +kernel
theorem dX5_thriftNow_93 : decode cX5_thriftNow 93 = .ok (.getfield 12, 3) := by decide +kernel
theorem dX5_thriftNow_96 : decode cX5_thriftNow 96 = .ok (.iload_n 3, 1) := by decide +kernel
theorem dX5_thriftNow_97 : decode cX5_thriftNow 97 = .ok (.iconst 0, 1) := by decide +kernel
theorem dX5_thriftNow_98 : decode cX5_thriftNow 98 = .ok (.invokevirtual 167, 3) := by decide +kernel
theorem dX5_thriftNow_101 : decode cX5_thriftNow 101 = .ok (.iinc 1 1, 3) := by decide +kernel
theorem dX5_thriftNow_104 : decode cX5_thriftNow 104 = .ok (.iinc 2 1, 3) := by decide +kernel
theorem dX5_thriftNow_107 : decode cX5_thriftNow 107 = .ok (.goto (-49), 3) := by decide +kernel
theorem dX5_thriftNow_110 : decode cX5_thriftNow 110 = .ok (.iload_n 1, 1) := by decide +kernel
theorem dX5_thriftNow_111 : decode cX5_thriftNow 111 = .ok (.ifCond .ne 17, 3) := by decide +kernel
theorem dX5_thriftNow_114 : decode cX5_thriftNow 114 = .ok (.aload_n 0, 1) := by decide +kernel
theorem dX5_thriftNow_115 : decode cX5_thriftNow 115 = .ok (.bipush 6, 2) := by decide +kernel
theorem dX5_thriftNow_117 : decode cX5_thriftNow 117 = .ok (.aload_n 0, 1) := by decide +kernel
theorem dX5_thriftNow_118 : decode cX5_thriftNow 118 = .ok (.getfield 12, 3) := by decide +kernel
theorem dX5_thriftNow_121 : decode cX5_thriftNow 121 = .ok (.invokevirtual 228, 3) := by decide +kernel
theorem dX5_thriftNow_124 : decode cX5_thriftNow 124 = .ok (.invokevirtual 272, 3) := by decide +kernel
theorem dX5_thriftNow_127 : decode cX5_thriftNow 127 = .ok (.ireturn, 1) := by decide +kernel
theorem dX5_thriftNow_128 : decode cX5_thriftNow 128 = .ok (.aload_n 0, 1) := by decide +kernel
theorem dX5_thriftNow_129 : decode cX5_thriftNow 129 = .ok (.getfield 12, 3) := by decide +kernel
theorem dX5_thriftNow_132 : decode cX5_thriftNow 132 = .ok (.dup, 1) := by decide +kernel
theorem dX5_thriftNow_133 : decode cX5_thriftNow 133 = .ok (.getfield 243, 3) := by decide +kernel
theorem dX5_thriftNow_136 : decode cX5_thriftNow 136 = .ok (.iload_n 1, 1) := by decide +kernel
theorem dX5_thriftNow_137 : decode cX5_thriftNow 137 = .ok (.iadd, 1) := by decide +kernel
theorem dX5_thriftNow_138 : decode cX5_thriftNow 138 = .ok (.putfield 243, 3) := by decide +kernel
theorem dX5_thriftNow_141 : decode cX5_thriftNow 141 = .ok (.iload_n 1, 1) := by decide +kernel
theorem dX5_thriftNow_142 : decode cX5_thriftNow 142 = .ok (.ireturn, 1) := by decide +kernel
theorem dX5_keep_0 : decode cX5_keep 0 = .ok (.iload_n 1, 1) := by decide +kernel
theorem dX5_keep_1 : decode cX5_keep 1 = .ok (.ifCond .lt 14, 3) := by decide +kernel
theorem dX5_keep_4 : decode cX5_keep 4 = .ok (.aload_n 0, 1) := by decide +kernel
theorem dX5_keep_5 : decode cX5_keep 5 = .ok (.getfield 28, 3) := by decide +kernel
theorem dX5_keep_8 : decode cX5_keep 8 = .ok (.aload_n 0, 1) := by decide +kernel
theorem dX5_keep_9 : decode cX5_keep 9 = .ok (.getfield 16, 3) := by decide +kernel
theorem dX5_keep_12 : decode cX5_keep 12 = .ok (.invokevirtual 216, 3) := by decide +kernel
theorem dX5_keep_15 : decode cX5_keep 15 = .ok (.iload_n 1, 1) := by decide +kernel
theorem dX5_keep_16 : decode cX5_keep 16 = .ok (.ireturn, 1) := by decide +kernel
theorem dX5_refuse_0 : decode cX5_refuse 0 = .ok (.aload_n 0, 1) := by decide +kernel
theorem dX5_refuse_1 : decode cX5_refuse 1 = .ok (.iload_n 1, 1) := by decide +kernel
theorem dX5_refuse_2 : decode cX5_refuse 2 = .ok (.putfield 219, 3) := by decide +kernel
theorem dX5_refuse_5 : decode cX5_refuse 5 = .ok (.aload_n 0, 1) := by decide +kernel
theorem dX5_refuse_6 : decode cX5_refuse 6 = .ok (.iload_n 2, 1) := by decide +kernel
theorem dX5_refuse_7 : decode cX5_refuse 7 = .ok (.putfield 222, 3) := by decide +kernel
theorem dX5_refuse_10 : decode cX5_refuse 10 = .ok (.aload_n 0, 1) := by decide +kernel
theorem dX5_refuse_11 : decode cX5_refuse 11 = .ok (.aload_n 0, 1) := by decide +kernel
theorem dX5_refuse_12 : decode cX5_refuse 12 = .ok (.getfield 63, 3) := by decide +kernel
theorem dX5_refuse_15 : decode cX5_refuse 15 = .ok (.putfield 225, 3) := by decide +kernel
theorem dX5_refuse_18 : decode cX5_refuse 18 = .ok (.bipush (-3), 2) := by decide +kernel
theorem dX5_refuse_20 : decode cX5_refuse 20 = .ok (.ireturn, 1) := by decide +kernel
theorem dX5_canSpare_0 : decode cX5_canSpare 0 = .ok (.aload_n 0, 1) := by decide +kernel
theorem dX5_canSpare_1 : decode cX5_canSpare 1 = .ok (.getfield 12, 3) := by decide +kernel
theorem dX5_canSpare_4 : decode cX5_canSpare 4 = .ok (.iload_n 1, 1) := by decide +kernel
theorem dX5_canSpare_5 : decode cX5_canSpare 5 = .ok (.invokevirtual 99, 3) := by decide +kernel
theorem dX5_canSpare_8 : decode cX5_canSpare 8 = .ok (.istore_n 2, 1) := by decide +kernel
theorem dX5_canSpare_9 : decode cX5_canSpare 9 = .ok (.iload_n 2, 1) := by decide +kernel
theorem dX5_canSpare_10 : decode cX5_canSpare 10 = .ok (.ifCond .eq 20, 3) := by decide +kernel
theorem dX5_canSpare_13 : decode cX5_canSpare 13 = .ok (.iload_n 2, 1) := by decide +kernel
theorem dX5_canSpare_14 : decode cX5_canSpare 14 = .ok (.invokestatic 164, 3) := by decide +kernel
theorem dX5_canSpare_17 : decode cX5_canSpare 17 = .ok (.ifCond .ne 13, 3) := by decide +kernel
theorem dX5_canSpare_20 : decode cX5_canSpare 20 = .ok (.aload_n 0, 1) := by decide +kernel
theorem dX5_canSpare_21 : decode cX5_canSpare 21 = .ok (.getfield 39, 3) := by decide +kernel
theorem dX5_canSpare_24 : decode cX5_canSpare 24 = .ok (.invokevirtual 161, 3) := by decide +kernel
theorem dX5_canSpare_27 : decode cX5_canSpare 27 = .ok (.ifCond .ne 5, 3) := by decide +kernel
theorem dX5_canSpare_30 : decode cX5_canSpare 30 = .ok (.iconst 0, 1) := by decide +kernel
theorem dX5_canSpare_31 : decode cX5_canSpare 31 = .ok (.ireturn, 1) := by decide +kernel
theorem dX5_canSpare_32 : decode cX5_canSpare 32 = .ok (.aload_n 0, 1) := by decide +kernel
theorem dX5_canSpare_33 : decode cX5_canSpare 33 = .ok (.getfield 19, 3) := by decide +kernel
theorem dX5_canSpare_36 : decode cX5_canSpare 36 = .ok (.aload_n 0, 1) := by decide +kernel
theorem dX5_canSpare_37 : decode cX5_canSpare 37 = .ok (.getfield 12, 3) := by decide +kernel
theorem dX5_canSpare_40 : decode cX5_canSpare 40 = .ok (.invokevirtual 67, 3) := by decide +kernel
theorem dX5_canSpare_43 : decode cX5_canSpare 43 = .ok (.aload_n 0, 1) := by decide +kernel
theorem dX5_canSpare_44 : decode cX5_canSpare 44 = .ok (.getfield 19, 3) := by decide +kernel
theorem dX5_canSpare_47 : decode cX5_canSpare 47 = .ok (.iload_n 1, 1) := by decide +kernel
theorem dX5_canSpare_48 : decode cX5_canSpare 48 = .ok (.iconst 0, 1) := by decide +kernel
theorem dX5_canSpare_49 : decode cX5_canSpare 49 = .ok (.invokevirtual 167, 3) := by decide +kernel
theorem dX5_canSpare_52 : decode cX5_canSpare 52 = .ok (.aload_n 0, 1) := by decide +kernel
theorem dX5_canSpare_53 : decode cX5_canSpare 53 = .ok (.getfield 19, 3) := by decide +kernel
theorem dX5_canSpare_56 : decode cX5_canSpare 56 = .ok (.invokevirtual 117, 3) := by decide +kernel
theorem dX5_canSpare_59 : decode cX5_canSpare 59 = .ok (.ifCond .ne 5, 3) := by decide +kernel
theorem dX5_canSpare_62 : decode cX5_canSpare 62 = .ok (.iconst 0, 1) := by decide +kernel
theorem dX5_canSpare_63 : decode cX5_canSpare 63 = .ok (.ireturn, 1) := by decide +kernel
theorem dX5_canSpare_64 : decode cX5_canSpare 64 = .ok (.iconst 0, 1) := by decide +kernel
theorem dX5_canSpare_65 : decode cX5_canSpare 65 = .ok (.istore_n 3, 1) := by decide +kernel
theorem dX5_canSpare_66 : decode cX5_canSpare 66 = .ok (.iload_n 3, 1) := by decide +kernel
theorem dX5_canSpare_67 : decode cX5_canSpare 67 = .ok (.bipush 25, 2) := by decide +kernel
theorem dX5_canSpare_69 : decode cX5_canSpare 69 = .ok (.if_icmp .ge 31, 3) := by decide +kernel
theorem dX5_canSpare_72 : decode cX5_canSpare 72 = .ok (.aload_n 0, 1) := by decide +kernel
theorem dX5_canSpare_73 : decode cX5_canSpare 73 = .ok (.getfield 19, 3) := by decide +kernel
theorem dX5_canSpare_76 : decode cX5_canSpare 76 = .ok (.iload_n 3, 1) := by decide +kernel
theorem dX5_canSpare_77 : decode cX5_canSpare 77 = .ok (.invokevirtual 121, 3) := by decide +kernel
theorem dX5_canSpare_80 : decode cX5_canSpare 80 = .ok (.aload_n 0, 1) := by decide +kernel
theorem dX5_canSpare_81 : decode cX5_canSpare 81 = .ok (.getfield 39, 3) := by decide +kernel
theorem dX5_canSpare_84 : decode cX5_canSpare 84 = .ok (.getfield 275, 3) := by decide +kernel
theorem dX5_canSpare_87 : decode cX5_canSpare 87 = .ok (.iload_n 3, 1) := by decide +kernel
theorem dX5_canSpare_88 : decode cX5_canSpare 88 = .ok (.iaload, 1) := by decide +kernel
theorem dX5_canSpare_89 : decode cX5_canSpare 89 = .ok (.if_icmp .eq 5, 3) := by decide +kernel
theorem dX5_canSpare_92 : decode cX5_canSpare 92 = .ok (.iconst 0, 1) := by decide +kernel
theorem dX5_canSpare_93 : decode cX5_canSpare 93 = .ok (.ireturn, 1) := by decide +kernel
theorem dX5_canSpare_94 : decode cX5_canSpare 94 = .ok (.iinc 3 1, 3) := by decide +kernel
theorem dX5_canSpare_97 : decode cX5_canSpare 97 = .ok (.goto (-31), 3) := by decide +kernel
theorem dX5_canSpare_100 : decode cX5_canSpare 100 = .ok (.iconst 1, 1) := by decide +kernel
theorem dX5_canSpare_101 : decode cX5_canSpare 101 = .ok (.ireturn, 1) := by decide +kernel
theorem dX5_fillTally_0 : decode cX5_fillTally 0 = .ok (.iconst 0, 1) := by decide +kernel
theorem dX5_fillTally_1 : decode cX5_fillTally 1 = .ok (.istore_n 1, 1) := by decide +kernel
theorem dX5_fillTally_2 : decode cX5_fillTally 2 = .ok (.iload_n 1, 1) := by decide +kernel
theorem dX5_fillTally_3 : decode cX5_fillTally 3 = .ok (.iconst 4, 1) := by decide +kernel
theorem dX5_fillTally_4 : decode cX5_fillTally 4 = .ok (.if_icmp .ge 16, 3) := by decide +kernel
theorem dX5_fillTally_7 : decode cX5_fillTally 7 = .ok (.aload_n 0, 1) := by decide +kernel
theorem dX5_fillTally_8 : decode cX5_fillTally 8 = .ok (.getfield 42, 3) := by decide +kernel
theorem dX5_fillTally_11 : decode cX5_fillTally 11 = .ok (.iload_n 1, 1) := by decide +kernel
theorem dX5_fillTally_12 : decode cX5_fillTally 12 = .ok (.iconst 0, 1) := by decide +kernel
theorem dX5_fillTally_13 : decode cX5_fillTally 13 = .ok (.iastore, 1) := by decide +kernel
theorem dX5_fillTally_14 : decode cX5_fillTally 14 = .ok (.iinc 1 1, 3) := by decide +kernel
theorem dX5_fillTally_17 : decode cX5_fillTally 17 = .ok (.goto (-15), 3) := by decide +kernel
theorem dX5_fillTally_20 : decode cX5_fillTally 20 = .ok (.iconst 0, 1) := by decide +kernel
theorem dX5_fillTally_21 : decode cX5_fillTally 21 = .ok (.istore_n 1, 1) := by decide +kernel
theorem dX5_fillTally_22 : decode cX5_fillTally 22 = .ok (.iload_n 1, 1) := by decide +kernel
theorem dX5_fillTally_23 : decode cX5_fillTally 23 = .ok (.bipush 25, 2) := by decide +kernel
theorem dX5_fillTally_25 : decode cX5_fillTally 25 = .ok (.if_icmp .ge 53, 3) := by decide +kernel
theorem dX5_fillTally_28 : decode cX5_fillTally 28 = .ok (.aload_n 0, 1) := by decide +kernel
theorem dX5_fillTally_29 : decode cX5_fillTally 29 = .ok (.getfield 12, 3) := by decide +kernel
theorem dX5_fillTally_32 : decode cX5_fillTally 32 = .ok (.iload_n 1, 1) := by decide +kernel
theorem dX5_fillTally_33 : decode cX5_fillTally 33 = .ok (.invokevirtual 114, 3) := by decide +kernel
theorem dX5_fillTally_36 : decode cX5_fillTally 36 = .ok (.istore_n 2, 1) := by decide +kernel
theorem dX5_fillTally_37 : decode cX5_fillTally 37 = .ok (.iconst 0, 1) := by decide +kernel
theorem dX5_fillTally_38 : decode cX5_fillTally 38 = .ok (.istore_n 3, 1) := by decide +kernel
theorem dX5_fillTally_39 : decode cX5_fillTally 39 = .ok (.iload_n 3, 1) := by decide +kernel
theorem dX5_fillTally_40 : decode cX5_fillTally 40 = .ok (.bipush 25, 2) := by decide +kernel
theorem dX5_fillTally_42 : decode cX5_fillTally 42 = .ok (.if_icmp .ge 30, 3) := by decide +kernel
theorem dX5_fillTally_45 : decode cX5_fillTally 45 = .ok (.iload_n 2, 1) := by decide +kernel
theorem dX5_fillTally_46 : decode cX5_fillTally 46 = .ok (.iload_n 3, 1) := by decide +kernel
theorem dX5_fillTally_47 : decode cX5_fillTally 47 = .ok (.invokestatic 278, 3) := by decide +kernel
theorem dX5_fillTally_50 : decode cX5_fillTally 50 = .ok (.ifCond .eq 16, 3) := by decide +kernel
theorem dX5_fillTally_53 : decode cX5_fillTally 53 = .ok (.aload_n 0, 1) := by decide +kernel
theorem dX5_fillTally_54 : decode cX5_fillTally 54 = .ok (.aload_n 0, 1) := by decide +kernel
theorem dX5_fillTally_55 : decode cX5_fillTally 55 = .ok (.getfield 12, 3) := by decide +kernel
theorem dX5_fillTally_58 : decode cX5_fillTally 58 = .ok (.iload_n 1, 1) := by decide +kernel
theorem dX5_fillTally_59 : decode cX5_fillTally 59 = .ok (.iload_n 3, 1) := by decide +kernel
theorem dX5_fillTally_60 : decode cX5_fillTally 60 = .ok (.invokevirtual 149, 3) := by decide +kernel
theorem dX5_fillTally_63 : decode cX5_fillTally 63 = .ok (.invokevirtual 281, 3) := by decide +kernel
theorem dX5_fillTally_66 : decode cX5_fillTally 66 = .ok (.iinc 3 1, 3) := by decide +kernel
theorem dX5_fillTally_69 : decode cX5_fillTally 69 = .ok (.goto (-30), 3) := by decide +kernel
theorem dX5_fillTally_72 : decode cX5_fillTally 72 = .ok (.iinc 1 1, 3) := by decide +kernel
theorem dX5_fillTally_75 : decode cX5_fillTally 75 = .ok (.goto (-53), 3) := by decide +kernel
theorem dX5_fillTally_78 : decode cX5_fillTally 78 = .ok (.return_, 1) := by decide +kernel
theorem dX5_countKind_0 : decode cX5_countKind 0 = .ok (.iload_n 1, 1) := by decide +kernel
theorem dX5_countKind_1 : decode cX5_countKind 1 = .ok (.ifCond .lt 18, 3) := by decide +kernel
theorem dX5_countKind_4 : decode cX5_countKind 4 = .ok (.iload_n 1, 1) := by decide +kernel
theorem dX5_countKind_5 : decode cX5_countKind 5 = .ok (.iconst 4, 1) := by decide +kernel
theorem dX5_countKind_6 : decode cX5_countKind 6 = .ok (.if_icmp .ge 13, 3) := by decide +kernel
theorem dX5_countKind_9 : decode cX5_countKind 9 = .ok (.aload_n 0, 1) := by decide +kernel
theorem dX5_countKind_10 : decode cX5_countKind 10 = .ok (.getfield 42, 3) := by decide +kernel
theorem dX5_countKind_13 : decode cX5_countKind 13 = .ok (.iload_n 1, 1) := by decide +kernel
theorem dX5_countKind_14 : decode cX5_countKind 14 = .ok (.dup2, 1) := by decide +kernel
theorem dX5_countKind_15 : decode cX5_countKind 15 = .ok (.iaload, 1) := by decide +kernel
theorem dX5_countKind_16 : decode cX5_countKind 16 = .ok (.iconst 1, 1) := by decide +kernel
theorem dX5_countKind_17 : decode cX5_countKind 17 = .ok (.iadd, 1) := by decide +kernel
theorem dX5_countKind_18 : decode cX5_countKind 18 = .ok (.iastore, 1) := by decide +kernel
theorem dX5_countKind_19 : decode cX5_countKind 19 = .ok (.return_, 1) := by decide +kernel
theorem dX5_kindsAreAllMoves_0 : decode cX5_kindsAreAllMoves 0 = .ok (.aload_n 0, 1) := by decide +kernel
theorem dX5_kindsAreAllMoves_1 : decode cX5_kindsAreAllMoves 1 = .ok (.invokevirtual 158, 3) := by decide +kernel
theorem dX5_kindsAreAllMoves_4 : decode cX5_kindsAreAllMoves 4 = .ok (.aload_n 0, 1) := by decide +kernel
theorem dX5_kindsAreAllMoves_5 : decode cX5_kindsAreAllMoves 5 = .ok (.getfield 35, 3) := by decide +kernel
theorem dX5_kindsAreAllMoves_8 : decode cX5_kindsAreAllMoves 8 = .ok (.aload_n 0, 1) := by decide +kernel
theorem dX5_kindsAreAllMoves_9 : decode cX5_kindsAreAllMoves 9 = .ok (.getfield 12, 3) := by decide +kernel
theorem dX5_kindsAreAllMoves_12 : decode cX5_kindsAreAllMoves 12 = .ok (.invokevirtual 130, 3) := by decide +kernel
theorem dX5_kindsAreAllMoves_15 : decode cX5_kindsAreAllMoves 15 = .ok (.aload_n 0, 1) := by decide +kernel
theorem dX5_kindsAreAllMoves_16 : decode cX5_kindsAreAllMoves 16 = .ok (.getfield 42, 3) := by decide +kernel
theorem dX5_kindsAreAllMoves_19 : decode cX5_kindsAreAllMoves 19 = .ok (.iconst 3, 1) := by decide +kernel
theorem dX5_kindsAreAllMoves_20 : decode cX5_kindsAreAllMoves 20 = .ok (.iaload, 1) := by decide +kernel
theorem dX5_kindsAreAllMoves_21 : decode cX5_kindsAreAllMoves 21 = .ok (.aload_n 0, 1) := by decide +kernel
theorem dX5_kindsAreAllMoves_22 : decode cX5_kindsAreAllMoves 22 = .ok (.getfield 42, 3) := by decide +kernel
theorem dX5_kindsAreAllMoves_25 : decode cX5_kindsAreAllMoves 25 = .ok (.iconst 2, 1) := by decide +kernel
theorem dX5_kindsAreAllMoves_26 : decode cX5_kindsAreAllMoves 26 = .ok (.iaload, 1) := by decide +kernel
theorem dX5_kindsAreAllMoves_27 : decode cX5_kindsAreAllMoves 27 = .ok (.iadd, 1) := by decide +kernel
theorem dX5_kindsAreAllMoves_28 : decode cX5_kindsAreAllMoves 28 = .ok (.aload_n 0, 1) := by decide +kernel
theorem dX5_kindsAreAllMoves_29 : decode cX5_kindsAreAllMoves 29 = .ok (.getfield 42, 3) := by decide +kernel
theorem dX5_kindsAreAllMoves_32 : decode cX5_kindsAreAllMoves 32 = .ok (.iconst 1, 1) := by decide +kernel
theorem dX5_kindsAreAllMoves_33 : decode cX5_kindsAreAllMoves 33 = .ok (.iaload, 1) := by decide +kernel
theorem dX5_kindsAreAllMoves_34 : decode cX5_kindsAreAllMoves 34 = .ok (.iadd, 1) := by decide +kernel
theorem dX5_kindsAreAllMoves_35 : decode cX5_kindsAreAllMoves 35 = .ok (.aload_n 0, 1) := by decide +kernel
theorem dX5_kindsAreAllMoves_36 : decode cX5_kindsAreAllMoves 36 = .ok (.getfield 42, 3) := by decide +kernel
theorem dX5_kindsAreAllMoves_39 : decode cX5_kindsAreAllMoves 39 = .ok (.iconst 0, 1) := by decide +kernel
theorem dX5_kindsAreAllMoves_40 : decode cX5_kindsAreAllMoves 40 = .ok (.iaload, 1) := by decide +kernel
theorem dX5_kindsAreAllMoves_41 : decode cX5_kindsAreAllMoves 41 = .ok (.iadd, 1) := by decide +kernel
theorem dX5_kindsAreAllMoves_42 : decode cX5_kindsAreAllMoves 42 = .ok (.aload_n 0, 1) := by decide +kernel
theorem dX5_kindsAreAllMoves_43 : decode cX5_kindsAreAllMoves 43 = .ok (.getfield 35, 3) := by decide +kernel
theorem dX5_kindsAreAllMoves_46 : decode cX5_kindsAreAllMoves 46 = .ok (.invokevirtual 161, 3) := by decide +kernel
theorem dX5_kindsAreAllMoves_49 : decode cX5_kindsAreAllMoves 49 = .ok (.if_icmp .ne 7, 3) := by decide +kernel
theorem dX5_kindsAreAllMoves_52 : decode cX5_kindsAreAllMoves 52 = .ok (.iconst 1, 1) := by decide +kernel
theorem dX5_kindsAreAllMoves_53 : decode cX5_kindsAreAllMoves 53 = .ok (.goto 4, 3) := by decide +kernel
theorem dX5_kindsAreAllMoves_56 : decode cX5_kindsAreAllMoves 56 = .ok (.iconst 0, 1) := by decide +kernel
theorem dX5_kindsAreAllMoves_57 : decode cX5_kindsAreAllMoves 57 = .ok (.ireturn, 1) := by decide +kernel
theorem dX5_keysLeaveNoFlight_0 : decode cX5_keysLeaveNoFlight 0 = .ok (.aload_n 0, 1) := by decide +kernel
theorem dX5_keysLeaveNoFlight_1 : decode cX5_keysLeaveNoFlight 1 = .ok (.getfield 39, 3) := by decide +kernel
theorem dX5_keysLeaveNoFlight_4 : decode cX5_keysLeaveNoFlight 4 = .ok (.aload_n 0, 1) := by decide +kernel
theorem dX5_keysLeaveNoFlight_5 : decode cX5_keysLeaveNoFlight 5 = .ok (.getfield 12, 3) := by decide +kernel
theorem dX5_keysLeaveNoFlight_8 : decode cX5_keysLeaveNoFlight 8 = .ok (.invokevirtual 124, 3) := by decide +kernel
theorem dX5_keysLeaveNoFlight_11 : decode cX5_keysLeaveNoFlight 11 = .ok (.iconst 0, 1) := by decide +kernel
theorem dX5_keysLeaveNoFlight_12 : decode cX5_keysLeaveNoFlight 12 = .ok (.istore_n 1, 1) := by decide +kernel
theorem dX5_keysLeaveNoFlight_13 : decode cX5_keysLeaveNoFlight 13 = .ok (.iload_n 1, 1) := by decide +kernel
theorem dX5_keysLeaveNoFlight_14 : decode cX5_keysLeaveNoFlight 14 = .ok (.bipush 25, 2) := by decide +kernel
theorem dX5_keysLeaveNoFlight_16 : decode cX5_keysLeaveNoFlight 16 = .ok (.if_icmp .ge 56, 3) := by decide +kernel
theorem dX5_keysLeaveNoFlight_19 : decode cX5_keysLeaveNoFlight 19 = .ok (.iconst 0, 1) := by decide +kernel
theorem dX5_keysLeaveNoFlight_20 : decode cX5_keysLeaveNoFlight 20 = .ok (.istore_n 2, 1) := by decide +kernel
theorem dX5_keysLeaveNoFlight_21 : decode cX5_keysLeaveNoFlight 21 = .ok (.iload_n 2, 1) := by decide +kernel
theorem dX5_keysLeaveNoFlight_22 : decode cX5_keysLeaveNoFlight 22 = .ok (.bipush 25, 2) := by decide +kernel
theorem dX5_keysLeaveNoFlight_24 : decode cX5_keysLeaveNoFlight 24 = .ok (.if_icmp .ge 42, 3) := by decide +kernel
theorem dX5_keysLeaveNoFlight_27 : decode cX5_keysLeaveNoFlight 27 = .ok (.aload_n 0, 1) := by decide +kernel
theorem dX5_keysLeaveNoFlight_28 : decode cX5_keysLeaveNoFlight 28 = .ok (.getfield 39, 3) := by decide +kernel
theorem dX5_keysLeaveNoFlight_31 : decode cX5_keysLeaveNoFlight 31 = .ok (.getfield 275, 3) := by decide +kernel
theorem dX5_keysLeaveNoFlight_34 : decode cX5_keysLeaveNoFlight 34 = .ok (.iload_n 1, 1) := by decide +kernel
theorem dX5_keysLeaveNoFlight_35 : decode cX5_keysLeaveNoFlight 35 = .ok (.iaload, 1) := by decide +kernel
theorem dX5_keysLeaveNoFlight_36 : decode cX5_keysLeaveNoFlight 36 = .ok (.iload_n 2, 1) := by decide +kernel
theorem dX5_keysLeaveNoFlight_37 : decode cX5_keysLeaveNoFlight 37 = .ok (.invokestatic 278, 3) := by decide +kernel
theorem dX5_keysLeaveNoFlight_40 : decode cX5_keysLeaveNoFlight 40 = .ok (.ifCond .eq 20, 3) := by decide +kernel
theorem dX5_keysLeaveNoFlight_43 : decode cX5_keysLeaveNoFlight 43 = .ok (.aload_n 0, 1) := by decide +kernel
theorem dX5_keysLeaveNoFlight_44 : decode cX5_keysLeaveNoFlight 44 = .ok (.getfield 12, 3) := by decide +kernel
theorem dX5_keysLeaveNoFlight_47 : decode cX5_keysLeaveNoFlight 47 = .ok (.iload_n 1, 1) := by decide +kernel
theorem dX5_keysLeaveNoFlight_48 : decode cX5_keysLeaveNoFlight 48 = .ok (.iload_n 2, 1) := by decide +kernel
theorem dX5_keysLeaveNoFlight_49 : decode cX5_keysLeaveNoFlight 49 = .ok (.invokevirtual 152, 3) := by decide +kernel
theorem dX5_keysLeaveNoFlight_52 : decode cX5_keysLeaveNoFlight 52 = .ok (.invokestatic 142, 3) := by decide +kernel
theorem dX5_keysLeaveNoFlight_55 : decode cX5_keysLeaveNoFlight 55 = .ok (.ifCond .eq 5, 3) := by decide +kernel
theorem dX5_keysLeaveNoFlight_58 : decode cX5_keysLeaveNoFlight 58 = .ok (.iconst 0, 1) := by decide +kernel
theorem dX5_keysLeaveNoFlight_59 : decode cX5_keysLeaveNoFlight 59 = .ok (.ireturn, 1) := by decide +kernel
theorem dX5_keysLeaveNoFlight_60 : decode cX5_keysLeaveNoFlight 60 = .ok (.iinc 2 1, 3) := by decide +kernel
theorem dX5_keysLeaveNoFlight_63 : decode cX5_keysLeaveNoFlight 63 = .ok (.goto (-42), 3) := by decide +kernel
theorem dX5_keysLeaveNoFlight_66 : decode cX5_keysLeaveNoFlight 66 = .ok (.iinc 1 1, 3) := by decide +kernel
theorem dX5_keysLeaveNoFlight_69 : decode cX5_keysLeaveNoFlight 69 = .ok (.goto (-56), 3) := by decide +kernel
theorem dX5_keysLeaveNoFlight_72 : decode cX5_keysLeaveNoFlight 72 = .ok (.iconst 1, 1) := by decide +kernel
theorem dX5_keysLeaveNoFlight_73 : decode cX5_keysLeaveNoFlight 73 = .ok (.ireturn, 1) := by decide +kernel
theorem dX5_placeInOrder_0 : decode cX5_placeInOrder 0 = .ok (.iload_n 1, 1) := by decide +kernel
theorem dX5_placeInOrder_1 : decode cX5_placeInOrder 1 = .ok (.invokestatic 95, 3) := by decide +kernel
theorem dX5_placeInOrder_4 : decode cX5_placeInOrder 4 = .ok (.ifCond .ne 5, 3) := by decide +kernel
theorem dX5_placeInOrder_7 : decode cX5_placeInOrder 7 = .ok (.iconst (-1), 1) := by decide +kernel
theorem dX5_placeInOrder_8 : decode cX5_placeInOrder 8 = .ok (.ireturn, 1) := by decide +kernel
theorem dX5_placeInOrder_9 : decode cX5_placeInOrder 9 = .ok (.iconst 0, 1) := by decide +kernel
theorem dX5_placeInOrder_10 : decode cX5_placeInOrder 10 = .ok (.istore_n 2, 1) := by decide +kernel
theorem dX5_placeInOrder_11 : decode cX5_placeInOrder 11 = .ok (.iconst 0, 1) := by decide +kernel
theorem dX5_placeInOrder_12 : decode cX5_placeInOrder 12 = .ok (.istore_n 3, 1) := by decide +kernel
theorem dX5_placeInOrder_13 : decode cX5_placeInOrder 13 = .ok (.iload_n 3, 1) := by decide +kernel
theorem dX5_placeInOrder_14 : decode cX5_placeInOrder 14 = .ok (.bipush 25, 2) := by decide +kernel
theorem dX5_placeInOrder_16 : decode cX5_placeInOrder 16 = .ok (.if_icmp .ge 85, 3) := by decide +kernel
theorem dX5_placeInOrder_19 : decode cX5_placeInOrder 19 = .ok (.aload_n 0, 1) := by decide +kernel
theorem dX5_placeInOrder_20 : decode cX5_placeInOrder 20 = .ok (.getfield 46, 3) := by decide +kernel
theorem dX5_placeInOrder_23 : decode cX5_placeInOrder 23 = .ok (.iload_n 3, 1) := by decide +kernel
theorem dX5_placeInOrder_24 : decode cX5_placeInOrder 24 = .ok (.iaload, 1) := by decide +kernel
theorem dX5_placeInOrder_25 : decode cX5_placeInOrder 25 = .ok (.aload_n 0, 1) := by decide +kernel
theorem dX5_placeInOrder_26 : decode cX5_placeInOrder 26 = .ok (.getfield 46, 3) := by decide +kernel
theorem dX5_placeInOrder_29 : decode cX5_placeInOrder 29 = .ok (.iload_n 1, 1) := by decide +kernel
theorem dX5_placeInOrder_30 : decode cX5_placeInOrder 30 = .ok (.iaload, 1) := by decide +kernel
theorem dX5_placeInOrder_31 : decode cX5_placeInOrder 31 = .ok (.if_icmp .le 7, 3) := by decide +kernel
theorem dX5_placeInOrder_34 : decode cX5_placeInOrder 34 = .ok (.iconst 1, 1) := by decide +kernel
theorem dX5_placeInOrder_35 : decode cX5_placeInOrder 35 = .ok (.goto 4, 3) := by decide +kernel
theorem dX5_placeInOrder_38 : decode cX5_placeInOrder 38 = .ok (.iconst 0, 1) := by decide +kernel
theorem dX5_placeInOrder_39 : decode cX5_placeInOrder 39 = .ok (.istore 4, 2) := by decide +kernel
theorem dX5_placeInOrder_41 : decode cX5_placeInOrder 41 = .ok (.aload_n 0, 1) := by decide +kernel
theorem dX5_placeInOrder_42 : decode cX5_placeInOrder 42 = .ok (.getfield 46, 3) := by decide +kernel
theorem dX5_placeInOrder_45 : decode cX5_placeInOrder 45 = .ok (.iload_n 3, 1) := by decide +kernel
theorem dX5_placeInOrder_46 : decode cX5_placeInOrder 46 = .ok (.iaload, 1) := by decide +kernel
theorem dX5_placeInOrder_47 : decode cX5_placeInOrder 47 = .ok (.aload_n 0, 1) := by decide +kernel
theorem dX5_placeInOrder_48 : decode cX5_placeInOrder 48 = .ok (.getfield 46, 3) := by decide +kernel
theorem dX5_placeInOrder_51 : decode cX5_placeInOrder 51 = .ok (.iload_n 1, 1) := by decide +kernel
theorem dX5_placeInOrder_52 : decode cX5_placeInOrder 52 = .ok (.iaload, 1) := by decide +kernel
theorem dX5_placeInOrder_53 : decode cX5_placeInOrder 53 = .ok (.if_icmp .ne 12, 3) := by decide +kernel
theorem dX5_placeInOrder_56 : decode cX5_placeInOrder 56 = .ok (.iload_n 3, 1) := by decide +kernel
theorem dX5_placeInOrder_57 : decode cX5_placeInOrder 57 = .ok (.iload_n 1, 1) := by decide +kernel
theorem dX5_placeInOrder_58 : decode cX5_placeInOrder 58 = .ok (.if_icmp .ge 7, 3) := by decide +kernel
theorem dX5_placeInOrder_61 : decode cX5_placeInOrder 61 = .ok (.iconst 1, 1) := by decide +kernel
theorem dX5_placeInOrder_62 : decode cX5_placeInOrder 62 = .ok (.goto 4, 3) := by decide +kernel
theorem dX5_placeInOrder_65 : decode cX5_placeInOrder 65 = .ok (.iconst 0, 1) := by decide +kernel
theorem dX5_placeInOrder_66 : decode cX5_placeInOrder 66 = .ok (.istore 5, 2) := by decide +kernel
theorem dX5_placeInOrder_68 : decode cX5_placeInOrder 68 = .ok (.aload_n 0, 1) := by decide +kernel
theorem dX5_placeInOrder_69 : decode cX5_placeInOrder 69 = .ok (.getfield 12, 3) := by decide +kernel
theorem dX5_placeInOrder_72 : decode cX5_placeInOrder 72 = .ok (.iload_n 3, 1) := by decide +kernel
theorem dX5_placeInOrder_73 : decode cX5_placeInOrder 73 = .ok (.invokevirtual 99, 3) := by decide +kernel
theorem dX5_placeInOrder_76 : decode cX5_placeInOrder 76 = .ok (.invokestatic 171, 3) := by decide +kernel
theorem dX5_placeInOrder_79 : decode cX5_placeInOrder 79 = .ok (.ifCond .eq 16, 3) := by decide +kernel
theorem dX5_placeInOrder_82 : decode cX5_placeInOrder 82 = .ok (.iload 4, 2) := by decide +kernel
theorem dX5_placeInOrder_84 : decode cX5_placeInOrder 84 = .ok (.ifCond .ne 8, 3) := by decide +kernel
theorem dX5_placeInOrder_87 : decode cX5_placeInOrder 87 = .ok (.iload 5, 2) := by decide +kernel
theorem dX5_placeInOrder_89 : decode cX5_placeInOrder 89 = .ok (.ifCond .eq 6, 3) := by decide +kernel
theorem dX5_placeInOrder_92 : decode cX5_placeInOrder 92 = .ok (.iinc 2 1, 3) := by decide +kernel
theorem dX5_placeInOrder_95 : decode cX5_placeInOrder 95 = .ok (.iinc 3 1, 3) := by decide +kernel
theorem dX5_placeInOrder_98 : decode cX5_placeInOrder 98 = .ok (.goto (-85), 3) := by decide +kernel
theorem dX5_placeInOrder_101 : decode cX5_placeInOrder 101 = .ok (.iload_n 2, 1) := by decide +kernel
theorem dX5_placeInOrder_102 : decode cX5_placeInOrder 102 = .ok (.ireturn, 1) := by decide +kernel
theorem dX5_isSquare_0 : decode cX5_isSquare 0 = .ok (.iload_n 0, 1) := by decide +kernel
theorem dX5_isSquare_1 : decode cX5_isSquare 1 = .ok (.ifCond .lt 13, 3) := by decide +kernel
theorem dX5_isSquare_4 : decode cX5_isSquare 4 = .ok (.iload_n 0, 1) := by decide +kernel
theorem dX5_isSquare_5 : decode cX5_isSquare 5 = .ok (.bipush 25, 2) := by decide +kernel
theorem dX5_isSquare_7 : decode cX5_isSquare 7 = .ok (.if_icmp .ge 7, 3) := by decide +kernel
theorem dX5_isSquare_10 : decode cX5_isSquare 10 = .ok (.iconst 1, 1) := by decide +kernel
theorem dX5_isSquare_11 : decode cX5_isSquare 11 = .ok (.goto 4, 3) := by decide +kernel
theorem dX5_isSquare_14 : decode cX5_isSquare 14 = .ok (.iconst 0, 1) := by decide +kernel
theorem dX5_isSquare_15 : decode cX5_isSquare 15 = .ok (.ireturn, 1) := by decide +kernel
theorem dX5_isWhite_0 : decode cX5_isWhite 0 = .ok (.iload_n 0, 1) := by decide +kernel
theorem dX5_isWhite_1 : decode cX5_isWhite 1 = .ok (.iconst 1, 1) := by decide +kernel
theorem dX5_isWhite_2 : decode cX5_isWhite 2 = .ok (.if_icmp .lt 12, 3) := by decide +kernel
theorem dX5_isWhite_5 : decode cX5_isWhite 5 = .ok (.iload_n 0, 1) := by decide +kernel
theorem dX5_isWhite_6 : decode cX5_isWhite 6 = .ok (.iconst 5, 1) := by decide +kernel
theorem dX5_isWhite_7 : decode cX5_isWhite 7 = .ok (.if_icmp .gt 7, 3) := by decide +kernel
theorem dX5_isWhite_10 : decode cX5_isWhite 10 = .ok (.iconst 1, 1) := by decide +kernel
theorem dX5_isWhite_11 : decode cX5_isWhite 11 = .ok (.goto 4, 3) := by decide +kernel
theorem dX5_isWhite_14 : decode cX5_isWhite 14 = .ok (.iconst 0, 1) := by decide +kernel
theorem dX5_isWhite_15 : decode cX5_isWhite 15 = .ok (.ireturn, 1) := by decide +kernel
theorem dX5_isKing_0 : decode cX5_isKing 0 = .ok (.iload_n 0, 1) := by decide +kernel
theorem dX5_isKing_1 : decode cX5_isKing 1 = .ok (.iconst 1, 1) := by decide +kernel
theorem dX5_isKing_2 : decode cX5_isKing 2 = .ok (.if_icmp .eq 9, 3) := by decide +kernel
theorem dX5_isKing_5 : decode cX5_isKing 5 = .ok (.iload_n 0, 1) := by decide +kernel
theorem dX5_isKing_6 : decode cX5_isKing 6 = .ok (.bipush 7, 2) := by decide +kernel
theorem dX5_isKing_8 : decode cX5_isKing 8 = .ok (.if_icmp .ne 7, 3) := by decide +kernel
theorem dX5_isKing_11 : decode cX5_isKing 11 = .ok (.iconst 1, 1) := by decide +kernel
theorem dX5_isKing_12 : decode cX5_isKing 12 = .ok (.goto 4, 3) := by decide +kernel
theorem dX5_isKing_15 : decode cX5_isKing 15 = .ok (.iconst 0, 1) := by decide +kernel
theorem dX5_isKing_16 : decode cX5_isKing 16 = .ok (.ireturn, 1) := by decide +kernel
theorem dX5_hasSquare_0 : decode cX5_hasSquare 0 = .ok (.iload_n 1, 1) := by decide +kernel
theorem dX5_hasSquare_1 : decode cX5_hasSquare 1 = .ok (.invokestatic 95, 3) := by decide +kernel
theorem dX5_hasSquare_4 : decode cX5_hasSquare 4 = .ok (.ifCond .eq 15, 3) := by decide +kernel
theorem dX5_hasSquare_7 : decode cX5_hasSquare 7 = .ok (.iload_n 0, 1) := by decide +kernel
theorem dX5_hasSquare_8 : decode cX5_hasSquare 8 = .ok (.iload_n 1, 1) := by decide +kernel
theorem dX5_hasSquare_9 : decode cX5_hasSquare 9 = .ok (.ishr, 1) := by decide +kernel
theorem dX5_hasSquare_10 : decode cX5_hasSquare 10 = .ok (.iconst 1, 1) := by decide +kernel
theorem dX5_hasSquare_11 : decode cX5_hasSquare 11 = .ok (.iand, 1) := by decide +kernel
theorem dX5_hasSquare_12 : decode cX5_hasSquare 12 = .ok (.ifCond .eq 7, 3) := by decide +kernel
theorem dX5_hasSquare_15 : decode cX5_hasSquare 15 = .ok (.iconst 1, 1) := by decide +kernel
theorem dX5_hasSquare_16 : decode cX5_hasSquare 16 = .ok (.goto 4, 3) := by decide +kernel
theorem dX5_hasSquare_19 : decode cX5_hasSquare 19 = .ok (.iconst 0, 1) := by decide +kernel
theorem dX5_hasSquare_20 : decode cX5_hasSquare 20 = .ok (.ireturn, 1) := by decide +kernel
theorem dX5_squaresIn_0 : decode cX5_squaresIn 0 = .ok (.iload_n 0, 1) := by decide +kernel
theorem dX5_squaresIn_1 : decode cX5_squaresIn 1 = .ok (.ldc_w 284, 3) := by decide +kernel
theorem dX5_squaresIn_4 : decode cX5_squaresIn 4 = .ok (.iand, 1) := by decide +kernel
theorem dX5_squaresIn_5 : decode cX5_squaresIn 5 = .ok (.ireturn, 1) := by decide +kernel
theorem dX5_bitsOf_0 : decode cX5_bitsOf 0 = .ok (.iconst 0, 1) := by decide +kernel
theorem dX5_bitsOf_1 : decode cX5_bitsOf 1 = .ok (.istore_n 1, 1) := by decide +kernel
theorem dX5_bitsOf_2 : decode cX5_bitsOf 2 = .ok (.iconst 0, 1) := by decide +kernel
theorem dX5_bitsOf_3 : decode cX5_bitsOf 3 = .ok (.istore_n 2, 1) := by decide +kernel
theorem dX5_bitsOf_4 : decode cX5_bitsOf 4 = .ok (.iload_n 2, 1) := by decide +kernel
theorem dX5_bitsOf_5 : decode cX5_bitsOf 5 = .ok (.bipush 25, 2) := by decide +kernel
theorem dX5_bitsOf_7 : decode cX5_bitsOf 7 = .ok (.if_icmp .ge 17, 3) := by decide +kernel
theorem dX5_bitsOf_10 : decode cX5_bitsOf 10 = .ok (.iload_n 1, 1) := by decide +kernel
theorem dX5_bitsOf_11 : decode cX5_bitsOf 11 = .ok (.iload_n 0, 1) := by decide +kernel
theorem dX5_bitsOf_12 : decode cX5_bitsOf 12 = .ok (.iload_n 2, 1) := by decide +kernel
theorem dX5_bitsOf_13 : decode cX5_bitsOf 13 = .ok (.ishr, 1) := by decide +kernel
theorem dX5_bitsOf_14 : decode cX5_bitsOf 14 = .ok (.iconst 1, 1) := by decide +kernel
theorem dX5_bitsOf_15 : decode cX5_bitsOf 15 = .ok (.iand, 1) := by decide +kernel
theorem dX5_bitsOf_16 : decode cX5_bitsOf 16 = .ok (.iadd, 1) := by decide +kernel
theorem dX5_bitsOf_17 : decode cX5_bitsOf 17 = .ok (.istore_n 1, 1) := by decide +kernel
theorem dX5_bitsOf_18 : decode cX5_bitsOf 18 = .ok (.iinc 2 1, 3) := by decide +kernel
theorem dX5_bitsOf_21 : decode cX5_bitsOf 21 = .ok (.goto (-17), 3) := by decide +kernel
theorem dX5_bitsOf_24 : decode cX5_bitsOf 24 = .ok (.iload_n 1, 1) := by decide +kernel
theorem dX5_bitsOf_25 : decode cX5_bitsOf 25 = .ok (.ireturn, 1) := by decide +kernel
theorem dX5_lowestIn_0 : decode cX5_lowestIn 0 = .ok (.iconst 0, 1) := by decide +kernel
theorem dX5_lowestIn_1 : decode cX5_lowestIn 1 = .ok (.istore_n 1, 1) := by decide +kernel
theorem dX5_lowestIn_2 : decode cX5_lowestIn 2 = .ok (.iload_n 1, 1) := by decide +kernel
theorem dX5_lowestIn_3 : decode cX5_lowestIn 3 = .ok (.bipush 25, 2) := by decide +kernel
theorem dX5_lowestIn_5 : decode cX5_lowestIn 5 = .ok (.if_icmp .ge 19, 3) := by decide +kernel
theorem dX5_lowestIn_8 : decode cX5_lowestIn 8 = .ok (.iload_n 0, 1) := by decide +kernel
theorem dX5_lowestIn_9 : decode cX5_lowestIn 9 = .ok (.iload_n 1, 1) := by decide +kernel
theorem dX5_lowestIn_10 : decode cX5_lowestIn 10 = .ok (.ishr, 1) := by decide +kernel
theorem dX5_lowestIn_11 : decode cX5_lowestIn 11 = .ok (.iconst 1, 1) := by decide +kernel
theorem dX5_lowestIn_12 : decode cX5_lowestIn 12 = .ok (.iand, 1) := by decide +kernel
theorem dX5_lowestIn_13 : decode cX5_lowestIn 13 = .ok (.ifCond .eq 5, 3) := by decide +kernel
theorem dX5_lowestIn_16 : decode cX5_lowestIn 16 = .ok (.iload_n 1, 1) := by decide +kernel
theorem dX5_lowestIn_17 : decode cX5_lowestIn 17 = .ok (.ireturn, 1) := by decide +kernel
theorem dX5_lowestIn_18 : decode cX5_lowestIn 18 = .ok (.iinc 1 1, 3) := by decide +kernel
theorem dX5_lowestIn_21 : decode cX5_lowestIn 21 = .ok (.goto (-19), 3) := by decide +kernel
theorem dX5_lowestIn_24 : decode cX5_lowestIn 24 = .ok (.iconst (-1), 1) := by decide +kernel
theorem dX5_lowestIn_25 : decode cX5_lowestIn 25 = .ok (.ireturn, 1) := by decide +kernel
theorem dX5_bitsOfShare_0 : decode cX5_bitsOfShare 0 = .ok (.fload_n 0, 1) := by decide +kernel
theorem dX5_bitsOfShare_1 : decode cX5_bitsOfShare 1 = .ok (.fconst 0, 1) := by decide +kernel
theorem dX5_bitsOfShare_2 : decode cX5_bitsOfShare 2 = .ok (.fcmp .g, 1) := by decide +kernel
theorem dX5_bitsOfShare_3 : decode cX5_bitsOfShare 3 = .ok (.ifCond .gt 5, 3) := by decide +kernel
theorem dX5_bitsOfShare_6 : decode cX5_bitsOfShare 6 = .ok (.iconst 0, 1) := by decide +kernel
theorem dX5_bitsOfShare_7 : decode cX5_bitsOfShare 7 = .ok (.ireturn, 1) := by decide +kernel
theorem dX5_bitsOfShare_8 : decode cX5_bitsOfShare 8 = .ok (.fload_n 0, 1) := by decide +kernel
theorem dX5_bitsOfShare_9 : decode cX5_bitsOfShare 9 = .ok (.fstore_n 1, 1) := by decide +kernel
theorem dX5_bitsOfShare_10 : decode cX5_bitsOfShare 10 = .ok (.bipush 127, 2) := by decide +kernel
theorem dX5_bitsOfShare_12 : decode cX5_bitsOfShare 12 = .ok (.istore_n 2, 1) := by decide +kernel
theorem dX5_bitsOfShare_13 : decode cX5_bitsOfShare 13 = .ok (.iconst 0, 1) := by decide +kernel
theorem dX5_bitsOfShare_14 : decode cX5_bitsOfShare 14 = .ok (.istore_n 3, 1) := by decide +kernel
theorem dX5_bitsOfShare_15 : decode cX5_bitsOfShare 15 = .ok (.iload_n 3, 1) := by decide +kernel
theorem dX5_bitsOfShare_16 : decode cX5_bitsOfShare 16 = .ok (.iconst 5, 1) := by decide +kernel
theorem dX5_bitsOfShare_17 : decode cX5_bitsOfShare 17 = .ok (.if_icmp .ge 22, 3) := by decide +kernel
theorem dX5_bitsOfShare_20 : decode cX5_bitsOfShare 20 = .ok (.fload_n 1, 1) := by decide +kernel
theorem dX5_bitsOfShare_21 : decode cX5_bitsOfShare 21 = .ok (.fconst 1, 1) := by decide +kernel
theorem dX5_bitsOfShare_22 : decode cX5_bitsOfShare 22 = .ok (.fcmp .g, 1) := by decide +kernel
theorem dX5_bitsOfShare_23 : decode cX5_bitsOfShare 23 = .ok (.ifCond .ge 16, 3) := by decide +kernel
theorem dX5_bitsOfShare_26 : decode cX5_bitsOfShare 26 = .ok (.fload_n 1, 1) := by decide +kernel
theorem dX5_bitsOfShare_27 : decode cX5_bitsOfShare 27 = .ok (.fconst 2, 1) := by decide +kernel
theorem dX5_bitsOfShare_28 : decode cX5_bitsOfShare 28 = .ok (.fmul, 1) := by decide +kernel
theorem dX5_bitsOfShare_29 : decode cX5_bitsOfShare 29 = .ok (.fstore_n 1, 1) := by decide +kernel
theorem dX5_bitsOfShare_30 : decode cX5_bitsOfShare 30 = .ok (.iinc 2 (-1), 3) := by decide +kernel
theorem dX5_bitsOfShare_33 : decode cX5_bitsOfShare 33 = .ok (.iinc 3 1, 3) := by decide +kernel
theorem dX5_bitsOfShare_36 : decode cX5_bitsOfShare 36 = .ok (.goto (-21), 3) := by decide +kernel
theorem dX5_bitsOfShare_39 : decode cX5_bitsOfShare 39 = .ok (.iload_n 2, 1) := by decide +kernel
theorem dX5_bitsOfShare_40 : decode cX5_bitsOfShare 40 = .ok (.bipush 23, 2) := by decide +kernel
theorem dX5_bitsOfShare_42 : decode cX5_bitsOfShare 42 = .ok (.ishl, 1) := by decide +kernel
theorem dX5_bitsOfShare_43 : decode cX5_bitsOfShare 43 = .ok (.fload_n 1, 1) := by decide +kernel
theorem dX5_bitsOfShare_44 : decode cX5_bitsOfShare 44 = .ok (.fconst 1, 1) := by decide +kernel
theorem dX5_bitsOfShare_45 : decode cX5_bitsOfShare 45 = .ok (.fsub, 1) := by decide +kernel
theorem dX5_bitsOfShare_46 : decode cX5_bitsOfShare 46 = .ok (.ldc_w 285, 3) := by decide +kernel
theorem dX5_bitsOfShare_49 : decode cX5_bitsOfShare 49 = .ok (.fmul, 1) := by decide +kernel
theorem dX5_bitsOfShare_50 : decode cX5_bitsOfShare 50 = .ok (.f2i, 1) := by decide +kernel
theorem dX5_bitsOfShare_51 : decode cX5_bitsOfShare 51 = .ok (.iadd, 1) := by decide +kernel
theorem dX5_bitsOfShare_52 : decode cX5_bitsOfShare 52 = .ok (.ireturn, 1) := by decide +kernel
end
section
theorem dX6_init_0 : decode cX6_init 0 = .ok (.aload_n 0, 1) := by decide +kernel
theorem dX6_init_1 : decode cX6_init 1 = .ok (.invokespecial 3, 3) := by decide +kernel
theorem dX6_init_4 : decode cX6_init 4 = .ok (.aload_n 0, 1) := by decide +kernel
theorem dX6_init_5 : decode cX6_init 5 = .ok (.bipush 29, 2) := by decide +kernel
theorem dX6_init_7 : decode cX6_init 7 = .ok (.newarray .int, 2) := by decide +kernel
theorem dX6_init_9 : decode cX6_init 9 = .ok (.putfield 9, 3) := by decide +kernel
theorem dX6_init_12 : decode cX6_init 12 = .ok (.aload_n 0, 1) := by decide +kernel
theorem dX6_init_13 : decode cX6_init 13 = .ok (.bipush 29, 2) := by decide +kernel
theorem dX6_init_15 : decode cX6_init 15 = .ok (.newarray .int, 2) := by decide +kernel
theorem dX6_init_17 : decode cX6_init 17 = .ok (.putfield 13, 3) := by decide +kernel
theorem dX6_init_20 : decode cX6_init 20 = .ok (.aload_n 0, 1) := by decide +kernel
theorem dX6_init_21 : decode cX6_init 21 = .ok (.bipush 29, 2) := by decide +kernel
theorem dX6_init_23 : decode cX6_init 23 = .ok (.newarray .int, 2) := by decide +kernel
theorem dX6_init_25 : decode cX6_init 25 = .ok (.putfield 16, 3) := by decide +kernel
theorem dX6_init_28 : decode cX6_init 28 = .ok (.aload_n 0, 1) := by decide +kernel
theorem dX6_init_29 : decode cX6_init 29 = .ok (.sipush 232, 3) := by decide +kernel
theorem dX6_init_32 : decode cX6_init 32 = .ok (.newarray .int, 2) := by decide +kernel
theorem dX6_init_34 : decode cX6_init 34 = .ok (.putfield 19, 3) := by decide +kernel
theorem dX6_init_37 : decode cX6_init 37 = .ok (.aload_n 0, 1) := by decide +kernel
theorem dX6_init_38 : decode cX6_init 38 = .ok (.bipush (-4), 2) := by decide +kernel
theorem dX6_init_40 : decode cX6_init 40 = .ok (.putfield 22, 3) := by decide +kernel
theorem dX6_init_43 : decode cX6_init 43 = .ok (.aload_n 0, 1) := by decide +kernel
theorem dX6_init_44 : decode cX6_init 44 = .ok (.sipush 300, 3) := by decide +kernel
theorem dX6_init_47 : decode cX6_init 47 = .ok (.newarray .int, 2) := by decide +kernel
theorem dX6_init_49 : decode cX6_init 49 = .ok (.putfield 26, 3) := by decide +kernel
theorem dX6_init_52 : decode cX6_init 52 = .ok (.aload_n 0, 1) := by decide +kernel
theorem dX6_init_53 : decode cX6_init 53 = .ok (.sipush 300, 3) := by decide +kernel
theorem dX6_init_56 : decode cX6_init 56 = .ok (.newarray .int, 2) := by decide +kernel
theorem dX6_init_58 : decode cX6_init 58 = .ok (.putfield 29, 3) := by decide +kernel
theorem dX6_init_61 : decode cX6_init 61 = .ok (.aload_n 0, 1) := by decide +kernel
theorem dX6_init_62 : decode cX6_init 62 = .ok (.bipush 25, 2) := by decide +kernel
theorem dX6_init_64 : decode cX6_init 64 = .ok (.newarray .int, 2) := by decide +kernel
theorem dX6_init_66 : decode cX6_init 66 = .ok (.putfield 32, 3) := by decide +kernel
theorem dX6_init_69 : decode cX6_init 69 = .ok (.aload_n 0, 1) := by decide +kernel
theorem dX6_init_70 : decode cX6_init 70 = .ok (.bipush 40, 2) := by decide +kernel
theorem dX6_init_72 : decode cX6_init 72 = .ok (.newarray .char, 2) := by decide +kernel
theorem dX6_init_74 : decode cX6_init 74 = .ok (.putfield 35, 3) := by decide +kernel
theorem dX6_init_77 : decode cX6_init 77 = .ok (.aload_n 0, 1) := by decide +kernel
theorem dX6_init_78 : decode cX6_init 78 = .ok (.bipush 70, 2) := by decide +kernel
theorem dX6_init_80 : decode cX6_init 80 = .ok (.newarray .char, 2) := by decide +kernel
theorem dX6_init_82 : decode cX6_init 82 = .ok (.putfield 39, 3) := by decide +kernel
theorem dX6_init_85 : decode cX6_init 85 = .ok (.aload_n 0, 1) := by decide +kernel
theorem dX6_init_86 : decode cX6_init 86 = .ok (.sipush 210, 3) := by decide +kernel
theorem dX6_init_89 : decode cX6_init 89 = .ok (.newarray .int, 2) := by decide +kernel
theorem dX6_init_91 : decode cX6_init 91 = .ok (.putfield 42, 3) := by decide +kernel
theorem dX6_init_94 : decode cX6_init 94 = .ok (.return_, 1) := by decide +kernel
theorem dX6_in_0 : decode cX6_in 0 = .ok (.iload_n 0, 1) := by decide +kernel
theorem dX6_in_1 : decode cX6_in 1 = .ok (.iload_n 1, 1) := by decide +kernel
theorem dX6_in_2 : decode cX6_in 2 = .ok (.if_icmp .lt 12, 3) := by decide +kernel
theorem dX6_in_5 : decode cX6_in 5 = .ok (.iload_n 0, 1) := by decide +kernel
theorem dX6_in_6 : decode cX6_in 6 = .ok (.iload_n 2, 1) := by decide +kernel
theorem dX6_in_7 : decode cX6_in 7 = .ok (.if_icmp .gt 7, 3) := by decide +kernel
theorem dX6_in_10 : decode cX6_in 10 = .ok (.iconst 1, 1) := by decide +kernel
theorem dX6_in_11 : decode cX6_in 11 = .ok (.goto 4, 3) := by decide +kernel
theorem dX6_in_14 : decode cX6_in 14 = .ok (.iconst 0, 1) := by decide +kernel
theorem dX6_in_15 : decode cX6_in 15 = .ok (.ireturn, 1) := by decide +kernel
theorem dX6_keep_0 : decode cX6_keep 0 = .ok (.aload_n 0, 1) := by decide +kernel
theorem dX6_keep_1 : decode cX6_keep 1 = .ok (.getfield 9, 3) := by decide +kernel
theorem dX6_keep_4 : decode cX6_keep 4 = .ok (.iconst 0, 1) := by decide +kernel
theorem dX6_keep_5 : decode cX6_keep 5 = .ok (.aload_n 0, 1) := by decide +kernel
theorem dX6_keep_6 : decode cX6_keep 6 = .ok (.getfield 13, 3) := by decide +kernel
theorem dX6_keep_9 : decode cX6_keep 9 = .ok (.iconst 0, 1) := by decide +kernel
theorem dX6_keep_10 : decode cX6_keep 10 = .ok (.bipush 29, 2) := by decide +kernel
theorem dX6_keep_12 : decode cX6_keep 12 = .ok (.invokestatic 45, 3) := by decide +kernel
theorem dX6_keep_15 : decode cX6_keep 15 = .ok (.return_, 1) := by decide +kernel
theorem dX6_ends_0 : decode cX6_ends 0 = .ok (.iload_n 1, 1) := by decide +kernel
theorem dX6_ends_1 : decode cX6_ends 1 = .ok (.ifCond .ge 20, 3) := by decide +kernel
theorem dX6_ends_4 : decode cX6_ends 4 = .ok (.aload_n 0, 1) := by decide +kernel
theorem dX6_ends_5 : decode cX6_ends 5 = .ok (.getfield 13, 3) := by decide +kernel
theorem dX6_ends_8 : decode cX6_ends 8 = .ok (.iconst 0, 1) := by decide +kernel
theorem dX6_ends_9 : decode cX6_ends 9 = .ok (.aload_n 0, 1) := by decide +kernel
theorem dX6_ends_10 : decode cX6_ends 10 = .ok (.getfield 9, 3) := by decide +kernel
theorem dX6_ends_13 : decode cX6_ends 13 = .ok (.iconst 0, 1) := by decide +kernel
theorem dX6_ends_14 : decode cX6_ends 14 = .ok (.bipush 29, 2) := by decide +kernel
theorem dX6_ends_16 : decode cX6_ends 16 = .ok (.invokestatic 45, 3) := by decide +kernel
theorem dX6_ends_19 : decode cX6_ends 19 = .ok (.iload_n 1, 1) := by decide +kernel
theorem dX6_ends_20 : decode cX6_ends 20 = .ok (.ireturn, 1) := by decide +kernel
theorem dX6_ends_21 : decode cX6_ends 21 = .ok (.aload_n 0, 1) := by decide +kernel
theorem dX6_ends_22 : decode cX6_ends 22 = .ok (.getfield 51, 3) := by decide +kernel
theorem dX6_ends_25 : decode cX6_ends 25 = .ok (.bipush 8, 2) := by decide +kernel
theorem dX6_ends_27 : decode cX6_ends 27 = .ok (.if_icmp .ne 30, 3) := by decide +kernel
theorem dX6_ends_30 : decode cX6_ends 30 = .ok (.aload_n 0, 1) := by decide +kernel
theorem dX6_ends_31 : decode cX6_ends 31 = .ok (.getfield 19, 3) := by decide +kernel
theorem dX6_ends_34 : decode cX6_ends 34 = .ok (.bipush 29, 2) := by decide +kernel
theorem dX6_ends_36 : decode cX6_ends 36 = .ok (.aload_n 0, 1) := by decide +kernel
theorem dX6_ends_37 : decode cX6_ends 37 = .ok (.getfield 19, 3) := by decide +kernel
theorem dX6_ends_40 : decode cX6_ends 40 = .ok (.iconst 0, 1) := by decide +kernel
theorem dX6_ends_41 : decode cX6_ends 41 = .ok (.sipush 203, 3) := by decide +kernel
theorem dX6_ends_44 : decode cX6_ends 44 = .ok (.invokestatic 45, 3) := by decide +kernel
theorem dX6_ends_47 : decode cX6_ends 47 = .ok (.aload_n 0, 1) := by decide +kernel
theorem dX6_ends_48 : decode cX6_ends 48 = .ok (.dup, 1) := by decide +kernel
theorem dX6_ends_49 : decode cX6_ends 49 = .ok (.getfield 51, 3) := by decide +kernel
theorem dX6_ends_52 : decode cX6_ends 52 = .ok (.iconst 1, 1) := by decide +kernel
theorem dX6_ends_53 : decode cX6_ends 53 = .ok (.isub, 1) := by decide +kernel
theorem dX6_ends_54 : decode cX6_ends 54 = .ok (.putfield 51, 3) := by decide +kernel
theorem dX6_ends_57 : decode cX6_ends 57 = .ok (.aload_n 0, 1) := by decide +kernel
theorem dX6_ends_58 : decode cX6_ends 58 = .ok (.getfield 13, 3) := by decide +kernel
theorem dX6_ends_61 : decode cX6_ends 61 = .ok (.iconst 0, 1) := by decide +kernel
theorem dX6_ends_62 : decode cX6_ends 62 = .ok (.aload_n 0, 1) := by decide +kernel
theorem dX6_ends_63 : decode cX6_ends 63 = .ok (.getfield 19, 3) := by decide +kernel
theorem dX6_ends_66 : decode cX6_ends 66 = .ok (.bipush 29, 2) := by decide +kernel
theorem dX6_ends_68 : decode cX6_ends 68 = .ok (.aload_n 0, 1) := by decide +kernel
theorem dX6_ends_69 : decode cX6_ends 69 = .ok (.getfield 51, 3) := by decide +kernel
theorem dX6_ends_72 : decode cX6_ends 72 = .ok (.imul, 1) := by decide +kernel
theorem dX6_ends_73 : decode cX6_ends 73 = .ok (.bipush 29, 2) := by decide +kernel
theorem dX6_ends_75 : decode cX6_ends 75 = .ok (.invokestatic 45, 3) := by decide +kernel
theorem dX6_ends_78 : decode cX6_ends 78 = .ok (.aload_n 0, 1) := by decide +kernel
theorem dX6_ends_79 : decode cX6_ends 79 = .ok (.dup, 1) := by decide +kernel
theorem dX6_ends_80 : decode cX6_ends 80 = .ok (.getfield 51, 3) := by decide +kernel
theorem dX6_ends_83 : decode cX6_ends 83 = .ok (.iconst 1, 1) := by decide +kernel
theorem dX6_ends_84 : decode cX6_ends 84 = .ok (.iadd, 1) := by decide +kernel
theorem dX6_ends_85 : decode cX6_ends 85 = .ok (.putfield 51, 3) := by decide +kernel
theorem dX6_ends_88 : decode cX6_ends 88 = .ok (.iload_n 1, 1) := by decide +kernel
theorem dX6_ends_89 : decode cX6_ends 89 = .ok (.ireturn, 1) := by decide +kernel
theorem dX6_refuse_0 : decode cX6_refuse 0 = .ok (.aload_n 0, 1) := by decide +kernel
theorem dX6_refuse_1 : decode cX6_refuse 1 = .ok (.iload_n 1, 1) := by decide +kernel
theorem dX6_refuse_2 : decode cX6_refuse 2 = .ok (.putfield 54, 3) := by decide +kernel
theorem dX6_refuse_5 : decode cX6_refuse 5 = .ok (.aload_n 0, 1) := by decide +kernel
theorem dX6_refuse_6 : decode cX6_refuse 6 = .ok (.iload_n 2, 1) := by decide +kernel
theorem dX6_refuse_7 : decode cX6_refuse 7 = .ok (.putfield 57, 3) := by decide +kernel
theorem dX6_refuse_10 : decode cX6_refuse 10 = .ok (.aload_n 0, 1) := by decide +kernel
theorem dX6_refuse_11 : decode cX6_refuse 11 = .ok (.bipush (-4), 2) := by decide +kernel
theorem dX6_refuse_13 : decode cX6_refuse 13 = .ok (.putfield 22, 3) := by decide +kernel
theorem dX6_refuse_16 : decode cX6_refuse 16 = .ok (.bipush (-3), 2) := by decide +kernel
theorem dX6_refuse_18 : decode cX6_refuse 18 = .ok (.ireturn, 1) := by decide +kernel
theorem dX6_refusal_0 : decode cX6_refusal 0 = .ok (.iload_n 1, 1) := by decide +kernel
theorem dX6_refusal_1 : decode cX6_refusal 1 = .ok (.iconst 0, 1) := by decide +kernel
theorem dX6_refusal_2 : decode cX6_refusal 2 = .ok (.iconst 2, 1) := by decide +kernel
theorem dX6_refusal_3 : decode cX6_refusal 3 = .ok (.invokestatic 60, 3) := by decide +kernel
theorem dX6_refusal_6 : decode cX6_refusal 6 = .ok (.ifCond .ne 6, 3) := by decide +kernel
theorem dX6_refusal_9 : decode cX6_refusal 9 = .ok (.bipush (-2), 2) := by decide +kernel
theorem dX6_refusal_11 : decode cX6_refusal 11 = .ok (.ireturn, 1) := by decide +kernel
theorem dX6_refusal_12 : decode cX6_refusal 12 = .ok (.aload_n 0, 1) := by decide +kernel
theorem dX6_refusal_13 : decode cX6_refusal 13 = .ok (.getfield 54, 3) := by decide +kernel
theorem dX6_refusal_16 : decode cX6_refusal 16 = .ok (.ifCond .ne 8, 3) := by decide +kernel
theorem dX6_refusal_19 : decode cX6_refusal 19 = .ok (.bipush (-4), 2) := by decide +kernel
theorem dX6_refusal_21 : decode cX6_refusal 21 = .ok (.goto 30, 3) := by decide +kernel
theorem dX6_refusal_24 : decode cX6_refusal 24 = .ok (.iload_n 1, 1) := by decide +kernel
theorem dX6_refusal_25 : decode cX6_refusal 25 = .ok (.ifCond .ne 10, 3) := by decide +kernel
theorem dX6_refusal_28 : decode cX6_refusal 28 = .ok (.aload_n 0, 1) := by decide +kernel
theorem dX6_refusal_29 : decode cX6_refusal 29 = .ok (.getfield 54, 3) := by decide +kernel
theorem dX6_refusal_32 : decode cX6_refusal 32 = .ok (.goto 19, 3) := by decide +kernel
theorem dX6_refusal_35 : decode cX6_refusal 35 = .ok (.iload_n 1, 1) := by decide +kernel
theorem dX6_refusal_36 : decode cX6_refusal 36 = .ok (.iconst 1, 1) := by decide +kernel
theorem dX6_refusal_37 : decode cX6_refusal 37 = .ok (.if_icmp .ne 10, 3) := by decide +kernel
theorem dX6_refusal_40 : decode cX6_refusal 40 = .ok (.aload_n 0, 1) := by decide +kernel
theorem dX6_refusal_41 : decode cX6_refusal 41 = .ok (.getfield 57, 3) := by decide +kernel
theorem dX6_refusal_44 : decode cX6_refusal 44 = .ok (.goto 7, 3) := by decide +kernel
theorem dX6_refusal_47 : decode cX6_refusal 47 = .ok (.aload_n 0, 1) := by decide +kernel
theorem dX6_refusal_48 : decode cX6_refusal 48 = .ok (.getfield 22, 3) := by decide +kernel
theorem dX6_refusal_51 : decode cX6_refusal 51 = .ok (.ireturn, 1) := by decide +kernel
theorem dX6_isSquare_0 : decode cX6_isSquare 0 = .ok (.iload_n 0, 1) := by decide +kernel
theorem dX6_isSquare_1 : decode cX6_isSquare 1 = .ok (.iconst 0, 1) := by decide +kernel
theorem dX6_isSquare_2 : decode cX6_isSquare 2 = .ok (.bipush 24, 2) := by decide +kernel
theorem dX6_isSquare_4 : decode cX6_isSquare 4 = .ok (.invokestatic 60, 3) := by decide +kernel
theorem dX6_isSquare_7 : decode cX6_isSquare 7 = .ok (.ireturn, 1) := by decide +kernel
theorem dX6_isWhite_0 : decode cX6_isWhite 0 = .ok (.iload_n 0, 1) := by decide +kernel
theorem dX6_isWhite_1 : decode cX6_isWhite 1 = .ok (.iconst 1, 1) := by decide +kernel
theorem dX6_isWhite_2 : decode cX6_isWhite 2 = .ok (.iconst 5, 1) := by decide +kernel
theorem dX6_isWhite_3 : decode cX6_isWhite 3 = .ok (.invokestatic 60, 3) := by decide +kernel
theorem dX6_isWhite_6 : decode cX6_isWhite 6 = .ok (.ireturn, 1) := by decide +kernel
theorem dX6_where_0 : decode cX6_where 0 = .ok (.iconst (-1), 1) := by decide +kernel
theorem dX6_where_1 : decode cX6_where 1 = .ok (.istore_n 2, 1) := by decide +kernel
theorem dX6_where_2 : decode cX6_where 2 = .ok (.iconst 0, 1) := by decide +kernel
theorem dX6_where_3 : decode cX6_where 3 = .ok (.istore_n 3, 1) := by decide +kernel
theorem dX6_where_4 : decode cX6_where 4 = .ok (.iload_n 3, 1) := by decide +kernel
theorem dX6_where_5 : decode cX6_where 5 = .ok (.bipush 25, 2) := by decide +kernel
theorem dX6_where_7 : decode cX6_where 7 = .ok (.if_icmp .ge 25, 3) := by decide +kernel
theorem dX6_where_10 : decode cX6_where 10 = .ok (.aload_n 0, 1) := by decide +kernel
theorem dX6_where_11 : decode cX6_where 11 = .ok (.getfield 9, 3) := by decide +kernel
theorem dX6_where_14 : decode cX6_where 14 = .ok (.iload_n 3, 1) := by decide +kernel
theorem dX6_where_15 : decode cX6_where 15 = .ok (.iaload, 1) := by decide +kernel
theorem dX6_where_16 : decode cX6_where 16 = .ok (.iload_n 1, 1) := by decide +kernel
theorem dX6_where_17 : decode cX6_where 17 = .ok (.if_icmp .ne 7, 3) := by decide +kernel
theorem dX6_where_20 : decode cX6_where 20 = .ok (.iload_n 3, 1) := by decide +kernel
theorem dX6_where_21 : decode cX6_where 21 = .ok (.goto 4, 3) := by decide +kernel
theorem dX6_where_24 : decode cX6_where 24 = .ok (.iload_n 2, 1) := by decide +kernel
theorem dX6_where_25 : decode cX6_where 25 = .ok (.istore_n 2, 1) := by decide +kernel
theorem dX6_where_26 : decode cX6_where 26 = .ok (.iinc 3 1, 3) := by decide +kernel
theorem dX6_where_29 : decode cX6_where 29 = .ok (.goto (-25), 3) := by decide +kernel
theorem dX6_where_32 : decode cX6_where 32 = .ok (.iload_n 2, 1) := by decide +kernel
theorem dX6_where_33 : decode cX6_where 33 = .ok (.ireturn, 1) := by decide +kernel
theorem dX6_men_0 : decode cX6_men 0 = .ok (.iconst 0, 1) := by decide +kernel
theorem dX6_men_1 : decode cX6_men 1 = .ok (.istore_n 1, 1) := by decide +kernel
theorem dX6_men_2 : decode cX6_men 2 = .ok (.iconst 0, 1) := by decide +kernel
theorem dX6_men_3 : decode cX6_men 3 = .ok (.istore_n 2, 1) := by decide +kernel
theorem dX6_men_4 : decode cX6_men 4 = .ok (.iload_n 2, 1) := by decide +kernel
theorem dX6_men_5 : decode cX6_men 5 = .ok (.bipush 25, 2) := by decide +kernel
theorem dX6_men_7 : decode cX6_men 7 = .ok (.if_icmp .ge 26, 3) := by decide +kernel
theorem dX6_men_10 : decode cX6_men 10 = .ok (.iload_n 1, 1) := by decide +kernel
theorem dX6_men_11 : decode cX6_men 11 = .ok (.aload_n 0, 1) := by decide +kernel
theorem dX6_men_12 : decode cX6_men 12 = .ok (.getfield 9, 3) := by decide +kernel
theorem dX6_men_15 : decode cX6_men 15 = .ok (.iload_n 2, 1) := by decide +kernel
theorem dX6_men_16 : decode cX6_men 16 = .ok (.iaload, 1) := by decide +kernel
theorem dX6_men_17 : decode cX6_men 17 = .ok (.ifCond .le 7, 3) := by decide +kernel
theorem dX6_men_20 : decode cX6_men 20 = .ok (.iconst 1, 1) := by decide +kernel
theorem dX6_men_21 : decode cX6_men 21 = .ok (.goto 4, 3) := by decide +kernel
theorem dX6_men_24 : decode cX6_men 24 = .ok (.iconst 0, 1) := by decide +kernel
theorem dX6_men_25 : decode cX6_men 25 = .ok (.iadd, 1) := by decide +kernel
theorem dX6_men_26 : decode cX6_men 26 = .ok (.istore_n 1, 1) := by decide +kernel
theorem dX6_men_27 : decode cX6_men 27 = .ok (.iinc 2 1, 3) := by decide +kernel
theorem dX6_men_30 : decode cX6_men 30 = .ok (.goto (-26), 3) := by decide +kernel
theorem dX6_men_33 : decode cX6_men 33 = .ok (.iload_n 1, 1) := by decide +kernel
theorem dX6_men_34 : decode cX6_men 34 = .ok (.ireturn, 1) := by decide +kernel
theorem dX6_doPut_0 : decode cX6_doPut 0 = .ok (.iload_n 2, 1) := by decide +kernel
theorem dX6_doPut_1 : decode cX6_doPut 1 = .ok (.invokestatic 64, 3) := by decide +kernel
theorem dX6_doPut_4 : decode cX6_doPut 4 = .ok (.ifCond .ne 5, 3) := by decide +kernel
theorem dX6_doPut_7 : decode cX6_doPut 7 = .ok (.iconst (-1), 1) := by decide +kernel
theorem dX6_doPut_8 : decode cX6_doPut 8 = .ok (.ireturn, 1) := by decide +kernel
theorem dX6_doPut_9 : decode cX6_doPut 9 = .ok (.iload_n 1, 1) := by decide +kernel
theorem dX6_doPut_10 : decode cX6_doPut 10 = .ok (.iconst 1, 1) := by decide +kernel
theorem dX6_doPut_11 : decode cX6_doPut 11 = .ok (.bipush 7, 2) := by decide +kernel
theorem dX6_doPut_13 : decode cX6_doPut 13 = .ok (.invokestatic 60, 3) := by decide +kernel
theorem dX6_doPut_16 : decode cX6_doPut 16 = .ok (.ifCond .ne 6, 3) := by decide +kernel
theorem dX6_doPut_19 : decode cX6_doPut 19 = .ok (.bipush (-2), 2) := by decide +kernel
theorem dX6_doPut_21 : decode cX6_doPut 21 = .ok (.ireturn, 1) := by decide +kernel
theorem dX6_doPut_22 : decode cX6_doPut 22 = .ok (.aload_n 0, 1) := by decide +kernel
theorem dX6_doPut_23 : decode cX6_doPut 23 = .ok (.getfield 9, 3) := by decide +kernel
theorem dX6_doPut_26 : decode cX6_doPut 26 = .ok (.iload_n 2, 1) := by decide +kernel
theorem dX6_doPut_27 : decode cX6_doPut 27 = .ok (.iaload, 1) := by decide +kernel
theorem dX6_doPut_28 : decode cX6_doPut 28 = .ok (.ifCond .le 15, 3) := by decide +kernel
theorem dX6_doPut_31 : decode cX6_doPut 31 = .ok (.aload_n 0, 1) := by decide +kernel
theorem dX6_doPut_32 : decode cX6_doPut 32 = .ok (.iconst 1, 1) := by decide +kernel
theorem dX6_doPut_33 : decode cX6_doPut 33 = .ok (.aload_n 0, 1) := by decide +kernel
theorem dX6_doPut_34 : decode cX6_doPut 34 = .ok (.getfield 9, 3) := by decide +kernel
theorem dX6_doPut_37 : decode cX6_doPut 37 = .ok (.iload_n 2, 1) := by decide +kernel
theorem dX6_doPut_38 : decode cX6_doPut 38 = .ok (.iaload, 1) := by decide +kernel
theorem dX6_doPut_39 : decode cX6_doPut 39 = .ok (.invokevirtual 68, 3) := by decide +kernel
theorem dX6_doPut_42 : decode cX6_doPut 42 = .ok (.ireturn, 1) := by decide +kernel
theorem dX6_doPut_43 : decode cX6_doPut 43 = .ok (.iload_n 1, 1) := by decide +kernel
theorem dX6_doPut_44 : decode cX6_doPut 44 = .ok (.iconst 1, 1) := by decide +kernel
theorem dX6_doPut_45 : decode cX6_doPut 45 = .ok (.if_icmp .eq 9, 3) := by decide +kernel
theorem dX6_doPut_48 : decode cX6_doPut 48 = .ok (.iload_n 1, 1) := by decide +kernel
theorem dX6_doPut_49 : decode cX6_doPut 49 = .ok (.bipush 7, 2) := by decide +kernel
theorem dX6_doPut_51 : decode cX6_doPut 51 = .ok (.if_icmp .ne 22, 3) := by decide +kernel
theorem dX6_doPut_54 : decode cX6_doPut 54 = .ok (.aload_n 0, 1) := by decide +kernel
theorem dX6_doPut_55 : decode cX6_doPut 55 = .ok (.iload_n 1, 1) := by decide +kernel
theorem dX6_doPut_56 : decode cX6_doPut 56 = .ok (.invokevirtual 72, 3) := by decide +kernel
theorem dX6_doPut_59 : decode cX6_doPut 59 = .ok (.ifCond .lt 14, 3) := by decide +kernel
theorem dX6_doPut_62 : decode cX6_doPut 62 = .ok (.aload_n 0, 1) := by decide +kernel
theorem dX6_doPut_63 : decode cX6_doPut 63 = .ok (.iconst 2, 1) := by decide +kernel
theorem dX6_doPut_64 : decode cX6_doPut 64 = .ok (.aload_n 0, 1) := by decide +kernel
theorem dX6_doPut_65 : decode cX6_doPut 65 = .ok (.iload_n 1, 1) := by decide +kernel
theorem dX6_doPut_66 : decode cX6_doPut 66 = .ok (.invokevirtual 72, 3) := by decide +kernel
theorem dX6_doPut_69 : decode cX6_doPut 69 = .ok (.invokevirtual 68, 3) := by decide +kernel
theorem dX6_doPut_72 : decode cX6_doPut 72 = .ok (.ireturn, 1) := by decide +kernel
theorem dX6_doPut_73 : decode cX6_doPut 73 = .ok (.aload_n 0, 1) := by decide +kernel
theorem dX6_doPut_74 : decode cX6_doPut 74 = .ok (.invokevirtual 76, 3) := by decide +kernel
theorem dX6_doPut_77 : decode cX6_doPut 77 = .ok (.bipush 12, 2) := by decide +kernel
theorem dX6_doPut_79 : decode cX6_doPut 79 = .ok (.if_icmp .ne 11, 3) := by decide +kernel
theorem dX6_doPut_82 : decode cX6_doPut 82 = .ok (.aload_n 0, 1) := by decide +kernel
theorem dX6_doPut_83 : decode cX6_doPut 83 = .ok (.iconst 3, 1) := by decide +kernel
theorem dX6_doPut_84 : decode cX6_doPut 84 = .ok (.bipush 12, 2) := by decide +kernel
theorem dX6_doPut_86 : decode cX6_doPut 86 = .ok (.invokevirtual 68, 3) := by decide +kernel
theorem dX6_doPut_89 : decode cX6_doPut 89 = .ok (.ireturn, 1) := by decide +kernel
theorem dX6_doPut_90 : decode cX6_doPut 90 = .ok (.aload_n 0, 1) := by decide +kernel
theorem dX6_doPut_91 : decode cX6_doPut 91 = .ok (.getfield 9, 3) := by decide +kernel
theorem dX6_doPut_94 : decode cX6_doPut 94 = .ok (.iload_n 2, 1) := by decide +kernel
theorem dX6_doPut_95 : decode cX6_doPut 95 = .ok (.iload_n 1, 1) := by decide +kernel
theorem dX6_doPut_96 : decode cX6_doPut 96 = .ok (.iastore, 1) := by decide +kernel
theorem dX6_doPut_97 : decode cX6_doPut 97 = .ok (.aload_n 0, 1) := by decide +kernel
theorem dX6_doPut_98 : decode cX6_doPut 98 = .ok (.invokevirtual 76, 3) := by decide +kernel
theorem dX6_doPut_101 : decode cX6_doPut 101 = .ok (.ireturn, 1) := by decide +kernel
theorem dX6_put_0 : decode cX6_put 0 = .ok (.aload_n 0, 1) := by decide +kernel
theorem dX6_put_1 : decode cX6_put 1 = .ok (.invokevirtual 80, 3) := by decide +kernel
theorem dX6_put_4 : decode cX6_put 4 = .ok (.aload_n 0, 1) := by decide +kernel
theorem dX6_put_5 : decode cX6_put 5 = .ok (.aload_n 0, 1) := by decide +kernel
theorem dX6_put_6 : decode cX6_put 6 = .ok (.iload_n 1, 1) := by decide +kernel
theorem dX6_put_7 : decode cX6_put 7 = .ok (.iload_n 2, 1) := by decide +kernel
theorem dX6_put_8 : decode cX6_put 8 = .ok (.invokevirtual 83, 3) := by decide +kernel
theorem dX6_put_11 : decode cX6_put 11 = .ok (.invokevirtual 86, 3) := by decide +kernel
theorem dX6_put_14 : decode cX6_put 14 = .ok (.ireturn, 1) := by decide +kernel
theorem dX6_doLift_0 : decode cX6_doLift 0 = .ok (.iload_n 1, 1) := by decide +kernel
theorem dX6_doLift_1 : decode cX6_doLift 1 = .ok (.invokestatic 64, 3) := by decide +kernel
theorem dX6_doLift_4 : decode cX6_doLift 4 = .ok (.ifCond .ne 5, 3) := by decide +kernel
theorem dX6_doLift_7 : decode cX6_doLift 7 = .ok (.iconst (-1), 1) := by decide +kernel
theorem dX6_doLift_8 : decode cX6_doLift 8 = .ok (.ireturn, 1) := by decide +kernel
theorem dX6_doLift_9 : decode cX6_doLift 9 = .ok (.aload_n 0, 1) := by decide +kernel
theorem dX6_doLift_10 : decode cX6_doLift 10 = .ok (.getfield 9, 3) := by decide +kernel
theorem dX6_doLift_13 : decode cX6_doLift 13 = .ok (.iload_n 1, 1) := by decide +kernel
theorem dX6_doLift_14 : decode cX6_doLift 14 = .ok (.iaload, 1) := by decide +kernel
theorem dX6_doLift_15 : decode cX6_doLift 15 = .ok (.istore_n 2, 1) := by decide +kernel
theorem dX6_doLift_16 : decode cX6_doLift 16 = .ok (.iload_n 2, 1) := by decide +kernel
theorem dX6_doLift_17 : decode cX6_doLift 17 = .ok (.ifCond .ne 10, 3) := by decide +kernel
theorem dX6_doLift_20 : decode cX6_doLift 20 = .ok (.aload_n 0, 1) := by decide +kernel
theorem dX6_doLift_21 : decode cX6_doLift 21 = .ok (.iconst 4, 1) := by decide +kernel
theorem dX6_doLift_22 : decode cX6_doLift 22 = .ok (.iload_n 1, 1) := by decide +kernel
theorem dX6_doLift_23 : decode cX6_doLift 23 = .ok (.invokevirtual 68, 3) := by decide +kernel
theorem dX6_doLift_26 : decode cX6_doLift 26 = .ok (.ireturn, 1) := by decide +kernel
theorem dX6_doLift_27 : decode cX6_doLift 27 = .ok (.aload_n 0, 1) := by decide +kernel
theorem dX6_doLift_28 : decode cX6_doLift 28 = .ok (.getfield 9, 3) := by decide +kernel
theorem dX6_doLift_31 : decode cX6_doLift 31 = .ok (.iload_n 1, 1) := by decide +kernel
theorem dX6_doLift_32 : decode cX6_doLift 32 = .ok (.iconst 0, 1) := by decide +kernel
theorem dX6_doLift_33 : decode cX6_doLift 33 = .ok (.iastore, 1) := by decide +kernel
theorem dX6_doLift_34 : decode cX6_doLift 34 = .ok (.iload_n 2, 1) := by decide +kernel
theorem dX6_doLift_35 : decode cX6_doLift 35 = .ok (.ireturn, 1) := by decide +kernel
theorem dX6_lift_0 : decode cX6_lift 0 = .ok (.aload_n 0, 1) := by decide +kernel
theorem dX6_lift_1 : decode cX6_lift 1 = .ok (.invokevirtual 80, 3) := by decide +kernel
theorem dX6_lift_4 : decode cX6_lift 4 = .ok (.aload_n 0, 1) := by decide +kernel
theorem dX6_lift_5 : decode cX6_lift 5 = .ok (.aload_n 0, 1) := by decide +kernel
theorem dX6_lift_6 : decode cX6_lift 6 = .ok (.iload_n 1, 1) := by decide +kernel
theorem dX6_lift_7 : decode cX6_lift 7 = .ok (.invokevirtual 89, 3) := by decide +kernel
theorem dX6_lift_10 : decode cX6_lift 10 = .ok (.invokevirtual 86, 3) := by decide +kernel
theorem dX6_lift_13 : decode cX6_lift 13 = .ok (.ireturn, 1) := by decide +kernel
theorem dX6_at_0 : decode cX6_at 0 = .ok (.iload_n 1, 1) := by decide +kernel
theorem dX6_at_1 : decode cX6_at 1 = .ok (.invokestatic 64, 3) := by decide +kernel
theorem dX6_at_4 : decode cX6_at 4 = .ok (.ifCond .eq 12, 3) := by decide +kernel
theorem dX6_at_7 : decode cX6_at 7 = .ok (.aload_n 0, 1) := by decide +kernel
theorem dX6_at_8 : decode cX6_at 8 = .ok (.getfield 9, 3) := by decide +kernel
theorem dX6_at_11 : decode cX6_at 11 = .ok (.iload_n 1, 1) := by decide +kernel
theorem dX6_at_12 : decode cX6_at 12 = .ok (.iaload, 1) := by decide +kernel
theorem dX6_at_13 : decode cX6_at 13 = .ok (.goto 4, 3) := by decide +kernel
theorem dX6_at_16 : decode cX6_at 16 = .ok (.iconst (-1), 1) := by decide +kernel
theorem dX6_at_17 : decode cX6_at 17 = .ok (.ireturn, 1) := by decide +kernel
theorem dX6_away_0 : decode cX6_away 0 = .ok (.iload_n 1, 1) := by decide +kernel
theorem dX6_away_1 : decode cX6_away 1 = .ok (.iconst 5, 1) := by decide +kernel
theorem dX6_away_2 : decode cX6_away 2 = .ok (.irem, 1) := by decide +kernel
theorem dX6_away_3 : decode cX6_away 3 = .ok (.iload_n 2, 1) := by decide +kernel
theorem dX6_away_4 : decode cX6_away 4 = .ok (.iadd, 1) := by decide +kernel
theorem dX6_away_5 : decode cX6_away 5 = .ok (.istore 4, 2) := by decide +kernel
theorem dX6_away_7 : decode cX6_away 7 = .ok (.iload_n 1, 1) := by decide +kernel
theorem dX6_away_8 : decode cX6_away 8 = .ok (.iconst 5, 1) := by decide +kernel
theorem dX6_away_9 : decode cX6_away 9 = .ok (.idiv, 1) := by decide +kernel
theorem dX6_away_10 : decode cX6_away 10 = .ok (.iload_n 3, 1) := by decide +kernel
theorem dX6_away_11 : decode cX6_away 11 = .ok (.iadd, 1) := by decide +kernel
theorem dX6_away_12 : decode cX6_away 12 = .ok (.istore 5, 2) := by decide +kernel
theorem dX6_away_14 : decode cX6_away 14 = .ok (.iload 4, 2) := by decide +kernel
theorem dX6_away_16 : decode cX6_away 16 = .ok (.iconst 0, 1) := by decide +kernel
theorem dX6_away_17 : decode cX6_away 17 = .ok (.iconst 4, 1) := by decide +kernel
theorem dX6_away_18 : decode cX6_away 18 = .ok (.invokestatic 60, 3) := by decide +kernel
theorem dX6_away_21 : decode cX6_away 21 = .ok (.ifCond .eq 28, 3) := by decide +kernel
theorem dX6_away_24 : decode cX6_away 24 = .ok (.iload 5, 2) := by decide +kernel
theorem dX6_away_26 : decode cX6_away 26 = .ok (.iconst 0, 1) := by decide +kernel
theorem dX6_away_27 : decode cX6_away 27 = .ok (.iconst 4, 1) := by decide +kernel
theorem dX6_away_28 : decode cX6_away 28 = .ok (.invokestatic 60, 3) := by decide +kernel
theorem dX6_away_31 : decode cX6_away 31 = .ok (.ifCond .eq 18, 3) := by decide +kernel
theorem dX6_away_34 : decode cX6_away 34 = .ok (.aload_n 0, 1) := by decide +kernel
theorem dX6_away_35 : decode cX6_away 35 = .ok (.getfield 9, 3) := by decide +kernel
theorem dX6_away_38 : decode cX6_away 38 = .ok (.iconst 5, 1) := by decide +kernel
theorem dX6_away_39 : decode cX6_away 39 = .ok (.iload 5, 2) := by decide +kernel
theorem dX6_away_41 : decode cX6_away 41 = .ok (.imul, 1) := by decide +kernel
theorem dX6_away_42 : decode cX6_away 42 = .ok (.iload 4, 2) := by decide +kernel
theorem dX6_away_44 : decode cX6_away 44 = .ok (.iadd, 1) := by decide +kernel
theorem dX6_away_45 : decode cX6_away 45 = .ok (.iaload, 1) := by decide +kernel
theorem dX6_away_46 : decode cX6_away 46 = .ok (.goto 4, 3) := by decide +kernel
theorem dX6_away_49 : decode cX6_away 49 = .ok (.iconst (-1), 1) := by decide +kernel
theorem dX6_away_50 : decode cX6_away 50 = .ok (.ireturn, 1) := by decide +kernel
theorem dX6_firstAt_0 : decode cX6_firstAt 0 = .ok (.iconst 1, 1) := by decide +kernel
theorem dX6_firstAt_1 : decode cX6_firstAt 1 = .ok (.istore 4, 2) := by decide +kernel
theorem dX6_firstAt_3 : decode cX6_firstAt 3 = .ok (.aload_n 0, 1) := by decide +kernel
theorem dX6_firstAt_4 : decode cX6_firstAt 4 = .ok (.iload_n 1, 1) := by decide +kernel
theorem dX6_firstAt_5 : decode cX6_firstAt 5 = .ok (.iload 4, 2) := by decide +kernel
theorem dX6_firstAt_7 : decode cX6_firstAt 7 = .ok (.iload_n 2, 1) := by decide +kernel
theorem dX6_firstAt_8 : decode cX6_firstAt 8 = .ok (.imul, 1) := by decide +kernel
theorem dX6_firstAt_9 : decode cX6_firstAt 9 = .ok (.iload 4, 2) := by decide +kernel
theorem dX6_firstAt_11 : decode cX6_firstAt 11 = .ok (.iload_n 3, 1) := by decide +kernel
theorem dX6_firstAt_12 : decode cX6_firstAt 12 = .ok (.imul, 1) := by decide +kernel
theorem dX6_firstAt_13 : decode cX6_firstAt 13 = .ok (.invokevirtual 92, 3) := by decide +kernel
theorem dX6_firstAt_16 : decode cX6_firstAt 16 = .ok (.ifCond .ne 9, 3) := by decide +kernel
theorem dX6_firstAt_19 : decode cX6_firstAt 19 = .ok (.iinc 4 1, 3) := by decide +kernel
theorem dX6_firstAt_22 : decode cX6_firstAt 22 = .ok (.goto (-19), 3) := by decide +kernel
theorem dX6_firstAt_25 : decode cX6_firstAt 25 = .ok (.aload_n 0, 1) := by decide +kernel
theorem dX6_firstAt_26 : decode cX6_firstAt 26 = .ok (.iload_n 1, 1) := by decide +kernel
theorem dX6_firstAt_27 : decode cX6_firstAt 27 = .ok (.iload 4, 2) := by decide +kernel
theorem dX6_firstAt_29 : decode cX6_firstAt 29 = .ok (.iload_n 2, 1) := by decide +kernel
theorem dX6_firstAt_30 : decode cX6_firstAt 30 = .ok (.imul, 1) := by decide +kernel
theorem dX6_firstAt_31 : decode cX6_firstAt 31 = .ok (.iload 4, 2) := by decide +kernel
theorem dX6_firstAt_33 : decode cX6_firstAt 33 = .ok (.iload_n 3, 1) := by decide +kernel
theorem dX6_firstAt_34 : decode cX6_firstAt 34 = .ok (.imul, 1) := by decide +kernel
theorem dX6_firstAt_35 : decode cX6_firstAt 35 = .ok (.invokevirtual 92, 3) := by decide +kernel
theorem dX6_firstAt_38 : decode cX6_firstAt 38 = .ok (.ifCond .le 8, 3) := by decide +kernel
theorem dX6_firstAt_41 : decode cX6_firstAt 41 = .ok (.iload 4, 2) := by decide +kernel
theorem dX6_firstAt_43 : decode cX6_firstAt 43 = .ok (.goto 4, 3) := by decide +kernel
theorem dX6_firstAt_46 : decode cX6_firstAt 46 = .ok (.iconst 0, 1) := by decide +kernel
theorem dX6_firstAt_47 : decode cX6_firstAt 47 = .ok (.ireturn, 1) := by decide +kernel
theorem dX6_attackersOf_0 : decode cX6_attackersOf 0 = .ok (.iconst 0, 1) := by decide +kernel
theorem dX6_attackersOf_1 : decode cX6_attackersOf 1 = .ok (.istore_n 2, 1) := by decide +kernel
theorem dX6_attackersOf_2 : decode cX6_attackersOf 2 = .ok (.bipush (-2), 2) := by decide +kernel
theorem dX6_attackersOf_4 : decode cX6_attackersOf 4 = .ok (.istore_n 3, 1) := by decide +kernel
theorem dX6_attackersOf_5 : decode cX6_attackersOf 5 = .ok (.iload_n 3, 1) := by decide +kernel
theorem dX6_attackersOf_6 : decode cX6_attackersOf 6 = .ok (.iconst 2, 1) := by decide +kernel
theorem dX6_attackersOf_7 : decode cX6_attackersOf 7 = .ok (.if_icmp .gt 163, 3) := by decide +kernel
theorem dX6_attackersOf_10 : decode cX6_attackersOf 10 = .ok (.bipush (-2), 2) := by decide +kernel
theorem dX6_attackersOf_12 : decode cX6_attackersOf 12 = .ok (.istore 4, 2) := by decide +kernel
theorem dX6_attackersOf_14 : decode cX6_attackersOf 14 = .ok (.iload 4, 2) := by decide +kernel
theorem dX6_attackersOf_16 : decode cX6_attackersOf 16 = .ok (.iconst 2, 1) := by decide +kernel
theorem dX6_attackersOf_17 : decode cX6_attackersOf 17 = .ok (.if_icmp .gt 147, 3) := by decide +kernel
theorem dX6_attackersOf_20 : decode cX6_attackersOf 20 = .ok (.iload_n 3, 1) := by decide +kernel
theorem dX6_attackersOf_21 : decode cX6_attackersOf 21 = .ok (.iload_n 3, 1) := by decide +kernel
theorem dX6_attackersOf_22 : decode cX6_attackersOf 22 = .ok (.imul, 1) := by decide +kernel
theorem dX6_attackersOf_23 : decode cX6_attackersOf 23 = .ok (.iload 4, 2) := by decide +kernel
theorem dX6_attackersOf_25 : decode cX6_attackersOf 25 = .ok (.iload 4, 2) := by decide +kernel
theorem dX6_attackersOf_27 : decode cX6_attackersOf 27 = .ok (.imul, 1) := by decide +kernel
theorem dX6_attackersOf_28 : decode cX6_attackersOf 28 = .ok (.iadd, 1) := by decide +kernel
theorem dX6_attackersOf_29 : decode cX6_attackersOf 29 = .ok (.istore 5, 2) := by decide +kernel
theorem dX6_attackersOf_31 : decode cX6_attackersOf 31 = .ok (.iload_n 2, 1) := by decide +kernel
theorem dX6_attackersOf_32 : decode cX6_attackersOf 32 = .ok (.iload 5, 2) := by decide +kernel
theorem dX6_attackersOf_34 : decode cX6_attackersOf 34 = .ok (.iconst 5, 1) := by decide +kernel
theorem dX6_attackersOf_35 : decode cX6_attackersOf 35 = .ok (.if_icmp .ne 19, 3) := by decide +kernel
theorem dX6_attackersOf_38 : decode cX6_attackersOf 38 = .ok (.aload_n 0, 1) := by decide +kernel
theorem dX6_attackersOf_39 : decode cX6_attackersOf 39 = .ok (.iload_n 1, 1) := by decide +kernel
theorem dX6_attackersOf_40 : decode cX6_attackersOf 40 = .ok (.iload_n 3, 1) := by decide +kernel
theorem dX6_attackersOf_41 : decode cX6_attackersOf 41 = .ok (.iload 4, 2) := by decide +kernel
theorem dX6_attackersOf_43 : decode cX6_attackersOf 43 = .ok (.invokevirtual 92, 3) := by decide +kernel
theorem dX6_attackersOf_46 : decode cX6_attackersOf 46 = .ok (.iconst 5, 1) := by decide +kernel
theorem dX6_attackersOf_47 : decode cX6_attackersOf 47 = .ok (.if_icmp .ne 7, 3) := by decide +kernel
theorem dX6_attackersOf_50 : decode cX6_attackersOf 50 = .ok (.iconst 1, 1) := by decide +kernel
theorem dX6_attackersOf_51 : decode cX6_attackersOf 51 = .ok (.goto 4, 3) := by decide +kernel
theorem dX6_attackersOf_54 : decode cX6_attackersOf 54 = .ok (.iconst 0, 1) := by decide +kernel
theorem dX6_attackersOf_55 : decode cX6_attackersOf 55 = .ok (.iadd, 1) := by decide +kernel
theorem dX6_attackersOf_56 : decode cX6_attackersOf 56 = .ok (.istore_n 2, 1) := by decide +kernel
theorem dX6_attackersOf_57 : decode cX6_attackersOf 57 = .ok (.iload 5, 2) := by decide +kernel
theorem dX6_attackersOf_59 : decode cX6_attackersOf 59 = .ok (.iconst 1, 1) := by decide +kernel
theorem dX6_attackersOf_60 : decode cX6_attackersOf 60 = .ok (.if_icmp .eq 9, 3) := by decide +kernel
theorem dX6_attackersOf_63 : decode cX6_attackersOf 63 = .ok (.iload 5, 2) := by decide +kernel
theorem dX6_attackersOf_65 : decode cX6_attackersOf 65 = .ok (.iconst 2, 1) := by decide +kernel
theorem dX6_attackersOf_66 : decode cX6_attackersOf 66 = .ok (.if_icmp .ne 92, 3) := by decide +kernel
theorem dX6_attackersOf_69 : decode cX6_attackersOf 69 = .ok (.aload_n 0, 1) := by decide +kernel
theorem dX6_attackersOf_70 : decode cX6_attackersOf 70 = .ok (.iload_n 1, 1) := by decide +kernel
theorem dX6_attackersOf_71 : decode cX6_attackersOf 71 = .ok (.iload_n 3, 1) := by decide +kernel
theorem dX6_attackersOf_72 : decode cX6_attackersOf 72 = .ok (.iload 4, 2) := by decide +kernel
theorem dX6_attackersOf_74 : decode cX6_attackersOf 74 = .ok (.invokevirtual 96, 3) := by decide +kernel
theorem dX6_attackersOf_77 : decode cX6_attackersOf 77 = .ok (.istore 6, 2) := by decide +kernel
theorem dX6_attackersOf_79 : decode cX6_attackersOf 79 = .ok (.iload 6, 2) := by decide +kernel
theorem dX6_attackersOf_81 : decode cX6_attackersOf 81 = .ok (.ifCond .ne 7, 3) := by decide +kernel
theorem dX6_attackersOf_84 : decode cX6_attackersOf 84 = .ok (.iconst 0, 1) := by decide +kernel
theorem dX6_attackersOf_85 : decode cX6_attackersOf 85 = .ok (.goto 17, 3) := by decide +kernel
theorem dX6_attackersOf_88 : decode cX6_attackersOf 88 = .ok (.aload_n 0, 1) := by decide +kernel
theorem dX6_attackersOf_89 : decode cX6_attackersOf 89 = .ok (.iload_n 1, 1) := by decide +kernel
theorem dX6_attackersOf_90 : decode cX6_attackersOf 90 = .ok (.iload 6, 2) := by decide +kernel
theorem dX6_attackersOf_92 : decode cX6_attackersOf 92 = .ok (.iload_n 3, 1) := by decide +kernel
theorem dX6_attackersOf_93 : decode cX6_attackersOf 93 = .ok (.imul, 1) := by decide +kernel
theorem dX6_attackersOf_94 : decode cX6_attackersOf 94 = .ok (.iload 6, 2) := by decide +kernel
theorem dX6_attackersOf_96 : decode cX6_attackersOf 96 = .ok (.iload 4, 2) := by decide +kernel
theorem dX6_attackersOf_98 : decode cX6_attackersOf 98 = .ok (.imul, 1) := by decide +kernel
theorem dX6_attackersOf_99 : decode cX6_attackersOf 99 = .ok (.invokevirtual 92, 3) := by decide +kernel
theorem dX6_attackersOf_102 : decode cX6_attackersOf 102 = .ok (.istore 7, 2) := by decide +kernel
theorem dX6_attackersOf_104 : decode cX6_attackersOf 104 = .ok (.iload 7, 2) := by decide +kernel
theorem dX6_attackersOf_106 : decode cX6_attackersOf 106 = .ok (.iconst 2, 1) := by decide +kernel
theorem dX6_attackersOf_107 : decode cX6_attackersOf 107 = .ok (.if_icmp .eq 31, 3) := by decide +kernel
theorem dX6_attackersOf_110 : decode cX6_attackersOf 110 = .ok (.iload 7, 2) := by decide +kernel
theorem dX6_attackersOf_112 : decode cX6_attackersOf 112 = .ok (.iload 5, 2) := by decide +kernel
theorem dX6_attackersOf_114 : decode cX6_attackersOf 114 = .ok (.iconst 1, 1) := by decide +kernel
theorem dX6_attackersOf_115 : decode cX6_attackersOf 115 = .ok (.if_icmp .ne 7, 3) := by decide +kernel
theorem dX6_attackersOf_118 : decode cX6_attackersOf 118 = .ok (.iconst 3, 1) := by decide +kernel
theorem dX6_attackersOf_119 : decode cX6_attackersOf 119 = .ok (.goto 4, 3) := by decide +kernel
theorem dX6_attackersOf_122 : decode cX6_attackersOf 122 = .ok (.iconst 4, 1) := by decide +kernel
theorem dX6_attackersOf_123 : decode cX6_attackersOf 123 = .ok (.if_icmp .eq 15, 3) := by decide +kernel
theorem dX6_attackersOf_126 : decode cX6_attackersOf 126 = .ok (.iload 7, 2) := by decide +kernel
theorem dX6_attackersOf_128 : decode cX6_attackersOf 128 = .ok (.iconst 1, 1) := by decide +kernel
theorem dX6_attackersOf_129 : decode cX6_attackersOf 129 = .ok (.if_icmp .ne 13, 3) := by decide +kernel
theorem dX6_attackersOf_132 : decode cX6_attackersOf 132 = .ok (.iload 6, 2) := by decide +kernel
theorem dX6_attackersOf_134 : decode cX6_attackersOf 134 = .ok (.iconst 1, 1) := by decide +kernel
theorem dX6_attackersOf_135 : decode cX6_attackersOf 135 = .ok (.if_icmp .ne 7, 3) := by decide +kernel
theorem dX6_attackersOf_138 : decode cX6_attackersOf 138 = .ok (.iconst 1, 1) := by decide +kernel
theorem dX6_attackersOf_139 : decode cX6_attackersOf 139 = .ok (.goto 4, 3) := by decide +kernel
theorem dX6_attackersOf_142 : decode cX6_attackersOf 142 = .ok (.iconst 0, 1) := by decide +kernel
theorem dX6_attackersOf_143 : decode cX6_attackersOf 143 = .ok (.istore 8, 2) := by decide +kernel
theorem dX6_attackersOf_145 : decode cX6_attackersOf 145 = .ok (.iload_n 2, 1) := by decide +kernel
theorem dX6_attackersOf_146 : decode cX6_attackersOf 146 = .ok (.iload 8, 2) := by decide +kernel
theorem dX6_attackersOf_148 : decode cX6_attackersOf 148 = .ok (.ifCond .eq 7, 3) := by decide +kernel
theorem dX6_attackersOf_151 : decode cX6_attackersOf 151 = .ok (.iconst 1, 1) := by decide +kernel
theorem dX6_attackersOf_152 : decode cX6_attackersOf 152 = .ok (.goto 4, 3) := by decide +kernel
theorem dX6_attackersOf_155 : decode cX6_attackersOf 155 = .ok (.iconst 0, 1) := by decide +kernel
theorem dX6_attackersOf_156 : decode cX6_attackersOf 156 = .ok (.iadd, 1) := by decide +kernel
theorem dX6_attackersOf_157 : decode cX6_attackersOf 157 = .ok (.istore_n 2, 1) := by decide +kernel
theorem dX6_attackersOf_158 : decode cX6_attackersOf 158 = .ok (.iinc 4 1, 3) := by decide +kernel
theorem dX6_attackersOf_161 : decode cX6_attackersOf 161 = .ok (.goto (-147), 3) := by decide +kernel
theorem dX6_attackersOf_164 : decode cX6_attackersOf 164 = .ok (.iinc 3 1, 3) := by decide +kernel
theorem dX6_attackersOf_167 : decode cX6_attackersOf 167 = .ok (.goto (-162), 3) := by decide +kernel
theorem dX6_attackersOf_170 : decode cX6_attackersOf 170 = .ok (.iload_n 2, 1) := by decide +kernel
theorem dX6_attackersOf_171 : decode cX6_attackersOf 171 = .ok (.ireturn, 1) := by decide +kernel
theorem dX6_attacks_0 : decode cX6_attacks 0 = .ok (.iload_n 2, 1) := by decide +kernel
theorem dX6_attacks_1 : decode cX6_attacks 1 = .ok (.iconst 5, 1) := by decide +kernel
theorem dX6_attacks_2 : decode cX6_attacks 2 = .ok (.irem, 1) := by decide +kernel
theorem dX6_attacks_3 : decode cX6_attacks 3 = .ok (.iload_n 1, 1) := by decide +kernel
theorem dX6_attacks_4 : decode cX6_attacks 4 = .ok (.iconst 5, 1) := by decide +kernel
theorem dX6_attacks_5 : decode cX6_attacks 5 = .ok (.irem, 1) := by decide +kernel
theorem dX6_attacks_6 : decode cX6_attacks 6 = .ok (.isub, 1) := by decide +kernel
theorem dX6_attacks_7 : decode cX6_attacks 7 = .ok (.istore_n 3, 1) := by decide +kernel
theorem dX6_attacks_8 : decode cX6_attacks 8 = .ok (.iload_n 2, 1) := by decide +kernel
theorem dX6_attacks_9 : decode cX6_attacks 9 = .ok (.iconst 5, 1) := by decide +kernel
theorem dX6_attacks_10 : decode cX6_attacks 10 = .ok (.idiv, 1) := by decide +kernel
theorem dX6_attacks_11 : decode cX6_attacks 11 = .ok (.iload_n 1, 1) := by decide +kernel
theorem dX6_attacks_12 : decode cX6_attacks 12 = .ok (.iconst 5, 1) := by decide +kernel
theorem dX6_attacks_13 : decode cX6_attacks 13 = .ok (.idiv, 1) := by decide +kernel
theorem dX6_attacks_14 : decode cX6_attacks 14 = .ok (.isub, 1) := by decide +kernel
theorem dX6_attacks_15 : decode cX6_attacks 15 = .ok (.istore 4, 2) := by decide +kernel
theorem dX6_attacks_17 : decode cX6_attacks 17 = .ok (.iload_n 3, 1) := by decide +kernel
theorem dX6_attacks_18 : decode cX6_attacks 18 = .ok (.invokestatic 99, 3) := by decide +kernel
theorem dX6_attacks_21 : decode cX6_attacks 21 = .ok (.iload 4, 2) := by decide +kernel
theorem dX6_attacks_23 : decode cX6_attacks 23 = .ok (.invokestatic 99, 3) := by decide +kernel
theorem dX6_attacks_26 : decode cX6_attacks 26 = .ok (.invokestatic 104, 3) := by decide +kernel
theorem dX6_attacks_29 : decode cX6_attacks 29 = .ok (.istore 5, 2) := by decide +kernel
theorem dX6_attacks_31 : decode cX6_attacks 31 = .ok (.aload_n 0, 1) := by decide +kernel
theorem dX6_attacks_32 : decode cX6_attacks 32 = .ok (.getfield 9, 3) := by decide +kernel
theorem dX6_attacks_35 : decode cX6_attacks 35 = .ok (.iload_n 1, 1) := by decide +kernel
theorem dX6_attacks_36 : decode cX6_attacks 36 = .ok (.iaload, 1) := by decide +kernel
theorem dX6_attacks_37 : decode cX6_attacks 37 = .ok (.istore 6, 2) := by decide +kernel
theorem dX6_attacks_39 : decode cX6_attacks 39 = .ok (.iload 6, 2) := by decide +kernel
theorem dX6_attacks_41 : decode cX6_attacks 41 = .ok (.iconst 5, 1) := by decide +kernel
theorem dX6_attacks_42 : decode cX6_attacks 42 = .ok (.if_icmp .ne 22, 3) := by decide +kernel
theorem dX6_attacks_45 : decode cX6_attacks 45 = .ok (.iload_n 3, 1) := by decide +kernel
theorem dX6_attacks_46 : decode cX6_attacks 46 = .ok (.iload_n 3, 1) := by decide +kernel
theorem dX6_attacks_47 : decode cX6_attacks 47 = .ok (.imul, 1) := by decide +kernel
theorem dX6_attacks_48 : decode cX6_attacks 48 = .ok (.iload 4, 2) := by decide +kernel
theorem dX6_attacks_50 : decode cX6_attacks 50 = .ok (.iload 4, 2) := by decide +kernel
theorem dX6_attacks_52 : decode cX6_attacks 52 = .ok (.imul, 1) := by decide +kernel
theorem dX6_attacks_53 : decode cX6_attacks 53 = .ok (.iadd, 1) := by decide +kernel
theorem dX6_attacks_54 : decode cX6_attacks 54 = .ok (.iconst 5, 1) := by decide +kernel
theorem dX6_attacks_55 : decode cX6_attacks 55 = .ok (.if_icmp .ne 7, 3) := by decide +kernel
theorem dX6_attacks_58 : decode cX6_attacks 58 = .ok (.iconst 1, 1) := by decide +kernel
theorem dX6_attacks_59 : decode cX6_attacks 59 = .ok (.goto 4, 3) := by decide +kernel
theorem dX6_attacks_62 : decode cX6_attacks 62 = .ok (.iconst 0, 1) := by decide +kernel
theorem dX6_attacks_63 : decode cX6_attacks 63 = .ok (.ireturn, 1) := by decide +kernel
theorem dX6_attacks_64 : decode cX6_attacks 64 = .ok (.iload 6, 2) := by decide +kernel
theorem dX6_attacks_66 : decode cX6_attacks 66 = .ok (.iconst 1, 1) := by decide +kernel
theorem dX6_attacks_67 : decode cX6_attacks 67 = .ok (.if_icmp .eq 10, 3) := by decide +kernel
theorem dX6_attacks_70 : decode cX6_attacks 70 = .ok (.iload 6, 2) := by decide +kernel
theorem dX6_attacks_72 : decode cX6_attacks 72 = .ok (.bipush 7, 2) := by decide +kernel
theorem dX6_attacks_74 : decode cX6_attacks 74 = .ok (.if_icmp .ne 15, 3) := by decide +kernel
theorem dX6_attacks_77 : decode cX6_attacks 77 = .ok (.iload 5, 2) := by decide +kernel
theorem dX6_attacks_79 : decode cX6_attacks 79 = .ok (.iconst 1, 1) := by decide +kernel
theorem dX6_attacks_80 : decode cX6_attacks 80 = .ok (.if_icmp .ne 7, 3) := by decide +kernel
theorem dX6_attacks_83 : decode cX6_attacks 83 = .ok (.iconst 1, 1) := by decide +kernel
theorem dX6_attacks_84 : decode cX6_attacks 84 = .ok (.goto 4, 3) := by decide +kernel
theorem dX6_attacks_87 : decode cX6_attacks 87 = .ok (.iconst 0, 1) := by decide +kernel
theorem dX6_attacks_88 : decode cX6_attacks 88 = .ok (.ireturn, 1) := by decide +kernel
theorem dX6_attacks_89 : decode cX6_attacks 89 = .ok (.iload_n 3, 1) := by decide +kernel
theorem dX6_attacks_90 : decode cX6_attacks 90 = .ok (.ifCond .eq 8, 3) := by decide +kernel
theorem dX6_attacks_93 : decode cX6_attacks 93 = .ok (.iload 4, 2) := by decide +kernel
theorem dX6_attacks_95 : decode cX6_attacks 95 = .ok (.ifCond .ne 7, 3) := by decide +kernel
theorem dX6_attacks_98 : decode cX6_attacks 98 = .ok (.iconst 1, 1) := by decide +kernel
theorem dX6_attacks_99 : decode cX6_attacks 99 = .ok (.goto 4, 3) := by decide +kernel
theorem dX6_attacks_102 : decode cX6_attacks 102 = .ok (.iconst 0, 1) := by decide +kernel
theorem dX6_attacks_103 : decode cX6_attacks 103 = .ok (.istore 7, 2) := by decide +kernel
theorem dX6_attacks_105 : decode cX6_attacks 105 = .ok (.iload_n 3, 1) := by decide +kernel
theorem dX6_attacks_106 : decode cX6_attacks 106 = .ok (.invokestatic 99, 3) := by decide +kernel
theorem dX6_attacks_109 : decode cX6_attacks 109 = .ok (.iload 4, 2) := by decide +kernel
theorem dX6_attacks_111 : decode cX6_attacks 111 = .ok (.invokestatic 99, 3) := by decide +kernel
theorem dX6_attacks_114 : decode cX6_attacks 114 = .ok (.if_icmp .ne 7, 3) := by decide +kernel
theorem dX6_attacks_117 : decode cX6_attacks 117 = .ok (.iconst 1, 1) := by decide +kernel
theorem dX6_attacks_118 : decode cX6_attacks 118 = .ok (.goto 4, 3) := by decide +kernel
theorem dX6_attacks_121 : decode cX6_attacks 121 = .ok (.iconst 0, 1) := by decide +kernel
theorem dX6_attacks_122 : decode cX6_attacks 122 = .ok (.istore 8, 2) := by decide +kernel
theorem dX6_attacks_124 : decode cX6_attacks 124 = .ok (.iload 5, 2) := by decide +kernel
theorem dX6_attacks_126 : decode cX6_attacks 126 = .ok (.ifCond .le 29, 3) := by decide +kernel
theorem dX6_attacks_129 : decode cX6_attacks 129 = .ok (.iload 6, 2) := by decide +kernel
theorem dX6_attacks_131 : decode cX6_attacks 131 = .ok (.iconst 4, 1) := by decide +kernel
theorem dX6_attacks_132 : decode cX6_attacks 132 = .ok (.if_icmp .eq 8, 3) := by decide +kernel
theorem dX6_attacks_135 : decode cX6_attacks 135 = .ok (.iload 7, 2) := by decide +kernel
theorem dX6_attacks_137 : decode cX6_attacks 137 = .ok (.ifCond .ne 14, 3) := by decide +kernel
theorem dX6_attacks_140 : decode cX6_attacks 140 = .ok (.iload 6, 2) := by decide +kernel
theorem dX6_attacks_142 : decode cX6_attacks 142 = .ok (.iconst 3, 1) := by decide +kernel
theorem dX6_attacks_143 : decode cX6_attacks 143 = .ok (.if_icmp .eq 12, 3) := by decide +kernel
theorem dX6_attacks_146 : decode cX6_attacks 146 = .ok (.iload 8, 2) := by decide +kernel
theorem dX6_attacks_148 : decode cX6_attacks 148 = .ok (.ifCond .eq 7, 3) := by decide +kernel
theorem dX6_attacks_151 : decode cX6_attacks 151 = .ok (.iconst 1, 1) := by decide +kernel
theorem dX6_attacks_152 : decode cX6_attacks 152 = .ok (.goto 4, 3) := by decide +kernel
theorem dX6_attacks_155 : decode cX6_attacks 155 = .ok (.iconst 0, 1) := by decide +kernel
theorem dX6_attacks_156 : decode cX6_attacks 156 = .ok (.istore 9, 2) := by decide +kernel
theorem dX6_attacks_158 : decode cX6_attacks 158 = .ok (.iload 9, 2) := by decide +kernel
theorem dX6_attacks_160 : decode cX6_attacks 160 = .ok (.ifCond .eq 13, 3) := by decide +kernel
theorem dX6_attacks_163 : decode cX6_attacks 163 = .ok (.iload 6, 2) := by decide +kernel
theorem dX6_attacks_165 : decode cX6_attacks 165 = .ok (.iconst 2, 1) := by decide +kernel
theorem dX6_attacks_166 : decode cX6_attacks 166 = .ok (.iconst 4, 1) := by decide +kernel
theorem dX6_attacks_167 : decode cX6_attacks 167 = .ok (.invokestatic 60, 3) := by decide +kernel
theorem dX6_attacks_170 : decode cX6_attacks 170 = .ok (.ifCond .ne 5, 3) := by decide +kernel
theorem dX6_attacks_173 : decode cX6_attacks 173 = .ok (.iconst 0, 1) := by decide +kernel
theorem dX6_attacks_174 : decode cX6_attacks 174 = .ok (.ireturn, 1) := by decide +kernel
theorem dX6_attacks_175 : decode cX6_attacks 175 = .ok (.aload_n 0, 1) := by decide +kernel
theorem dX6_attacks_176 : decode cX6_attacks 176 = .ok (.iload_n 1, 1) := by decide +kernel
theorem dX6_attacks_177 : decode cX6_attacks 177 = .ok (.iload_n 3, 1) := by decide +kernel
theorem dX6_attacks_178 : decode cX6_attacks 178 = .ok (.iload 5, 2) := by decide +kernel
theorem dX6_attacks_180 : decode cX6_attacks 180 = .ok (.idiv, 1) := by decide +kernel
theorem dX6_attacks_181 : decode cX6_attacks 181 = .ok (.iload 4, 2) := by decide +kernel
theorem dX6_attacks_183 : decode cX6_attacks 183 = .ok (.iload 5, 2) := by decide +kernel
theorem dX6_attacks_185 : decode cX6_attacks 185 = .ok (.idiv, 1) := by decide +kernel
theorem dX6_attacks_186 : decode cX6_attacks 186 = .ok (.invokevirtual 96, 3) := by decide +kernel
theorem dX6_attacks_189 : decode cX6_attacks 189 = .ok (.istore 10, 2) := by decide +kernel
theorem dX6_attacks_191 : decode cX6_attacks 191 = .ok (.iload 10, 2) := by decide +kernel
theorem dX6_attacks_193 : decode cX6_attacks 193 = .ok (.ifCond .eq 10, 3) := by decide +kernel
theorem dX6_attacks_196 : decode cX6_attacks 196 = .ok (.iload 10, 2) := by decide +kernel
theorem dX6_attacks_198 : decode cX6_attacks 198 = .ok (.iload 5, 2) := by decide +kernel
theorem dX6_attacks_200 : decode cX6_attacks 200 = .ok (.if_icmp .lt 7, 3) := by decide +kernel
theorem dX6_attacks_203 : decode cX6_attacks 203 = .ok (.iconst 1, 1) := by decide +kernel
theorem dX6_attacks_204 : decode cX6_attacks 204 = .ok (.goto 4, 3) := by decide +kernel
theorem dX6_attacks_207 : decode cX6_attacks 207 = .ok (.iconst 0, 1) := by decide +kernel
theorem dX6_attacks_208 : decode cX6_attacks 208 = .ok (.ireturn, 1) := by decide +kernel
theorem dX6_areBeside_0 : decode cX6_areBeside 0 = .ok (.iload_n 0, 1) := by decide +kernel
theorem dX6_areBeside_1 : decode cX6_areBeside 1 = .ok (.ifCond .lt 38, 3) := by decide +kernel
theorem dX6_areBeside_4 : decode cX6_areBeside 4 = .ok (.iload_n 1, 1) := by decide +kernel
theorem dX6_areBeside_5 : decode cX6_areBeside 5 = .ok (.ifCond .lt 34, 3) := by decide +kernel
theorem dX6_areBeside_8 : decode cX6_areBeside 8 = .ok (.iload_n 0, 1) := by decide +kernel
theorem dX6_areBeside_9 : decode cX6_areBeside 9 = .ok (.iconst 5, 1) := by decide +kernel
theorem dX6_areBeside_10 : decode cX6_areBeside 10 = .ok (.irem, 1) := by decide +kernel
theorem dX6_areBeside_11 : decode cX6_areBeside 11 = .ok (.iload_n 1, 1) := by decide +kernel
theorem dX6_areBeside_12 : decode cX6_areBeside 12 = .ok (.iconst 5, 1) := by decide +kernel
theorem dX6_areBeside_13 : decode cX6_areBeside 13 = .ok (.irem, 1) := by decide +kernel
theorem dX6_areBeside_14 : decode cX6_areBeside 14 = .ok (.isub, 1) := by decide +kernel
theorem dX6_areBeside_15 : decode cX6_areBeside 15 = .ok (.invokestatic 99, 3) := by decide +kernel
theorem dX6_areBeside_18 : decode cX6_areBeside 18 = .ok (.iload_n 0, 1) := by decide +kernel
theorem dX6_areBeside_19 : decode cX6_areBeside 19 = .ok (.iconst 5, 1) := by decide +kernel
theorem dX6_areBeside_20 : decode cX6_areBeside 20 = .ok (.idiv, 1) := by decide +kernel
theorem dX6_areBeside_21 : decode cX6_areBeside 21 = .ok (.iload_n 1, 1) := by decide +kernel
theorem dX6_areBeside_22 : decode cX6_areBeside 22 = .ok (.iconst 5, 1) := by decide +kernel
theorem dX6_areBeside_23 : decode cX6_areBeside 23 = .ok (.idiv, 1) := by decide +kernel
theorem dX6_areBeside_24 : decode cX6_areBeside 24 = .ok (.isub, 1) := by decide +kernel
theorem dX6_areBeside_25 : decode cX6_areBeside 25 = .ok (.invokestatic 99, 3) := by decide +kernel
theorem dX6_areBeside_28 : decode cX6_areBeside 28 = .ok (.invokestatic 104, 3) := by decide +kernel
theorem dX6_areBeside_31 : decode cX6_areBeside 31 = .ok (.iconst 1, 1) := by decide +kernel
theorem dX6_areBeside_32 : decode cX6_areBeside 32 = .ok (.if_icmp .ne 7, 3) := by decide +kernel
theorem dX6_areBeside_35 : decode cX6_areBeside 35 = .ok (.iconst 1, 1) := by decide +kernel
theorem dX6_areBeside_36 : decode cX6_areBeside 36 = .ok (.goto 4, 3) := by decide +kernel
theorem dX6_areBeside_39 : decode cX6_areBeside 39 = .ok (.iconst 0, 1) := by decide +kernel
theorem dX6_areBeside_40 : decode cX6_areBeside 40 = .ok (.ireturn, 1) := by decide +kernel
theorem dX6_isMove_0 : decode cX6_isMove 0 = .ok (.aload_n 0, 1) := by decide +kernel
theorem dX6_isMove_1 : decode cX6_isMove 1 = .ok (.getfield 9, 3) := by decide +kernel
theorem dX6_isMove_4 : decode cX6_isMove 4 = .ok (.iload_n 1, 1) := by decide +kernel
theorem dX6_isMove_5 : decode cX6_isMove 5 = .ok (.iaload, 1) := by decide +kernel
theorem dX6_isMove_6 : decode cX6_isMove 6 = .ok (.invokestatic 107, 3) := by decide +kernel
theorem dX6_isMove_9 : decode cX6_isMove 9 = .ok (.ifCond .eq 36, 3) := by decide +kernel
theorem dX6_isMove_12 : decode cX6_isMove 12 = .ok (.aload_n 0, 1) := by decide +kernel
theorem dX6_isMove_13 : decode cX6_isMove 13 = .ok (.iload_n 1, 1) := by decide +kernel
theorem dX6_isMove_14 : decode cX6_isMove 14 = .ok (.iload_n 2, 1) := by decide +kernel
theorem dX6_isMove_15 : decode cX6_isMove 15 = .ok (.invokevirtual 110, 3) := by decide +kernel
theorem dX6_isMove_18 : decode cX6_isMove 18 = .ok (.ifCond .eq 27, 3) := by decide +kernel
theorem dX6_isMove_21 : decode cX6_isMove 21 = .ok (.aload_n 0, 1) := by decide +kernel
theorem dX6_isMove_22 : decode cX6_isMove 22 = .ok (.getfield 9, 3) := by decide +kernel
theorem dX6_isMove_25 : decode cX6_isMove 25 = .ok (.iload_n 2, 1) := by decide +kernel
theorem dX6_isMove_26 : decode cX6_isMove 26 = .ok (.iaload, 1) := by decide +kernel
theorem dX6_isMove_27 : decode cX6_isMove 27 = .ok (.ifCond .eq 14, 3) := by decide +kernel
theorem dX6_isMove_30 : decode cX6_isMove 30 = .ok (.aload_n 0, 1) := by decide +kernel
theorem dX6_isMove_31 : decode cX6_isMove 31 = .ok (.getfield 9, 3) := by decide +kernel
theorem dX6_isMove_34 : decode cX6_isMove 34 = .ok (.iload_n 2, 1) := by decide +kernel
theorem dX6_isMove_35 : decode cX6_isMove 35 = .ok (.iaload, 1) := by decide +kernel
theorem dX6_isMove_36 : decode cX6_isMove 36 = .ok (.bipush 6, 2) := by decide +kernel
theorem dX6_isMove_38 : decode cX6_isMove 38 = .ok (.if_icmp .ne 7, 3) := by decide +kernel
theorem dX6_isMove_41 : decode cX6_isMove 41 = .ok (.iconst 1, 1) := by decide +kernel
theorem dX6_isMove_42 : decode cX6_isMove 42 = .ok (.goto 4, 3) := by decide +kernel
theorem dX6_isMove_45 : decode cX6_isMove 45 = .ok (.iconst 0, 1) := by decide +kernel
theorem dX6_isMove_46 : decode cX6_isMove 46 = .ok (.istore_n 3, 1) := by decide +kernel
theorem dX6_isMove_47 : decode cX6_isMove 47 = .ok (.iload_n 3, 1) := by decide +kernel
theorem dX6_isMove_48 : decode cX6_isMove 48 = .ok (.ifCond .eq 30, 3) := by decide +kernel
theorem dX6_isMove_51 : decode cX6_isMove 51 = .ok (.aload_n 0, 1) := by decide +kernel
theorem dX6_isMove_52 : decode cX6_isMove 52 = .ok (.getfield 9, 3) := by decide +kernel
theorem dX6_isMove_55 : decode cX6_isMove 55 = .ok (.iload_n 1, 1) := by decide +kernel
theorem dX6_isMove_56 : decode cX6_isMove 56 = .ok (.iaload, 1) := by decide +kernel
theorem dX6_isMove_57 : decode cX6_isMove 57 = .ok (.iconst 1, 1) := by decide +kernel
theorem dX6_isMove_58 : decode cX6_isMove 58 = .ok (.if_icmp .ne 16, 3) := by decide +kernel
theorem dX6_isMove_61 : decode cX6_isMove 61 = .ok (.iload_n 2, 1) := by decide +kernel
theorem dX6_isMove_62 : decode cX6_isMove 62 = .ok (.aload_n 0, 1) := by decide +kernel
theorem dX6_isMove_63 : decode cX6_isMove 63 = .ok (.bipush 7, 2) := by decide +kernel
theorem dX6_isMove_65 : decode cX6_isMove 65 = .ok (.invokevirtual 72, 3) := by decide +kernel
theorem dX6_isMove_68 : decode cX6_isMove 68 = .ok (.invokestatic 114, 3) := by decide +kernel
theorem dX6_isMove_71 : decode cX6_isMove 71 = .ok (.ifCond .ne 7, 3) := by decide +kernel
theorem dX6_isMove_74 : decode cX6_isMove 74 = .ok (.iconst 1, 1) := by decide +kernel
theorem dX6_isMove_75 : decode cX6_isMove 75 = .ok (.goto 4, 3) := by decide +kernel
theorem dX6_isMove_78 : decode cX6_isMove 78 = .ok (.iconst 0, 1) := by decide +kernel
theorem dX6_isMove_79 : decode cX6_isMove 79 = .ok (.ireturn, 1) := by decide +kernel
theorem dX6_countOf_0 : decode cX6_countOf 0 = .ok (.iconst 0, 1) := by decide +kernel
theorem dX6_countOf_1 : decode cX6_countOf 1 = .ok (.istore_n 3, 1) := by decide +kernel
theorem dX6_countOf_2 : decode cX6_countOf 2 = .ok (.iconst 0, 1) := by decide +kernel
theorem dX6_countOf_3 : decode cX6_countOf 3 = .ok (.istore 4, 2) := by decide +kernel
theorem dX6_countOf_5 : decode cX6_countOf 5 = .ok (.iload 4, 2) := by decide +kernel
theorem dX6_countOf_7 : decode cX6_countOf 7 = .ok (.bipush 25, 2) := by decide +kernel
theorem dX6_countOf_9 : decode cX6_countOf 9 = .ok (.if_icmp .ge 44, 3) := by decide +kernel
theorem dX6_countOf_12 : decode cX6_countOf 12 = .ok (.iload_n 3, 1) := by decide +kernel
theorem dX6_countOf_13 : decode cX6_countOf 13 = .ok (.iload_n 2, 1) := by decide +kernel
theorem dX6_countOf_14 : decode cX6_countOf 14 = .ok (.ifCond .eq 16, 3) := by decide +kernel
theorem dX6_countOf_17 : decode cX6_countOf 17 = .ok (.aload_n 0, 1) := by decide +kernel
theorem dX6_countOf_18 : decode cX6_countOf 18 = .ok (.iload_n 1, 1) := by decide +kernel
theorem dX6_countOf_19 : decode cX6_countOf 19 = .ok (.iload 4, 2) := by decide +kernel
theorem dX6_countOf_21 : decode cX6_countOf 21 = .ok (.invokevirtual 117, 3) := by decide +kernel
theorem dX6_countOf_24 : decode cX6_countOf 24 = .ok (.ifCond .eq 20, 3) := by decide +kernel
theorem dX6_countOf_27 : decode cX6_countOf 27 = .ok (.goto 13, 3) := by decide +kernel
theorem dX6_countOf_30 : decode cX6_countOf 30 = .ok (.aload_n 0, 1) := by decide +kernel
theorem dX6_countOf_31 : decode cX6_countOf 31 = .ok (.iload_n 1, 1) := by decide +kernel
theorem dX6_countOf_32 : decode cX6_countOf 32 = .ok (.iload 4, 2) := by decide +kernel
theorem dX6_countOf_34 : decode cX6_countOf 34 = .ok (.invokevirtual 110, 3) := by decide +kernel
theorem dX6_countOf_37 : decode cX6_countOf 37 = .ok (.ifCond .eq 7, 3) := by decide +kernel
theorem dX6_countOf_40 : decode cX6_countOf 40 = .ok (.iconst 1, 1) := by decide +kernel
theorem dX6_countOf_41 : decode cX6_countOf 41 = .ok (.goto 4, 3) := by decide +kernel
theorem dX6_countOf_44 : decode cX6_countOf 44 = .ok (.iconst 0, 1) := by decide +kernel
theorem dX6_countOf_45 : decode cX6_countOf 45 = .ok (.iadd, 1) := by decide +kernel
theorem dX6_countOf_46 : decode cX6_countOf 46 = .ok (.istore_n 3, 1) := by decide +kernel
theorem dX6_countOf_47 : decode cX6_countOf 47 = .ok (.iinc 4 1, 3) := by decide +kernel
theorem dX6_countOf_50 : decode cX6_countOf 50 = .ok (.goto (-45), 3) := by decide +kernel
theorem dX6_countOf_53 : decode cX6_countOf 53 = .ok (.iload_n 3, 1) := by decide +kernel
theorem dX6_countOf_54 : decode cX6_countOf 54 = .ok (.ireturn, 1) := by decide +kernel
theorem dX6_attackers_0 : decode cX6_attackers 0 = .ok (.iload_n 1, 1) := by decide +kernel
theorem dX6_attackers_1 : decode cX6_attackers 1 = .ok (.invokestatic 64, 3) := by decide +kernel
theorem dX6_attackers_4 : decode cX6_attackers 4 = .ok (.ifCond .eq 11, 3) := by decide +kernel
theorem dX6_attackers_7 : decode cX6_attackers 7 = .ok (.aload_n 0, 1) := by decide +kernel
theorem dX6_attackers_8 : decode cX6_attackers 8 = .ok (.iload_n 1, 1) := by decide +kernel
theorem dX6_attackers_9 : decode cX6_attackers 9 = .ok (.invokevirtual 120, 3) := by decide +kernel
theorem dX6_attackers_12 : decode cX6_attackers 12 = .ok (.goto 4, 3) := by decide +kernel
theorem dX6_attackers_15 : decode cX6_attackers 15 = .ok (.iconst (-1), 1) := by decide +kernel
theorem dX6_attackers_16 : decode cX6_attackers 16 = .ok (.ireturn, 1) := by decide +kernel
theorem dX6_attackersAgain_0 : decode cX6_attackersAgain 0 = .ok (.aload_n 0, 1) := by decide +kernel
theorem dX6_attackersAgain_1 : decode cX6_attackersAgain 1 = .ok (.iload_n 1, 1) := by decide +kernel
theorem dX6_attackersAgain_2 : decode cX6_attackersAgain 2 = .ok (.invokevirtual 123, 3) := by decide +kernel
theorem dX6_attackersAgain_5 : decode cX6_attackersAgain 5 = .ok (.ireturn, 1) := by decide +kernel
theorem dX6_canEscape_0 : decode cX6_canEscape 0 = .ok (.aload_n 0, 1) := by decide +kernel
theorem dX6_canEscape_1 : decode cX6_canEscape 1 = .ok (.bipush 7, 2) := by decide +kernel
theorem dX6_canEscape_3 : decode cX6_canEscape 3 = .ok (.invokevirtual 72, 3) := by decide +kernel
theorem dX6_canEscape_6 : decode cX6_canEscape 6 = .ok (.istore_n 2, 1) := by decide +kernel
theorem dX6_canEscape_7 : decode cX6_canEscape 7 = .ok (.iload_n 2, 1) := by decide +kernel
theorem dX6_canEscape_8 : decode cX6_canEscape 8 = .ok (.iload_n 1, 1) := by decide +kernel
theorem dX6_canEscape_9 : decode cX6_canEscape 9 = .ok (.invokestatic 114, 3) := by decide +kernel
theorem dX6_canEscape_12 : decode cX6_canEscape 12 = .ok (.ifCond .eq 14, 3) := by decide +kernel
theorem dX6_canEscape_15 : decode cX6_canEscape 15 = .ok (.aload_n 0, 1) := by decide +kernel
theorem dX6_canEscape_16 : decode cX6_canEscape 16 = .ok (.getfield 9, 3) := by decide +kernel
theorem dX6_canEscape_19 : decode cX6_canEscape 19 = .ok (.iload_n 1, 1) := by decide +kernel
theorem dX6_canEscape_20 : decode cX6_canEscape 20 = .ok (.iaload, 1) := by decide +kernel
theorem dX6_canEscape_21 : decode cX6_canEscape 21 = .ok (.bipush 6, 2) := by decide +kernel
theorem dX6_canEscape_23 : decode cX6_canEscape 23 = .ok (.if_icmp .ne 5, 3) := by decide +kernel
theorem dX6_canEscape_26 : decode cX6_canEscape 26 = .ok (.iconst 0, 1) := by decide +kernel
theorem dX6_canEscape_27 : decode cX6_canEscape 27 = .ok (.ireturn, 1) := by decide +kernel
theorem dX6_canEscape_28 : decode cX6_canEscape 28 = .ok (.aload_n 0, 1) := by decide +kernel
theorem dX6_canEscape_29 : decode cX6_canEscape 29 = .ok (.getfield 9, 3) := by decide +kernel
theorem dX6_canEscape_32 : decode cX6_canEscape 32 = .ok (.iload_n 1, 1) := by decide +kernel
theorem dX6_canEscape_33 : decode cX6_canEscape 33 = .ok (.iaload, 1) := by decide +kernel
theorem dX6_canEscape_34 : decode cX6_canEscape 34 = .ok (.istore_n 3, 1) := by decide +kernel
theorem dX6_canEscape_35 : decode cX6_canEscape 35 = .ok (.aload_n 0, 1) := by decide +kernel
theorem dX6_canEscape_36 : decode cX6_canEscape 36 = .ok (.getfield 9, 3) := by decide +kernel
theorem dX6_canEscape_39 : decode cX6_canEscape 39 = .ok (.iload_n 2, 1) := by decide +kernel
theorem dX6_canEscape_40 : decode cX6_canEscape 40 = .ok (.iconst 0, 1) := by decide +kernel
theorem dX6_canEscape_41 : decode cX6_canEscape 41 = .ok (.iastore, 1) := by decide +kernel
theorem dX6_canEscape_42 : decode cX6_canEscape 42 = .ok (.aload_n 0, 1) := by decide +kernel
theorem dX6_canEscape_43 : decode cX6_canEscape 43 = .ok (.getfield 9, 3) := by decide +kernel
theorem dX6_canEscape_46 : decode cX6_canEscape 46 = .ok (.iload_n 1, 1) := by decide +kernel
theorem dX6_canEscape_47 : decode cX6_canEscape 47 = .ok (.bipush 7, 2) := by decide +kernel
theorem dX6_canEscape_49 : decode cX6_canEscape 49 = .ok (.iastore, 1) := by decide +kernel
theorem dX6_canEscape_50 : decode cX6_canEscape 50 = .ok (.aload_n 0, 1) := by decide +kernel
theorem dX6_canEscape_51 : decode cX6_canEscape 51 = .ok (.iload_n 1, 1) := by decide +kernel
theorem dX6_canEscape_52 : decode cX6_canEscape 52 = .ok (.invokevirtual 120, 3) := by decide +kernel
theorem dX6_canEscape_55 : decode cX6_canEscape 55 = .ok (.ifCond .ne 7, 3) := by decide +kernel
theorem dX6_canEscape_58 : decode cX6_canEscape 58 = .ok (.iconst 1, 1) := by decide +kernel
theorem dX6_canEscape_59 : decode cX6_canEscape 59 = .ok (.goto 4, 3) := by decide +kernel
theorem dX6_canEscape_62 : decode cX6_canEscape 62 = .ok (.iconst 0, 1) := by decide +kernel
theorem dX6_canEscape_63 : decode cX6_canEscape 63 = .ok (.istore 4, 2) := by decide +kernel
theorem dX6_canEscape_65 : decode cX6_canEscape 65 = .ok (.aload_n 0, 1) := by decide +kernel
theorem dX6_canEscape_66 : decode cX6_canEscape 66 = .ok (.getfield 9, 3) := by decide +kernel
theorem dX6_canEscape_69 : decode cX6_canEscape 69 = .ok (.iload_n 2, 1) := by decide +kernel
theorem dX6_canEscape_70 : decode cX6_canEscape 70 = .ok (.bipush 7, 2) := by decide +kernel
theorem dX6_canEscape_72 : decode cX6_canEscape 72 = .ok (.iastore, 1) := by decide +kernel
theorem dX6_canEscape_73 : decode cX6_canEscape 73 = .ok (.aload_n 0, 1) := by decide +kernel
theorem dX6_canEscape_74 : decode cX6_canEscape 74 = .ok (.getfield 9, 3) := by decide +kernel
theorem dX6_canEscape_77 : decode cX6_canEscape 77 = .ok (.iload_n 1, 1) := by decide +kernel
theorem dX6_canEscape_78 : decode cX6_canEscape 78 = .ok (.iload_n 3, 1) := by decide +kernel
theorem dX6_canEscape_79 : decode cX6_canEscape 79 = .ok (.iastore, 1) := by decide +kernel
theorem dX6_canEscape_80 : decode cX6_canEscape 80 = .ok (.iload 4, 2) := by decide +kernel
theorem dX6_canEscape_82 : decode cX6_canEscape 82 = .ok (.ireturn, 1) := by decide +kernel
theorem dX6_escapeSet_0 : decode cX6_escapeSet 0 = .ok (.iconst 0, 1) := by decide +kernel
theorem dX6_escapeSet_1 : decode cX6_escapeSet 1 = .ok (.istore_n 1, 1) := by decide +kernel
theorem dX6_escapeSet_2 : decode cX6_escapeSet 2 = .ok (.iconst 0, 1) := by decide +kernel
theorem dX6_escapeSet_3 : decode cX6_escapeSet 3 = .ok (.istore_n 2, 1) := by decide +kernel
theorem dX6_escapeSet_4 : decode cX6_escapeSet 4 = .ok (.iload_n 2, 1) := by decide +kernel
theorem dX6_escapeSet_5 : decode cX6_escapeSet 5 = .ok (.bipush 25, 2) := by decide +kernel
theorem dX6_escapeSet_7 : decode cX6_escapeSet 7 = .ok (.if_icmp .ge 27, 3) := by decide +kernel
theorem dX6_escapeSet_10 : decode cX6_escapeSet 10 = .ok (.iload_n 1, 1) := by decide +kernel
theorem dX6_escapeSet_11 : decode cX6_escapeSet 11 = .ok (.aload_n 0, 1) := by decide +kernel
theorem dX6_escapeSet_12 : decode cX6_escapeSet 12 = .ok (.iload_n 2, 1) := by decide +kernel
theorem dX6_escapeSet_13 : decode cX6_escapeSet 13 = .ok (.invokevirtual 126, 3) := by decide +kernel
theorem dX6_escapeSet_16 : decode cX6_escapeSet 16 = .ok (.ifCond .eq 9, 3) := by decide +kernel
theorem dX6_escapeSet_19 : decode cX6_escapeSet 19 = .ok (.iconst 1, 1) := by decide +kernel
theorem dX6_escapeSet_20 : decode cX6_escapeSet 20 = .ok (.iload_n 2, 1) := by decide +kernel
theorem dX6_escapeSet_21 : decode cX6_escapeSet 21 = .ok (.ishl, 1) := by decide +kernel
theorem dX6_escapeSet_22 : decode cX6_escapeSet 22 = .ok (.goto 4, 3) := by decide +kernel
theorem dX6_escapeSet_25 : decode cX6_escapeSet 25 = .ok (.iconst 0, 1) := by decide +kernel
theorem dX6_escapeSet_26 : decode cX6_escapeSet 26 = .ok (.ior, 1) := by decide +kernel
theorem dX6_escapeSet_27 : decode cX6_escapeSet 27 = .ok (.istore_n 1, 1) := by decide +kernel
theorem dX6_escapeSet_28 : decode cX6_escapeSet 28 = .ok (.iinc 2 1, 3) := by decide +kernel
theorem dX6_escapeSet_31 : decode cX6_escapeSet 31 = .ok (.goto (-27), 3) := by decide +kernel
theorem dX6_escapeSet_34 : decode cX6_escapeSet 34 = .ok (.iload_n 1, 1) := by decide +kernel
theorem dX6_escapeSet_35 : decode cX6_escapeSet 35 = .ok (.ireturn, 1) := by decide +kernel
theorem dX6_escapes_0 : decode cX6_escapes 0 = .ok (.aload_n 0, 1) := by decide +kernel
theorem dX6_escapes_1 : decode cX6_escapes 1 = .ok (.bipush 7, 2) := by decide +kernel
theorem dX6_escapes_3 : decode cX6_escapes 3 = .ok (.invokevirtual 72, 3) := by decide +kernel
theorem dX6_escapes_6 : decode cX6_escapes 6 = .ok (.ifCond .ge 8, 3) := by decide +kernel
theorem dX6_escapes_9 : decode cX6_escapes 9 = .ok (.bipush (-4), 2) := by decide +kernel
theorem dX6_escapes_11 : decode cX6_escapes 11 = .ok (.goto 7, 3) := by decide +kernel
theorem dX6_escapes_14 : decode cX6_escapes 14 = .ok (.aload_n 0, 1) := by decide +kernel
theorem dX6_escapes_15 : decode cX6_escapes 15 = .ok (.invokevirtual 129, 3) := by decide +kernel
theorem dX6_escapes_18 : decode cX6_escapes 18 = .ok (.ireturn, 1) := by decide +kernel
theorem dX6_fits_0 : decode cX6_fits 0 = .ok (.aload_n 0, 1) := by decide +kernel
theorem dX6_fits_1 : decode cX6_fits 1 = .ok (.bipush 7, 2) := by decide +kernel
theorem dX6_fits_3 : decode cX6_fits 3 = .ok (.invokevirtual 72, 3) := by decide +kernel
theorem dX6_fits_6 : decode cX6_fits 6 = .ok (.istore_n 1, 1) := by decide +kernel
theorem dX6_fits_7 : decode cX6_fits 7 = .ok (.iload_n 1, 1) := by decide +kernel
theorem dX6_fits_8 : decode cX6_fits 8 = .ok (.ifCond .lt 15, 3) := by decide +kernel
theorem dX6_fits_11 : decode cX6_fits 11 = .ok (.aload_n 0, 1) := by decide +kernel
theorem dX6_fits_12 : decode cX6_fits 12 = .ok (.iload_n 1, 1) := by decide +kernel
theorem dX6_fits_13 : decode cX6_fits 13 = .ok (.invokevirtual 120, 3) := by decide +kernel
theorem dX6_fits_16 : decode cX6_fits 16 = .ok (.ifCond .ne 7, 3) := by decide +kernel
theorem dX6_fits_19 : decode cX6_fits 19 = .ok (.iconst 1, 1) := by decide +kernel
theorem dX6_fits_20 : decode cX6_fits 20 = .ok (.goto 4, 3) := by decide +kernel
theorem dX6_fits_23 : decode cX6_fits 23 = .ok (.iconst 0, 1) := by decide +kernel
theorem dX6_fits_24 : decode cX6_fits 24 = .ok (.ireturn, 1) := by decide +kernel
theorem dX6_isFit_0 : decode cX6_isFit 0 = .ok (.aload_n 0, 1) := by decide +kernel
theorem dX6_isFit_1 : decode cX6_isFit 1 = .ok (.invokevirtual 132, 3) := by decide +kernel
theorem dX6_isFit_4 : decode cX6_isFit 4 = .ok (.ifCond .eq 7, 3) := by decide +kernel
theorem dX6_isFit_7 : decode cX6_isFit 7 = .ok (.iconst 1, 1) := by decide +kernel
theorem dX6_isFit_8 : decode cX6_isFit 8 = .ok (.goto 4, 3) := by decide +kernel
theorem dX6_isFit_11 : decode cX6_isFit 11 = .ok (.iconst 0, 1) := by decide +kernel
theorem dX6_isFit_12 : decode cX6_isFit 12 = .ok (.ireturn, 1) := by decide +kernel
theorem dX6_kindOf_0 : decode cX6_kindOf 0 = .ok (.aload_n 0, 1) := by decide +kernel
theorem dX6_kindOf_1 : decode cX6_kindOf 1 = .ok (.getfield 9, 3) := by decide +kernel
theorem dX6_kindOf_4 : decode cX6_kindOf 4 = .ok (.iload_n 1, 1) := by decide +kernel
theorem dX6_kindOf_5 : decode cX6_kindOf 5 = .ok (.iaload, 1) := by decide +kernel
theorem dX6_kindOf_6 : decode cX6_kindOf 6 = .ok (.istore_n 3, 1) := by decide +kernel
theorem dX6_kindOf_7 : decode cX6_kindOf 7 = .ok (.aload_n 0, 1) := by decide +kernel
theorem dX6_kindOf_8 : decode cX6_kindOf 8 = .ok (.getfield 9, 3) := by decide +kernel
theorem dX6_kindOf_11 : decode cX6_kindOf 11 = .ok (.iload_n 2, 1) := by decide +kernel
theorem dX6_kindOf_12 : decode cX6_kindOf 12 = .ok (.iaload, 1) := by decide +kernel
theorem dX6_kindOf_13 : decode cX6_kindOf 13 = .ok (.istore 4, 2) := by decide +kernel
theorem dX6_kindOf_15 : decode cX6_kindOf 15 = .ok (.aload_n 0, 1) := by decide +kernel
theorem dX6_kindOf_16 : decode cX6_kindOf 16 = .ok (.getfield 9, 3) := by decide +kernel
theorem dX6_kindOf_19 : decode cX6_kindOf 19 = .ok (.iload_n 1, 1) := by decide +kernel
theorem dX6_kindOf_20 : decode cX6_kindOf 20 = .ok (.iconst 0, 1) := by decide +kernel
theorem dX6_kindOf_21 : decode cX6_kindOf 21 = .ok (.iastore, 1) := by decide +kernel
theorem dX6_kindOf_22 : decode cX6_kindOf 22 = .ok (.aload_n 0, 1) := by decide +kernel
theorem dX6_kindOf_23 : decode cX6_kindOf 23 = .ok (.getfield 9, 3) := by decide +kernel
theorem dX6_kindOf_26 : decode cX6_kindOf 26 = .ok (.iload_n 2, 1) := by decide +kernel
theorem dX6_kindOf_27 : decode cX6_kindOf 27 = .ok (.iload_n 3, 1) := by decide +kernel
theorem dX6_kindOf_28 : decode cX6_kindOf 28 = .ok (.iastore, 1) := by decide +kernel
theorem dX6_kindOf_29 : decode cX6_kindOf 29 = .ok (.aload_n 0, 1) := by decide +kernel
theorem dX6_kindOf_30 : decode cX6_kindOf 30 = .ok (.aload_n 0, 1) := by decide +kernel
theorem dX6_kindOf_31 : decode cX6_kindOf 31 = .ok (.bipush 7, 2) := by decide +kernel
theorem dX6_kindOf_33 : decode cX6_kindOf 33 = .ok (.invokevirtual 72, 3) := by decide +kernel
theorem dX6_kindOf_36 : decode cX6_kindOf 36 = .ok (.invokevirtual 120, 3) := by decide +kernel
theorem dX6_kindOf_39 : decode cX6_kindOf 39 = .ok (.ifCond .le 7, 3) := by decide +kernel
theorem dX6_kindOf_42 : decode cX6_kindOf 42 = .ok (.iconst 1, 1) := by decide +kernel
theorem dX6_kindOf_43 : decode cX6_kindOf 43 = .ok (.goto 4, 3) := by decide +kernel
theorem dX6_kindOf_46 : decode cX6_kindOf 46 = .ok (.iconst 0, 1) := by decide +kernel
theorem dX6_kindOf_47 : decode cX6_kindOf 47 = .ok (.istore 5, 2) := by decide +kernel
theorem dX6_kindOf_49 : decode cX6_kindOf 49 = .ok (.aload_n 0, 1) := by decide +kernel
theorem dX6_kindOf_50 : decode cX6_kindOf 50 = .ok (.invokevirtual 129, 3) := by decide +kernel
theorem dX6_kindOf_53 : decode cX6_kindOf 53 = .ok (.istore 6, 2) := by decide +kernel
theorem dX6_kindOf_55 : decode cX6_kindOf 55 = .ok (.aload_n 0, 1) := by decide +kernel
theorem dX6_kindOf_56 : decode cX6_kindOf 56 = .ok (.getfield 9, 3) := by decide +kernel
theorem dX6_kindOf_59 : decode cX6_kindOf 59 = .ok (.iload_n 1, 1) := by decide +kernel
theorem dX6_kindOf_60 : decode cX6_kindOf 60 = .ok (.iload_n 3, 1) := by decide +kernel
theorem dX6_kindOf_61 : decode cX6_kindOf 61 = .ok (.iastore, 1) := by decide +kernel
theorem dX6_kindOf_62 : decode cX6_kindOf 62 = .ok (.aload_n 0, 1) := by decide +kernel
theorem dX6_kindOf_63 : decode cX6_kindOf 63 = .ok (.getfield 9, 3) := by decide +kernel
theorem dX6_kindOf_66 : decode cX6_kindOf 66 = .ok (.iload_n 2, 1) := by decide +kernel
theorem dX6_kindOf_67 : decode cX6_kindOf 67 = .ok (.iload 4, 2) := by decide +kernel
theorem dX6_kindOf_69 : decode cX6_kindOf 69 = .ok (.iastore, 1) := by decide +kernel
theorem dX6_kindOf_70 : decode cX6_kindOf 70 = .ok (.aload_n 0, 1) := by decide +kernel
theorem dX6_kindOf_71 : decode cX6_kindOf 71 = .ok (.iconst (-1), 1) := by decide +kernel
theorem dX6_kindOf_72 : decode cX6_kindOf 72 = .ok (.putfield 136, 3) := by decide +kernel
theorem dX6_kindOf_75 : decode cX6_kindOf 75 = .ok (.bipush 24, 2) := by decide +kernel
theorem dX6_kindOf_77 : decode cX6_kindOf 77 = .ok (.istore 7, 2) := by decide +kernel
theorem dX6_kindOf_79 : decode cX6_kindOf 79 = .ok (.iload 7, 2) := by decide +kernel
theorem dX6_kindOf_81 : decode cX6_kindOf 81 = .ok (.ifCond .lt 33, 3) := by decide +kernel
theorem dX6_kindOf_84 : decode cX6_kindOf 84 = .ok (.aload_n 0, 1) := by decide +kernel
theorem dX6_kindOf_85 : decode cX6_kindOf 85 = .ok (.iload 6, 2) := by decide +kernel
theorem dX6_kindOf_87 : decode cX6_kindOf 87 = .ok (.iload 7, 2) := by decide +kernel
theorem dX6_kindOf_89 : decode cX6_kindOf 89 = .ok (.ishr, 1) := by decide +kernel
theorem dX6_kindOf_90 : decode cX6_kindOf 90 = .ok (.iconst 1, 1) := by decide +kernel
theorem dX6_kindOf_91 : decode cX6_kindOf 91 = .ok (.iand, 1) := by decide +kernel
theorem dX6_kindOf_92 : decode cX6_kindOf 92 = .ok (.iconst 1, 1) := by decide +kernel
theorem dX6_kindOf_93 : decode cX6_kindOf 93 = .ok (.if_icmp .ne 8, 3) := by decide +kernel
theorem dX6_kindOf_96 : decode cX6_kindOf 96 = .ok (.iload 7, 2) := by decide +kernel
theorem dX6_kindOf_98 : decode cX6_kindOf 98 = .ok (.goto 7, 3) := by decide +kernel
theorem dX6_kindOf_101 : decode cX6_kindOf 101 = .ok (.aload_n 0, 1) := by decide +kernel
theorem dX6_kindOf_102 : decode cX6_kindOf 102 = .ok (.getfield 136, 3) := by decide +kernel
theorem dX6_kindOf_105 : decode cX6_kindOf 105 = .ok (.putfield 136, 3) := by decide +kernel
theorem dX6_kindOf_108 : decode cX6_kindOf 108 = .ok (.iinc 7 (-1), 3) := by decide +kernel
theorem dX6_kindOf_111 : decode cX6_kindOf 111 = .ok (.goto (-32), 3) := by decide +kernel
theorem dX6_kindOf_114 : decode cX6_kindOf 114 = .ok (.iload 5, 2) := by decide +kernel
theorem dX6_kindOf_116 : decode cX6_kindOf 116 = .ok (.ifCond .eq 16, 3) := by decide +kernel
theorem dX6_kindOf_119 : decode cX6_kindOf 119 = .ok (.iload 6, 2) := by decide +kernel
theorem dX6_kindOf_121 : decode cX6_kindOf 121 = .ok (.ifCond .ne 7, 3) := by decide +kernel
theorem dX6_kindOf_124 : decode cX6_kindOf 124 = .ok (.iconst 3, 1) := by decide +kernel
theorem dX6_kindOf_125 : decode cX6_kindOf 125 = .ok (.goto 17, 3) := by decide +kernel
theorem dX6_kindOf_128 : decode cX6_kindOf 128 = .ok (.iconst 2, 1) := by decide +kernel
theorem dX6_kindOf_129 : decode cX6_kindOf 129 = .ok (.goto 13, 3) := by decide +kernel
theorem dX6_kindOf_132 : decode cX6_kindOf 132 = .ok (.iload 6, 2) := by decide +kernel
theorem dX6_kindOf_134 : decode cX6_kindOf 134 = .ok (.ifCond .ne 7, 3) := by decide +kernel
theorem dX6_kindOf_137 : decode cX6_kindOf 137 = .ok (.iconst 1, 1) := by decide +kernel
theorem dX6_kindOf_138 : decode cX6_kindOf 138 = .ok (.goto 4, 3) := by decide +kernel
theorem dX6_kindOf_141 : decode cX6_kindOf 141 = .ok (.iconst 0, 1) := by decide +kernel
theorem dX6_kindOf_142 : decode cX6_kindOf 142 = .ok (.ireturn, 1) := by decide +kernel
theorem dX6_tells_0 : decode cX6_tells 0 = .ok (.aload_n 0, 1) := by decide +kernel
theorem dX6_tells_1 : decode cX6_tells 1 = .ok (.iconst 0, 1) := by decide +kernel
theorem dX6_tells_2 : decode cX6_tells 2 = .ok (.putfield 139, 3) := by decide +kernel
theorem dX6_tells_5 : decode cX6_tells 5 = .ok (.iconst 0, 1) := by decide +kernel
theorem dX6_tells_6 : decode cX6_tells 6 = .ok (.istore_n 3, 1) := by decide +kernel
theorem dX6_tells_7 : decode cX6_tells 7 = .ok (.iload_n 3, 1) := by decide +kernel
theorem dX6_tells_8 : decode cX6_tells 8 = .ok (.bipush 25, 2) := by decide +kernel
theorem dX6_tells_10 : decode cX6_tells 10 = .ok (.if_icmp .ge 97, 3) := by decide +kernel
theorem dX6_tells_13 : decode cX6_tells 13 = .ok (.iconst 0, 1) := by decide +kernel
theorem dX6_tells_14 : decode cX6_tells 14 = .ok (.istore 4, 2) := by decide +kernel
theorem dX6_tells_16 : decode cX6_tells 16 = .ok (.iload 4, 2) := by decide +kernel
theorem dX6_tells_18 : decode cX6_tells 18 = .ok (.bipush 25, 2) := by decide +kernel
theorem dX6_tells_20 : decode cX6_tells 20 = .ok (.if_icmp .ge 81, 3) := by decide +kernel
theorem dX6_tells_23 : decode cX6_tells 23 = .ok (.iload_n 1, 1) := by decide +kernel
theorem dX6_tells_24 : decode cX6_tells 24 = .ok (.ifCond .lt 8, 3) := by decide +kernel
theorem dX6_tells_27 : decode cX6_tells 27 = .ok (.iload_n 3, 1) := by decide +kernel
theorem dX6_tells_28 : decode cX6_tells 28 = .ok (.iload_n 1, 1) := by decide +kernel
theorem dX6_tells_29 : decode cX6_tells 29 = .ok (.if_icmp .ne 17, 3) := by decide +kernel
theorem dX6_tells_32 : decode cX6_tells 32 = .ok (.aload_n 0, 1) := by decide +kernel
theorem dX6_tells_33 : decode cX6_tells 33 = .ok (.iload_n 3, 1) := by decide +kernel
theorem dX6_tells_34 : decode cX6_tells 34 = .ok (.iload 4, 2) := by decide +kernel
theorem dX6_tells_36 : decode cX6_tells 36 = .ok (.invokevirtual 117, 3) := by decide +kernel
theorem dX6_tells_39 : decode cX6_tells 39 = .ok (.ifCond .eq 7, 3) := by decide +kernel
theorem dX6_tells_42 : decode cX6_tells 42 = .ok (.iconst 1, 1) := by decide +kernel
theorem dX6_tells_43 : decode cX6_tells 43 = .ok (.goto 4, 3) := by decide +kernel
theorem dX6_tells_46 : decode cX6_tells 46 = .ok (.iconst 0, 1) := by decide +kernel
theorem dX6_tells_47 : decode cX6_tells 47 = .ok (.istore 5, 2) := by decide +kernel
theorem dX6_tells_49 : decode cX6_tells 49 = .ok (.iload 5, 2) := by decide +kernel
theorem dX6_tells_51 : decode cX6_tells 51 = .ok (.ifCond .eq 44, 3) := by decide +kernel
theorem dX6_tells_54 : decode cX6_tells 54 = .ok (.iload_n 2, 1) := by decide +kernel
theorem dX6_tells_55 : decode cX6_tells 55 = .ok (.ifCond .lt 14, 3) := by decide +kernel
theorem dX6_tells_58 : decode cX6_tells 58 = .ok (.aload_n 0, 1) := by decide +kernel
theorem dX6_tells_59 : decode cX6_tells 59 = .ok (.iload_n 3, 1) := by decide +kernel
theorem dX6_tells_60 : decode cX6_tells 60 = .ok (.iload 4, 2) := by decide +kernel
theorem dX6_tells_62 : decode cX6_tells 62 = .ok (.invokevirtual 142, 3) := by decide +kernel
theorem dX6_tells_65 : decode cX6_tells 65 = .ok (.iload_n 2, 1) := by decide +kernel
theorem dX6_tells_66 : decode cX6_tells 66 = .ok (.if_icmp .ne 29, 3) := by decide +kernel
theorem dX6_tells_69 : decode cX6_tells 69 = .ok (.aload_n 0, 1) := by decide +kernel
theorem dX6_tells_70 : decode cX6_tells 70 = .ok (.getfield 26, 3) := by decide +kernel
theorem dX6_tells_73 : decode cX6_tells 73 = .ok (.aload_n 0, 1) := by decide +kernel
theorem dX6_tells_74 : decode cX6_tells 74 = .ok (.getfield 139, 3) := by decide +kernel
theorem dX6_tells_77 : decode cX6_tells 77 = .ok (.bipush 100, 2) := by decide +kernel
theorem dX6_tells_79 : decode cX6_tells 79 = .ok (.iload_n 3, 1) := by decide +kernel
theorem dX6_tells_80 : decode cX6_tells 80 = .ok (.imul, 1) := by decide +kernel
theorem dX6_tells_81 : decode cX6_tells 81 = .ok (.iload 4, 2) := by decide +kernel
theorem dX6_tells_83 : decode cX6_tells 83 = .ok (.iadd, 1) := by decide +kernel
theorem dX6_tells_84 : decode cX6_tells 84 = .ok (.iastore, 1) := by decide +kernel
theorem dX6_tells_85 : decode cX6_tells 85 = .ok (.aload_n 0, 1) := by decide +kernel
theorem dX6_tells_86 : decode cX6_tells 86 = .ok (.dup, 1) := by decide +kernel
theorem dX6_tells_87 : decode cX6_tells 87 = .ok (.getfield 139, 3) := by decide +kernel
theorem dX6_tells_90 : decode cX6_tells 90 = .ok (.iconst 1, 1) := by decide +kernel
theorem dX6_tells_91 : decode cX6_tells 91 = .ok (.iadd, 1) := by decide +kernel
theorem dX6_tells_92 : decode cX6_tells 92 = .ok (.putfield 139, 3) := by decide +kernel
theorem dX6_tells_95 : decode cX6_tells 95 = .ok (.iinc 4 1, 3) := by decide +kernel
theorem dX6_tells_98 : decode cX6_tells 98 = .ok (.goto (-82), 3) := by decide +kernel
theorem dX6_tells_101 : decode cX6_tells 101 = .ok (.iinc 3 1, 3) := by decide +kernel
theorem dX6_tells_104 : decode cX6_tells 104 = .ok (.goto (-97), 3) := by decide +kernel
theorem dX6_tells_107 : decode cX6_tells 107 = .ok (.return_, 1) := by decide +kernel
theorem dX6_move_0 : decode cX6_move 0 = .ok (.aload_n 0, 1) := by decide +kernel
theorem dX6_move_1 : decode cX6_move 1 = .ok (.iconst (-1), 1) := by decide +kernel
theorem dX6_move_2 : decode cX6_move 2 = .ok (.iconst (-1), 1) := by decide +kernel
theorem dX6_move_3 : decode cX6_move 3 = .ok (.invokevirtual 145, 3) := by decide +kernel
theorem dX6_move_6 : decode cX6_move 6 = .ok (.iload_n 1, 1) := by decide +kernel
theorem dX6_move_7 : decode cX6_move 7 = .ok (.iconst 0, 1) := by decide +kernel
theorem dX6_move_8 : decode cX6_move 8 = .ok (.aload_n 0, 1) := by decide +kernel
theorem dX6_move_9 : decode cX6_move 9 = .ok (.getfield 139, 3) := by decide +kernel
theorem dX6_move_12 : decode cX6_move 12 = .ok (.iconst 1, 1) := by decide +kernel
theorem dX6_move_13 : decode cX6_move 13 = .ok (.isub, 1) := by decide +kernel
theorem dX6_move_14 : decode cX6_move 14 = .ok (.invokestatic 60, 3) := by decide +kernel
theorem dX6_move_17 : decode cX6_move 17 = .ok (.ifCond .eq 12, 3) := by decide +kernel
theorem dX6_move_20 : decode cX6_move 20 = .ok (.aload_n 0, 1) := by decide +kernel
theorem dX6_move_21 : decode cX6_move 21 = .ok (.getfield 26, 3) := by decide +kernel
theorem dX6_move_24 : decode cX6_move 24 = .ok (.iload_n 1, 1) := by decide +kernel
theorem dX6_move_25 : decode cX6_move 25 = .ok (.iaload, 1) := by decide +kernel
theorem dX6_move_26 : decode cX6_move 26 = .ok (.goto 4, 3) := by decide +kernel
theorem dX6_move_29 : decode cX6_move 29 = .ok (.iconst (-1), 1) := by decide +kernel
theorem dX6_move_30 : decode cX6_move 30 = .ok (.ireturn, 1) := by decide +kernel
theorem dX6_key_0 : decode cX6_key 0 = .ok (.aload_n 0, 1) := by decide +kernel
theorem dX6_key_1 : decode cX6_key 1 = .ok (.invokevirtual 132, 3) := by decide +kernel
theorem dX6_key_4 : decode cX6_key 4 = .ok (.ifCond .ne 6, 3) := by decide +kernel
theorem dX6_key_7 : decode cX6_key 7 = .ok (.bipush (-4), 2) := by decide +kernel
theorem dX6_key_9 : decode cX6_key 9 = .ok (.ireturn, 1) := by decide +kernel
theorem dX6_key_10 : decode cX6_key 10 = .ok (.aload_n 0, 1) := by decide +kernel
theorem dX6_key_11 : decode cX6_key 11 = .ok (.iconst (-1), 1) := by decide +kernel
theorem dX6_key_12 : decode cX6_key 12 = .ok (.iconst 3, 1) := by decide +kernel
theorem dX6_key_13 : decode cX6_key 13 = .ok (.invokevirtual 145, 3) := by decide +kernel
theorem dX6_key_16 : decode cX6_key 16 = .ok (.iload_n 1, 1) := by decide +kernel
theorem dX6_key_17 : decode cX6_key 17 = .ok (.iconst 0, 1) := by decide +kernel
theorem dX6_key_18 : decode cX6_key 18 = .ok (.aload_n 0, 1) := by decide +kernel
theorem dX6_key_19 : decode cX6_key 19 = .ok (.getfield 139, 3) := by decide +kernel
theorem dX6_key_22 : decode cX6_key 22 = .ok (.iconst 1, 1) := by decide +kernel
theorem dX6_key_23 : decode cX6_key 23 = .ok (.isub, 1) := by decide +kernel
theorem dX6_key_24 : decode cX6_key 24 = .ok (.invokestatic 60, 3) := by decide +kernel
theorem dX6_key_27 : decode cX6_key 27 = .ok (.ifCond .eq 12, 3) := by decide +kernel
theorem dX6_key_30 : decode cX6_key 30 = .ok (.aload_n 0, 1) := by decide +kernel
theorem dX6_key_31 : decode cX6_key 31 = .ok (.getfield 26, 3) := by decide +kernel
theorem dX6_key_34 : decode cX6_key 34 = .ok (.iload_n 1, 1) := by decide +kernel
theorem dX6_key_35 : decode cX6_key 35 = .ok (.iaload, 1) := by decide +kernel
theorem dX6_key_36 : decode cX6_key 36 = .ok (.goto 4, 3) := by decide +kernel
theorem dX6_key_39 : decode cX6_key 39 = .ok (.iconst (-1), 1) := by decide +kernel
theorem dX6_key_40 : decode cX6_key 40 = .ok (.ireturn, 1) := by decide +kernel
theorem dX6_areSquares_0 : decode cX6_areSquares 0 = .ok (.iload_n 1, 1) := by decide +kernel
theorem dX6_areSquares_1 : decode cX6_areSquares 1 = .ok (.invokestatic 64, 3) := by decide +kernel
theorem dX6_areSquares_4 : decode cX6_areSquares 4 = .ok (.ifCond .eq 14, 3) := by decide +kernel
theorem dX6_areSquares_7 : decode cX6_areSquares 7 = .ok (.iload_n 2, 1) := by decide +kernel
theorem dX6_areSquares_8 : decode cX6_areSquares 8 = .ok (.invokestatic 64, 3) := by decide +kernel
theorem dX6_areSquares_11 : decode cX6_areSquares 11 = .ok (.ifCond .eq 7, 3) := by decide +kernel
theorem dX6_areSquares_14 : decode cX6_areSquares 14 = .ok (.iconst 1, 1) := by decide +kernel
theorem dX6_areSquares_15 : decode cX6_areSquares 15 = .ok (.goto 4, 3) := by decide +kernel
theorem dX6_areSquares_18 : decode cX6_areSquares 18 = .ok (.iconst 0, 1) := by decide +kernel
theorem dX6_areSquares_19 : decode cX6_areSquares 19 = .ok (.ireturn, 1) := by decide +kernel
theorem dX6_kind_0 : decode cX6_kind 0 = .ok (.aload_n 0, 1) := by decide +kernel
theorem dX6_kind_1 : decode cX6_kind 1 = .ok (.iload_n 1, 1) := by decide +kernel
theorem dX6_kind_2 : decode cX6_kind 2 = .ok (.iload_n 2, 1) := by decide +kernel
theorem dX6_kind_3 : decode cX6_kind 3 = .ok (.invokevirtual 149, 3) := by decide +kernel
theorem dX6_kind_6 : decode cX6_kind 6 = .ok (.ifCond .eq 12, 3) := by decide +kernel
theorem dX6_kind_9 : decode cX6_kind 9 = .ok (.aload_n 0, 1) := by decide +kernel
theorem dX6_kind_10 : decode cX6_kind 10 = .ok (.iload_n 1, 1) := by decide +kernel
theorem dX6_kind_11 : decode cX6_kind 11 = .ok (.iload_n 2, 1) := by decide +kernel
theorem dX6_kind_12 : decode cX6_kind 12 = .ok (.invokevirtual 117, 3) := by decide +kernel
theorem dX6_kind_15 : decode cX6_kind 15 = .ok (.ifCond .ne 5, 3) := by decide +kernel
theorem dX6_kind_18 : decode cX6_kind 18 = .ok (.iconst (-1), 1) := by decide +kernel
theorem dX6_kind_19 : decode cX6_kind 19 = .ok (.ireturn, 1) := by decide +kernel
theorem dX6_kind_20 : decode cX6_kind 20 = .ok (.aload_n 0, 1) := by decide +kernel
theorem dX6_kind_21 : decode cX6_kind 21 = .ok (.invokevirtual 132, 3) := by decide +kernel
theorem dX6_kind_24 : decode cX6_kind 24 = .ok (.ifCond .eq 12, 3) := by decide +kernel
theorem dX6_kind_27 : decode cX6_kind 27 = .ok (.aload_n 0, 1) := by decide +kernel
theorem dX6_kind_28 : decode cX6_kind 28 = .ok (.iload_n 1, 1) := by decide +kernel
theorem dX6_kind_29 : decode cX6_kind 29 = .ok (.iload_n 2, 1) := by decide +kernel
theorem dX6_kind_30 : decode cX6_kind 30 = .ok (.invokevirtual 142, 3) := by decide +kernel
theorem dX6_kind_33 : decode cX6_kind 33 = .ok (.goto 5, 3) := by decide +kernel
theorem dX6_kind_36 : decode cX6_kind 36 = .ok (.bipush (-4), 2) := by decide +kernel
theorem dX6_kind_38 : decode cX6_kind 38 = .ok (.ireturn, 1) := by decide +kernel
theorem dX6_refutation_0 : decode cX6_refutation 0 = .ok (.aload_n 0, 1) := by decide +kernel
theorem dX6_refutation_1 : decode cX6_refutation 1 = .ok (.iload_n 1, 1) := by decide +kernel
theorem dX6_refutation_2 : decode cX6_refutation 2 = .ok (.iload_n 2, 1) := by decide +kernel
theorem dX6_refutation_3 : decode cX6_refutation 3 = .ok (.invokevirtual 149, 3) := by decide +kernel
theorem dX6_refutation_6 : decode cX6_refutation 6 = .ok (.ifCond .ne 5, 3) := by decide +kernel
theorem dX6_refutation_9 : decode cX6_refutation 9 = .ok (.iconst (-1), 1) := by decide +kernel
theorem dX6_refutation_10 : decode cX6_refutation 10 = .ok (.ireturn, 1) := by decide +kernel
theorem dX6_refutation_11 : decode cX6_refutation 11 = .ok (.aload_n 0, 1) := by decide +kernel
theorem dX6_refutation_12 : decode cX6_refutation 12 = .ok (.invokevirtual 132, 3) := by decide +kernel
theorem dX6_refutation_15 : decode cX6_refutation 15 = .ok (.ifCond .ne 6, 3) := by decide +kernel
theorem dX6_refutation_18 : decode cX6_refutation 18 = .ok (.bipush (-4), 2) := by decide +kernel
theorem dX6_refutation_20 : decode cX6_refutation 20 = .ok (.ireturn, 1) := by decide +kernel
theorem dX6_refutation_21 : decode cX6_refutation 21 = .ok (.aload_n 0, 1) := by decide +kernel
theorem dX6_refutation_22 : decode cX6_refutation 22 = .ok (.iload_n 1, 1) := by decide +kernel
theorem dX6_refutation_23 : decode cX6_refutation 23 = .ok (.iload_n 2, 1) := by decide +kernel
theorem dX6_refutation_24 : decode cX6_refutation 24 = .ok (.invokevirtual 117, 3) := by decide +kernel
theorem dX6_refutation_27 : decode cX6_refutation 27 = .ok (.ifCond .eq 20, 3) := by decide +kernel
theorem dX6_refutation_30 : decode cX6_refutation 30 = .ok (.aload_n 0, 1) := by decide +kernel
theorem dX6_refutation_31 : decode cX6_refutation 31 = .ok (.iload_n 1, 1) := by decide +kernel
theorem dX6_refutation_32 : decode cX6_refutation 32 = .ok (.iload_n 2, 1) := by decide +kernel
theorem dX6_refutation_33 : decode cX6_refutation 33 = .ok (.invokevirtual 142, 3) := by decide +kernel
theorem dX6_refutation_36 : decode cX6_refutation 36 = .ok (.iconst 2, 1) := by decide +kernel
theorem dX6_refutation_37 : decode cX6_refutation 37 = .ok (.if_icmp .ne 10, 3) := by decide +kernel
theorem dX6_refutation_40 : decode cX6_refutation 40 = .ok (.aload_n 0, 1) := by decide +kernel
theorem dX6_refutation_41 : decode cX6_refutation 41 = .ok (.getfield 136, 3) := by decide +kernel
theorem dX6_refutation_44 : decode cX6_refutation 44 = .ok (.goto 4, 3) := by decide +kernel
theorem dX6_refutation_47 : decode cX6_refutation 47 = .ok (.iconst (-1), 1) := by decide +kernel
theorem dX6_refutation_48 : decode cX6_refutation 48 = .ok (.ireturn, 1) := by decide +kernel
theorem dX6_manyOf_0 : decode cX6_manyOf 0 = .ok (.aload_n 0, 1) := by decide +kernel
theorem dX6_manyOf_1 : decode cX6_manyOf 1 = .ok (.iconst (-1), 1) := by decide +kernel
theorem dX6_manyOf_2 : decode cX6_manyOf 2 = .ok (.iload_n 1, 1) := by decide +kernel
theorem dX6_manyOf_3 : decode cX6_manyOf 3 = .ok (.invokevirtual 145, 3) := by decide +kernel
theorem dX6_manyOf_6 : decode cX6_manyOf 6 = .ok (.aload_n 0, 1) := by decide +kernel
theorem dX6_manyOf_7 : decode cX6_manyOf 7 = .ok (.getfield 139, 3) := by decide +kernel
theorem dX6_manyOf_10 : decode cX6_manyOf 10 = .ok (.ireturn, 1) := by decide +kernel
theorem dX6_many_0 : decode cX6_many 0 = .ok (.iload_n 1, 1) := by decide +kernel
theorem dX6_many_1 : decode cX6_many 1 = .ok (.iconst 0, 1) := by decide +kernel
theorem dX6_many_2 : decode cX6_many 2 = .ok (.iconst 3, 1) := by decide +kernel
theorem dX6_many_3 : decode cX6_many 3 = .ok (.invokestatic 60, 3) := by decide +kernel
theorem dX6_many_6 : decode cX6_many 6 = .ok (.ifCond .ne 6, 3) := by decide +kernel
theorem dX6_many_9 : decode cX6_many 9 = .ok (.bipush (-2), 2) := by decide +kernel
theorem dX6_many_11 : decode cX6_many 11 = .ok (.ireturn, 1) := by decide +kernel
theorem dX6_many_12 : decode cX6_many 12 = .ok (.aload_n 0, 1) := by decide +kernel
theorem dX6_many_13 : decode cX6_many 13 = .ok (.invokevirtual 132, 3) := by decide +kernel
theorem dX6_many_16 : decode cX6_many 16 = .ok (.ifCond .eq 11, 3) := by decide +kernel
theorem dX6_many_19 : decode cX6_many 19 = .ok (.aload_n 0, 1) := by decide +kernel
theorem dX6_many_20 : decode cX6_many 20 = .ok (.iload_n 1, 1) := by decide +kernel
theorem dX6_many_21 : decode cX6_many 21 = .ok (.invokevirtual 152, 3) := by decide +kernel
theorem dX6_many_24 : decode cX6_many 24 = .ok (.goto 5, 3) := by decide +kernel
theorem dX6_many_27 : decode cX6_many 27 = .ok (.bipush (-4), 2) := by decide +kernel
theorem dX6_many_29 : decode cX6_many 29 = .ok (.ireturn, 1) := by decide +kernel
theorem dX6_duals_0 : decode cX6_duals 0 = .ok (.aload_n 0, 1) := by decide +kernel
theorem dX6_duals_1 : decode cX6_duals 1 = .ok (.invokevirtual 132, 3) := by decide +kernel
theorem dX6_duals_4 : decode cX6_duals 4 = .ok (.ifCond .eq 17, 3) := by decide +kernel
theorem dX6_duals_7 : decode cX6_duals 7 = .ok (.iconst 0, 1) := by decide +kernel
theorem dX6_duals_8 : decode cX6_duals 8 = .ok (.aload_n 0, 1) := by decide +kernel
theorem dX6_duals_9 : decode cX6_duals 9 = .ok (.iconst 3, 1) := by decide +kernel
theorem dX6_duals_10 : decode cX6_duals 10 = .ok (.invokevirtual 152, 3) := by decide +kernel
theorem dX6_duals_13 : decode cX6_duals 13 = .ok (.iconst 1, 1) := by decide +kernel
theorem dX6_duals_14 : decode cX6_duals 14 = .ok (.isub, 1) := by decide +kernel
theorem dX6_duals_15 : decode cX6_duals 15 = .ok (.invokestatic 104, 3) := by decide +kernel
theorem dX6_duals_18 : decode cX6_duals 18 = .ok (.goto 5, 3) := by decide +kernel
theorem dX6_duals_21 : decode cX6_duals 21 = .ok (.bipush (-4), 2) := by decide +kernel
theorem dX6_duals_23 : decode cX6_duals 23 = .ok (.ireturn, 1) := by decide +kernel
theorem dX6_would_0 : decode cX6_would 0 = .ok (.iload_n 2, 1) := by decide +kernel
theorem dX6_would_1 : decode cX6_would 1 = .ok (.invokestatic 64, 3) := by decide +kernel
theorem dX6_would_4 : decode cX6_would 4 = .ok (.ifCond .eq 24, 3) := by decide +kernel
theorem dX6_would_7 : decode cX6_would 7 = .ok (.aload_n 0, 1) := by decide +kernel
theorem dX6_would_8 : decode cX6_would 8 = .ok (.getfield 9, 3) := by decide +kernel
theorem dX6_would_11 : decode cX6_would 11 = .ok (.iload_n 2, 1) := by decide +kernel
theorem dX6_would_12 : decode cX6_would 12 = .ok (.iaload, 1) := by decide +kernel
theorem dX6_would_13 : decode cX6_would 13 = .ok (.iconst 1, 1) := by decide +kernel
theorem dX6_would_14 : decode cX6_would 14 = .ok (.if_icmp .eq 14, 3) := by decide +kernel
theorem dX6_would_17 : decode cX6_would 17 = .ok (.aload_n 0, 1) := by decide +kernel
theorem dX6_would_18 : decode cX6_would 18 = .ok (.getfield 9, 3) := by decide +kernel
theorem dX6_would_21 : decode cX6_would 21 = .ok (.iload_n 2, 1) := by decide +kernel
theorem dX6_would_22 : decode cX6_would 22 = .ok (.iaload, 1) := by decide +kernel
theorem dX6_would_23 : decode cX6_would 23 = .ok (.bipush 7, 2) := by decide +kernel
theorem dX6_would_25 : decode cX6_would 25 = .ok (.if_icmp .ne 5, 3) := by decide +kernel
theorem dX6_would_28 : decode cX6_would 28 = .ok (.iconst (-1), 1) := by decide +kernel
theorem dX6_would_29 : decode cX6_would 29 = .ok (.ireturn, 1) := by decide +kernel
theorem dX6_would_30 : decode cX6_would 30 = .ok (.iload_n 1, 1) := by decide +kernel
theorem dX6_would_31 : decode cX6_would 31 = .ok (.iconst 0, 1) := by decide +kernel
theorem dX6_would_32 : decode cX6_would 32 = .ok (.bipush 6, 2) := by decide +kernel
theorem dX6_would_34 : decode cX6_would 34 = .ok (.invokestatic 60, 3) := by decide +kernel
theorem dX6_would_37 : decode cX6_would 37 = .ok (.ifCond .eq 16, 3) := by decide +kernel
theorem dX6_would_40 : decode cX6_would 40 = .ok (.iload_n 1, 1) := by decide +kernel
theorem dX6_would_41 : decode cX6_would 41 = .ok (.iconst 1, 1) := by decide +kernel
theorem dX6_would_42 : decode cX6_would 42 = .ok (.if_icmp .ne 14, 3) := by decide +kernel
theorem dX6_would_45 : decode cX6_would 45 = .ok (.aload_n 0, 1) := by decide +kernel
theorem dX6_would_46 : decode cX6_would 46 = .ok (.iconst 1, 1) := by decide +kernel
theorem dX6_would_47 : decode cX6_would 47 = .ok (.invokevirtual 72, 3) := by decide +kernel
theorem dX6_would_50 : decode cX6_would 50 = .ok (.ifCond .lt 6, 3) := by decide +kernel
theorem dX6_would_53 : decode cX6_would 53 = .ok (.bipush (-2), 2) := by decide +kernel
theorem dX6_would_55 : decode cX6_would 55 = .ok (.ireturn, 1) := by decide +kernel
theorem dX6_would_56 : decode cX6_would 56 = .ok (.aload_n 0, 1) := by decide +kernel
theorem dX6_would_57 : decode cX6_would 57 = .ok (.getfield 9, 3) := by decide +kernel
theorem dX6_would_60 : decode cX6_would 60 = .ok (.iload_n 2, 1) := by decide +kernel
theorem dX6_would_61 : decode cX6_would 61 = .ok (.iaload, 1) := by decide +kernel
theorem dX6_would_62 : decode cX6_would 62 = .ok (.istore_n 3, 1) := by decide +kernel
theorem dX6_would_63 : decode cX6_would 63 = .ok (.aload_n 0, 1) := by decide +kernel
theorem dX6_would_64 : decode cX6_would 64 = .ok (.getfield 9, 3) := by decide +kernel
theorem dX6_would_67 : decode cX6_would 67 = .ok (.iload_n 2, 1) := by decide +kernel
theorem dX6_would_68 : decode cX6_would 68 = .ok (.iload_n 1, 1) := by decide +kernel
theorem dX6_would_69 : decode cX6_would 69 = .ok (.iastore, 1) := by decide +kernel
theorem dX6_would_70 : decode cX6_would 70 = .ok (.aload_n 0, 1) := by decide +kernel
theorem dX6_would_71 : decode cX6_would 71 = .ok (.invokevirtual 132, 3) := by decide +kernel
theorem dX6_would_74 : decode cX6_would 74 = .ok (.ifCond .eq 11, 3) := by decide +kernel
theorem dX6_would_77 : decode cX6_would 77 = .ok (.aload_n 0, 1) := by decide +kernel
theorem dX6_would_78 : decode cX6_would 78 = .ok (.iconst 3, 1) := by decide +kernel
theorem dX6_would_79 : decode cX6_would 79 = .ok (.invokevirtual 152, 3) := by decide +kernel
theorem dX6_would_82 : decode cX6_would 82 = .ok (.goto 5, 3) := by decide +kernel
theorem dX6_would_85 : decode cX6_would 85 = .ok (.bipush (-4), 2) := by decide +kernel
theorem dX6_would_87 : decode cX6_would 87 = .ok (.istore 4, 2) := by decide +kernel
theorem dX6_would_89 : decode cX6_would 89 = .ok (.aload_n 0, 1) := by decide +kernel
theorem dX6_would_90 : decode cX6_would 90 = .ok (.getfield 9, 3) := by decide +kernel
theorem dX6_would_93 : decode cX6_would 93 = .ok (.iload_n 2, 1) := by decide +kernel
theorem dX6_would_94 : decode cX6_would 94 = .ok (.iload_n 3, 1) := by decide +kernel
theorem dX6_would_95 : decode cX6_would 95 = .ok (.iastore, 1) := by decide +kernel
theorem dX6_would_96 : decode cX6_would 96 = .ok (.iload 4, 2) := by decide +kernel
theorem dX6_would_98 : decode cX6_would 98 = .ok (.ireturn, 1) := by decide +kernel
theorem dX6_canSpare_0 : decode cX6_canSpare 0 = .ok (.aload_n 0, 1) := by decide +kernel
theorem dX6_canSpare_1 : decode cX6_canSpare 1 = .ok (.getfield 9, 3) := by decide +kernel
theorem dX6_canSpare_4 : decode cX6_canSpare 4 = .ok (.iload_n 1, 1) := by decide +kernel
theorem dX6_canSpare_5 : decode cX6_canSpare 5 = .ok (.iaload, 1) := by decide +kernel
theorem dX6_canSpare_6 : decode cX6_canSpare 6 = .ok (.istore_n 2, 1) := by decide +kernel
theorem dX6_canSpare_7 : decode cX6_canSpare 7 = .ok (.aload_n 0, 1) := by decide +kernel
theorem dX6_canSpare_8 : decode cX6_canSpare 8 = .ok (.iconst 3, 1) := by decide +kernel
theorem dX6_canSpare_9 : decode cX6_canSpare 9 = .ok (.invokevirtual 152, 3) := by decide +kernel
theorem dX6_canSpare_12 : decode cX6_canSpare 12 = .ok (.istore_n 3, 1) := by decide +kernel
theorem dX6_canSpare_13 : decode cX6_canSpare 13 = .ok (.aload_n 0, 1) := by decide +kernel
theorem dX6_canSpare_14 : decode cX6_canSpare 14 = .ok (.getfield 26, 3) := by decide +kernel
theorem dX6_canSpare_17 : decode cX6_canSpare 17 = .ok (.iconst 0, 1) := by decide +kernel
theorem dX6_canSpare_18 : decode cX6_canSpare 18 = .ok (.aload_n 0, 1) := by decide +kernel
theorem dX6_canSpare_19 : decode cX6_canSpare 19 = .ok (.getfield 29, 3) := by decide +kernel
theorem dX6_canSpare_22 : decode cX6_canSpare 22 = .ok (.iconst 0, 1) := by decide +kernel
theorem dX6_canSpare_23 : decode cX6_canSpare 23 = .ok (.iload_n 3, 1) := by decide +kernel
theorem dX6_canSpare_24 : decode cX6_canSpare 24 = .ok (.invokestatic 45, 3) := by decide +kernel
theorem dX6_canSpare_27 : decode cX6_canSpare 27 = .ok (.iload_n 2, 1) := by decide +kernel
theorem dX6_canSpare_28 : decode cX6_canSpare 28 = .ok (.iconst 2, 1) := by decide +kernel
theorem dX6_canSpare_29 : decode cX6_canSpare 29 = .ok (.bipush 6, 2) := by decide +kernel
theorem dX6_canSpare_31 : decode cX6_canSpare 31 = .ok (.invokestatic 60, 3) := by decide +kernel
theorem dX6_canSpare_34 : decode cX6_canSpare 34 = .ok (.ifCond .eq 20, 3) := by decide +kernel
theorem dX6_canSpare_37 : decode cX6_canSpare 37 = .ok (.iload_n 3, 1) := by decide +kernel
theorem dX6_canSpare_38 : decode cX6_canSpare 38 = .ok (.ifCond .eq 16, 3) := by decide +kernel
theorem dX6_canSpare_41 : decode cX6_canSpare 41 = .ok (.aload_n 0, 1) := by decide +kernel
theorem dX6_canSpare_42 : decode cX6_canSpare 42 = .ok (.getfield 29, 3) := by decide +kernel
theorem dX6_canSpare_45 : decode cX6_canSpare 45 = .ok (.iconst 0, 1) := by decide +kernel
theorem dX6_canSpare_46 : decode cX6_canSpare 46 = .ok (.iaload, 1) := by decide +kernel
theorem dX6_canSpare_47 : decode cX6_canSpare 47 = .ok (.bipush 100, 2) := by decide +kernel
theorem dX6_canSpare_49 : decode cX6_canSpare 49 = .ok (.idiv, 1) := by decide +kernel
theorem dX6_canSpare_50 : decode cX6_canSpare 50 = .ok (.iload_n 1, 1) := by decide +kernel
theorem dX6_canSpare_51 : decode cX6_canSpare 51 = .ok (.if_icmp .ne 5, 3) := by decide +kernel
theorem dX6_canSpare_54 : decode cX6_canSpare 54 = .ok (.iconst 0, 1) := by decide +kernel
theorem dX6_canSpare_55 : decode cX6_canSpare 55 = .ok (.ireturn, 1) := by decide +kernel
theorem dX6_canSpare_56 : decode cX6_canSpare 56 = .ok (.aload_n 0, 1) := by decide +kernel
theorem dX6_canSpare_57 : decode cX6_canSpare 57 = .ok (.getfield 9, 3) := by decide +kernel
theorem dX6_canSpare_60 : decode cX6_canSpare 60 = .ok (.iload_n 1, 1) := by decide +kernel
theorem dX6_canSpare_61 : decode cX6_canSpare 61 = .ok (.iconst 0, 1) := by decide +kernel
theorem dX6_canSpare_62 : decode cX6_canSpare 62 = .ok (.iastore, 1) := by decide +kernel
theorem dX6_canSpare_63 : decode cX6_canSpare 63 = .ok (.aload_n 0, 1) := by decide +kernel
theorem dX6_canSpare_64 : decode cX6_canSpare 64 = .ok (.invokevirtual 132, 3) := by decide +kernel
theorem dX6_canSpare_67 : decode cX6_canSpare 67 = .ok (.ifCond .eq 16, 3) := by decide +kernel
theorem dX6_canSpare_70 : decode cX6_canSpare 70 = .ok (.aload_n 0, 1) := by decide +kernel
theorem dX6_canSpare_71 : decode cX6_canSpare 71 = .ok (.iconst 3, 1) := by decide +kernel
theorem dX6_canSpare_72 : decode cX6_canSpare 72 = .ok (.invokevirtual 152, 3) := by decide +kernel
theorem dX6_canSpare_75 : decode cX6_canSpare 75 = .ok (.iload_n 3, 1) := by decide +kernel
theorem dX6_canSpare_76 : decode cX6_canSpare 76 = .ok (.if_icmp .ne 7, 3) := by decide +kernel
theorem dX6_canSpare_79 : decode cX6_canSpare 79 = .ok (.iconst 1, 1) := by decide +kernel
theorem dX6_canSpare_80 : decode cX6_canSpare 80 = .ok (.goto 4, 3) := by decide +kernel
theorem dX6_canSpare_83 : decode cX6_canSpare 83 = .ok (.iconst 0, 1) := by decide +kernel
theorem dX6_canSpare_84 : decode cX6_canSpare 84 = .ok (.istore 4, 2) := by decide +kernel
theorem dX6_canSpare_86 : decode cX6_canSpare 86 = .ok (.iconst 0, 1) := by decide +kernel
theorem dX6_canSpare_87 : decode cX6_canSpare 87 = .ok (.istore 5, 2) := by decide +kernel
theorem dX6_canSpare_89 : decode cX6_canSpare 89 = .ok (.iload 5, 2) := by decide +kernel
theorem dX6_canSpare_91 : decode cX6_canSpare 91 = .ok (.iload_n 3, 1) := by decide +kernel
theorem dX6_canSpare_92 : decode cX6_canSpare 92 = .ok (.if_icmp .ge 38, 3) := by decide +kernel
theorem dX6_canSpare_95 : decode cX6_canSpare 95 = .ok (.iload 4, 2) := by decide +kernel
theorem dX6_canSpare_97 : decode cX6_canSpare 97 = .ok (.ifCond .eq 33, 3) := by decide +kernel
theorem dX6_canSpare_100 : decode cX6_canSpare 100 = .ok (.aload_n 0, 1) := by decide +kernel
theorem dX6_canSpare_101 : decode cX6_canSpare 101 = .ok (.getfield 26, 3) := by decide +kernel
theorem dX6_canSpare_104 : decode cX6_canSpare 104 = .ok (.iload 5, 2) := by decide +kernel
theorem dX6_canSpare_106 : decode cX6_canSpare 106 = .ok (.iaload, 1) := by decide +kernel
theorem dX6_canSpare_107 : decode cX6_canSpare 107 = .ok (.aload_n 0, 1) := by decide +kernel
theorem dX6_canSpare_108 : decode cX6_canSpare 108 = .ok (.getfield 29, 3) := by decide +kernel
theorem dX6_canSpare_111 : decode cX6_canSpare 111 = .ok (.iload 5, 2) := by decide +kernel
theorem dX6_canSpare_113 : decode cX6_canSpare 113 = .ok (.iaload, 1) := by decide +kernel
theorem dX6_canSpare_114 : decode cX6_canSpare 114 = .ok (.if_icmp .ne 7, 3) := by decide +kernel
theorem dX6_canSpare_117 : decode cX6_canSpare 117 = .ok (.iconst 1, 1) := by decide +kernel
theorem dX6_canSpare_118 : decode cX6_canSpare 118 = .ok (.goto 4, 3) := by decide +kernel
theorem dX6_canSpare_121 : decode cX6_canSpare 121 = .ok (.iconst 0, 1) := by decide +kernel
theorem dX6_canSpare_122 : decode cX6_canSpare 122 = .ok (.istore 4, 2) := by decide +kernel
theorem dX6_canSpare_124 : decode cX6_canSpare 124 = .ok (.iinc 5 1, 3) := by decide +kernel
theorem dX6_canSpare_127 : decode cX6_canSpare 127 = .ok (.goto (-38), 3) := by decide +kernel
theorem dX6_canSpare_130 : decode cX6_canSpare 130 = .ok (.aload_n 0, 1) := by decide +kernel
theorem dX6_canSpare_131 : decode cX6_canSpare 131 = .ok (.getfield 9, 3) := by decide +kernel
theorem dX6_canSpare_134 : decode cX6_canSpare 134 = .ok (.iload_n 1, 1) := by decide +kernel
theorem dX6_canSpare_135 : decode cX6_canSpare 135 = .ok (.iload_n 2, 1) := by decide +kernel
theorem dX6_canSpare_136 : decode cX6_canSpare 136 = .ok (.iastore, 1) := by decide +kernel
theorem dX6_canSpare_137 : decode cX6_canSpare 137 = .ok (.iload 4, 2) := by decide +kernel
theorem dX6_canSpare_139 : decode cX6_canSpare 139 = .ok (.ireturn, 1) := by decide +kernel
theorem dX6_doThrift_0 : decode cX6_doThrift 0 = .ok (.aload_n 0, 1) := by decide +kernel
theorem dX6_doThrift_1 : decode cX6_doThrift 1 = .ok (.invokevirtual 132, 3) := by decide +kernel
theorem dX6_doThrift_4 : decode cX6_doThrift 4 = .ok (.ifCond .ne 33, 3) := by decide +kernel
theorem dX6_doThrift_7 : decode cX6_doThrift 7 = .ok (.aload_n 0, 1) := by decide +kernel
theorem dX6_doThrift_8 : decode cX6_doThrift 8 = .ok (.bipush 7, 2) := by decide +kernel
theorem dX6_doThrift_10 : decode cX6_doThrift 10 = .ok (.aload_n 0, 1) := by decide +kernel
theorem dX6_doThrift_11 : decode cX6_doThrift 11 = .ok (.bipush 7, 2) := by decide +kernel
theorem dX6_doThrift_13 : decode cX6_doThrift 13 = .ok (.invokevirtual 72, 3) := by decide +kernel
theorem dX6_doThrift_16 : decode cX6_doThrift 16 = .ok (.ifCond .ge 7, 3) := by decide +kernel
theorem dX6_doThrift_19 : decode cX6_doThrift 19 = .ok (.iconst 0, 1) := by decide +kernel
theorem dX6_doThrift_20 : decode cX6_doThrift 20 = .ok (.goto 13, 3) := by decide +kernel
theorem dX6_doThrift_23 : decode cX6_doThrift 23 = .ok (.aload_n 0, 1) := by decide +kernel
theorem dX6_doThrift_24 : decode cX6_doThrift 24 = .ok (.aload_n 0, 1) := by decide +kernel
theorem dX6_doThrift_25 : decode cX6_doThrift 25 = .ok (.bipush 7, 2) := by decide +kernel
theorem dX6_doThrift_27 : decode cX6_doThrift 27 = .ok (.invokevirtual 72, 3) := by decide +kernel
theorem dX6_doThrift_30 : decode cX6_doThrift 30 = .ok (.invokevirtual 120, 3) := by decide +kernel
theorem dX6_doThrift_33 : decode cX6_doThrift 33 = .ok (.invokevirtual 68, 3) := by decide +kernel
theorem dX6_doThrift_36 : decode cX6_doThrift 36 = .ok (.ireturn, 1) := by decide +kernel
theorem dX6_doThrift_37 : decode cX6_doThrift 37 = .ok (.iconst 0, 1) := by decide +kernel
theorem dX6_doThrift_38 : decode cX6_doThrift 38 = .ok (.istore_n 1, 1) := by decide +kernel
theorem dX6_doThrift_39 : decode cX6_doThrift 39 = .ok (.bipush 24, 2) := by decide +kernel
theorem dX6_doThrift_41 : decode cX6_doThrift 41 = .ok (.istore_n 2, 1) := by decide +kernel
theorem dX6_doThrift_42 : decode cX6_doThrift 42 = .ok (.iload_n 2, 1) := by decide +kernel
theorem dX6_doThrift_43 : decode cX6_doThrift 43 = .ok (.ifCond .lt 30, 3) := by decide +kernel
theorem dX6_doThrift_46 : decode cX6_doThrift 46 = .ok (.aload_n 0, 1) := by decide +kernel
theorem dX6_doThrift_47 : decode cX6_doThrift 47 = .ok (.iload_n 2, 1) := by decide +kernel
theorem dX6_doThrift_48 : decode cX6_doThrift 48 = .ok (.invokevirtual 155, 3) := by decide +kernel
theorem dX6_doThrift_51 : decode cX6_doThrift 51 = .ok (.ifCond .eq 16, 3) := by decide +kernel
theorem dX6_doThrift_54 : decode cX6_doThrift 54 = .ok (.aload_n 0, 1) := by decide +kernel
theorem dX6_doThrift_55 : decode cX6_doThrift 55 = .ok (.getfield 9, 3) := by decide +kernel
theorem dX6_doThrift_58 : decode cX6_doThrift 58 = .ok (.iload_n 2, 1) := by decide +kernel
theorem dX6_doThrift_59 : decode cX6_doThrift 59 = .ok (.iconst 0, 1) := by decide +kernel
theorem dX6_doThrift_60 : decode cX6_doThrift 60 = .ok (.iastore, 1) := by decide +kernel
theorem dX6_doThrift_61 : decode cX6_doThrift 61 = .ok (.iinc 1 1, 3) := by decide +kernel
theorem dX6_doThrift_64 : decode cX6_doThrift 64 = .ok (.bipush 25, 2) := by decide +kernel
theorem dX6_doThrift_66 : decode cX6_doThrift 66 = .ok (.istore_n 2, 1) := by decide +kernel
theorem dX6_doThrift_67 : decode cX6_doThrift 67 = .ok (.iinc 2 (-1), 3) := by decide +kernel
theorem dX6_doThrift_70 : decode cX6_doThrift 70 = .ok (.goto (-28), 3) := by decide +kernel
theorem dX6_doThrift_73 : decode cX6_doThrift 73 = .ok (.aload_n 0, 1) := by decide +kernel
theorem dX6_doThrift_74 : decode cX6_doThrift 74 = .ok (.getfield 9, 3) := by decide +kernel
theorem dX6_doThrift_77 : decode cX6_doThrift 77 = .ok (.bipush 27, 2) := by decide +kernel
theorem dX6_doThrift_79 : decode cX6_doThrift 79 = .ok (.dup2, 1) := by decide +kernel
theorem dX6_doThrift_80 : decode cX6_doThrift 80 = .ok (.iaload, 1) := by decide +kernel
theorem dX6_doThrift_81 : decode cX6_doThrift 81 = .ok (.iload_n 1, 1) := by decide +kernel
theorem dX6_doThrift_82 : decode cX6_doThrift 82 = .ok (.iadd, 1) := by decide +kernel
theorem dX6_doThrift_83 : decode cX6_doThrift 83 = .ok (.iastore, 1) := by decide +kernel
theorem dX6_doThrift_84 : decode cX6_doThrift 84 = .ok (.iload_n 1, 1) := by decide +kernel
theorem dX6_doThrift_85 : decode cX6_doThrift 85 = .ok (.ifCond .ne 16, 3) := by decide +kernel
theorem dX6_doThrift_88 : decode cX6_doThrift 88 = .ok (.aload_n 0, 1) := by decide +kernel
theorem dX6_doThrift_89 : decode cX6_doThrift 89 = .ok (.bipush 6, 2) := by decide +kernel
theorem dX6_doThrift_91 : decode cX6_doThrift 91 = .ok (.aload_n 0, 1) := by decide +kernel
theorem dX6_doThrift_92 : decode cX6_doThrift 92 = .ok (.invokevirtual 76, 3) := by decide +kernel
theorem dX6_doThrift_95 : decode cX6_doThrift 95 = .ok (.invokevirtual 68, 3) := by decide +kernel
theorem dX6_doThrift_98 : decode cX6_doThrift 98 = .ok (.goto 4, 3) := by decide +kernel
theorem dX6_doThrift_101 : decode cX6_doThrift 101 = .ok (.iload_n 1, 1) := by decide +kernel
theorem dX6_doThrift_102 : decode cX6_doThrift 102 = .ok (.ireturn, 1) := by decide +kernel
theorem dX6_thrift_0 : decode cX6_thrift 0 = .ok (.aload_n 0, 1) := by decide +kernel
theorem dX6_thrift_1 : decode cX6_thrift 1 = .ok (.invokevirtual 80, 3) := by decide +kernel
theorem dX6_thrift_4 : decode cX6_thrift 4 = .ok (.aload_n 0, 1) := by decide +kernel
theorem dX6_thrift_5 : decode cX6_thrift 5 = .ok (.aload_n 0, 1) := by decide +kernel
theorem dX6_thrift_6 : decode cX6_thrift 6 = .ok (.invokevirtual 158, 3) := by decide +kernel
theorem dX6_thrift_9 : decode cX6_thrift 9 = .ok (.invokevirtual 86, 3) := by decide +kernel
theorem dX6_thrift_12 : decode cX6_thrift 12 = .ok (.ireturn, 1) := by decide +kernel
theorem dX6_manOf_0 : decode cX6_manOf 0 = .ok (.iload_n 1, 1) := by decide +kernel
theorem dX6_manOf_1 : decode cX6_manOf 1 = .ok (.invokestatic 64, 3) := by decide +kernel
theorem dX6_manOf_4 : decode cX6_manOf 4 = .ok (.ifCond .ne 5, 3) := by decide +kernel
theorem dX6_manOf_7 : decode cX6_manOf 7 = .ok (.iconst (-1), 1) := by decide +kernel
theorem dX6_manOf_8 : decode cX6_manOf 8 = .ok (.ireturn, 1) := by decide +kernel
theorem dX6_manOf_9 : decode cX6_manOf 9 = .ok (.iload_n 2, 1) := by decide +kernel
theorem dX6_manOf_10 : decode cX6_manOf 10 = .ok (.iconst 0, 1) := by decide +kernel
theorem dX6_manOf_11 : decode cX6_manOf 11 = .ok (.iconst 3, 1) := by decide +kernel
theorem dX6_manOf_12 : decode cX6_manOf 12 = .ok (.invokestatic 60, 3) := by decide +kernel
theorem dX6_manOf_15 : decode cX6_manOf 15 = .ok (.ifCond .ne 6, 3) := by decide +kernel
theorem dX6_manOf_18 : decode cX6_manOf 18 = .ok (.bipush (-2), 2) := by decide +kernel
theorem dX6_manOf_20 : decode cX6_manOf 20 = .ok (.ireturn, 1) := by decide +kernel
theorem dX6_manOf_21 : decode cX6_manOf 21 = .ok (.aload_n 0, 1) := by decide +kernel
theorem dX6_manOf_22 : decode cX6_manOf 22 = .ok (.getfield 9, 3) := by decide +kernel
theorem dX6_manOf_25 : decode cX6_manOf 25 = .ok (.iload_n 1, 1) := by decide +kernel
theorem dX6_manOf_26 : decode cX6_manOf 26 = .ok (.iaload, 1) := by decide +kernel
theorem dX6_manOf_27 : decode cX6_manOf 27 = .ok (.ifCond .eq 15, 3) := by decide +kernel
theorem dX6_manOf_30 : decode cX6_manOf 30 = .ok (.iload_n 2, 1) := by decide +kernel
theorem dX6_manOf_31 : decode cX6_manOf 31 = .ok (.iconst 1, 1) := by decide +kernel
theorem dX6_manOf_32 : decode cX6_manOf 32 = .ok (.if_icmp .le 13, 3) := by decide +kernel
theorem dX6_manOf_35 : decode cX6_manOf 35 = .ok (.aload_n 0, 1) := by decide +kernel
theorem dX6_manOf_36 : decode cX6_manOf 36 = .ok (.invokevirtual 132, 3) := by decide +kernel
theorem dX6_manOf_39 : decode cX6_manOf 39 = .ok (.ifCond .ne 6, 3) := by decide +kernel
theorem dX6_manOf_42 : decode cX6_manOf 42 = .ok (.bipush (-4), 2) := by decide +kernel
theorem dX6_manOf_44 : decode cX6_manOf 44 = .ok (.ireturn, 1) := by decide +kernel
theorem dX6_manOf_45 : decode cX6_manOf 45 = .ok (.iload_n 2, 1) := by decide +kernel
theorem dX6_manOf_46 : decode cX6_manOf 46 = .ok (.tableswitch 66 0 2 #[26, 48, 55], 26) := by decide +kernel
theorem dX6_manOf_72 : decode cX6_manOf 72 = .ok (.aload_n 0, 1) := by decide +kernel
theorem dX6_manOf_73 : decode cX6_manOf 73 = .ok (.getfield 9, 3) := by decide +kernel
theorem dX6_manOf_76 : decode cX6_manOf 76 = .ok (.iload_n 1, 1) := by decide +kernel
theorem dX6_manOf_77 : decode cX6_manOf 77 = .ok (.iaload, 1) := by decide +kernel
theorem dX6_manOf_78 : decode cX6_manOf 78 = .ok (.bipush 6, 2) := by decide +kernel
theorem dX6_manOf_80 : decode cX6_manOf 80 = .ok (.if_icmp .ne 7, 3) := by decide +kernel
theorem dX6_manOf_83 : decode cX6_manOf 83 = .ok (.iconst 0, 1) := by decide +kernel
theorem dX6_manOf_84 : decode cX6_manOf 84 = .ok (.goto 9, 3) := by decide +kernel
theorem dX6_manOf_87 : decode cX6_manOf 87 = .ok (.aload_n 0, 1) := by decide +kernel
theorem dX6_manOf_88 : decode cX6_manOf 88 = .ok (.iload_n 1, 1) := by decide +kernel
theorem dX6_manOf_89 : decode cX6_manOf 89 = .ok (.iconst 0, 1) := by decide +kernel
theorem dX6_manOf_90 : decode cX6_manOf 90 = .ok (.invokevirtual 161, 3) := by decide +kernel
theorem dX6_manOf_93 : decode cX6_manOf 93 = .ok (.ireturn, 1) := by decide +kernel
theorem dX6_manOf_94 : decode cX6_manOf 94 = .ok (.aload_n 0, 1) := by decide +kernel
theorem dX6_manOf_95 : decode cX6_manOf 95 = .ok (.iload_n 1, 1) := by decide +kernel
theorem dX6_manOf_96 : decode cX6_manOf 96 = .ok (.iconst 1, 1) := by decide +kernel
theorem dX6_manOf_97 : decode cX6_manOf 97 = .ok (.invokevirtual 161, 3) := by decide +kernel
theorem dX6_manOf_100 : decode cX6_manOf 100 = .ok (.ireturn, 1) := by decide +kernel
theorem dX6_manOf_101 : decode cX6_manOf 101 = .ok (.aload_n 0, 1) := by decide +kernel
theorem dX6_manOf_102 : decode cX6_manOf 102 = .ok (.iload_n 1, 1) := by decide +kernel
theorem dX6_manOf_103 : decode cX6_manOf 103 = .ok (.iconst 3, 1) := by decide +kernel
theorem dX6_manOf_104 : decode cX6_manOf 104 = .ok (.invokevirtual 145, 3) := by decide +kernel
theorem dX6_manOf_107 : decode cX6_manOf 107 = .ok (.aload_n 0, 1) := by decide +kernel
theorem dX6_manOf_108 : decode cX6_manOf 108 = .ok (.getfield 139, 3) := by decide +kernel
theorem dX6_manOf_111 : decode cX6_manOf 111 = .ok (.ireturn, 1) := by decide +kernel
theorem dX6_manOf_112 : decode cX6_manOf 112 = .ok (.aload_n 0, 1) := by decide +kernel
theorem dX6_manOf_113 : decode cX6_manOf 113 = .ok (.iload_n 1, 1) := by decide +kernel
theorem dX6_manOf_114 : decode cX6_manOf 114 = .ok (.invokevirtual 155, 3) := by decide +kernel
theorem dX6_manOf_117 : decode cX6_manOf 117 = .ok (.ifCond .eq 7, 3) := by decide +kernel
theorem dX6_manOf_120 : decode cX6_manOf 120 = .ok (.iconst 1, 1) := by decide +kernel
theorem dX6_manOf_121 : decode cX6_manOf 121 = .ok (.goto 4, 3) := by decide +kernel
theorem dX6_manOf_124 : decode cX6_manOf 124 = .ok (.iconst 0, 1) := by decide +kernel
theorem dX6_manOf_125 : decode cX6_manOf 125 = .ok (.ireturn, 1) := by decide +kernel
theorem dX6_ranked_0 : decode cX6_ranked 0 = .ok (.iconst 0, 1) := by decide +kernel
theorem dX6_ranked_1 : decode cX6_ranked 1 = .ok (.istore_n 2, 1) := by decide +kernel
theorem dX6_ranked_2 : decode cX6_ranked 2 = .ok (.iload_n 2, 1) := by decide +kernel
theorem dX6_ranked_3 : decode cX6_ranked 3 = .ok (.bipush 25, 2) := by decide +kernel
theorem dX6_ranked_5 : decode cX6_ranked 5 = .ok (.if_icmp .ge 99, 3) := by decide +kernel
theorem dX6_ranked_8 : decode cX6_ranked 8 = .ok (.iconst 0, 1) := by decide +kernel
theorem dX6_ranked_9 : decode cX6_ranked 9 = .ok (.istore_n 3, 1) := by decide +kernel
theorem dX6_ranked_10 : decode cX6_ranked 10 = .ok (.iconst 0, 1) := by decide +kernel
theorem dX6_ranked_11 : decode cX6_ranked 11 = .ok (.istore 4, 2) := by decide +kernel
theorem dX6_ranked_13 : decode cX6_ranked 13 = .ok (.iload 4, 2) := by decide +kernel
theorem dX6_ranked_15 : decode cX6_ranked 15 = .ok (.bipush 25, 2) := by decide +kernel
theorem dX6_ranked_17 : decode cX6_ranked 17 = .ok (.if_icmp .ge 62, 3) := by decide +kernel
theorem dX6_ranked_20 : decode cX6_ranked 20 = .ok (.aload_n 0, 1) := by decide +kernel
theorem dX6_ranked_21 : decode cX6_ranked 21 = .ok (.iload 4, 2) := by decide +kernel
theorem dX6_ranked_23 : decode cX6_ranked 23 = .ok (.iconst 1, 1) := by decide +kernel
theorem dX6_ranked_24 : decode cX6_ranked 24 = .ok (.invokevirtual 161, 3) := by decide +kernel
theorem dX6_ranked_27 : decode cX6_ranked 27 = .ok (.aload_n 0, 1) := by decide +kernel
theorem dX6_ranked_28 : decode cX6_ranked 28 = .ok (.iload_n 2, 1) := by decide +kernel
theorem dX6_ranked_29 : decode cX6_ranked 29 = .ok (.iconst 1, 1) := by decide +kernel
theorem dX6_ranked_30 : decode cX6_ranked 30 = .ok (.invokevirtual 161, 3) := by decide +kernel
theorem dX6_ranked_33 : decode cX6_ranked 33 = .ok (.isub, 1) := by decide +kernel
theorem dX6_ranked_34 : decode cX6_ranked 34 = .ok (.istore 5, 2) := by decide +kernel
theorem dX6_ranked_36 : decode cX6_ranked 36 = .ok (.iload_n 3, 1) := by decide +kernel
theorem dX6_ranked_37 : decode cX6_ranked 37 = .ok (.aload_n 0, 1) := by decide +kernel
theorem dX6_ranked_38 : decode cX6_ranked 38 = .ok (.getfield 9, 3) := by decide +kernel
theorem dX6_ranked_41 : decode cX6_ranked 41 = .ok (.iload 4, 2) := by decide +kernel
theorem dX6_ranked_43 : decode cX6_ranked 43 = .ok (.iaload, 1) := by decide +kernel
theorem dX6_ranked_44 : decode cX6_ranked 44 = .ok (.invokestatic 107, 3) := by decide +kernel
theorem dX6_ranked_47 : decode cX6_ranked 47 = .ok (.ifCond .eq 23, 3) := by decide +kernel
theorem dX6_ranked_50 : decode cX6_ranked 50 = .ok (.iload 5, 2) := by decide +kernel
theorem dX6_ranked_52 : decode cX6_ranked 52 = .ok (.ifCond .gt 14, 3) := by decide +kernel
theorem dX6_ranked_55 : decode cX6_ranked 55 = .ok (.iload 5, 2) := by decide +kernel
theorem dX6_ranked_57 : decode cX6_ranked 57 = .ok (.ifCond .ne 13, 3) := by decide +kernel
theorem dX6_ranked_60 : decode cX6_ranked 60 = .ok (.iload 4, 2) := by decide +kernel
theorem dX6_ranked_62 : decode cX6_ranked 62 = .ok (.iload_n 2, 1) := by decide +kernel
theorem dX6_ranked_63 : decode cX6_ranked 63 = .ok (.if_icmp .ge 7, 3) := by decide +kernel
theorem dX6_ranked_66 : decode cX6_ranked 66 = .ok (.iconst 1, 1) := by decide +kernel
theorem dX6_ranked_67 : decode cX6_ranked 67 = .ok (.goto 4, 3) := by decide +kernel
theorem dX6_ranked_70 : decode cX6_ranked 70 = .ok (.iconst 0, 1) := by decide +kernel
theorem dX6_ranked_71 : decode cX6_ranked 71 = .ok (.iadd, 1) := by decide +kernel
theorem dX6_ranked_72 : decode cX6_ranked 72 = .ok (.istore_n 3, 1) := by decide +kernel
theorem dX6_ranked_73 : decode cX6_ranked 73 = .ok (.iinc 4 1, 3) := by decide +kernel
theorem dX6_ranked_76 : decode cX6_ranked 76 = .ok (.goto (-63), 3) := by decide +kernel
theorem dX6_ranked_79 : decode cX6_ranked 79 = .ok (.aload_n 0, 1) := by decide +kernel
theorem dX6_ranked_80 : decode cX6_ranked 80 = .ok (.getfield 9, 3) := by decide +kernel
theorem dX6_ranked_83 : decode cX6_ranked 83 = .ok (.iload_n 2, 1) := by decide +kernel
theorem dX6_ranked_84 : decode cX6_ranked 84 = .ok (.iaload, 1) := by decide +kernel
theorem dX6_ranked_85 : decode cX6_ranked 85 = .ok (.invokestatic 107, 3) := by decide +kernel
theorem dX6_ranked_88 : decode cX6_ranked 88 = .ok (.ifCond .eq 10, 3) := by decide +kernel
theorem dX6_ranked_91 : decode cX6_ranked 91 = .ok (.iload_n 3, 1) := by decide +kernel
theorem dX6_ranked_92 : decode cX6_ranked 92 = .ok (.iload_n 1, 1) := by decide +kernel
theorem dX6_ranked_93 : decode cX6_ranked 93 = .ok (.if_icmp .ne 5, 3) := by decide +kernel
theorem dX6_ranked_96 : decode cX6_ranked 96 = .ok (.iload_n 2, 1) := by decide +kernel
theorem dX6_ranked_97 : decode cX6_ranked 97 = .ok (.ireturn, 1) := by decide +kernel
theorem dX6_ranked_98 : decode cX6_ranked 98 = .ok (.iinc 2 1, 3) := by decide +kernel
theorem dX6_ranked_101 : decode cX6_ranked 101 = .ok (.goto (-99), 3) := by decide +kernel
theorem dX6_ranked_104 : decode cX6_ranked 104 = .ok (.iconst (-1), 1) := by decide +kernel
theorem dX6_ranked_105 : decode cX6_ranked 105 = .ok (.ireturn, 1) := by decide +kernel
theorem dX6_doPlay_0 : decode cX6_doPlay 0 = .ok (.aload_n 0, 1) := by decide +kernel
theorem dX6_doPlay_1 : decode cX6_doPlay 1 = .ok (.iload_n 1, 1) := by decide +kernel
theorem dX6_doPlay_2 : decode cX6_doPlay 2 = .ok (.iload_n 2, 1) := by decide +kernel
theorem dX6_doPlay_3 : decode cX6_doPlay 3 = .ok (.invokevirtual 149, 3) := by decide +kernel
theorem dX6_doPlay_6 : decode cX6_doPlay 6 = .ok (.ifCond .ne 5, 3) := by decide +kernel
theorem dX6_doPlay_9 : decode cX6_doPlay 9 = .ok (.iconst (-1), 1) := by decide +kernel
theorem dX6_doPlay_10 : decode cX6_doPlay 10 = .ok (.ireturn, 1) := by decide +kernel
theorem dX6_doPlay_11 : decode cX6_doPlay 11 = .ok (.aload_n 0, 1) := by decide +kernel
theorem dX6_doPlay_12 : decode cX6_doPlay 12 = .ok (.getfield 9, 3) := by decide +kernel
theorem dX6_doPlay_15 : decode cX6_doPlay 15 = .ok (.iload_n 1, 1) := by decide +kernel
theorem dX6_doPlay_16 : decode cX6_doPlay 16 = .ok (.iaload, 1) := by decide +kernel
theorem dX6_doPlay_17 : decode cX6_doPlay 17 = .ok (.ifCond .ne 10, 3) := by decide +kernel
theorem dX6_doPlay_20 : decode cX6_doPlay 20 = .ok (.aload_n 0, 1) := by decide +kernel
theorem dX6_doPlay_21 : decode cX6_doPlay 21 = .ok (.iconst 4, 1) := by decide +kernel
theorem dX6_doPlay_22 : decode cX6_doPlay 22 = .ok (.iload_n 1, 1) := by decide +kernel
theorem dX6_doPlay_23 : decode cX6_doPlay 23 = .ok (.invokevirtual 68, 3) := by decide +kernel
theorem dX6_doPlay_26 : decode cX6_doPlay 26 = .ok (.ireturn, 1) := by decide +kernel
theorem dX6_doPlay_27 : decode cX6_doPlay 27 = .ok (.aload_n 0, 1) := by decide +kernel
theorem dX6_doPlay_28 : decode cX6_doPlay 28 = .ok (.iload_n 1, 1) := by decide +kernel
theorem dX6_doPlay_29 : decode cX6_doPlay 29 = .ok (.iload_n 2, 1) := by decide +kernel
theorem dX6_doPlay_30 : decode cX6_doPlay 30 = .ok (.invokevirtual 117, 3) := by decide +kernel
theorem dX6_doPlay_33 : decode cX6_doPlay 33 = .ok (.ifCond .ne 15, 3) := by decide +kernel
theorem dX6_doPlay_36 : decode cX6_doPlay 36 = .ok (.aload_n 0, 1) := by decide +kernel
theorem dX6_doPlay_37 : decode cX6_doPlay 37 = .ok (.iconst 5, 1) := by decide +kernel
theorem dX6_doPlay_38 : decode cX6_doPlay 38 = .ok (.aload_n 0, 1) := by decide +kernel
theorem dX6_doPlay_39 : decode cX6_doPlay 39 = .ok (.getfield 9, 3) := by decide +kernel
theorem dX6_doPlay_42 : decode cX6_doPlay 42 = .ok (.iload_n 1, 1) := by decide +kernel
theorem dX6_doPlay_43 : decode cX6_doPlay 43 = .ok (.iaload, 1) := by decide +kernel
theorem dX6_doPlay_44 : decode cX6_doPlay 44 = .ok (.invokevirtual 68, 3) := by decide +kernel
theorem dX6_doPlay_47 : decode cX6_doPlay 47 = .ok (.ireturn, 1) := by decide +kernel
theorem dX6_doPlay_48 : decode cX6_doPlay 48 = .ok (.aload_n 0, 1) := by decide +kernel
theorem dX6_doPlay_49 : decode cX6_doPlay 49 = .ok (.getfield 9, 3) := by decide +kernel
theorem dX6_doPlay_52 : decode cX6_doPlay 52 = .ok (.iload_n 2, 1) := by decide +kernel
theorem dX6_doPlay_53 : decode cX6_doPlay 53 = .ok (.iaload, 1) := by decide +kernel
theorem dX6_doPlay_54 : decode cX6_doPlay 54 = .ok (.istore_n 3, 1) := by decide +kernel
theorem dX6_doPlay_55 : decode cX6_doPlay 55 = .ok (.aload_n 0, 1) := by decide +kernel
theorem dX6_doPlay_56 : decode cX6_doPlay 56 = .ok (.getfield 9, 3) := by decide +kernel
theorem dX6_doPlay_59 : decode cX6_doPlay 59 = .ok (.iload_n 2, 1) := by decide +kernel
theorem dX6_doPlay_60 : decode cX6_doPlay 60 = .ok (.aload_n 0, 1) := by decide +kernel
theorem dX6_doPlay_61 : decode cX6_doPlay 61 = .ok (.getfield 9, 3) := by decide +kernel
theorem dX6_doPlay_64 : decode cX6_doPlay 64 = .ok (.iload_n 1, 1) := by decide +kernel
theorem dX6_doPlay_65 : decode cX6_doPlay 65 = .ok (.iaload, 1) := by decide +kernel
theorem dX6_doPlay_66 : decode cX6_doPlay 66 = .ok (.iastore, 1) := by decide +kernel
theorem dX6_doPlay_67 : decode cX6_doPlay 67 = .ok (.aload_n 0, 1) := by decide +kernel
theorem dX6_doPlay_68 : decode cX6_doPlay 68 = .ok (.getfield 9, 3) := by decide +kernel
theorem dX6_doPlay_71 : decode cX6_doPlay 71 = .ok (.iload_n 1, 1) := by decide +kernel
theorem dX6_doPlay_72 : decode cX6_doPlay 72 = .ok (.iconst 0, 1) := by decide +kernel
theorem dX6_doPlay_73 : decode cX6_doPlay 73 = .ok (.iastore, 1) := by decide +kernel
theorem dX6_doPlay_74 : decode cX6_doPlay 74 = .ok (.aload_n 0, 1) := by decide +kernel
theorem dX6_doPlay_75 : decode cX6_doPlay 75 = .ok (.getfield 9, 3) := by decide +kernel
theorem dX6_doPlay_78 : decode cX6_doPlay 78 = .ok (.bipush 25, 2) := by decide +kernel
theorem dX6_doPlay_80 : decode cX6_doPlay 80 = .ok (.dup2, 1) := by decide +kernel
theorem dX6_doPlay_81 : decode cX6_doPlay 81 = .ok (.iaload, 1) := by decide +kernel
theorem dX6_doPlay_82 : decode cX6_doPlay 82 = .ok (.iconst 1, 1) := by decide +kernel
theorem dX6_doPlay_83 : decode cX6_doPlay 83 = .ok (.iadd, 1) := by decide +kernel
theorem dX6_doPlay_84 : decode cX6_doPlay 84 = .ok (.iastore, 1) := by decide +kernel
theorem dX6_doPlay_85 : decode cX6_doPlay 85 = .ok (.aload_n 0, 1) := by decide +kernel
theorem dX6_doPlay_86 : decode cX6_doPlay 86 = .ok (.getfield 9, 3) := by decide +kernel
theorem dX6_doPlay_89 : decode cX6_doPlay 89 = .ok (.bipush 26, 2) := by decide +kernel
theorem dX6_doPlay_91 : decode cX6_doPlay 91 = .ok (.dup2, 1) := by decide +kernel
theorem dX6_doPlay_92 : decode cX6_doPlay 92 = .ok (.iaload, 1) := by decide +kernel
theorem dX6_doPlay_93 : decode cX6_doPlay 93 = .ok (.iload_n 3, 1) := by decide +kernel
theorem dX6_doPlay_94 : decode cX6_doPlay 94 = .ok (.bipush 6, 2) := by decide +kernel
theorem dX6_doPlay_96 : decode cX6_doPlay 96 = .ok (.if_icmp .ne 7, 3) := by decide +kernel
theorem dX6_doPlay_99 : decode cX6_doPlay 99 = .ok (.iconst 1, 1) := by decide +kernel
theorem dX6_doPlay_100 : decode cX6_doPlay 100 = .ok (.goto 4, 3) := by decide +kernel
theorem dX6_doPlay_103 : decode cX6_doPlay 103 = .ok (.iconst 0, 1) := by decide +kernel
theorem dX6_doPlay_104 : decode cX6_doPlay 104 = .ok (.iadd, 1) := by decide +kernel
theorem dX6_doPlay_105 : decode cX6_doPlay 105 = .ok (.iastore, 1) := by decide +kernel
theorem dX6_doPlay_106 : decode cX6_doPlay 106 = .ok (.iload_n 3, 1) := by decide +kernel
theorem dX6_doPlay_107 : decode cX6_doPlay 107 = .ok (.ireturn, 1) := by decide +kernel
theorem dX6_play_0 : decode cX6_play 0 = .ok (.aload_n 0, 1) := by decide +kernel
theorem dX6_play_1 : decode cX6_play 1 = .ok (.invokevirtual 80, 3) := by decide +kernel
theorem dX6_play_4 : decode cX6_play 4 = .ok (.aload_n 0, 1) := by decide +kernel
theorem dX6_play_5 : decode cX6_play 5 = .ok (.aload_n 0, 1) := by decide +kernel
theorem dX6_play_6 : decode cX6_play 6 = .ok (.iload_n 1, 1) := by decide +kernel
theorem dX6_play_7 : decode cX6_play 7 = .ok (.iload_n 2, 1) := by decide +kernel
theorem dX6_play_8 : decode cX6_play 8 = .ok (.invokevirtual 165, 3) := by decide +kernel
theorem dX6_play_11 : decode cX6_play 11 = .ok (.invokevirtual 86, 3) := by decide +kernel
theorem dX6_play_14 : decode cX6_play 14 = .ok (.ireturn, 1) := by decide +kernel
theorem dX6_doTurn_0 : decode cX6_doTurn 0 = .ok (.iconst 0, 1) := by decide +kernel
theorem dX6_doTurn_1 : decode cX6_doTurn 1 = .ok (.istore_n 2, 1) := by decide +kernel
theorem dX6_doTurn_2 : decode cX6_doTurn 2 = .ok (.iload_n 2, 1) := by decide +kernel
theorem dX6_doTurn_3 : decode cX6_doTurn 3 = .ok (.bipush 25, 2) := by decide +kernel
theorem dX6_doTurn_5 : decode cX6_doTurn 5 = .ok (.if_icmp .ge 54, 3) := by decide +kernel
theorem dX6_doTurn_8 : decode cX6_doTurn 8 = .ok (.iload_n 2, 1) := by decide +kernel
theorem dX6_doTurn_9 : decode cX6_doTurn 9 = .ok (.iconst 5, 1) := by decide +kernel
theorem dX6_doTurn_10 : decode cX6_doTurn 10 = .ok (.irem, 1) := by decide +kernel
theorem dX6_doTurn_11 : decode cX6_doTurn 11 = .ok (.istore_n 3, 1) := by decide +kernel
theorem dX6_doTurn_12 : decode cX6_doTurn 12 = .ok (.iload_n 2, 1) := by decide +kernel
theorem dX6_doTurn_13 : decode cX6_doTurn 13 = .ok (.iconst 5, 1) := by decide +kernel
theorem dX6_doTurn_14 : decode cX6_doTurn 14 = .ok (.idiv, 1) := by decide +kernel
theorem dX6_doTurn_15 : decode cX6_doTurn 15 = .ok (.istore 4, 2) := by decide +kernel
theorem dX6_doTurn_17 : decode cX6_doTurn 17 = .ok (.aload_n 0, 1) := by decide +kernel
theorem dX6_doTurn_18 : decode cX6_doTurn 18 = .ok (.getfield 32, 3) := by decide +kernel
theorem dX6_doTurn_21 : decode cX6_doTurn 21 = .ok (.iload_n 1, 1) := by decide +kernel
theorem dX6_doTurn_22 : decode cX6_doTurn 22 = .ok (.ifCond .eq 16, 3) := by decide +kernel
theorem dX6_doTurn_25 : decode cX6_doTurn 25 = .ok (.iconst 5, 1) := by decide +kernel
theorem dX6_doTurn_26 : decode cX6_doTurn 26 = .ok (.iload 4, 2) := by decide +kernel
theorem dX6_doTurn_28 : decode cX6_doTurn 28 = .ok (.imul, 1) := by decide +kernel
theorem dX6_doTurn_29 : decode cX6_doTurn 29 = .ok (.iconst 5, 1) := by decide +kernel
theorem dX6_doTurn_30 : decode cX6_doTurn 30 = .ok (.iadd, 1) := by decide +kernel
theorem dX6_doTurn_31 : decode cX6_doTurn 31 = .ok (.iconst 1, 1) := by decide +kernel
theorem dX6_doTurn_32 : decode cX6_doTurn 32 = .ok (.isub, 1) := by decide +kernel
theorem dX6_doTurn_33 : decode cX6_doTurn 33 = .ok (.iload_n 3, 1) := by decide +kernel
theorem dX6_doTurn_34 : decode cX6_doTurn 34 = .ok (.isub, 1) := by decide +kernel
theorem dX6_doTurn_35 : decode cX6_doTurn 35 = .ok (.goto 11, 3) := by decide +kernel
theorem dX6_doTurn_38 : decode cX6_doTurn 38 = .ok (.iconst 5, 1) := by decide +kernel
theorem dX6_doTurn_39 : decode cX6_doTurn 39 = .ok (.iconst 4, 1) := by decide +kernel
theorem dX6_doTurn_40 : decode cX6_doTurn 40 = .ok (.iload_n 3, 1) := by decide +kernel
theorem dX6_doTurn_41 : decode cX6_doTurn 41 = .ok (.isub, 1) := by decide +kernel
theorem dX6_doTurn_42 : decode cX6_doTurn 42 = .ok (.imul, 1) := by decide +kernel
theorem dX6_doTurn_43 : decode cX6_doTurn 43 = .ok (.iload 4, 2) := by decide +kernel
theorem dX6_doTurn_45 : decode cX6_doTurn 45 = .ok (.iadd, 1) := by decide +kernel
theorem dX6_doTurn_46 : decode cX6_doTurn 46 = .ok (.aload_n 0, 1) := by decide +kernel
theorem dX6_doTurn_47 : decode cX6_doTurn 47 = .ok (.getfield 9, 3) := by decide +kernel
theorem dX6_doTurn_50 : decode cX6_doTurn 50 = .ok (.iload_n 2, 1) := by decide +kernel
theorem dX6_doTurn_51 : decode cX6_doTurn 51 = .ok (.iaload, 1) := by decide +kernel
theorem dX6_doTurn_52 : decode cX6_doTurn 52 = .ok (.iastore, 1) := by decide +kernel
theorem dX6_doTurn_53 : decode cX6_doTurn 53 = .ok (.iinc 2 1, 3) := by decide +kernel
theorem dX6_doTurn_56 : decode cX6_doTurn 56 = .ok (.goto (-54), 3) := by decide +kernel
theorem dX6_doTurn_59 : decode cX6_doTurn 59 = .ok (.aload_n 0, 1) := by decide +kernel
theorem dX6_doTurn_60 : decode cX6_doTurn 60 = .ok (.getfield 32, 3) := by decide +kernel
theorem dX6_doTurn_63 : decode cX6_doTurn 63 = .ok (.iconst 0, 1) := by decide +kernel
theorem dX6_doTurn_64 : decode cX6_doTurn 64 = .ok (.aload_n 0, 1) := by decide +kernel
theorem dX6_doTurn_65 : decode cX6_doTurn 65 = .ok (.getfield 9, 3) := by decide +kernel
theorem dX6_doTurn_68 : decode cX6_doTurn 68 = .ok (.iconst 0, 1) := by decide +kernel
theorem dX6_doTurn_69 : decode cX6_doTurn 69 = .ok (.bipush 25, 2) := by decide +kernel
theorem dX6_doTurn_71 : decode cX6_doTurn 71 = .ok (.invokestatic 45, 3) := by decide +kernel
theorem dX6_doTurn_74 : decode cX6_doTurn 74 = .ok (.aload_n 0, 1) := by decide +kernel
theorem dX6_doTurn_75 : decode cX6_doTurn 75 = .ok (.getfield 9, 3) := by decide +kernel
theorem dX6_doTurn_78 : decode cX6_doTurn 78 = .ok (.bipush 28, 2) := by decide +kernel
theorem dX6_doTurn_80 : decode cX6_doTurn 80 = .ok (.dup2, 1) := by decide +kernel
theorem dX6_doTurn_81 : decode cX6_doTurn 81 = .ok (.iaload, 1) := by decide +kernel
theorem dX6_doTurn_82 : decode cX6_doTurn 82 = .ok (.iconst 1, 1) := by decide +kernel
theorem dX6_doTurn_83 : decode cX6_doTurn 83 = .ok (.iadd, 1) := by decide +kernel
theorem dX6_doTurn_84 : decode cX6_doTurn 84 = .ok (.iastore, 1) := by decide +kernel
theorem dX6_doTurn_85 : decode cX6_doTurn 85 = .ok (.aload_n 0, 1) := by decide +kernel
theorem dX6_doTurn_86 : decode cX6_doTurn 86 = .ok (.invokevirtual 76, 3) := by decide +kernel
theorem dX6_doTurn_89 : decode cX6_doTurn 89 = .ok (.ireturn, 1) := by decide +kernel
theorem dX6_turn_0 : decode cX6_turn 0 = .ok (.aload_n 0, 1) := by decide +kernel
theorem dX6_turn_1 : decode cX6_turn 1 = .ok (.invokevirtual 80, 3) := by decide +kernel
theorem dX6_turn_4 : decode cX6_turn 4 = .ok (.aload_n 0, 1) := by decide +kernel
theorem dX6_turn_5 : decode cX6_turn 5 = .ok (.aload_n 0, 1) := by decide +kernel
theorem dX6_turn_6 : decode cX6_turn 6 = .ok (.iconst 0, 1) := by decide +kernel
theorem dX6_turn_7 : decode cX6_turn 7 = .ok (.invokevirtual 168, 3) := by decide +kernel
theorem dX6_turn_10 : decode cX6_turn 10 = .ok (.invokevirtual 86, 3) := by decide +kernel
theorem dX6_turn_13 : decode cX6_turn 13 = .ok (.ireturn, 1) := by decide +kernel
theorem dX6_mirror_0 : decode cX6_mirror 0 = .ok (.aload_n 0, 1) := by decide +kernel
theorem dX6_mirror_1 : decode cX6_mirror 1 = .ok (.invokevirtual 80, 3) := by decide +kernel
theorem dX6_mirror_4 : decode cX6_mirror 4 = .ok (.aload_n 0, 1) := by decide +kernel
theorem dX6_mirror_5 : decode cX6_mirror 5 = .ok (.aload_n 0, 1) := by decide +kernel
theorem dX6_mirror_6 : decode cX6_mirror 6 = .ok (.iconst 1, 1) := by decide +kernel
theorem dX6_mirror_7 : decode cX6_mirror 7 = .ok (.invokevirtual 168, 3) := by decide +kernel
theorem dX6_mirror_10 : decode cX6_mirror 10 = .ok (.invokevirtual 86, 3) := by decide +kernel
theorem dX6_mirror_13 : decode cX6_mirror 13 = .ok (.ireturn, 1) := by decide +kernel
theorem dX6_says_0 : decode cX6_says 0 = .ok (.aload_n 0, 1) := by decide +kernel
theorem dX6_says_1 : decode cX6_says 1 = .ok (.getfield 35, 3) := by decide +kernel
theorem dX6_says_4 : decode cX6_says 4 = .ok (.aload_n 0, 1) := by decide +kernel
theorem dX6_says_5 : decode cX6_says 5 = .ok (.getfield 172, 3) := by decide +kernel
theorem dX6_says_8 : decode cX6_says 8 = .ok (.iload_n 1, 1) := by decide +kernel
theorem dX6_says_9 : decode cX6_says 9 = .ok (.castore, 1) := by decide +kernel
theorem dX6_says_10 : decode cX6_says 10 = .ok (.aload_n 0, 1) := by decide +kernel
theorem dX6_says_11 : decode cX6_says 11 = .ok (.dup, 1) := by decide +kernel
theorem dX6_says_12 : decode cX6_says 12 = .ok (.getfield 172, 3) := by decide +kernel
theorem dX6_says_15 : decode cX6_says 15 = .ok (.iconst 1, 1) := by decide +kernel
theorem dX6_says_16 : decode cX6_says 16 = .ok (.iadd, 1) := by decide +kernel
theorem dX6_says_17 : decode cX6_says 17 = .ok (.putfield 172, 3) := by decide +kernel
theorem dX6_says_20 : decode cX6_says 20 = .ok (.return_, 1) := by decide +kernel
theorem dX6_show_0 : decode cX6_show 0 = .ok (.aload_n 0, 1) := by decide +kernel
theorem dX6_show_1 : decode cX6_show 1 = .ok (.iconst 0, 1) := by decide +kernel
theorem dX6_show_2 : decode cX6_show 2 = .ok (.putfield 172, 3) := by decide +kernel
theorem dX6_show_5 : decode cX6_show 5 = .ok (.iconst 4, 1) := by decide +kernel
theorem dX6_show_6 : decode cX6_show 6 = .ok (.istore_n 1, 1) := by decide +kernel
theorem dX6_show_7 : decode cX6_show 7 = .ok (.iload_n 1, 1) := by decide +kernel
theorem dX6_show_8 : decode cX6_show 8 = .ok (.ifCond .lt 51, 3) := by decide +kernel
theorem dX6_show_11 : decode cX6_show 11 = .ok (.iconst 0, 1) := by decide +kernel
theorem dX6_show_12 : decode cX6_show 12 = .ok (.istore_n 2, 1) := by decide +kernel
theorem dX6_show_13 : decode cX6_show 13 = .ok (.iload_n 2, 1) := by decide +kernel
theorem dX6_show_14 : decode cX6_show 14 = .ok (.iconst 5, 1) := by decide +kernel
theorem dX6_show_15 : decode cX6_show 15 = .ok (.if_icmp .ge 28, 3) := by decide +kernel
theorem dX6_show_18 : decode cX6_show 18 = .ok (.aload_n 0, 1) := by decide +kernel
theorem dX6_show_19 : decode cX6_show 19 = .ok (.ldc 175, 2) := by decide +kernel
theorem dX6_show_21 : decode cX6_show 21 = .ok (.aload_n 0, 1) := by decide +kernel
theorem dX6_show_22 : decode cX6_show 22 = .ok (.getfield 9, 3) := by decide +kernel
theorem dX6_show_25 : decode cX6_show 25 = .ok (.iconst 5, 1) := by decide +kernel
theorem dX6_show_26 : decode cX6_show 26 = .ok (.iload_n 1, 1) := by decide +kernel
theorem dX6_show_27 : decode cX6_show 27 = .ok (.imul, 1) := by decide +kernel
theorem dX6_show_28 : decode cX6_show 28 = .ok (.iload_n 2, 1) := by decide +kernel
theorem dX6_show_29 : decode cX6_show 29 = .ok (.iadd, 1) := by decide +kernel
theorem dX6_show_30 : decode cX6_show 30 = .ok (.iaload, 1) := by decide +kernel
theorem dX6_show_31 : decode cX6_show 31 = .ok (.invokevirtual 177, 3) := by decide +kernel
theorem dX6_show_34 : decode cX6_show 34 = .ok (.invokevirtual 183, 3) := by decide +kernel
theorem dX6_show_37 : decode cX6_show 37 = .ok (.iinc 2 1, 3) := by decide +kernel
theorem dX6_show_40 : decode cX6_show 40 = .ok (.goto (-27), 3) := by decide +kernel
theorem dX6_show_43 : decode cX6_show 43 = .ok (.iload_n 1, 1) := by decide +kernel
theorem dX6_show_44 : decode cX6_show 44 = .ok (.ifCond .le 9, 3) := by decide +kernel
theorem dX6_show_47 : decode cX6_show 47 = .ok (.aload_n 0, 1) := by decide +kernel
theorem dX6_show_48 : decode cX6_show 48 = .ok (.bipush 47, 2) := by decide +kernel
theorem dX6_show_50 : decode cX6_show 50 = .ok (.invokevirtual 183, 3) := by decide +kernel
theorem dX6_show_53 : decode cX6_show 53 = .ok (.iinc 1 (-1), 3) := by decide +kernel
theorem dX6_show_56 : decode cX6_show 56 = .ok (.goto (-49), 3) := by decide +kernel
theorem dX6_show_59 : decode cX6_show 59 = .ok (.aload_n 0, 1) := by decide +kernel
theorem dX6_show_60 : decode cX6_show 60 = .ok (.getfield 172, 3) := by decide +kernel
theorem dX6_show_63 : decode cX6_show 63 = .ok (.ireturn, 1) := by decide +kernel
theorem dX6_saysSquare_0 : decode cX6_saysSquare 0 = .ok (.aload_n 0, 1) := by decide +kernel
theorem dX6_saysSquare_1 : decode cX6_saysSquare 1 = .ok (.bipush 97, 2) := by decide +kernel
theorem dX6_saysSquare_3 : decode cX6_saysSquare 3 = .ok (.iload_n 1, 1) := by decide +kernel
theorem dX6_saysSquare_4 : decode cX6_saysSquare 4 = .ok (.iconst 5, 1) := by decide +kernel
theorem dX6_saysSquare_5 : decode cX6_saysSquare 5 = .ok (.irem, 1) := by decide +kernel
theorem dX6_saysSquare_6 : decode cX6_saysSquare 6 = .ok (.iadd, 1) := by decide +kernel
theorem dX6_saysSquare_7 : decode cX6_saysSquare 7 = .ok (.i2c, 1) := by decide +kernel
theorem dX6_saysSquare_8 : decode cX6_saysSquare 8 = .ok (.invokevirtual 183, 3) := by decide +kernel
theorem dX6_saysSquare_11 : decode cX6_saysSquare 11 = .ok (.aload_n 0, 1) := by decide +kernel
theorem dX6_saysSquare_12 : decode cX6_saysSquare 12 = .ok (.bipush 49, 2) := by decide +kernel
theorem dX6_saysSquare_14 : decode cX6_saysSquare 14 = .ok (.iload_n 1, 1) := by decide +kernel
theorem dX6_saysSquare_15 : decode cX6_saysSquare 15 = .ok (.iconst 5, 1) := by decide +kernel
theorem dX6_saysSquare_16 : decode cX6_saysSquare 16 = .ok (.idiv, 1) := by decide +kernel
theorem dX6_saysSquare_17 : decode cX6_saysSquare 17 = .ok (.iadd, 1) := by decide +kernel
theorem dX6_saysSquare_18 : decode cX6_saysSquare 18 = .ok (.i2c, 1) := by decide +kernel
theorem dX6_saysSquare_19 : decode cX6_saysSquare 19 = .ok (.invokevirtual 183, 3) := by decide +kernel
theorem dX6_saysSquare_22 : decode cX6_saysSquare 22 = .ok (.return_, 1) := by decide +kernel
theorem dX6_tell_0 : decode cX6_tell 0 = .ok (.aload_n 0, 1) := by decide +kernel
theorem dX6_tell_1 : decode cX6_tell 1 = .ok (.iload_n 1, 1) := by decide +kernel
theorem dX6_tell_2 : decode cX6_tell 2 = .ok (.iload_n 2, 1) := by decide +kernel
theorem dX6_tell_3 : decode cX6_tell 3 = .ok (.invokevirtual 187, 3) := by decide +kernel
theorem dX6_tell_6 : decode cX6_tell 6 = .ok (.istore_n 3, 1) := by decide +kernel
theorem dX6_tell_7 : decode cX6_tell 7 = .ok (.iload_n 3, 1) := by decide +kernel
theorem dX6_tell_8 : decode cX6_tell 8 = .ok (.ifCond .ge 5, 3) := by decide +kernel
theorem dX6_tell_11 : decode cX6_tell 11 = .ok (.iload_n 3, 1) := by decide +kernel
theorem dX6_tell_12 : decode cX6_tell 12 = .ok (.ireturn, 1) := by decide +kernel
theorem dX6_tell_13 : decode cX6_tell 13 = .ok (.aload_n 0, 1) := by decide +kernel
theorem dX6_tell_14 : decode cX6_tell 14 = .ok (.iconst 0, 1) := by decide +kernel
theorem dX6_tell_15 : decode cX6_tell 15 = .ok (.putfield 172, 3) := by decide +kernel
theorem dX6_tell_18 : decode cX6_tell 18 = .ok (.aload_n 0, 1) := by decide +kernel
theorem dX6_tell_19 : decode cX6_tell 19 = .ok (.ldc 175, 2) := by decide +kernel
theorem dX6_tell_21 : decode cX6_tell 21 = .ok (.aload_n 0, 1) := by decide +kernel
theorem dX6_tell_22 : decode cX6_tell 22 = .ok (.getfield 9, 3) := by decide +kernel
theorem dX6_tell_25 : decode cX6_tell 25 = .ok (.iload_n 1, 1) := by decide +kernel
theorem dX6_tell_26 : decode cX6_tell 26 = .ok (.iaload, 1) := by decide +kernel
theorem dX6_tell_27 : decode cX6_tell 27 = .ok (.invokevirtual 177, 3) := by decide +kernel
theorem dX6_tell_30 : decode cX6_tell 30 = .ok (.invokevirtual 183, 3) := by decide +kernel
theorem dX6_tell_33 : decode cX6_tell 33 = .ok (.aload_n 0, 1) := by decide +kernel
theorem dX6_tell_34 : decode cX6_tell 34 = .ok (.iload_n 1, 1) := by decide +kernel
theorem dX6_tell_35 : decode cX6_tell 35 = .ok (.invokevirtual 190, 3) := by decide +kernel
theorem dX6_tell_38 : decode cX6_tell 38 = .ok (.aload_n 0, 1) := by decide +kernel
theorem dX6_tell_39 : decode cX6_tell 39 = .ok (.aload_n 0, 1) := by decide +kernel
theorem dX6_tell_40 : decode cX6_tell 40 = .ok (.getfield 9, 3) := by decide +kernel
theorem dX6_tell_43 : decode cX6_tell 43 = .ok (.iload_n 2, 1) := by decide +kernel
theorem dX6_tell_44 : decode cX6_tell 44 = .ok (.iaload, 1) := by decide +kernel
theorem dX6_tell_45 : decode cX6_tell 45 = .ok (.bipush 6, 2) := by decide +kernel
theorem dX6_tell_47 : decode cX6_tell 47 = .ok (.if_icmp .ne 8, 3) := by decide +kernel
theorem dX6_tell_50 : decode cX6_tell 50 = .ok (.bipush 120, 2) := by decide +kernel
theorem dX6_tell_52 : decode cX6_tell 52 = .ok (.goto 5, 3) := by decide +kernel
theorem dX6_tell_55 : decode cX6_tell 55 = .ok (.bipush 45, 2) := by decide +kernel
theorem dX6_tell_57 : decode cX6_tell 57 = .ok (.invokevirtual 183, 3) := by decide +kernel
theorem dX6_tell_60 : decode cX6_tell 60 = .ok (.aload_n 0, 1) := by decide +kernel
theorem dX6_tell_61 : decode cX6_tell 61 = .ok (.iload_n 2, 1) := by decide +kernel
theorem dX6_tell_62 : decode cX6_tell 62 = .ok (.invokevirtual 190, 3) := by decide +kernel
theorem dX6_tell_65 : decode cX6_tell 65 = .ok (.iload_n 3, 1) := by decide +kernel
theorem dX6_tell_66 : decode cX6_tell 66 = .ok (.ifCond .le 29, 3) := by decide +kernel
theorem dX6_tell_69 : decode cX6_tell 69 = .ok (.aload_n 0, 1) := by decide +kernel
theorem dX6_tell_70 : decode cX6_tell 70 = .ok (.iload_n 3, 1) := by decide +kernel
theorem dX6_tell_71 : decode cX6_tell 71 = .ok (.iconst 3, 1) := by decide +kernel
theorem dX6_tell_72 : decode cX6_tell 72 = .ok (.if_icmp .ne 8, 3) := by decide +kernel
theorem dX6_tell_75 : decode cX6_tell 75 = .ok (.bipush 35, 2) := by decide +kernel
theorem dX6_tell_77 : decode cX6_tell 77 = .ok (.goto 15, 3) := by decide +kernel
theorem dX6_tell_80 : decode cX6_tell 80 = .ok (.iload_n 3, 1) := by decide +kernel
theorem dX6_tell_81 : decode cX6_tell 81 = .ok (.iconst 2, 1) := by decide +kernel
theorem dX6_tell_82 : decode cX6_tell 82 = .ok (.if_icmp .ne 8, 3) := by decide +kernel
theorem dX6_tell_85 : decode cX6_tell 85 = .ok (.bipush 43, 2) := by decide +kernel
theorem dX6_tell_87 : decode cX6_tell 87 = .ok (.goto 5, 3) := by decide +kernel
theorem dX6_tell_90 : decode cX6_tell 90 = .ok (.bipush 61, 2) := by decide +kernel
theorem dX6_tell_92 : decode cX6_tell 92 = .ok (.invokevirtual 183, 3) := by decide +kernel
theorem dX6_tell_95 : decode cX6_tell 95 = .ok (.aload_n 0, 1) := by decide +kernel
theorem dX6_tell_96 : decode cX6_tell 96 = .ok (.getfield 172, 3) := by decide +kernel
theorem dX6_tell_99 : decode cX6_tell 99 = .ok (.ireturn, 1) := by decide +kernel
theorem dX6_sign_0 : decode cX6_sign 0 = .ok (.iload_n 1, 1) := by decide +kernel
theorem dX6_sign_1 : decode cX6_sign 1 = .ok (.iconst 0, 1) := by decide +kernel
theorem dX6_sign_2 : decode cX6_sign 2 = .ok (.aload_n 0, 1) := by decide +kernel
theorem dX6_sign_3 : decode cX6_sign 3 = .ok (.getfield 172, 3) := by decide +kernel
theorem dX6_sign_6 : decode cX6_sign 6 = .ok (.iconst 1, 1) := by decide +kernel
theorem dX6_sign_7 : decode cX6_sign 7 = .ok (.isub, 1) := by decide +kernel
theorem dX6_sign_8 : decode cX6_sign 8 = .ok (.invokestatic 60, 3) := by decide +kernel
theorem dX6_sign_11 : decode cX6_sign 11 = .ok (.ifCond .eq 12, 3) := by decide +kernel
theorem dX6_sign_14 : decode cX6_sign 14 = .ok (.aload_n 0, 1) := by decide +kernel
theorem dX6_sign_15 : decode cX6_sign 15 = .ok (.getfield 35, 3) := by decide +kernel
theorem dX6_sign_18 : decode cX6_sign 18 = .ok (.iload_n 1, 1) := by decide +kernel
theorem dX6_sign_19 : decode cX6_sign 19 = .ok (.caload, 1) := by decide +kernel
theorem dX6_sign_20 : decode cX6_sign 20 = .ok (.goto 4, 3) := by decide +kernel
theorem dX6_sign_23 : decode cX6_sign 23 = .ok (.iconst (-1), 1) := by decide +kernel
theorem dX6_sign_24 : decode cX6_sign 24 = .ok (.ireturn, 1) := by decide +kernel
theorem dX6_append_0 : decode cX6_append 0 = .ok (.iload_n 1, 1) := by decide +kernel
theorem dX6_append_1 : decode cX6_append 1 = .ok (.bipush 32, 2) := by decide +kernel
theorem dX6_append_3 : decode cX6_append 3 = .ok (.bipush 126, 2) := by decide +kernel
theorem dX6_append_5 : decode cX6_append 5 = .ok (.invokestatic 60, 3) := by decide +kernel
theorem dX6_append_8 : decode cX6_append 8 = .ok (.ifCond .eq 12, 3) := by decide +kernel
theorem dX6_append_11 : decode cX6_append 11 = .ok (.aload_n 0, 1) := by decide +kernel
theorem dX6_append_12 : decode cX6_append 12 = .ok (.getfield 194, 3) := by decide +kernel
theorem dX6_append_15 : decode cX6_append 15 = .ok (.bipush 70, 2) := by decide +kernel
theorem dX6_append_17 : decode cX6_append 17 = .ok (.if_icmp .ne 6, 3) := by decide +kernel
theorem dX6_append_20 : decode cX6_append 20 = .ok (.bipush (-2), 2) := by decide +kernel
theorem dX6_append_22 : decode cX6_append 22 = .ok (.ireturn, 1) := by decide +kernel
theorem dX6_append_23 : decode cX6_append 23 = .ok (.aload_n 0, 1) := by decide +kernel
theorem dX6_append_24 : decode cX6_append 24 = .ok (.getfield 39, 3) := by decide +kernel
theorem dX6_append_27 : decode cX6_append 27 = .ok (.aload_n 0, 1) := by decide +kernel
theorem dX6_append_28 : decode cX6_append 28 = .ok (.getfield 194, 3) := by decide +kernel
theorem dX6_append_31 : decode cX6_append 31 = .ok (.iload_n 1, 1) := by decide +kernel
theorem dX6_append_32 : decode cX6_append 32 = .ok (.i2c, 1) := by decide +kernel
theorem dX6_append_33 : decode cX6_append 33 = .ok (.castore, 1) := by decide +kernel
theorem dX6_append_34 : decode cX6_append 34 = .ok (.aload_n 0, 1) := by decide +kernel
theorem dX6_append_35 : decode cX6_append 35 = .ok (.dup, 1) := by decide +kernel
theorem dX6_append_36 : decode cX6_append 36 = .ok (.getfield 194, 3) := by decide +kernel
theorem dX6_append_39 : decode cX6_append 39 = .ok (.iconst 1, 1) := by decide +kernel
theorem dX6_append_40 : decode cX6_append 40 = .ok (.iadd, 1) := by decide +kernel
theorem dX6_append_41 : decode cX6_append 41 = .ok (.putfield 194, 3) := by decide +kernel
theorem dX6_append_44 : decode cX6_append 44 = .ok (.aload_n 0, 1) := by decide +kernel
theorem dX6_append_45 : decode cX6_append 45 = .ok (.getfield 194, 3) := by decide +kernel
theorem dX6_append_48 : decode cX6_append 48 = .ok (.ireturn, 1) := by decide +kernel
theorem dX6_isHere_0 : decode cX6_isHere 0 = .ok (.aload_n 0, 1) := by decide +kernel
theorem dX6_isHere_1 : decode cX6_isHere 1 = .ok (.getfield 197, 3) := by decide +kernel
theorem dX6_isHere_4 : decode cX6_isHere 4 = .ok (.ifCond .ne 35, 3) := by decide +kernel
theorem dX6_isHere_7 : decode cX6_isHere 7 = .ok (.aload_n 0, 1) := by decide +kernel
theorem dX6_isHere_8 : decode cX6_isHere 8 = .ok (.getfield 201, 3) := by decide +kernel
theorem dX6_isHere_11 : decode cX6_isHere 11 = .ok (.aload_n 0, 1) := by decide +kernel
theorem dX6_isHere_12 : decode cX6_isHere 12 = .ok (.getfield 194, 3) := by decide +kernel
theorem dX6_isHere_15 : decode cX6_isHere 15 = .ok (.if_icmp .ge 24, 3) := by decide +kernel
theorem dX6_isHere_18 : decode cX6_isHere 18 = .ok (.aload_n 0, 1) := by decide +kernel
theorem dX6_isHere_19 : decode cX6_isHere 19 = .ok (.getfield 39, 3) := by decide +kernel
theorem dX6_isHere_22 : decode cX6_isHere 22 = .ok (.aload_n 0, 1) := by decide +kernel
theorem dX6_isHere_23 : decode cX6_isHere 23 = .ok (.getfield 201, 3) := by decide +kernel
theorem dX6_isHere_26 : decode cX6_isHere 26 = .ok (.caload, 1) := by decide +kernel
theorem dX6_isHere_27 : decode cX6_isHere 27 = .ok (.iload_n 1, 1) := by decide +kernel
theorem dX6_isHere_28 : decode cX6_isHere 28 = .ok (.iload_n 2, 1) := by decide +kernel
theorem dX6_isHere_29 : decode cX6_isHere 29 = .ok (.invokestatic 60, 3) := by decide +kernel
theorem dX6_isHere_32 : decode cX6_isHere 32 = .ok (.ifCond .eq 7, 3) := by decide +kernel
theorem dX6_isHere_35 : decode cX6_isHere 35 = .ok (.iconst 1, 1) := by decide +kernel
theorem dX6_isHere_36 : decode cX6_isHere 36 = .ok (.goto 4, 3) := by decide +kernel
theorem dX6_isHere_39 : decode cX6_isHere 39 = .ok (.iconst 0, 1) := by decide +kernel
theorem dX6_isHere_40 : decode cX6_isHere 40 = .ok (.ireturn, 1) := by decide +kernel
theorem dX6_signAt_0 : decode cX6_signAt 0 = .ok (.aload_n 0, 1) := by decide +kernel
theorem dX6_signAt_1 : decode cX6_signAt 1 = .ok (.aload_n 0, 1) := by decide +kernel
theorem dX6_signAt_2 : decode cX6_signAt 2 = .ok (.getfield 197, 3) := by decide +kernel
theorem dX6_signAt_5 : decode cX6_signAt 5 = .ok (.ifCond .ne 12, 3) := by decide +kernel
theorem dX6_signAt_8 : decode cX6_signAt 8 = .ok (.aload_n 0, 1) := by decide +kernel
theorem dX6_signAt_9 : decode cX6_signAt 9 = .ok (.iload_n 1, 1) := by decide +kernel
theorem dX6_signAt_10 : decode cX6_signAt 10 = .ok (.iload_n 2, 1) := by decide +kernel
theorem dX6_signAt_11 : decode cX6_signAt 11 = .ok (.invokevirtual 204, 3) := by decide +kernel
theorem dX6_signAt_14 : decode cX6_signAt 14 = .ok (.ifCond .ne 7, 3) := by decide +kernel
theorem dX6_signAt_17 : decode cX6_signAt 17 = .ok (.iconst 1, 1) := by decide +kernel
theorem dX6_signAt_18 : decode cX6_signAt 18 = .ok (.goto 4, 3) := by decide +kernel
theorem dX6_signAt_21 : decode cX6_signAt 21 = .ok (.iconst 0, 1) := by decide +kernel
theorem dX6_signAt_22 : decode cX6_signAt 22 = .ok (.putfield 197, 3) := by decide +kernel
theorem dX6_signAt_25 : decode cX6_signAt 25 = .ok (.aload_n 0, 1) := by decide +kernel
theorem dX6_signAt_26 : decode cX6_signAt 26 = .ok (.getfield 197, 3) := by decide +kernel
theorem dX6_signAt_29 : decode cX6_signAt 29 = .ok (.ifCond .eq 5, 3) := by decide +kernel
theorem dX6_signAt_32 : decode cX6_signAt 32 = .ok (.iconst 0, 1) := by decide +kernel
theorem dX6_signAt_33 : decode cX6_signAt 33 = .ok (.ireturn, 1) := by decide +kernel
theorem dX6_signAt_34 : decode cX6_signAt 34 = .ok (.aload_n 0, 1) := by decide +kernel
theorem dX6_signAt_35 : decode cX6_signAt 35 = .ok (.dup, 1) := by decide +kernel
theorem dX6_signAt_36 : decode cX6_signAt 36 = .ok (.getfield 201, 3) := by decide +kernel
theorem dX6_signAt_39 : decode cX6_signAt 39 = .ok (.iconst 1, 1) := by decide +kernel
theorem dX6_signAt_40 : decode cX6_signAt 40 = .ok (.iadd, 1) := by decide +kernel
theorem dX6_signAt_41 : decode cX6_signAt 41 = .ok (.putfield 201, 3) := by decide +kernel
theorem dX6_signAt_44 : decode cX6_signAt 44 = .ok (.aload_n 0, 1) := by decide +kernel
theorem dX6_signAt_45 : decode cX6_signAt 45 = .ok (.getfield 39, 3) := by decide +kernel
theorem dX6_signAt_48 : decode cX6_signAt 48 = .ok (.aload_n 0, 1) := by decide +kernel
theorem dX6_signAt_49 : decode cX6_signAt 49 = .ok (.getfield 201, 3) := by decide +kernel
theorem dX6_signAt_52 : decode cX6_signAt 52 = .ok (.iconst 1, 1) := by decide +kernel
theorem dX6_signAt_53 : decode cX6_signAt 53 = .ok (.isub, 1) := by decide +kernel
theorem dX6_signAt_54 : decode cX6_signAt 54 = .ok (.caload, 1) := by decide +kernel
theorem dX6_signAt_55 : decode cX6_signAt 55 = .ok (.iload_n 1, 1) := by decide +kernel
theorem dX6_signAt_56 : decode cX6_signAt 56 = .ok (.isub, 1) := by decide +kernel
theorem dX6_signAt_57 : decode cX6_signAt 57 = .ok (.ireturn, 1) := by decide +kernel
theorem dX6_square_0 : decode cX6_square 0 = .ok (.aload_n 0, 1) := by decide +kernel
theorem dX6_square_1 : decode cX6_square 1 = .ok (.bipush 97, 2) := by decide +kernel
theorem dX6_square_3 : decode cX6_square 3 = .ok (.bipush 101, 2) := by decide +kernel
theorem dX6_square_5 : decode cX6_square 5 = .ok (.invokevirtual 208, 3) := by decide +kernel
theorem dX6_square_8 : decode cX6_square 8 = .ok (.istore_n 1, 1) := by decide +kernel
theorem dX6_square_9 : decode cX6_square 9 = .ok (.iconst 5, 1) := by decide +kernel
theorem dX6_square_10 : decode cX6_square 10 = .ok (.aload_n 0, 1) := by decide +kernel
theorem dX6_square_11 : decode cX6_square 11 = .ok (.bipush 49, 2) := by decide +kernel
theorem dX6_square_13 : decode cX6_square 13 = .ok (.bipush 53, 2) := by decide +kernel
theorem dX6_square_15 : decode cX6_square 15 = .ok (.invokevirtual 208, 3) := by decide +kernel
theorem dX6_square_18 : decode cX6_square 18 = .ok (.imul, 1) := by decide +kernel
theorem dX6_square_19 : decode cX6_square 19 = .ok (.iload_n 1, 1) := by decide +kernel
theorem dX6_square_20 : decode cX6_square 20 = .ok (.iadd, 1) := by decide +kernel
theorem dX6_square_21 : decode cX6_square 21 = .ok (.ireturn, 1) := by decide +kernel
theorem dX6_order_0 : decode cX6_order 0 = .ok (.aload_n 0, 1) := by decide +kernel
theorem dX6_order_1 : decode cX6_order 1 = .ok (.getfield 42, 3) := by decide +kernel
theorem dX6_order_4 : decode cX6_order 4 = .ok (.iconst 3, 1) := by decide +kernel
theorem dX6_order_5 : decode cX6_order 5 = .ok (.aload_n 0, 1) := by decide +kernel
theorem dX6_order_6 : decode cX6_order 6 = .ok (.getfield 212, 3) := by decide +kernel
theorem dX6_order_9 : decode cX6_order 9 = .ok (.imul, 1) := by decide +kernel
theorem dX6_order_10 : decode cX6_order 10 = .ok (.iload_n 1, 1) := by decide +kernel
theorem dX6_order_11 : decode cX6_order 11 = .ok (.iastore, 1) := by decide +kernel
theorem dX6_order_12 : decode cX6_order 12 = .ok (.aload_n 0, 1) := by decide +kernel
theorem dX6_order_13 : decode cX6_order 13 = .ok (.getfield 42, 3) := by decide +kernel
theorem dX6_order_16 : decode cX6_order 16 = .ok (.iconst 3, 1) := by decide +kernel
theorem dX6_order_17 : decode cX6_order 17 = .ok (.aload_n 0, 1) := by decide +kernel
theorem dX6_order_18 : decode cX6_order 18 = .ok (.getfield 212, 3) := by decide +kernel
theorem dX6_order_21 : decode cX6_order 21 = .ok (.imul, 1) := by decide +kernel
theorem dX6_order_22 : decode cX6_order 22 = .ok (.iconst 1, 1) := by decide +kernel
theorem dX6_order_23 : decode cX6_order 23 = .ok (.iadd, 1) := by decide +kernel
theorem dX6_order_24 : decode cX6_order 24 = .ok (.iload_n 2, 1) := by decide +kernel
theorem dX6_order_25 : decode cX6_order 25 = .ok (.iastore, 1) := by decide +kernel
theorem dX6_order_26 : decode cX6_order 26 = .ok (.aload_n 0, 1) := by decide +kernel
theorem dX6_order_27 : decode cX6_order 27 = .ok (.getfield 42, 3) := by decide +kernel
theorem dX6_order_30 : decode cX6_order 30 = .ok (.iconst 3, 1) := by decide +kernel
theorem dX6_order_31 : decode cX6_order 31 = .ok (.aload_n 0, 1) := by decide +kernel
theorem dX6_order_32 : decode cX6_order 32 = .ok (.getfield 212, 3) := by decide +kernel
theorem dX6_order_35 : decode cX6_order 35 = .ok (.imul, 1) := by decide +kernel
theorem dX6_order_36 : decode cX6_order 36 = .ok (.iconst 2, 1) := by decide +kernel
theorem dX6_order_37 : decode cX6_order 37 = .ok (.iadd, 1) := by decide +kernel
theorem dX6_order_38 : decode cX6_order 38 = .ok (.iload_n 3, 1) := by decide +kernel
theorem dX6_order_39 : decode cX6_order 39 = .ok (.iastore, 1) := by decide +kernel
theorem dX6_order_40 : decode cX6_order 40 = .ok (.aload_n 0, 1) := by decide +kernel
theorem dX6_order_41 : decode cX6_order 41 = .ok (.dup, 1) := by decide +kernel
theorem dX6_order_42 : decode cX6_order 42 = .ok (.getfield 212, 3) := by decide +kernel
theorem dX6_order_45 : decode cX6_order 45 = .ok (.iconst 1, 1) := by decide +kernel
theorem dX6_order_46 : decode cX6_order 46 = .ok (.iadd, 1) := by decide +kernel
theorem dX6_order_47 : decode cX6_order 47 = .ok (.putfield 212, 3) := by decide +kernel
theorem dX6_order_50 : decode cX6_order 50 = .ok (.return_, 1) := by decide +kernel
theorem dX6_readOrder_0 : decode cX6_readOrder 0 = .ok (.aload_n 0, 1) := by decide +kernel
theorem dX6_readOrder_1 : decode cX6_readOrder 1 = .ok (.getfield 197, 3) := by decide +kernel
theorem dX6_readOrder_4 : decode cX6_readOrder 4 = .ok (.ifCond .eq 4, 3) := by decide +kernel
theorem dX6_readOrder_7 : decode cX6_readOrder 7 = .ok (.return_, 1) := by decide +kernel
theorem dX6_readOrder_8 : decode cX6_readOrder 8 = .ok (.aload_n 0, 1) := by decide +kernel
theorem dX6_readOrder_9 : decode cX6_readOrder 9 = .ok (.getfield 201, 3) := by decide +kernel
theorem dX6_readOrder_12 : decode cX6_readOrder 12 = .ok (.aload_n 0, 1) := by decide +kernel
theorem dX6_readOrder_13 : decode cX6_readOrder 13 = .ok (.getfield 194, 3) := by decide +kernel
theorem dX6_readOrder_16 : decode cX6_readOrder 16 = .ok (.if_icmp .ge 15, 3) := by decide +kernel
theorem dX6_readOrder_19 : decode cX6_readOrder 19 = .ok (.aload_n 0, 1) := by decide +kernel
theorem dX6_readOrder_20 : decode cX6_readOrder 20 = .ok (.getfield 39, 3) := by decide +kernel
theorem dX6_readOrder_23 : decode cX6_readOrder 23 = .ok (.aload_n 0, 1) := by decide +kernel
theorem dX6_readOrder_24 : decode cX6_readOrder 24 = .ok (.getfield 201, 3) := by decide +kernel
theorem dX6_readOrder_27 : decode cX6_readOrder 27 = .ok (.caload, 1) := by decide +kernel
theorem dX6_readOrder_28 : decode cX6_readOrder 28 = .ok (.goto 4, 3) := by decide +kernel
theorem dX6_readOrder_31 : decode cX6_readOrder 31 = .ok (.iconst 0, 1) := by decide +kernel
theorem dX6_readOrder_32 : decode cX6_readOrder 32 = .ok (.istore_n 1, 1) := by decide +kernel
theorem dX6_readOrder_33 : decode cX6_readOrder 33 = .ok (.ldc 175, 2) := by decide +kernel
theorem dX6_readOrder_35 : decode cX6_readOrder 35 = .ok (.iload_n 1, 1) := by decide +kernel
theorem dX6_readOrder_36 : decode cX6_readOrder 36 = .ok (.invokevirtual 215, 3) := by decide +kernel
theorem dX6_readOrder_39 : decode cX6_readOrder 39 = .ok (.istore_n 2, 1) := by decide +kernel
theorem dX6_readOrder_40 : decode cX6_readOrder 40 = .ok (.iload_n 2, 1) := by decide +kernel
theorem dX6_readOrder_41 : decode cX6_readOrder 41 = .ok (.ifCond .le 26, 3) := by decide +kernel
theorem dX6_readOrder_44 : decode cX6_readOrder 44 = .ok (.aload_n 0, 1) := by decide +kernel
theorem dX6_readOrder_45 : decode cX6_readOrder 45 = .ok (.dup, 1) := by decide +kernel
theorem dX6_readOrder_46 : decode cX6_readOrder 46 = .ok (.getfield 201, 3) := by decide +kernel
theorem dX6_readOrder_49 : decode cX6_readOrder 49 = .ok (.iconst 1, 1) := by decide +kernel
theorem dX6_readOrder_50 : decode cX6_readOrder 50 = .ok (.iadd, 1) := by decide +kernel
theorem dX6_readOrder_51 : decode cX6_readOrder 51 = .ok (.putfield 201, 3) := by decide +kernel
theorem dX6_readOrder_54 : decode cX6_readOrder 54 = .ok (.aload_n 0, 1) := by decide +kernel
theorem dX6_readOrder_55 : decode cX6_readOrder 55 = .ok (.iload_n 2, 1) := by decide +kernel
theorem dX6_readOrder_56 : decode cX6_readOrder 56 = .ok (.aload_n 0, 1) := by decide +kernel
theorem dX6_readOrder_57 : decode cX6_readOrder 57 = .ok (.invokevirtual 218, 3) := by decide +kernel
theorem dX6_readOrder_60 : decode cX6_readOrder 60 = .ok (.iconst 0, 1) := by decide +kernel
theorem dX6_readOrder_61 : decode cX6_readOrder 61 = .ok (.invokevirtual 221, 3) := by decide +kernel
theorem dX6_readOrder_64 : decode cX6_readOrder 64 = .ok (.goto 139, 3) := by decide +kernel
theorem dX6_readOrder_67 : decode cX6_readOrder 67 = .ok (.iload_n 1, 1) := by decide +kernel
theorem dX6_readOrder_68 : decode cX6_readOrder 68 = .ok (.bipush 45, 2) := by decide +kernel
theorem dX6_readOrder_70 : decode cX6_readOrder 70 = .ok (.if_icmp .ne 27, 3) := by decide +kernel
theorem dX6_readOrder_73 : decode cX6_readOrder 73 = .ok (.aload_n 0, 1) := by decide +kernel
theorem dX6_readOrder_74 : decode cX6_readOrder 74 = .ok (.dup, 1) := by decide +kernel
theorem dX6_readOrder_75 : decode cX6_readOrder 75 = .ok (.getfield 201, 3) := by decide +kernel
theorem dX6_readOrder_78 : decode cX6_readOrder 78 = .ok (.iconst 1, 1) := by decide +kernel
theorem dX6_readOrder_79 : decode cX6_readOrder 79 = .ok (.iadd, 1) := by decide +kernel
theorem dX6_readOrder_80 : decode cX6_readOrder 80 = .ok (.putfield 201, 3) := by decide +kernel
theorem dX6_readOrder_83 : decode cX6_readOrder 83 = .ok (.aload_n 0, 1) := by decide +kernel
theorem dX6_readOrder_84 : decode cX6_readOrder 84 = .ok (.bipush 8, 2) := by decide +kernel
theorem dX6_readOrder_86 : decode cX6_readOrder 86 = .ok (.aload_n 0, 1) := by decide +kernel
theorem dX6_readOrder_87 : decode cX6_readOrder 87 = .ok (.invokevirtual 218, 3) := by decide +kernel
theorem dX6_readOrder_90 : decode cX6_readOrder 90 = .ok (.iconst 0, 1) := by decide +kernel
theorem dX6_readOrder_91 : decode cX6_readOrder 91 = .ok (.invokevirtual 221, 3) := by decide +kernel
theorem dX6_readOrder_94 : decode cX6_readOrder 94 = .ok (.goto 109, 3) := by decide +kernel
theorem dX6_readOrder_97 : decode cX6_readOrder 97 = .ok (.iload_n 1, 1) := by decide +kernel
theorem dX6_readOrder_98 : decode cX6_readOrder 98 = .ok (.bipush 97, 2) := by decide +kernel
theorem dX6_readOrder_100 : decode cX6_readOrder 100 = .ok (.bipush 101, 2) := by decide +kernel
theorem dX6_readOrder_102 : decode cX6_readOrder 102 = .ok (.invokestatic 60, 3) := by decide +kernel
theorem dX6_readOrder_105 : decode cX6_readOrder 105 = .ok (.ifCond .eq 32, 3) := by decide +kernel
theorem dX6_readOrder_108 : decode cX6_readOrder 108 = .ok (.aload_n 0, 1) := by decide +kernel
theorem dX6_readOrder_109 : decode cX6_readOrder 109 = .ok (.invokevirtual 218, 3) := by decide +kernel
theorem dX6_readOrder_112 : decode cX6_readOrder 112 = .ok (.istore_n 3, 1) := by decide +kernel
theorem dX6_readOrder_113 : decode cX6_readOrder 113 = .ok (.aload_n 0, 1) := by decide +kernel
theorem dX6_readOrder_114 : decode cX6_readOrder 114 = .ok (.bipush 45, 2) := by decide +kernel
theorem dX6_readOrder_116 : decode cX6_readOrder 116 = .ok (.bipush 45, 2) := by decide +kernel
theorem dX6_readOrder_118 : decode cX6_readOrder 118 = .ok (.invokevirtual 208, 3) := by decide +kernel
theorem dX6_readOrder_121 : decode cX6_readOrder 121 = .ok (.istore 4, 2) := by decide +kernel
theorem dX6_readOrder_123 : decode cX6_readOrder 123 = .ok (.aload_n 0, 1) := by decide +kernel
theorem dX6_readOrder_124 : decode cX6_readOrder 124 = .ok (.bipush 9, 2) := by decide +kernel
theorem dX6_readOrder_126 : decode cX6_readOrder 126 = .ok (.iload_n 3, 1) := by decide +kernel
theorem dX6_readOrder_127 : decode cX6_readOrder 127 = .ok (.aload_n 0, 1) := by decide +kernel
theorem dX6_readOrder_128 : decode cX6_readOrder 128 = .ok (.invokevirtual 218, 3) := by decide +kernel
theorem dX6_readOrder_131 : decode cX6_readOrder 131 = .ok (.invokevirtual 221, 3) := by decide +kernel
theorem dX6_readOrder_134 : decode cX6_readOrder 134 = .ok (.goto 69, 3) := by decide +kernel
theorem dX6_readOrder_137 : decode cX6_readOrder 137 = .ok (.iload_n 1, 1) := by decide +kernel
theorem dX6_readOrder_138 : decode cX6_readOrder 138 = .ok (.bipush 116, 2) := by decide +kernel
theorem dX6_readOrder_140 : decode cX6_readOrder 140 = .ok (.if_icmp .eq 15, 3) := by decide +kernel
theorem dX6_readOrder_143 : decode cX6_readOrder 143 = .ok (.iload_n 1, 1) := by decide +kernel
theorem dX6_readOrder_144 : decode cX6_readOrder 144 = .ok (.bipush 109, 2) := by decide +kernel
theorem dX6_readOrder_146 : decode cX6_readOrder 146 = .ok (.if_icmp .eq 9, 3) := by decide +kernel
theorem dX6_readOrder_149 : decode cX6_readOrder 149 = .ok (.iload_n 1, 1) := by decide +kernel
theorem dX6_readOrder_150 : decode cX6_readOrder 150 = .ok (.bipush 115, 2) := by decide +kernel
theorem dX6_readOrder_152 : decode cX6_readOrder 152 = .ok (.if_icmp .ne 46, 3) := by decide +kernel
theorem dX6_readOrder_155 : decode cX6_readOrder 155 = .ok (.aload_n 0, 1) := by decide +kernel
theorem dX6_readOrder_156 : decode cX6_readOrder 156 = .ok (.dup, 1) := by decide +kernel
theorem dX6_readOrder_157 : decode cX6_readOrder 157 = .ok (.getfield 201, 3) := by decide +kernel
theorem dX6_readOrder_160 : decode cX6_readOrder 160 = .ok (.iconst 1, 1) := by decide +kernel
theorem dX6_readOrder_161 : decode cX6_readOrder 161 = .ok (.iadd, 1) := by decide +kernel
theorem dX6_readOrder_162 : decode cX6_readOrder 162 = .ok (.putfield 201, 3) := by decide +kernel
theorem dX6_readOrder_165 : decode cX6_readOrder 165 = .ok (.aload_n 0, 1) := by decide +kernel
theorem dX6_readOrder_166 : decode cX6_readOrder 166 = .ok (.iload_n 1, 1) := by decide +kernel
theorem dX6_readOrder_167 : decode cX6_readOrder 167 = .ok (.bipush 116, 2) := by decide +kernel
theorem dX6_readOrder_169 : decode cX6_readOrder 169 = .ok (.if_icmp .ne 8, 3) := by decide +kernel
theorem dX6_readOrder_172 : decode cX6_readOrder 172 = .ok (.bipush 10, 2) := by decide +kernel
theorem dX6_readOrder_174 : decode cX6_readOrder 174 = .ok (.goto 16, 3) := by decide +kernel
theorem dX6_readOrder_177 : decode cX6_readOrder 177 = .ok (.iload_n 1, 1) := by decide +kernel
theorem dX6_readOrder_178 : decode cX6_readOrder 178 = .ok (.bipush 109, 2) := by decide +kernel
theorem dX6_readOrder_180 : decode cX6_readOrder 180 = .ok (.if_icmp .ne 8, 3) := by decide +kernel
theorem dX6_readOrder_183 : decode cX6_readOrder 183 = .ok (.bipush 11, 2) := by decide +kernel
theorem dX6_readOrder_185 : decode cX6_readOrder 185 = .ok (.goto 5, 3) := by decide +kernel
theorem dX6_readOrder_188 : decode cX6_readOrder 188 = .ok (.bipush 12, 2) := by decide +kernel
theorem dX6_readOrder_190 : decode cX6_readOrder 190 = .ok (.iconst 0, 1) := by decide +kernel
theorem dX6_readOrder_191 : decode cX6_readOrder 191 = .ok (.iconst 0, 1) := by decide +kernel
theorem dX6_readOrder_192 : decode cX6_readOrder 192 = .ok (.invokevirtual 221, 3) := by decide +kernel
theorem dX6_readOrder_195 : decode cX6_readOrder 195 = .ok (.goto 8, 3) := by decide +kernel
theorem dX6_readOrder_198 : decode cX6_readOrder 198 = .ok (.aload_n 0, 1) := by decide +kernel
theorem dX6_readOrder_199 : decode cX6_readOrder 199 = .ok (.iconst 1, 1) := by decide +kernel
theorem dX6_readOrder_200 : decode cX6_readOrder 200 = .ok (.putfield 197, 3) := by decide +kernel
theorem dX6_readOrder_203 : decode cX6_readOrder 203 = .ok (.return_, 1) := by decide +kernel
theorem dX6_does_0 : decode cX6_does 0 = .ok (.aload_n 0, 1) := by decide +kernel
theorem dX6_does_1 : decode cX6_does 1 = .ok (.getfield 42, 3) := by decide +kernel
theorem dX6_does_4 : decode cX6_does 4 = .ok (.iconst 3, 1) := by decide +kernel
theorem dX6_does_5 : decode cX6_does 5 = .ok (.iload_n 1, 1) := by decide +kernel
theorem dX6_does_6 : decode cX6_does 6 = .ok (.imul, 1) := by decide +kernel
theorem dX6_does_7 : decode cX6_does 7 = .ok (.iaload, 1) := by decide +kernel
theorem dX6_does_8 : decode cX6_does 8 = .ok (.istore_n 2, 1) := by decide +kernel
theorem dX6_does_9 : decode cX6_does 9 = .ok (.aload_n 0, 1) := by decide +kernel
theorem dX6_does_10 : decode cX6_does 10 = .ok (.getfield 42, 3) := by decide +kernel
theorem dX6_does_13 : decode cX6_does 13 = .ok (.iconst 3, 1) := by decide +kernel
theorem dX6_does_14 : decode cX6_does 14 = .ok (.iload_n 1, 1) := by decide +kernel
theorem dX6_does_15 : decode cX6_does 15 = .ok (.imul, 1) := by decide +kernel
theorem dX6_does_16 : decode cX6_does 16 = .ok (.iconst 1, 1) := by decide +kernel
theorem dX6_does_17 : decode cX6_does 17 = .ok (.iadd, 1) := by decide +kernel
theorem dX6_does_18 : decode cX6_does 18 = .ok (.iaload, 1) := by decide +kernel
theorem dX6_does_19 : decode cX6_does 19 = .ok (.istore_n 3, 1) := by decide +kernel
theorem dX6_does_20 : decode cX6_does 20 = .ok (.iload_n 2, 1) := by decide +kernel
theorem dX6_does_21 : decode cX6_does 21 = .ok (.bipush 8, 2) := by decide +kernel
theorem dX6_does_23 : decode cX6_does 23 = .ok (.if_icmp .ge 10, 3) := by decide +kernel
theorem dX6_does_26 : decode cX6_does 26 = .ok (.aload_n 0, 1) := by decide +kernel
theorem dX6_does_27 : decode cX6_does 27 = .ok (.iload_n 2, 1) := by decide +kernel
theorem dX6_does_28 : decode cX6_does 28 = .ok (.iload_n 3, 1) := by decide +kernel
theorem dX6_does_29 : decode cX6_does 29 = .ok (.invokevirtual 83, 3) := by decide +kernel
theorem dX6_does_32 : decode cX6_does 32 = .ok (.ireturn, 1) := by decide +kernel
theorem dX6_does_33 : decode cX6_does 33 = .ok (.iload_n 2, 1) := by decide +kernel
theorem dX6_does_34 : decode cX6_does 34 = .ok (.tableswitch 61 8 12 #[34, 40, 61, 61, 56], 34) := by decide +kernel
theorem dX6_does_68 : decode cX6_does 68 = .ok (.aload_n 0, 1) := by decide +kernel
theorem dX6_does_69 : decode cX6_does 69 = .ok (.iload_n 3, 1) := by decide +kernel
theorem dX6_does_70 : decode cX6_does 70 = .ok (.invokevirtual 89, 3) := by decide +kernel
theorem dX6_does_73 : decode cX6_does 73 = .ok (.ireturn, 1) := by decide +kernel
theorem dX6_does_74 : decode cX6_does 74 = .ok (.aload_n 0, 1) := by decide +kernel
theorem dX6_does_75 : decode cX6_does 75 = .ok (.iload_n 3, 1) := by decide +kernel
theorem dX6_does_76 : decode cX6_does 76 = .ok (.aload_n 0, 1) := by decide +kernel
theorem dX6_does_77 : decode cX6_does 77 = .ok (.getfield 42, 3) := by decide +kernel
theorem dX6_does_80 : decode cX6_does 80 = .ok (.iconst 3, 1) := by decide +kernel
theorem dX6_does_81 : decode cX6_does 81 = .ok (.iload_n 1, 1) := by decide +kernel
theorem dX6_does_82 : decode cX6_does 82 = .ok (.imul, 1) := by decide +kernel
theorem dX6_does_83 : decode cX6_does 83 = .ok (.iconst 2, 1) := by decide +kernel
theorem dX6_does_84 : decode cX6_does 84 = .ok (.iadd, 1) := by decide +kernel
theorem dX6_does_85 : decode cX6_does 85 = .ok (.iaload, 1) := by decide +kernel
theorem dX6_does_86 : decode cX6_does 86 = .ok (.invokevirtual 165, 3) := by decide +kernel
theorem dX6_does_89 : decode cX6_does 89 = .ok (.ireturn, 1) := by decide +kernel
theorem dX6_does_90 : decode cX6_does 90 = .ok (.aload_n 0, 1) := by decide +kernel
theorem dX6_does_91 : decode cX6_does 91 = .ok (.invokevirtual 158, 3) := by decide +kernel
theorem dX6_does_94 : decode cX6_does 94 = .ok (.ireturn, 1) := by decide +kernel
theorem dX6_does_95 : decode cX6_does 95 = .ok (.aload_n 0, 1) := by decide +kernel
theorem dX6_does_96 : decode cX6_does 96 = .ok (.iload_n 2, 1) := by decide +kernel
theorem dX6_does_97 : decode cX6_does 97 = .ok (.bipush 11, 2) := by decide +kernel
theorem dX6_does_99 : decode cX6_does 99 = .ok (.if_icmp .ne 7, 3) := by decide +kernel
theorem dX6_does_102 : decode cX6_does 102 = .ok (.iconst 1, 1) := by decide +kernel
theorem dX6_does_103 : decode cX6_does 103 = .ok (.goto 4, 3) := by decide +kernel
theorem dX6_does_106 : decode cX6_does 106 = .ok (.iconst 0, 1) := by decide +kernel
theorem dX6_does_107 : decode cX6_does 107 = .ok (.invokevirtual 168, 3) := by decide +kernel
theorem dX6_does_110 : decode cX6_does 110 = .ok (.ireturn, 1) := by decide +kernel
theorem dX6_read_0 : decode cX6_read 0 = .ok (.aload_n 0, 1) := by decide +kernel
theorem dX6_read_1 : decode cX6_read 1 = .ok (.iconst 0, 1) := by decide +kernel
theorem dX6_read_2 : decode cX6_read 2 = .ok (.putfield 201, 3) := by decide +kernel
theorem dX6_read_5 : decode cX6_read 5 = .ok (.aload_n 0, 1) := by decide +kernel
theorem dX6_read_6 : decode cX6_read 6 = .ok (.iconst 0, 1) := by decide +kernel
theorem dX6_read_7 : decode cX6_read 7 = .ok (.putfield 197, 3) := by decide +kernel
theorem dX6_read_10 : decode cX6_read 10 = .ok (.aload_n 0, 1) := by decide +kernel
theorem dX6_read_11 : decode cX6_read 11 = .ok (.iconst 0, 1) := by decide +kernel
theorem dX6_read_12 : decode cX6_read 12 = .ok (.putfield 212, 3) := by decide +kernel
theorem dX6_read_15 : decode cX6_read 15 = .ok (.aload_n 0, 1) := by decide +kernel
theorem dX6_read_16 : decode cX6_read 16 = .ok (.invokevirtual 225, 3) := by decide +kernel
theorem dX6_read_19 : decode cX6_read 19 = .ok (.aload_n 0, 1) := by decide +kernel
theorem dX6_read_20 : decode cX6_read 20 = .ok (.bipush 59, 2) := by decide +kernel
theorem dX6_read_22 : decode cX6_read 22 = .ok (.bipush 59, 2) := by decide +kernel
theorem dX6_read_24 : decode cX6_read 24 = .ok (.invokevirtual 204, 3) := by decide +kernel
theorem dX6_read_27 : decode cX6_read 27 = .ok (.ifCond .eq 20, 3) := by decide +kernel
theorem dX6_read_30 : decode cX6_read 30 = .ok (.aload_n 0, 1) := by decide +kernel
theorem dX6_read_31 : decode cX6_read 31 = .ok (.dup, 1) := by decide +kernel
theorem dX6_read_32 : decode cX6_read 32 = .ok (.getfield 201, 3) := by decide +kernel
theorem dX6_read_35 : decode cX6_read 35 = .ok (.iconst 1, 1) := by decide +kernel
theorem dX6_read_36 : decode cX6_read 36 = .ok (.iadd, 1) := by decide +kernel
theorem dX6_read_37 : decode cX6_read 37 = .ok (.putfield 201, 3) := by decide +kernel
theorem dX6_read_40 : decode cX6_read 40 = .ok (.aload_n 0, 1) := by decide +kernel
theorem dX6_read_41 : decode cX6_read 41 = .ok (.invokevirtual 225, 3) := by decide +kernel
theorem dX6_read_44 : decode cX6_read 44 = .ok (.goto (-25), 3) := by decide +kernel
theorem dX6_read_47 : decode cX6_read 47 = .ok (.aload_n 0, 1) := by decide +kernel
theorem dX6_read_48 : decode cX6_read 48 = .ok (.getfield 197, 3) := by decide +kernel
theorem dX6_read_51 : decode cX6_read 51 = .ok (.ifCond .ne 14, 3) := by decide +kernel
theorem dX6_read_54 : decode cX6_read 54 = .ok (.aload_n 0, 1) := by decide +kernel
theorem dX6_read_55 : decode cX6_read 55 = .ok (.getfield 201, 3) := by decide +kernel
theorem dX6_read_58 : decode cX6_read 58 = .ok (.aload_n 0, 1) := by decide +kernel
theorem dX6_read_59 : decode cX6_read 59 = .ok (.getfield 194, 3) := by decide +kernel
theorem dX6_read_62 : decode cX6_read 62 = .ok (.if_icmp .ge 7, 3) := by decide +kernel
theorem dX6_read_65 : decode cX6_read 65 = .ok (.iconst 1, 1) := by decide +kernel
theorem dX6_read_66 : decode cX6_read 66 = .ok (.goto 4, 3) := by decide +kernel
theorem dX6_read_69 : decode cX6_read 69 = .ok (.iconst 0, 1) := by decide +kernel
theorem dX6_read_70 : decode cX6_read 70 = .ok (.istore_n 1, 1) := by decide +kernel
theorem dX6_read_71 : decode cX6_read 71 = .ok (.aload_n 0, 1) := by decide +kernel
theorem dX6_read_72 : decode cX6_read 72 = .ok (.iconst 0, 1) := by decide +kernel
theorem dX6_read_73 : decode cX6_read 73 = .ok (.putfield 194, 3) := by decide +kernel
theorem dX6_read_76 : decode cX6_read 76 = .ok (.iload_n 1, 1) := by decide +kernel
theorem dX6_read_77 : decode cX6_read 77 = .ok (.ifCond .eq 11, 3) := by decide +kernel
theorem dX6_read_80 : decode cX6_read 80 = .ok (.bipush (-100), 2) := by decide +kernel
theorem dX6_read_82 : decode cX6_read 82 = .ok (.aload_n 0, 1) := by decide +kernel
theorem dX6_read_83 : decode cX6_read 83 = .ok (.getfield 201, 3) := by decide +kernel
theorem dX6_read_86 : decode cX6_read 86 = .ok (.isub, 1) := by decide +kernel
theorem dX6_read_87 : decode cX6_read 87 = .ok (.ireturn, 1) := by decide +kernel
theorem dX6_read_88 : decode cX6_read 88 = .ok (.aload_n 0, 1) := by decide +kernel
theorem dX6_read_89 : decode cX6_read 89 = .ok (.invokevirtual 80, 3) := by decide +kernel
theorem dX6_read_92 : decode cX6_read 92 = .ok (.iconst 0, 1) := by decide +kernel
theorem dX6_read_93 : decode cX6_read 93 = .ok (.istore_n 2, 1) := by decide +kernel
theorem dX6_read_94 : decode cX6_read 94 = .ok (.iload_n 2, 1) := by decide +kernel
theorem dX6_read_95 : decode cX6_read 95 = .ok (.aload_n 0, 1) := by decide +kernel
theorem dX6_read_96 : decode cX6_read 96 = .ok (.getfield 212, 3) := by decide +kernel
theorem dX6_read_99 : decode cX6_read 99 = .ok (.if_icmp .ge 31, 3) := by decide +kernel
theorem dX6_read_102 : decode cX6_read 102 = .ok (.aload_n 0, 1) := by decide +kernel
theorem dX6_read_103 : decode cX6_read 103 = .ok (.iload_n 2, 1) := by decide +kernel
theorem dX6_read_104 : decode cX6_read 104 = .ok (.invokevirtual 228, 3) := by decide +kernel
theorem dX6_read_107 : decode cX6_read 107 = .ok (.istore_n 3, 1) := by decide +kernel
theorem dX6_read_108 : decode cX6_read 108 = .ok (.iload_n 3, 1) := by decide +kernel
theorem dX6_read_109 : decode cX6_read 109 = .ok (.ifCond .ge 15, 3) := by decide +kernel
theorem dX6_read_112 : decode cX6_read 112 = .ok (.aload_n 0, 1) := by decide +kernel
theorem dX6_read_113 : decode cX6_read 113 = .ok (.iload_n 2, 1) := by decide +kernel
theorem dX6_read_114 : decode cX6_read 114 = .ok (.putfield 22, 3) := by decide +kernel
theorem dX6_read_117 : decode cX6_read 117 = .ok (.aload_n 0, 1) := by decide +kernel
theorem dX6_read_118 : decode cX6_read 118 = .ok (.bipush (-3), 2) := by decide +kernel
theorem dX6_read_120 : decode cX6_read 120 = .ok (.invokevirtual 86, 3) := by decide +kernel
theorem dX6_read_123 : decode cX6_read 123 = .ok (.ireturn, 1) := by decide +kernel
theorem dX6_read_124 : decode cX6_read 124 = .ok (.iinc 2 1, 3) := by decide +kernel
theorem dX6_read_127 : decode cX6_read 127 = .ok (.goto (-33), 3) := by decide +kernel
theorem dX6_read_130 : decode cX6_read 130 = .ok (.aload_n 0, 1) := by decide +kernel
theorem dX6_read_131 : decode cX6_read 131 = .ok (.aload_n 0, 1) := by decide +kernel
theorem dX6_read_132 : decode cX6_read 132 = .ok (.getfield 212, 3) := by decide +kernel
theorem dX6_read_135 : decode cX6_read 135 = .ok (.invokevirtual 86, 3) := by decide +kernel
theorem dX6_read_138 : decode cX6_read 138 = .ok (.ireturn, 1) := by decide +kernel
theorem dX6_attacked_0 : decode cX6_attacked 0 = .ok (.iconst 0, 1) := by decide +kernel
theorem dX6_attacked_1 : decode cX6_attacked 1 = .ok (.istore_n 1, 1) := by decide +kernel
theorem dX6_attacked_2 : decode cX6_attacked 2 = .ok (.iconst 0, 1) := by decide +kernel
theorem dX6_attacked_3 : decode cX6_attacked 3 = .ok (.istore_n 2, 1) := by decide +kernel
theorem dX6_attacked_4 : decode cX6_attacked 4 = .ok (.iload_n 2, 1) := by decide +kernel
theorem dX6_attacked_5 : decode cX6_attacked 5 = .ok (.bipush 25, 2) := by decide +kernel
theorem dX6_attacked_7 : decode cX6_attacked 7 = .ok (.if_icmp .ge 25, 3) := by decide +kernel
theorem dX6_attacked_10 : decode cX6_attacked 10 = .ok (.iload_n 1, 1) := by decide +kernel
theorem dX6_attacked_11 : decode cX6_attacked 11 = .ok (.aload_n 0, 1) := by decide +kernel
theorem dX6_attacked_12 : decode cX6_attacked 12 = .ok (.iload_n 2, 1) := by decide +kernel
theorem dX6_attacked_13 : decode cX6_attacked 13 = .ok (.invokevirtual 120, 3) := by decide +kernel
theorem dX6_attacked_16 : decode cX6_attacked 16 = .ok (.ifCond .le 7, 3) := by decide +kernel
theorem dX6_attacked_19 : decode cX6_attacked 19 = .ok (.iconst 1, 1) := by decide +kernel
theorem dX6_attacked_20 : decode cX6_attacked 20 = .ok (.goto 4, 3) := by decide +kernel
theorem dX6_attacked_23 : decode cX6_attacked 23 = .ok (.iconst 0, 1) := by decide +kernel
theorem dX6_attacked_24 : decode cX6_attacked 24 = .ok (.iadd, 1) := by decide +kernel
theorem dX6_attacked_25 : decode cX6_attacked 25 = .ok (.istore_n 1, 1) := by decide +kernel
theorem dX6_attacked_26 : decode cX6_attacked 26 = .ok (.iinc 2 1, 3) := by decide +kernel
theorem dX6_attacked_29 : decode cX6_attacked 29 = .ok (.goto (-25), 3) := by decide +kernel
theorem dX6_attacked_32 : decode cX6_attacked 32 = .ok (.iload_n 1, 1) := by decide +kernel
theorem dX6_attacked_33 : decode cX6_attacked 33 = .ok (.ireturn, 1) := by decide +kernel
theorem dX6_count_0 : decode cX6_count 0 = .ok (.iconst 0, 1) := by decide +kernel
theorem dX6_count_1 : decode cX6_count 1 = .ok (.istore_n 2, 1) := by decide +kernel
theorem dX6_count_2 : decode cX6_count 2 = .ok (.iconst 0, 1) := by decide +kernel
theorem dX6_count_3 : decode cX6_count 3 = .ok (.istore_n 3, 1) := by decide +kernel
theorem dX6_count_4 : decode cX6_count 4 = .ok (.iload_n 3, 1) := by decide +kernel
theorem dX6_count_5 : decode cX6_count 5 = .ok (.bipush 25, 2) := by decide +kernel
theorem dX6_count_7 : decode cX6_count 7 = .ok (.if_icmp .ge 47, 3) := by decide +kernel
theorem dX6_count_10 : decode cX6_count 10 = .ok (.iload_n 2, 1) := by decide +kernel
theorem dX6_count_11 : decode cX6_count 11 = .ok (.iload_n 1, 1) := by decide +kernel
theorem dX6_count_12 : decode cX6_count 12 = .ok (.ifCond .eq 17, 3) := by decide +kernel
theorem dX6_count_15 : decode cX6_count 15 = .ok (.aload_n 0, 1) := by decide +kernel
theorem dX6_count_16 : decode cX6_count 16 = .ok (.getfield 9, 3) := by decide +kernel
theorem dX6_count_19 : decode cX6_count 19 = .ok (.iload_n 3, 1) := by decide +kernel
theorem dX6_count_20 : decode cX6_count 20 = .ok (.iaload, 1) := by decide +kernel
theorem dX6_count_21 : decode cX6_count 21 = .ok (.bipush 6, 2) := by decide +kernel
theorem dX6_count_23 : decode cX6_count 23 = .ok (.if_icmp .ne 22, 3) := by decide +kernel
theorem dX6_count_26 : decode cX6_count 26 = .ok (.goto 15, 3) := by decide +kernel
theorem dX6_count_29 : decode cX6_count 29 = .ok (.aload_n 0, 1) := by decide +kernel
theorem dX6_count_30 : decode cX6_count 30 = .ok (.getfield 9, 3) := by decide +kernel
theorem dX6_count_33 : decode cX6_count 33 = .ok (.iload_n 3, 1) := by decide +kernel
theorem dX6_count_34 : decode cX6_count 34 = .ok (.iaload, 1) := by decide +kernel
theorem dX6_count_35 : decode cX6_count 35 = .ok (.invokestatic 107, 3) := by decide +kernel
theorem dX6_count_38 : decode cX6_count 38 = .ok (.ifCond .eq 7, 3) := by decide +kernel
theorem dX6_count_41 : decode cX6_count 41 = .ok (.iconst 1, 1) := by decide +kernel
theorem dX6_count_42 : decode cX6_count 42 = .ok (.goto 4, 3) := by decide +kernel
theorem dX6_count_45 : decode cX6_count 45 = .ok (.iconst 0, 1) := by decide +kernel
theorem dX6_count_46 : decode cX6_count 46 = .ok (.iadd, 1) := by decide +kernel
theorem dX6_count_47 : decode cX6_count 47 = .ok (.istore_n 2, 1) := by decide +kernel
theorem dX6_count_48 : decode cX6_count 48 = .ok (.iinc 3 1, 3) := by decide +kernel
theorem dX6_count_51 : decode cX6_count 51 = .ok (.goto (-47), 3) := by decide +kernel
theorem dX6_count_54 : decode cX6_count 54 = .ok (.iload_n 2, 1) := by decide +kernel
theorem dX6_count_55 : decode cX6_count 55 = .ok (.ireturn, 1) := by decide +kernel
theorem dX6_account_0 : decode cX6_account 0 = .ok (.iload_n 1, 1) := by decide +kernel
theorem dX6_account_1 : decode cX6_account 1 = .ok (.tableswitch 135 0 11 #[63, 68, 74, 80, 101, 107, 112, 112, 112, 112, 125, 130], 63) := by decide +kernel
theorem dX6_account_64 : decode cX6_account 64 = .ok (.aload_n 0, 1) := by decide +kernel
theorem dX6_account_65 : decode cX6_account 65 = .ok (.invokevirtual 76, 3) := by decide +kernel
theorem dX6_account_68 : decode cX6_account 68 = .ok (.ireturn, 1) := by decide +kernel
theorem dX6_account_69 : decode cX6_account 69 = .ok (.aload_n 0, 1) := by decide +kernel
theorem dX6_account_70 : decode cX6_account 70 = .ok (.iconst 0, 1) := by decide +kernel
theorem dX6_account_71 : decode cX6_account 71 = .ok (.invokevirtual 231, 3) := by decide +kernel
theorem dX6_account_74 : decode cX6_account 74 = .ok (.ireturn, 1) := by decide +kernel
theorem dX6_account_75 : decode cX6_account 75 = .ok (.aload_n 0, 1) := by decide +kernel
theorem dX6_account_76 : decode cX6_account 76 = .ok (.iconst 1, 1) := by decide +kernel
theorem dX6_account_77 : decode cX6_account 77 = .ok (.invokevirtual 231, 3) := by decide +kernel
theorem dX6_account_80 : decode cX6_account 80 = .ok (.ireturn, 1) := by decide +kernel
theorem dX6_account_81 : decode cX6_account 81 = .ok (.aload_n 0, 1) := by decide +kernel
theorem dX6_account_82 : decode cX6_account 82 = .ok (.bipush 7, 2) := by decide +kernel
theorem dX6_account_84 : decode cX6_account 84 = .ok (.invokevirtual 72, 3) := by decide +kernel
theorem dX6_account_87 : decode cX6_account 87 = .ok (.ifCond .ge 8, 3) := by decide +kernel
theorem dX6_account_90 : decode cX6_account 90 = .ok (.bipush (-4), 2) := by decide +kernel
theorem dX6_account_92 : decode cX6_account 92 = .ok (.goto 9, 3) := by decide +kernel
theorem dX6_account_95 : decode cX6_account 95 = .ok (.aload_n 0, 1) := by decide +kernel
theorem dX6_account_96 : decode cX6_account 96 = .ok (.bipush 7, 2) := by decide +kernel
theorem dX6_account_98 : decode cX6_account 98 = .ok (.invokevirtual 72, 3) := by decide +kernel
theorem dX6_account_101 : decode cX6_account 101 = .ok (.ireturn, 1) := by decide +kernel
theorem dX6_account_102 : decode cX6_account 102 = .ok (.aload_n 0, 1) := by decide +kernel
theorem dX6_account_103 : decode cX6_account 103 = .ok (.iconst (-1), 1) := by decide +kernel
theorem dX6_account_104 : decode cX6_account 104 = .ok (.invokevirtual 152, 3) := by decide +kernel
theorem dX6_account_107 : decode cX6_account 107 = .ok (.ireturn, 1) := by decide +kernel
theorem dX6_account_108 : decode cX6_account 108 = .ok (.aload_n 0, 1) := by decide +kernel
theorem dX6_account_109 : decode cX6_account 109 = .ok (.invokevirtual 234, 3) := by decide +kernel
theorem dX6_account_112 : decode cX6_account 112 = .ok (.ireturn, 1) := by decide +kernel
theorem dX6_account_113 : decode cX6_account 113 = .ok (.aload_n 0, 1) := by decide +kernel
theorem dX6_account_114 : decode cX6_account 114 = .ok (.getfield 9, 3) := by decide +kernel
theorem dX6_account_117 : decode cX6_account 117 = .ok (.bipush 25, 2) := by decide +kernel
theorem dX6_account_119 : decode cX6_account 119 = .ok (.iload_n 1, 1) := by decide +kernel
theorem dX6_account_120 : decode cX6_account 120 = .ok (.iadd, 1) := by decide +kernel
theorem dX6_account_121 : decode cX6_account 121 = .ok (.bipush 6, 2) := by decide +kernel
theorem dX6_account_123 : decode cX6_account 123 = .ok (.isub, 1) := by decide +kernel
theorem dX6_account_124 : decode cX6_account 124 = .ok (.iaload, 1) := by decide +kernel
theorem dX6_account_125 : decode cX6_account 125 = .ok (.ireturn, 1) := by decide +kernel
theorem dX6_account_126 : decode cX6_account 126 = .ok (.aload_n 0, 1) := by decide +kernel
theorem dX6_account_127 : decode cX6_account 127 = .ok (.getfield 194, 3) := by decide +kernel
theorem dX6_account_130 : decode cX6_account 130 = .ok (.ireturn, 1) := by decide +kernel
theorem dX6_account_131 : decode cX6_account 131 = .ok (.aload_n 0, 1) := by decide +kernel
theorem dX6_account_132 : decode cX6_account 132 = .ok (.getfield 51, 3) := by decide +kernel
theorem dX6_account_135 : decode cX6_account 135 = .ok (.ireturn, 1) := by decide +kernel
theorem dX6_account_136 : decode cX6_account 136 = .ok (.bipush (-2), 2) := by decide +kernel
theorem dX6_account_138 : decode cX6_account 138 = .ok (.ireturn, 1) := by decide +kernel
theorem dX6_isWell_0 : decode cX6_isWell 0 = .ok (.iconst 1, 1) := by decide +kernel
theorem dX6_isWell_1 : decode cX6_isWell 1 = .ok (.ireturn, 1) := by decide +kernel
theorem dX6_share_0 : decode cX6_share 0 = .ok (.aload_n 0, 1) := by decide +kernel
theorem dX6_share_1 : decode cX6_share 1 = .ok (.invokevirtual 234, 3) := by decide +kernel
theorem dX6_share_4 : decode cX6_share 4 = .ok (.i2f, 1) := by decide +kernel
theorem dX6_share_5 : decode cX6_share 5 = .ok (.ldc 237, 2) := by decide +kernel
theorem dX6_share_7 : decode cX6_share 7 = .ok (.fdiv, 1) := by decide +kernel
theorem dX6_share_8 : decode cX6_share 8 = .ok (.invokestatic 238, 3) := by decide +kernel
theorem dX6_share_11 : decode cX6_share 11 = .ok (.ireturn, 1) := by decide +kernel
theorem dX6_undo_0 : decode cX6_undo 0 = .ok (.aload_n 0, 1) := by decide +kernel
theorem dX6_undo_1 : decode cX6_undo 1 = .ok (.getfield 51, 3) := by decide +kernel
theorem dX6_undo_4 : decode cX6_undo 4 = .ok (.ifCond .ne 6, 3) := by decide +kernel
theorem dX6_undo_7 : decode cX6_undo 7 = .ok (.bipush (-4), 2) := by decide +kernel
theorem dX6_undo_9 : decode cX6_undo 9 = .ok (.ireturn, 1) := by decide +kernel
theorem dX6_undo_10 : decode cX6_undo 10 = .ok (.aload_n 0, 1) := by decide +kernel
theorem dX6_undo_11 : decode cX6_undo 11 = .ok (.dup, 1) := by decide +kernel
theorem dX6_undo_12 : decode cX6_undo 12 = .ok (.getfield 51, 3) := by decide +kernel
theorem dX6_undo_15 : decode cX6_undo 15 = .ok (.iconst 1, 1) := by decide +kernel
theorem dX6_undo_16 : decode cX6_undo 16 = .ok (.isub, 1) := by decide +kernel
theorem dX6_undo_17 : decode cX6_undo 17 = .ok (.putfield 51, 3) := by decide +kernel
theorem dX6_undo_20 : decode cX6_undo 20 = .ok (.aload_n 0, 1) := by decide +kernel
theorem dX6_undo_21 : decode cX6_undo 21 = .ok (.getfield 19, 3) := by decide +kernel
theorem dX6_undo_24 : decode cX6_undo 24 = .ok (.bipush 29, 2) := by decide +kernel
theorem dX6_undo_26 : decode cX6_undo 26 = .ok (.aload_n 0, 1) := by decide +kernel
theorem dX6_undo_27 : decode cX6_undo 27 = .ok (.getfield 51, 3) := by decide +kernel
theorem dX6_undo_30 : decode cX6_undo 30 = .ok (.imul, 1) := by decide +kernel
theorem dX6_undo_31 : decode cX6_undo 31 = .ok (.aload_n 0, 1) := by decide +kernel
theorem dX6_undo_32 : decode cX6_undo 32 = .ok (.getfield 9, 3) := by decide +kernel
theorem dX6_undo_35 : decode cX6_undo 35 = .ok (.iconst 0, 1) := by decide +kernel
theorem dX6_undo_36 : decode cX6_undo 36 = .ok (.bipush 29, 2) := by decide +kernel
theorem dX6_undo_38 : decode cX6_undo 38 = .ok (.invokestatic 45, 3) := by decide +kernel
theorem dX6_undo_41 : decode cX6_undo 41 = .ok (.aload_n 0, 1) := by decide +kernel
theorem dX6_undo_42 : decode cX6_undo 42 = .ok (.getfield 51, 3) := by decide +kernel
theorem dX6_undo_45 : decode cX6_undo 45 = .ok (.ireturn, 1) := by decide +kernel
theorem dX6_save_0 : decode cX6_save 0 = .ok (.aload_n 0, 1) := by decide +kernel
theorem dX6_save_1 : decode cX6_save 1 = .ok (.getfield 9, 3) := by decide +kernel
theorem dX6_save_4 : decode cX6_save 4 = .ok (.iconst 0, 1) := by decide +kernel
theorem dX6_save_5 : decode cX6_save 5 = .ok (.aload_n 0, 1) := by decide +kernel
theorem dX6_save_6 : decode cX6_save 6 = .ok (.getfield 16, 3) := by decide +kernel
theorem dX6_save_9 : decode cX6_save 9 = .ok (.iconst 0, 1) := by decide +kernel
theorem dX6_save_10 : decode cX6_save 10 = .ok (.bipush 29, 2) := by decide +kernel
theorem dX6_save_12 : decode cX6_save 12 = .ok (.invokestatic 45, 3) := by decide +kernel
theorem dX6_save_15 : decode cX6_save 15 = .ok (.aload_n 0, 1) := by decide +kernel
theorem dX6_save_16 : decode cX6_save 16 = .ok (.iconst 1, 1) := by decide +kernel
theorem dX6_save_17 : decode cX6_save 17 = .ok (.putfield 244, 3) := by decide +kernel
theorem dX6_save_20 : decode cX6_save 20 = .ok (.aload_n 0, 1) := by decide +kernel
theorem dX6_save_21 : decode cX6_save 21 = .ok (.invokevirtual 76, 3) := by decide +kernel
theorem dX6_save_24 : decode cX6_save 24 = .ok (.ireturn, 1) := by decide +kernel
theorem dX6_restore_0 : decode cX6_restore 0 = .ok (.aload_n 0, 1) := by decide +kernel
theorem dX6_restore_1 : decode cX6_restore 1 = .ok (.getfield 244, 3) := by decide +kernel
theorem dX6_restore_4 : decode cX6_restore 4 = .ok (.ifCond .ne 6, 3) := by decide +kernel
theorem dX6_restore_7 : decode cX6_restore 7 = .ok (.bipush (-4), 2) := by decide +kernel
theorem dX6_restore_9 : decode cX6_restore 9 = .ok (.ireturn, 1) := by decide +kernel
theorem dX6_restore_10 : decode cX6_restore 10 = .ok (.aload_n 0, 1) := by decide +kernel
theorem dX6_restore_11 : decode cX6_restore 11 = .ok (.getfield 16, 3) := by decide +kernel
theorem dX6_restore_14 : decode cX6_restore 14 = .ok (.iconst 0, 1) := by decide +kernel
theorem dX6_restore_15 : decode cX6_restore 15 = .ok (.aload_n 0, 1) := by decide +kernel
theorem dX6_restore_16 : decode cX6_restore 16 = .ok (.getfield 9, 3) := by decide +kernel
theorem dX6_restore_19 : decode cX6_restore 19 = .ok (.iconst 0, 1) := by decide +kernel
theorem dX6_restore_20 : decode cX6_restore 20 = .ok (.bipush 29, 2) := by decide +kernel
theorem dX6_restore_22 : decode cX6_restore 22 = .ok (.invokestatic 45, 3) := by decide +kernel
theorem dX6_restore_25 : decode cX6_restore 25 = .ok (.aload_n 0, 1) := by decide +kernel
theorem dX6_restore_26 : decode cX6_restore 26 = .ok (.iconst 0, 1) := by decide +kernel
theorem dX6_restore_27 : decode cX6_restore 27 = .ok (.putfield 51, 3) := by decide +kernel
theorem dX6_restore_30 : decode cX6_restore 30 = .ok (.aload_n 0, 1) := by decide +kernel
theorem dX6_restore_31 : decode cX6_restore 31 = .ok (.invokevirtual 76, 3) := by decide +kernel
theorem dX6_restore_34 : decode cX6_restore 34 = .ok (.ireturn, 1) := by decide +kernel
end
section
theorem dJ11_isValidCodePoint_9a6ad_0 : decode cJ11_isValidCodePoint_9a6ad 0 = .ok (.iload_n 0, 1) := by decide +kernel
theorem dJ11_isValidCodePoint_9a6ad_1 : decode cJ11_isValidCodePoint_9a6ad 1 = .ok (.bipush 16, 2) := by decide +kernel
theorem dJ11_isValidCodePoint_9a6ad_3 : decode cJ11_isValidCodePoint_9a6ad 3 = .ok (.iushr, 1) := by decide +kernel
theorem dJ11_isValidCodePoint_9a6ad_4 : decode cJ11_isValidCodePoint_9a6ad 4 = .ok (.istore_n 1, 1) := by decide +kernel
theorem dJ11_isValidCodePoint_9a6ad_5 : decode cJ11_isValidCodePoint_9a6ad 5 = .ok (.iload_n 1, 1) := by decide +kernel
theorem dJ11_isValidCodePoint_9a6ad_6 : decode cJ11_isValidCodePoint_9a6ad 6 = .ok (.bipush 17, 2) := by decide +kernel
theorem dJ11_isValidCodePoint_9a6ad_8 : decode cJ11_isValidCodePoint_9a6ad 8 = .ok (.if_icmp .ge 7, 3) := by decide +kernel
theorem dJ11_isValidCodePoint_9a6ad_11 : decode cJ11_isValidCodePoint_9a6ad 11 = .ok (.iconst 1, 1) := by decide +kernel
theorem dJ11_isValidCodePoint_9a6ad_12 : decode cJ11_isValidCodePoint_9a6ad 12 = .ok (.goto 4, 3) := by decide +kernel
theorem dJ11_isValidCodePoint_9a6ad_15 : decode cJ11_isValidCodePoint_9a6ad 15 = .ok (.iconst 0, 1) := by decide +kernel
theorem dJ11_isValidCodePoint_9a6ad_16 : decode cJ11_isValidCodePoint_9a6ad 16 = .ok (.ireturn, 1) := by decide +kernel
theorem dJ11_highSurrogate_5068e_0 : decode cJ11_highSurrogate_5068e 0 = .ok (.iload_n 0, 1) := by decide +kernel
theorem dJ11_highSurrogate_5068e_1 : decode cJ11_highSurrogate_5068e 1 = .ok (.bipush 10, 2) := by decide +kernel
theorem dJ11_highSurrogate_5068e_3 : decode cJ11_highSurrogate_5068e 3 = .ok (.iushr, 1) := by decide +kernel
theorem dJ11_highSurrogate_5068e_4 : decode cJ11_highSurrogate_5068e 4 = .ok (.ldc 110, 2) := by decide +kernel
theorem dJ11_highSurrogate_5068e_6 : decode cJ11_highSurrogate_5068e 6 = .ok (.iadd, 1) := by decide +kernel
theorem dJ11_highSurrogate_5068e_7 : decode cJ11_highSurrogate_5068e 7 = .ok (.i2c, 1) := by decide +kernel
theorem dJ11_highSurrogate_5068e_8 : decode cJ11_highSurrogate_5068e 8 = .ok (.ireturn, 1) := by decide +kernel
theorem dJ11_lowSurrogate_5068e_0 : decode cJ11_lowSurrogate_5068e 0 = .ok (.iload_n 0, 1) := by decide +kernel
theorem dJ11_lowSurrogate_5068e_1 : decode cJ11_lowSurrogate_5068e 1 = .ok (.sipush 1023, 3) := by decide +kernel
theorem dJ11_lowSurrogate_5068e_4 : decode cJ11_lowSurrogate_5068e 4 = .ok (.iand, 1) := by decide +kernel
theorem dJ11_lowSurrogate_5068e_5 : decode cJ11_lowSurrogate_5068e 5 = .ok (.ldc 76, 2) := by decide +kernel
theorem dJ11_lowSurrogate_5068e_7 : decode cJ11_lowSurrogate_5068e 7 = .ok (.iadd, 1) := by decide +kernel
theorem dJ11_lowSurrogate_5068e_8 : decode cJ11_lowSurrogate_5068e 8 = .ok (.i2c, 1) := by decide +kernel
theorem dJ11_lowSurrogate_5068e_9 : decode cJ11_lowSurrogate_5068e 9 = .ok (.ireturn, 1) := by decide +kernel
theorem dJxf58ca_isNaN_12338_0 : decode cJxf58ca_isNaN_12338 0 = .ok (.fload_n 0, 1) := by decide +kernel
theorem dJxf58ca_isNaN_12338_1 : decode cJxf58ca_isNaN_12338 1 = .ok (.fload_n 0, 1) := by decide +kernel
theorem dJxf58ca_isNaN_12338_2 : decode cJxf58ca_isNaN_12338 2 = .ok (.fcmp .l, 1) := by decide +kernel
theorem dJxf58ca_isNaN_12338_3 : decode cJxf58ca_isNaN_12338 3 = .ok (.ifCond .eq 7, 3) := by decide +kernel
theorem dJxf58ca_isNaN_12338_6 : decode cJxf58ca_isNaN_12338 6 = .ok (.iconst 1, 1) := by decide +kernel
theorem dJxf58ca_isNaN_12338_7 : decode cJxf58ca_isNaN_12338 7 = .ok (.goto 4, 3) := by decide +kernel
theorem dJxf58ca_isNaN_12338_10 : decode cJxf58ca_isNaN_12338 10 = .ok (.iconst 0, 1) := by decide +kernel
theorem dJxf58ca_isNaN_12338_11 : decode cJxf58ca_isNaN_12338 11 = .ok (.ireturn, 1) := by decide +kernel
theorem dJxf58ca_floatToIntBits_5c35a_0 : decode cJxf58ca_floatToIntBits_5c35a 0 = .ok (.fload_n 0, 1) := by decide +kernel
theorem dJxf58ca_floatToIntBits_5c35a_1 : decode cJxf58ca_floatToIntBits_5c35a 1 = .ok (.invokestatic 59, 3) := by decide +kernel
theorem dJxf58ca_floatToIntBits_5c35a_4 : decode cJxf58ca_floatToIntBits_5c35a 4 = .ok (.ifCond .ne 8, 3) := by decide +kernel
theorem dJxf58ca_floatToIntBits_5c35a_7 : decode cJxf58ca_floatToIntBits_5c35a 7 = .ok (.fload_n 0, 1) := by decide +kernel
theorem dJxf58ca_floatToIntBits_5c35a_8 : decode cJxf58ca_floatToIntBits_5c35a 8 = .ok (.invokestatic 74, 3) := by decide +kernel
theorem dJxf58ca_floatToIntBits_5c35a_11 : decode cJxf58ca_floatToIntBits_5c35a 11 = .ok (.ireturn, 1) := by decide +kernel
theorem dJxf58ca_floatToIntBits_5c35a_12 : decode cJxf58ca_floatToIntBits_5c35a 12 = .ok (.ldc 77, 2) := by decide +kernel
theorem dJxf58ca_floatToIntBits_5c35a_14 : decode cJxf58ca_floatToIntBits_5c35a 14 = .ok (.ireturn, 1) := by decide +kernel
theorem dJ9_abs_0f7a4_0 : decode cJ9_abs_0f7a4 0 = .ok (.iload_n 0, 1) := by decide +kernel
theorem dJ9_abs_0f7a4_1 : decode cJ9_abs_0f7a4 1 = .ok (.ifCond .ge 8, 3) := by decide +kernel
theorem dJ9_abs_0f7a4_4 : decode cJ9_abs_0f7a4 4 = .ok (.iload_n 0, 1) := by decide +kernel
theorem dJ9_abs_0f7a4_5 : decode cJ9_abs_0f7a4 5 = .ok (.ineg, 1) := by decide +kernel
theorem dJ9_abs_0f7a4_6 : decode cJ9_abs_0f7a4 6 = .ok (.goto 4, 3) := by decide +kernel
theorem dJ9_abs_0f7a4_9 : decode cJ9_abs_0f7a4 9 = .ok (.iload_n 0, 1) := by decide +kernel
theorem dJ9_abs_0f7a4_10 : decode cJ9_abs_0f7a4 10 = .ok (.ireturn, 1) := by decide +kernel
theorem dJ9_max_7cf53_0 : decode cJ9_max_7cf53 0 = .ok (.iload_n 0, 1) := by decide +kernel
theorem dJ9_max_7cf53_1 : decode cJ9_max_7cf53 1 = .ok (.iload_n 1, 1) := by decide +kernel
theorem dJ9_max_7cf53_2 : decode cJ9_max_7cf53 2 = .ok (.if_icmp .lt 7, 3) := by decide +kernel
theorem dJ9_max_7cf53_5 : decode cJ9_max_7cf53 5 = .ok (.iload_n 0, 1) := by decide +kernel
theorem dJ9_max_7cf53_6 : decode cJ9_max_7cf53 6 = .ok (.goto 4, 3) := by decide +kernel
theorem dJ9_max_7cf53_9 : decode cJ9_max_7cf53 9 = .ok (.iload_n 1, 1) := by decide +kernel
theorem dJ9_max_7cf53_10 : decode cJ9_max_7cf53 10 = .ok (.ireturn, 1) := by decide +kernel
theorem dJ9_min_7cf53_0 : decode cJ9_min_7cf53 0 = .ok (.iload_n 0, 1) := by decide +kernel
theorem dJ9_min_7cf53_1 : decode cJ9_min_7cf53 1 = .ok (.iload_n 1, 1) := by decide +kernel
theorem dJ9_min_7cf53_2 : decode cJ9_min_7cf53 2 = .ok (.if_icmp .gt 7, 3) := by decide +kernel
theorem dJ9_min_7cf53_5 : decode cJ9_min_7cf53 5 = .ok (.iload_n 0, 1) := by decide +kernel
theorem dJ9_min_7cf53_6 : decode cJ9_min_7cf53 6 = .ok (.goto 4, 3) := by decide +kernel
theorem dJ9_min_7cf53_9 : decode cJ9_min_7cf53 9 = .ok (.iload_n 1, 1) := by decide +kernel
theorem dJ9_min_7cf53_10 : decode cJ9_min_7cf53 10 = .ok (.ireturn, 1) := by decide +kernel
theorem dJ0_length_8abf5_0 : decode cJ0_length_8abf5 0 = .ok (.aload_n 0, 1) := by decide +kernel
theorem dJ0_length_8abf5_1 : decode cJ0_length_8abf5 1 = .ok (.getfield 9, 3) := by decide +kernel
theorem dJ0_length_8abf5_4 : decode cJ0_length_8abf5 4 = .ok (.arraylength, 1) := by decide +kernel
theorem dJ0_length_8abf5_5 : decode cJ0_length_8abf5 5 = .ok (.aload_n 0, 1) := by decide +kernel
theorem dJ0_length_8abf5_6 : decode cJ0_length_8abf5 6 = .ok (.invokevirtual 335, 3) := by decide +kernel
theorem dJ0_length_8abf5_9 : decode cJ0_length_8abf5 9 = .ok (.ishr, 1) := by decide +kernel
theorem dJ0_length_8abf5_10 : decode cJ0_length_8abf5 10 = .ok (.ireturn, 1) := by decide +kernel
theorem dJ0_charAt_5068e_0 : decode cJ0_charAt_5068e 0 = .ok (.aload_n 0, 1) := by decide +kernel
theorem dJ0_charAt_5068e_1 : decode cJ0_charAt_5068e 1 = .ok (.invokevirtual 492, 3) := by decide +kernel
theorem dJ0_charAt_5068e_4 : decode cJ0_charAt_5068e 4 = .ok (.ifCond .eq 12, 3) := by decide +kernel
theorem dJ0_charAt_5068e_7 : decode cJ0_charAt_5068e 7 = .ok (.aload_n 0, 1) := by decide +kernel
theorem dJ0_charAt_5068e_8 : decode cJ0_charAt_5068e 8 = .ok (.getfield 9, 3) := by decide +kernel
theorem dJ0_charAt_5068e_11 : decode cJ0_charAt_5068e 11 = .ok (.iload_n 1, 1) := by decide +kernel
theorem dJ0_charAt_5068e_12 : decode cJ0_charAt_5068e 12 = .ok (.invokestatic 495, 3) := by decide +kernel
theorem dJ0_charAt_5068e_15 : decode cJ0_charAt_5068e 15 = .ok (.ireturn, 1) := by decide +kernel
theorem dJ0_charAt_5068e_16 : decode cJ0_charAt_5068e 16 = .ok (.aload_n 0, 1) := by decide +kernel
theorem dJ0_charAt_5068e_17 : decode cJ0_charAt_5068e 17 = .ok (.getfield 9, 3) := by decide +kernel
theorem dJ0_charAt_5068e_20 : decode cJ0_charAt_5068e 20 = .ok (.iload_n 1, 1) := by decide +kernel
theorem dJ0_charAt_5068e_21 : decode cJ0_charAt_5068e 21 = .ok (.invokestatic 498, 3) := by decide +kernel
theorem dJ0_charAt_5068e_24 : decode cJ0_charAt_5068e 24 = .ok (.ireturn, 1) := by decide +kernel
theorem dJ0_indexOf_0f7a4_0 : decode cJ0_indexOf_0f7a4 0 = .ok (.aload_n 0, 1) := by decide +kernel
theorem dJ0_indexOf_0f7a4_1 : decode cJ0_indexOf_0f7a4 1 = .ok (.iload_n 1, 1) := by decide +kernel
theorem dJ0_indexOf_0f7a4_2 : decode cJ0_indexOf_0f7a4 2 = .ok (.iconst 0, 1) := by decide +kernel
theorem dJ0_indexOf_0f7a4_3 : decode cJ0_indexOf_0f7a4 3 = .ok (.invokevirtual 633, 3) := by decide +kernel
theorem dJ0_indexOf_0f7a4_6 : decode cJ0_indexOf_0f7a4 6 = .ok (.ireturn, 1) := by decide +kernel
theorem dJ0_indexOf_7cf53_0 : decode cJ0_indexOf_7cf53 0 = .ok (.aload_n 0, 1) := by decide +kernel
theorem dJ0_indexOf_7cf53_1 : decode cJ0_indexOf_7cf53 1 = .ok (.invokevirtual 492, 3) := by decide +kernel
theorem dJ0_indexOf_7cf53_4 : decode cJ0_indexOf_7cf53 4 = .ok (.ifCond .eq 19, 3) := by decide +kernel
theorem dJ0_indexOf_7cf53_7 : decode cJ0_indexOf_7cf53 7 = .ok (.aload_n 0, 1) := by decide +kernel
theorem dJ0_indexOf_7cf53_8 : decode cJ0_indexOf_7cf53 8 = .ok (.getfield 9, 3) := by decide +kernel
theorem dJ0_indexOf_7cf53_11 : decode cJ0_indexOf_7cf53 11 = .ok (.iload_n 1, 1) := by decide +kernel
theorem dJ0_indexOf_7cf53_12 : decode cJ0_indexOf_7cf53 12 = .ok (.iload_n 2, 1) := by decide +kernel
theorem dJ0_indexOf_7cf53_13 : decode cJ0_indexOf_7cf53 13 = .ok (.aload_n 0, 1) := by decide +kernel
theorem dJ0_indexOf_7cf53_14 : decode cJ0_indexOf_7cf53 14 = .ok (.invokevirtual 505, 3) := by decide +kernel
theorem dJ0_indexOf_7cf53_17 : decode cJ0_indexOf_7cf53 17 = .ok (.invokestatic 637, 3) := by decide +kernel
theorem dJ0_indexOf_7cf53_20 : decode cJ0_indexOf_7cf53 20 = .ok (.goto 16, 3) := by decide +kernel
theorem dJ0_indexOf_7cf53_23 : decode cJ0_indexOf_7cf53 23 = .ok (.aload_n 0, 1) := by decide +kernel
theorem dJ0_indexOf_7cf53_24 : decode cJ0_indexOf_7cf53 24 = .ok (.getfield 9, 3) := by decide +kernel
theorem dJ0_indexOf_7cf53_27 : decode cJ0_indexOf_7cf53 27 = .ok (.iload_n 1, 1) := by decide +kernel
theorem dJ0_indexOf_7cf53_28 : decode cJ0_indexOf_7cf53 28 = .ok (.iload_n 2, 1) := by decide +kernel
theorem dJ0_indexOf_7cf53_29 : decode cJ0_indexOf_7cf53 29 = .ok (.aload_n 0, 1) := by decide +kernel
theorem dJ0_indexOf_7cf53_30 : decode cJ0_indexOf_7cf53 30 = .ok (.invokevirtual 505, 3) := by decide +kernel
theorem dJ0_indexOf_7cf53_33 : decode cJ0_indexOf_7cf53 33 = .ok (.invokestatic 640, 3) := by decide +kernel
theorem dJ0_indexOf_7cf53_36 : decode cJ0_indexOf_7cf53 36 = .ok (.ireturn, 1) := by decide +kernel
theorem dJ0_coder_7d493_0 : decode cJ0_coder_7d493 0 = .ok (.getstatic 38, 3) := by decide +kernel
theorem dJ0_coder_7d493_3 : decode cJ0_coder_7d493 3 = .ok (.ifCond .eq 10, 3) := by decide +kernel
theorem dJ0_coder_7d493_6 : decode cJ0_coder_7d493 6 = .ok (.aload_n 0, 1) := by decide +kernel
theorem dJ0_coder_7d493_7 : decode cJ0_coder_7d493 7 = .ok (.getfield 15, 3) := by decide +kernel
theorem dJ0_coder_7d493_10 : decode cJ0_coder_7d493 10 = .ok (.goto 4, 3) := by decide +kernel
theorem dJ0_coder_7d493_13 : decode cJ0_coder_7d493 13 = .ok (.iconst 1, 1) := by decide +kernel
theorem dJ0_coder_7d493_14 : decode cJ0_coder_7d493 14 = .ok (.ireturn, 1) := by decide +kernel
theorem dJ0_isLatin1_aae02_0 : decode cJ0_isLatin1_aae02 0 = .ok (.getstatic 38, 3) := by decide +kernel
theorem dJ0_isLatin1_aae02_3 : decode cJ0_isLatin1_aae02 3 = .ok (.ifCond .eq 14, 3) := by decide +kernel
theorem dJ0_isLatin1_aae02_6 : decode cJ0_isLatin1_aae02 6 = .ok (.aload_n 0, 1) := by decide +kernel
theorem dJ0_isLatin1_aae02_7 : decode cJ0_isLatin1_aae02 7 = .ok (.getfield 15, 3) := by decide +kernel
theorem dJ0_isLatin1_aae02_10 : decode cJ0_isLatin1_aae02 10 = .ok (.ifCond .ne 7, 3) := by decide +kernel
theorem dJ0_isLatin1_aae02_13 : decode cJ0_isLatin1_aae02 13 = .ok (.iconst 1, 1) := by decide +kernel
theorem dJ0_isLatin1_aae02_14 : decode cJ0_isLatin1_aae02 14 = .ok (.goto 4, 3) := by decide +kernel
theorem dJ0_isLatin1_aae02_17 : decode cJ0_isLatin1_aae02 17 = .ok (.iconst 0, 1) := by decide +kernel
theorem dJ0_isLatin1_aae02_18 : decode cJ0_isLatin1_aae02 18 = .ok (.ireturn, 1) := by decide +kernel
theorem dJ0_checkIndex_df160_0 : decode cJ0_checkIndex_df160 0 = .ok (.iload_n 0, 1) := by decide +kernel
theorem dJ0_checkIndex_df160_1 : decode cJ0_checkIndex_df160 1 = .ok (.iload_n 1, 1) := by decide +kernel
theorem dJ0_checkIndex_df160_2 : decode cJ0_checkIndex_df160 2 = .ok (.getstatic 1053, 3) := by decide +kernel
theorem dJ0_checkIndex_df160_5 : decode cJ0_checkIndex_df160 5 = .ok (.invokestatic 1059, 3) := by decide +kernel
theorem dJ0_checkIndex_df160_8 : decode cJ0_checkIndex_df160 8 = .ok (.pop, 1) := by decide +kernel
theorem dJ0_checkIndex_df160_9 : decode cJ0_checkIndex_df160 9 = .ok (.return_, 1) := by decide +kernel
theorem dJ0_checkBoundsBeginEnd_23922_0 : decode cJ0_checkBoundsBeginEnd_23922 0 = .ok (.iload_n 0, 1) := by decide +kernel
theorem dJ0_checkBoundsBeginEnd_23922_1 : decode cJ0_checkBoundsBeginEnd_23922 1 = .ok (.iload_n 1, 1) := by decide +kernel
theorem dJ0_checkBoundsBeginEnd_23922_2 : decode cJ0_checkBoundsBeginEnd_23922 2 = .ok (.iload_n 2, 1) := by decide +kernel
theorem dJ0_checkBoundsBeginEnd_23922_3 : decode cJ0_checkBoundsBeginEnd_23922 3 = .ok (.getstatic 1053, 3) := by decide +kernel
theorem dJ0_checkBoundsBeginEnd_23922_6 : decode cJ0_checkBoundsBeginEnd_23922 6 = .ok (.invokestatic 1062, 3) := by decide +kernel
theorem dJ0_checkBoundsBeginEnd_23922_9 : decode cJ0_checkBoundsBeginEnd_23922 9 = .ok (.pop, 1) := by decide +kernel
theorem dJ0_checkBoundsBeginEnd_23922_10 : decode cJ0_checkBoundsBeginEnd_23922 10 = .ok (.return_, 1) := by decide +kernel
theorem dJ1_charAt_3b067_0 : decode cJ1_charAt_3b067 0 = .ok (.iload_n 1, 1) := by decide +kernel
theorem dJ1_charAt_3b067_1 : decode cJ1_charAt_3b067 1 = .ok (.aload_n 0, 1) := by decide +kernel
theorem dJ1_charAt_3b067_2 : decode cJ1_charAt_3b067 2 = .ok (.arraylength, 1) := by decide +kernel
theorem dJ1_charAt_3b067_3 : decode cJ1_charAt_3b067 3 = .ok (.invokestatic 9, 3) := by decide +kernel
theorem dJ1_charAt_3b067_6 : decode cJ1_charAt_3b067 6 = .ok (.aload_n 0, 1) := by decide +kernel
theorem dJ1_charAt_3b067_7 : decode cJ1_charAt_3b067 7 = .ok (.iload_n 1, 1) := by decide +kernel
theorem dJ1_charAt_3b067_8 : decode cJ1_charAt_3b067 8 = .ok (.baload, 1) := by decide +kernel
theorem dJ1_charAt_3b067_9 : decode cJ1_charAt_3b067 9 = .ok (.sipush 255, 3) := by decide +kernel
theorem dJ1_charAt_3b067_12 : decode cJ1_charAt_3b067 12 = .ok (.iand, 1) := by decide +kernel
theorem dJ1_charAt_3b067_13 : decode cJ1_charAt_3b067 13 = .ok (.i2c, 1) := by decide +kernel
theorem dJ1_charAt_3b067_14 : decode cJ1_charAt_3b067 14 = .ok (.ireturn, 1) := by decide +kernel
theorem dJ1_canEncode_9a6ad_0 : decode cJ1_canEncode_9a6ad 0 = .ok (.iload_n 0, 1) := by decide +kernel
theorem dJ1_canEncode_9a6ad_1 : decode cJ1_canEncode_9a6ad 1 = .ok (.ifCond .lt 14, 3) := by decide +kernel
theorem dJ1_canEncode_9a6ad_4 : decode cJ1_canEncode_9a6ad 4 = .ok (.iload_n 0, 1) := by decide +kernel
theorem dJ1_canEncode_9a6ad_5 : decode cJ1_canEncode_9a6ad 5 = .ok (.sipush 255, 3) := by decide +kernel
theorem dJ1_canEncode_9a6ad_8 : decode cJ1_canEncode_9a6ad 8 = .ok (.if_icmp .gt 7, 3) := by decide +kernel
theorem dJ1_canEncode_9a6ad_11 : decode cJ1_canEncode_9a6ad 11 = .ok (.iconst 1, 1) := by decide +kernel
theorem dJ1_canEncode_9a6ad_12 : decode cJ1_canEncode_9a6ad 12 = .ok (.goto 4, 3) := by decide +kernel
theorem dJ1_canEncode_9a6ad_15 : decode cJ1_canEncode_9a6ad 15 = .ok (.iconst 0, 1) := by decide +kernel
theorem dJ1_canEncode_9a6ad_16 : decode cJ1_canEncode_9a6ad 16 = .ok (.ireturn, 1) := by decide +kernel
theorem dJ1_indexOf_4cfef_0 : decode cJ1_indexOf_4cfef 0 = .ok (.iload_n 1, 1) := by decide +kernel
theorem dJ1_indexOf_4cfef_1 : decode cJ1_indexOf_4cfef 1 = .ok (.invokestatic 88, 3) := by decide +kernel
theorem dJ1_indexOf_4cfef_4 : decode cJ1_indexOf_4cfef 4 = .ok (.ifCond .ne 5, 3) := by decide +kernel
theorem dJ1_indexOf_4cfef_7 : decode cJ1_indexOf_4cfef 7 = .ok (.iconst (-1), 1) := by decide +kernel
theorem dJ1_indexOf_4cfef_8 : decode cJ1_indexOf_4cfef 8 = .ok (.ireturn, 1) := by decide +kernel
theorem dJ1_indexOf_4cfef_9 : decode cJ1_indexOf_4cfef 9 = .ok (.iload_n 2, 1) := by decide +kernel
theorem dJ1_indexOf_4cfef_10 : decode cJ1_indexOf_4cfef 10 = .ok (.iconst 0, 1) := by decide +kernel
theorem dJ1_indexOf_4cfef_11 : decode cJ1_indexOf_4cfef 11 = .ok (.invokestatic 92, 3) := by decide +kernel
theorem dJ1_indexOf_4cfef_14 : decode cJ1_indexOf_4cfef 14 = .ok (.istore_n 2, 1) := by decide +kernel
theorem dJ1_indexOf_4cfef_15 : decode cJ1_indexOf_4cfef 15 = .ok (.iload_n 3, 1) := by decide +kernel
theorem dJ1_indexOf_4cfef_16 : decode cJ1_indexOf_4cfef 16 = .ok (.aload_n 0, 1) := by decide +kernel
theorem dJ1_indexOf_4cfef_17 : decode cJ1_indexOf_4cfef 17 = .ok (.arraylength, 1) := by decide +kernel
theorem dJ1_indexOf_4cfef_18 : decode cJ1_indexOf_4cfef 18 = .ok (.invokestatic 38, 3) := by decide +kernel
theorem dJ1_indexOf_4cfef_21 : decode cJ1_indexOf_4cfef 21 = .ok (.istore_n 3, 1) := by decide +kernel
theorem dJ1_indexOf_4cfef_22 : decode cJ1_indexOf_4cfef 22 = .ok (.iload_n 2, 1) := by decide +kernel
theorem dJ1_indexOf_4cfef_23 : decode cJ1_indexOf_4cfef 23 = .ok (.iload_n 3, 1) := by decide +kernel
theorem dJ1_indexOf_4cfef_24 : decode cJ1_indexOf_4cfef 24 = .ok (.if_icmp .lt 5, 3) := by decide +kernel
theorem dJ1_indexOf_4cfef_27 : decode cJ1_indexOf_4cfef 27 = .ok (.iconst (-1), 1) := by decide +kernel
theorem dJ1_indexOf_4cfef_28 : decode cJ1_indexOf_4cfef 28 = .ok (.ireturn, 1) := by decide +kernel
theorem dJ1_indexOf_4cfef_29 : decode cJ1_indexOf_4cfef 29 = .ok (.aload_n 0, 1) := by decide +kernel
theorem dJ1_indexOf_4cfef_30 : decode cJ1_indexOf_4cfef 30 = .ok (.iload_n 1, 1) := by decide +kernel
theorem dJ1_indexOf_4cfef_31 : decode cJ1_indexOf_4cfef 31 = .ok (.iload_n 2, 1) := by decide +kernel
theorem dJ1_indexOf_4cfef_32 : decode cJ1_indexOf_4cfef 32 = .ok (.iload_n 3, 1) := by decide +kernel
theorem dJ1_indexOf_4cfef_33 : decode cJ1_indexOf_4cfef 33 = .ok (.invokestatic 95, 3) := by decide +kernel
theorem dJ1_indexOf_4cfef_36 : decode cJ1_indexOf_4cfef 36 = .ok (.ireturn, 1) := by decide +kernel
theorem dJ1_indexOfChar_4cfef_0 : decode cJ1_indexOfChar_4cfef 0 = .ok (.iload_n 1, 1) := by decide +kernel
theorem dJ1_indexOfChar_4cfef_1 : decode cJ1_indexOfChar_4cfef 1 = .ok (.i2b, 1) := by decide +kernel
theorem dJ1_indexOfChar_4cfef_2 : decode cJ1_indexOfChar_4cfef 2 = .ok (.istore 4, 2) := by decide +kernel
theorem dJ1_indexOfChar_4cfef_4 : decode cJ1_indexOfChar_4cfef 4 = .ok (.iload_n 2, 1) := by decide +kernel
theorem dJ1_indexOfChar_4cfef_5 : decode cJ1_indexOfChar_4cfef 5 = .ok (.istore 5, 2) := by decide +kernel
theorem dJ1_indexOfChar_4cfef_7 : decode cJ1_indexOfChar_4cfef 7 = .ok (.iload 5, 2) := by decide +kernel
theorem dJ1_indexOfChar_4cfef_9 : decode cJ1_indexOfChar_4cfef 9 = .ok (.iload_n 3, 1) := by decide +kernel
theorem dJ1_indexOfChar_4cfef_10 : decode cJ1_indexOfChar_4cfef 10 = .ok (.if_icmp .ge 21, 3) := by decide +kernel
theorem dJ1_indexOfChar_4cfef_13 : decode cJ1_indexOfChar_4cfef 13 = .ok (.aload_n 0, 1) := by decide +kernel
theorem dJ1_indexOfChar_4cfef_14 : decode cJ1_indexOfChar_4cfef 14 = .ok (.iload 5, 2) := by decide +kernel
theorem dJ1_indexOfChar_4cfef_16 : decode cJ1_indexOfChar_4cfef 16 = .ok (.baload, 1) := by decide +kernel
theorem dJ1_indexOfChar_4cfef_17 : decode cJ1_indexOfChar_4cfef 17 = .ok (.iload 4, 2) := by decide +kernel
theorem dJ1_indexOfChar_4cfef_19 : decode cJ1_indexOfChar_4cfef 19 = .ok (.if_icmp .ne 6, 3) := by decide +kernel
theorem dJ1_indexOfChar_4cfef_22 : decode cJ1_indexOfChar_4cfef 22 = .ok (.iload 5, 2) := by decide +kernel
theorem dJ1_indexOfChar_4cfef_24 : decode cJ1_indexOfChar_4cfef 24 = .ok (.ireturn, 1) := by decide +kernel
theorem dJ1_indexOfChar_4cfef_25 : decode cJ1_indexOfChar_4cfef 25 = .ok (.iinc 5 1, 3) := by decide +kernel
theorem dJ1_indexOfChar_4cfef_28 : decode cJ1_indexOfChar_4cfef 28 = .ok (.goto (-21), 3) := by decide +kernel
theorem dJ1_indexOfChar_4cfef_31 : decode cJ1_indexOfChar_4cfef 31 = .ok (.iconst (-1), 1) := by decide +kernel
theorem dJ1_indexOfChar_4cfef_32 : decode cJ1_indexOfChar_4cfef 32 = .ok (.ireturn, 1) := by decide +kernel
theorem dJ2_getChar_3b067_0 : decode cJ2_getChar_3b067 0 = .ok (.getstatic 44, 3) := by decide +kernel
theorem dJ2_getChar_3b067_3 : decode cJ2_getChar_3b067 3 = .ok (.ifCond .ne 25, 3) := by decide +kernel
theorem dJ2_getChar_3b067_6 : decode cJ2_getChar_3b067 6 = .ok (.iload_n 1, 1) := by decide +kernel
theorem dJ2_getChar_3b067_7 : decode cJ2_getChar_3b067 7 = .ok (.ifCond .lt 11, 3) := by decide +kernel
theorem dJ2_getChar_3b067_10 : decode cJ2_getChar_3b067 10 = .ok (.iload_n 1, 1) := by decide +kernel
theorem dJ2_getChar_3b067_11 : decode cJ2_getChar_3b067 11 = .ok (.aload_n 0, 1) := by decide +kernel
theorem dJ2_getChar_3b067_12 : decode cJ2_getChar_3b067 12 = .ok (.invokestatic 48, 3) := by decide +kernel
theorem dJ2_getChar_3b067_15 : decode cJ2_getChar_3b067 15 = .ok (.if_icmp .lt 13, 3) := by decide +kernel
theorem dJ2_getChar_3b067_18 : decode cJ2_getChar_3b067 18 = .ok (.new 52, 3) := by decide +kernel
theorem dJ2_getChar_3b067_21 : decode cJ2_getChar_3b067 21 = .ok (.dup, 1) := by decide +kernel
theorem dJ2_getChar_3b067_22 : decode cJ2_getChar_3b067 22 = .ok (.ldc 54, 2) := by decide +kernel
theorem dJ2_getChar_3b067_24 : decode cJ2_getChar_3b067 24 = .ok (.invokespecial 56, 3) := by decide +kernel
theorem dJ2_getChar_3b067_27 : decode cJ2_getChar_3b067 27 = .ok (.athrow, 1) := by decide +kernel
theorem dJ2_getChar_3b067_28 : decode cJ2_getChar_3b067 28 = .ok (.iload_n 1, 1) := by decide +kernel
theorem dJ2_getChar_3b067_29 : decode cJ2_getChar_3b067 29 = .ok (.iconst 1, 1) := by decide +kernel
theorem dJ2_getChar_3b067_30 : decode cJ2_getChar_3b067 30 = .ok (.ishl, 1) := by decide +kernel
theorem dJ2_getChar_3b067_31 : decode cJ2_getChar_3b067 31 = .ok (.istore_n 1, 1) := by decide +kernel
theorem dJ2_getChar_3b067_32 : decode cJ2_getChar_3b067 32 = .ok (.aload_n 0, 1) := by decide +kernel
theorem dJ2_getChar_3b067_33 : decode cJ2_getChar_3b067 33 = .ok (.iload_n 1, 1) := by decide +kernel
theorem dJ2_getChar_3b067_34 : decode cJ2_getChar_3b067 34 = .ok (.iinc 1 1, 3) := by decide +kernel
theorem dJ2_getChar_3b067_37 : decode cJ2_getChar_3b067 37 = .ok (.baload, 1) := by decide +kernel
theorem dJ2_getChar_3b067_38 : decode cJ2_getChar_3b067 38 = .ok (.sipush 255, 3) := by decide +kernel
theorem dJ2_getChar_3b067_41 : decode cJ2_getChar_3b067 41 = .ok (.iand, 1) := by decide +kernel
theorem dJ2_getChar_3b067_42 : decode cJ2_getChar_3b067 42 = .ok (.getstatic 59, 3) := by decide +kernel
theorem dJ2_getChar_3b067_45 : decode cJ2_getChar_3b067 45 = .ok (.ishl, 1) := by decide +kernel
theorem dJ2_getChar_3b067_46 : decode cJ2_getChar_3b067 46 = .ok (.aload_n 0, 1) := by decide +kernel
theorem dJ2_getChar_3b067_47 : decode cJ2_getChar_3b067 47 = .ok (.iload_n 1, 1) := by decide +kernel
theorem dJ2_getChar_3b067_48 : decode cJ2_getChar_3b067 48 = .ok (.baload, 1) := by decide +kernel
theorem dJ2_getChar_3b067_49 : decode cJ2_getChar_3b067 49 = .ok (.sipush 255, 3) := by decide +kernel
theorem dJ2_getChar_3b067_52 : decode cJ2_getChar_3b067 52 = .ok (.iand, 1) := by decide +kernel
theorem dJ2_getChar_3b067_53 : decode cJ2_getChar_3b067 53 = .ok (.getstatic 63, 3) := by decide +kernel
theorem dJ2_getChar_3b067_56 : decode cJ2_getChar_3b067 56 = .ok (.ishl, 1) := by decide +kernel
theorem dJ2_getChar_3b067_57 : decode cJ2_getChar_3b067 57 = .ok (.ior, 1) := by decide +kernel
theorem dJ2_getChar_3b067_58 : decode cJ2_getChar_3b067 58 = .ok (.i2c, 1) := by decide +kernel
theorem dJ2_getChar_3b067_59 : decode cJ2_getChar_3b067 59 = .ok (.ireturn, 1) := by decide +kernel
theorem dJ2_length_9d52b_0 : decode cJ2_length_9d52b 0 = .ok (.aload_n 0, 1) := by decide +kernel
theorem dJ2_length_9d52b_1 : decode cJ2_length_9d52b 1 = .ok (.arraylength, 1) := by decide +kernel
theorem dJ2_length_9d52b_2 : decode cJ2_length_9d52b 2 = .ok (.iconst 1, 1) := by decide +kernel
theorem dJ2_length_9d52b_3 : decode cJ2_length_9d52b 3 = .ok (.ishr, 1) := by decide +kernel
theorem dJ2_length_9d52b_4 : decode cJ2_length_9d52b 4 = .ok (.ireturn, 1) := by decide +kernel
theorem dJ2_indexOf_4cfef_0 : decode cJ2_indexOf_4cfef 0 = .ok (.iload_n 2, 1) := by decide +kernel
theorem dJ2_indexOf_4cfef_1 : decode cJ2_indexOf_4cfef 1 = .ok (.iconst 0, 1) := by decide +kernel
theorem dJ2_indexOf_4cfef_2 : decode cJ2_indexOf_4cfef 2 = .ok (.invokestatic 224, 3) := by decide +kernel
theorem dJ2_indexOf_4cfef_5 : decode cJ2_indexOf_4cfef 5 = .ok (.istore_n 2, 1) := by decide +kernel
theorem dJ2_indexOf_4cfef_6 : decode cJ2_indexOf_4cfef 6 = .ok (.iload_n 3, 1) := by decide +kernel
theorem dJ2_indexOf_4cfef_7 : decode cJ2_indexOf_4cfef 7 = .ok (.aload_n 0, 1) := by decide +kernel
theorem dJ2_indexOf_4cfef_8 : decode cJ2_indexOf_4cfef 8 = .ok (.arraylength, 1) := by decide +kernel
theorem dJ2_indexOf_4cfef_9 : decode cJ2_indexOf_4cfef 9 = .ok (.iconst 1, 1) := by decide +kernel
theorem dJ2_indexOf_4cfef_10 : decode cJ2_indexOf_4cfef 10 = .ok (.ishr, 1) := by decide +kernel
theorem dJ2_indexOf_4cfef_11 : decode cJ2_indexOf_4cfef 11 = .ok (.invokestatic 183, 3) := by decide +kernel
theorem dJ2_indexOf_4cfef_14 : decode cJ2_indexOf_4cfef 14 = .ok (.istore_n 3, 1) := by decide +kernel
theorem dJ2_indexOf_4cfef_15 : decode cJ2_indexOf_4cfef 15 = .ok (.iload_n 2, 1) := by decide +kernel
theorem dJ2_indexOf_4cfef_16 : decode cJ2_indexOf_4cfef 16 = .ok (.iload_n 3, 1) := by decide +kernel
theorem dJ2_indexOf_4cfef_17 : decode cJ2_indexOf_4cfef 17 = .ok (.if_icmp .lt 5, 3) := by decide +kernel
theorem dJ2_indexOf_4cfef_20 : decode cJ2_indexOf_4cfef 20 = .ok (.iconst (-1), 1) := by decide +kernel
theorem dJ2_indexOf_4cfef_21 : decode cJ2_indexOf_4cfef 21 = .ok (.ireturn, 1) := by decide +kernel
theorem dJ2_indexOf_4cfef_22 : decode cJ2_indexOf_4cfef 22 = .ok (.iload_n 1, 1) := by decide +kernel
theorem dJ2_indexOf_4cfef_23 : decode cJ2_indexOf_4cfef 23 = .ok (.ldc 227, 2) := by decide +kernel
theorem dJ2_indexOf_4cfef_25 : decode cJ2_indexOf_4cfef 25 = .ok (.if_icmp .ge 11, 3) := by decide +kernel
theorem dJ2_indexOf_4cfef_28 : decode cJ2_indexOf_4cfef 28 = .ok (.aload_n 0, 1) := by decide +kernel
theorem dJ2_indexOf_4cfef_29 : decode cJ2_indexOf_4cfef 29 = .ok (.iload_n 1, 1) := by decide +kernel
theorem dJ2_indexOf_4cfef_30 : decode cJ2_indexOf_4cfef 30 = .ok (.iload_n 2, 1) := by decide +kernel
theorem dJ2_indexOf_4cfef_31 : decode cJ2_indexOf_4cfef 31 = .ok (.iload_n 3, 1) := by decide +kernel
theorem dJ2_indexOf_4cfef_32 : decode cJ2_indexOf_4cfef 32 = .ok (.invokestatic 228, 3) := by decide +kernel
theorem dJ2_indexOf_4cfef_35 : decode cJ2_indexOf_4cfef 35 = .ok (.ireturn, 1) := by decide +kernel
theorem dJ2_indexOf_4cfef_36 : decode cJ2_indexOf_4cfef 36 = .ok (.aload_n 0, 1) := by decide +kernel
theorem dJ2_indexOf_4cfef_37 : decode cJ2_indexOf_4cfef 37 = .ok (.iload_n 1, 1) := by decide +kernel
theorem dJ2_indexOf_4cfef_38 : decode cJ2_indexOf_4cfef 38 = .ok (.iload_n 2, 1) := by decide +kernel
theorem dJ2_indexOf_4cfef_39 : decode cJ2_indexOf_4cfef 39 = .ok (.iload_n 3, 1) := by decide +kernel
theorem dJ2_indexOf_4cfef_40 : decode cJ2_indexOf_4cfef 40 = .ok (.invokestatic 232, 3) := by decide +kernel
theorem dJ2_indexOf_4cfef_43 : decode cJ2_indexOf_4cfef 43 = .ok (.ireturn, 1) := by decide +kernel
theorem dJ2_indexOfChar_4cfef_0 : decode cJ2_indexOfChar_4cfef 0 = .ok (.iload_n 2, 1) := by decide +kernel
theorem dJ2_indexOfChar_4cfef_1 : decode cJ2_indexOfChar_4cfef 1 = .ok (.iload_n 3, 1) := by decide +kernel
theorem dJ2_indexOfChar_4cfef_2 : decode cJ2_indexOfChar_4cfef 2 = .ok (.aload_n 0, 1) := by decide +kernel
theorem dJ2_indexOfChar_4cfef_3 : decode cJ2_indexOfChar_4cfef 3 = .ok (.invokestatic 96, 3) := by decide +kernel
theorem dJ2_indexOfChar_4cfef_6 : decode cJ2_indexOfChar_4cfef 6 = .ok (.aload_n 0, 1) := by decide +kernel
theorem dJ2_indexOfChar_4cfef_7 : decode cJ2_indexOfChar_4cfef 7 = .ok (.iload_n 1, 1) := by decide +kernel
theorem dJ2_indexOfChar_4cfef_8 : decode cJ2_indexOfChar_4cfef 8 = .ok (.iload_n 2, 1) := by decide +kernel
theorem dJ2_indexOfChar_4cfef_9 : decode cJ2_indexOfChar_4cfef 9 = .ok (.iload_n 3, 1) := by decide +kernel
theorem dJ2_indexOfChar_4cfef_10 : decode cJ2_indexOfChar_4cfef 10 = .ok (.invokestatic 244, 3) := by decide +kernel
theorem dJ2_indexOfChar_4cfef_13 : decode cJ2_indexOfChar_4cfef 13 = .ok (.ireturn, 1) := by decide +kernel
theorem dJ2_indexOfCharUnsafe_4cfef_0 : decode cJ2_indexOfCharUnsafe_4cfef 0 = .ok (.iload_n 2, 1) := by decide +kernel
theorem dJ2_indexOfCharUnsafe_4cfef_1 : decode cJ2_indexOfCharUnsafe_4cfef 1 = .ok (.istore 4, 2) := by decide +kernel
theorem dJ2_indexOfCharUnsafe_4cfef_3 : decode cJ2_indexOfCharUnsafe_4cfef 3 = .ok (.iload 4, 2) := by decide +kernel
theorem dJ2_indexOfCharUnsafe_4cfef_5 : decode cJ2_indexOfCharUnsafe_4cfef 5 = .ok (.iload_n 3, 1) := by decide +kernel
theorem dJ2_indexOfCharUnsafe_4cfef_6 : decode cJ2_indexOfCharUnsafe_4cfef 6 = .ok (.if_icmp .ge 22, 3) := by decide +kernel
theorem dJ2_indexOfCharUnsafe_4cfef_9 : decode cJ2_indexOfCharUnsafe_4cfef 9 = .ok (.aload_n 0, 1) := by decide +kernel
theorem dJ2_indexOfCharUnsafe_4cfef_10 : decode cJ2_indexOfCharUnsafe_4cfef 10 = .ok (.iload 4, 2) := by decide +kernel
theorem dJ2_indexOfCharUnsafe_4cfef_12 : decode cJ2_indexOfCharUnsafe_4cfef 12 = .ok (.invokestatic 71, 3) := by decide +kernel
theorem dJ2_indexOfCharUnsafe_4cfef_15 : decode cJ2_indexOfCharUnsafe_4cfef 15 = .ok (.iload_n 1, 1) := by decide +kernel
theorem dJ2_indexOfCharUnsafe_4cfef_16 : decode cJ2_indexOfCharUnsafe_4cfef 16 = .ok (.if_icmp .ne 6, 3) := by decide +kernel
theorem dJ2_indexOfCharUnsafe_4cfef_19 : decode cJ2_indexOfCharUnsafe_4cfef 19 = .ok (.iload 4, 2) := by decide +kernel
theorem dJ2_indexOfCharUnsafe_4cfef_21 : decode cJ2_indexOfCharUnsafe_4cfef 21 = .ok (.ireturn, 1) := by decide +kernel
theorem dJ2_indexOfCharUnsafe_4cfef_22 : decode cJ2_indexOfCharUnsafe_4cfef 22 = .ok (.iinc 4 1, 3) := by decide +kernel
theorem dJ2_indexOfCharUnsafe_4cfef_25 : decode cJ2_indexOfCharUnsafe_4cfef 25 = .ok (.goto (-22), 3) := by decide +kernel
theorem dJ2_indexOfCharUnsafe_4cfef_28 : decode cJ2_indexOfCharUnsafe_4cfef 28 = .ok (.iconst (-1), 1) := by decide +kernel
theorem dJ2_indexOfCharUnsafe_4cfef_29 : decode cJ2_indexOfCharUnsafe_4cfef 29 = .ok (.ireturn, 1) := by decide +kernel
theorem dJ2_indexOfSupplementary_4cfef_0 : decode cJ2_indexOfSupplementary_4cfef 0 = .ok (.iload_n 1, 1) := by decide +kernel
theorem dJ2_indexOfSupplementary_4cfef_1 : decode cJ2_indexOfSupplementary_4cfef 1 = .ok (.invokestatic 164, 3) := by decide +kernel
theorem dJ2_indexOfSupplementary_4cfef_4 : decode cJ2_indexOfSupplementary_4cfef 4 = .ok (.ifCond .eq 65, 3) := by decide +kernel
theorem dJ2_indexOfSupplementary_4cfef_7 : decode cJ2_indexOfSupplementary_4cfef 7 = .ok (.iload_n 1, 1) := by decide +kernel
theorem dJ2_indexOfSupplementary_4cfef_8 : decode cJ2_indexOfSupplementary_4cfef 8 = .ok (.invokestatic 157, 3) := by decide +kernel
theorem dJ2_indexOfSupplementary_4cfef_11 : decode cJ2_indexOfSupplementary_4cfef 11 = .ok (.istore 4, 2) := by decide +kernel
theorem dJ2_indexOfSupplementary_4cfef_13 : decode cJ2_indexOfSupplementary_4cfef 13 = .ok (.iload_n 1, 1) := by decide +kernel
theorem dJ2_indexOfSupplementary_4cfef_14 : decode cJ2_indexOfSupplementary_4cfef 14 = .ok (.invokestatic 161, 3) := by decide +kernel
theorem dJ2_indexOfSupplementary_4cfef_17 : decode cJ2_indexOfSupplementary_4cfef 17 = .ok (.istore 5, 2) := by decide +kernel
theorem dJ2_indexOfSupplementary_4cfef_19 : decode cJ2_indexOfSupplementary_4cfef 19 = .ok (.iload_n 2, 1) := by decide +kernel
theorem dJ2_indexOfSupplementary_4cfef_20 : decode cJ2_indexOfSupplementary_4cfef 20 = .ok (.iload_n 3, 1) := by decide +kernel
theorem dJ2_indexOfSupplementary_4cfef_21 : decode cJ2_indexOfSupplementary_4cfef 21 = .ok (.aload_n 0, 1) := by decide +kernel
theorem dJ2_indexOfSupplementary_4cfef_22 : decode cJ2_indexOfSupplementary_4cfef 22 = .ok (.invokestatic 96, 3) := by decide +kernel
theorem dJ2_indexOfSupplementary_4cfef_25 : decode cJ2_indexOfSupplementary_4cfef 25 = .ok (.iload_n 2, 1) := by decide +kernel
theorem dJ2_indexOfSupplementary_4cfef_26 : decode cJ2_indexOfSupplementary_4cfef 26 = .ok (.istore 6, 2) := by decide +kernel
theorem dJ2_indexOfSupplementary_4cfef_28 : decode cJ2_indexOfSupplementary_4cfef 28 = .ok (.iload 6, 2) := by decide +kernel
theorem dJ2_indexOfSupplementary_4cfef_30 : decode cJ2_indexOfSupplementary_4cfef 30 = .ok (.iload_n 3, 1) := by decide +kernel
theorem dJ2_indexOfSupplementary_4cfef_31 : decode cJ2_indexOfSupplementary_4cfef 31 = .ok (.iconst 1, 1) := by decide +kernel
theorem dJ2_indexOfSupplementary_4cfef_32 : decode cJ2_indexOfSupplementary_4cfef 32 = .ok (.isub, 1) := by decide +kernel
theorem dJ2_indexOfSupplementary_4cfef_33 : decode cJ2_indexOfSupplementary_4cfef 33 = .ok (.if_icmp .ge 36, 3) := by decide +kernel
theorem dJ2_indexOfSupplementary_4cfef_36 : decode cJ2_indexOfSupplementary_4cfef 36 = .ok (.aload_n 0, 1) := by decide +kernel
theorem dJ2_indexOfSupplementary_4cfef_37 : decode cJ2_indexOfSupplementary_4cfef 37 = .ok (.iload 6, 2) := by decide +kernel
theorem dJ2_indexOfSupplementary_4cfef_39 : decode cJ2_indexOfSupplementary_4cfef 39 = .ok (.invokestatic 71, 3) := by decide +kernel
theorem dJ2_indexOfSupplementary_4cfef_42 : decode cJ2_indexOfSupplementary_4cfef 42 = .ok (.iload 4, 2) := by decide +kernel
theorem dJ2_indexOfSupplementary_4cfef_44 : decode cJ2_indexOfSupplementary_4cfef 44 = .ok (.if_icmp .ne 19, 3) := by decide +kernel
theorem dJ2_indexOfSupplementary_4cfef_47 : decode cJ2_indexOfSupplementary_4cfef 47 = .ok (.aload_n 0, 1) := by decide +kernel
theorem dJ2_indexOfSupplementary_4cfef_48 : decode cJ2_indexOfSupplementary_4cfef 48 = .ok (.iload 6, 2) := by decide +kernel
theorem dJ2_indexOfSupplementary_4cfef_50 : decode cJ2_indexOfSupplementary_4cfef 50 = .ok (.iconst 1, 1) := by decide +kernel
theorem dJ2_indexOfSupplementary_4cfef_51 : decode cJ2_indexOfSupplementary_4cfef 51 = .ok (.iadd, 1) := by decide +kernel
theorem dJ2_indexOfSupplementary_4cfef_52 : decode cJ2_indexOfSupplementary_4cfef 52 = .ok (.invokestatic 71, 3) := by decide +kernel
theorem dJ2_indexOfSupplementary_4cfef_55 : decode cJ2_indexOfSupplementary_4cfef 55 = .ok (.iload 5, 2) := by decide +kernel
theorem dJ2_indexOfSupplementary_4cfef_57 : decode cJ2_indexOfSupplementary_4cfef 57 = .ok (.if_icmp .ne 6, 3) := by decide +kernel
theorem dJ2_indexOfSupplementary_4cfef_60 : decode cJ2_indexOfSupplementary_4cfef 60 = .ok (.iload 6, 2) := by decide +kernel
theorem dJ2_indexOfSupplementary_4cfef_62 : decode cJ2_indexOfSupplementary_4cfef 62 = .ok (.ireturn, 1) := by decide +kernel
theorem dJ2_indexOfSupplementary_4cfef_63 : decode cJ2_indexOfSupplementary_4cfef 63 = .ok (.iinc 6 1, 3) := by decide +kernel
theorem dJ2_indexOfSupplementary_4cfef_66 : decode cJ2_indexOfSupplementary_4cfef 66 = .ok (.goto (-38), 3) := by decide +kernel
theorem dJ2_indexOfSupplementary_4cfef_69 : decode cJ2_indexOfSupplementary_4cfef 69 = .ok (.iconst (-1), 1) := by decide +kernel
theorem dJ2_indexOfSupplementary_4cfef_70 : decode cJ2_indexOfSupplementary_4cfef 70 = .ok (.ireturn, 1) := by decide +kernel
theorem dJ2_charAt_3b067_0 : decode cJ2_charAt_3b067 0 = .ok (.iload_n 1, 1) := by decide +kernel
theorem dJ2_charAt_3b067_1 : decode cJ2_charAt_3b067 1 = .ok (.aload_n 0, 1) := by decide +kernel
theorem dJ2_charAt_3b067_2 : decode cJ2_charAt_3b067 2 = .ok (.invokestatic 67, 3) := by decide +kernel
theorem dJ2_charAt_3b067_5 : decode cJ2_charAt_3b067 5 = .ok (.aload_n 0, 1) := by decide +kernel
theorem dJ2_charAt_3b067_6 : decode cJ2_charAt_3b067 6 = .ok (.iload_n 1, 1) := by decide +kernel
theorem dJ2_charAt_3b067_7 : decode cJ2_charAt_3b067 7 = .ok (.invokestatic 71, 3) := by decide +kernel
theorem dJ2_charAt_3b067_10 : decode cJ2_charAt_3b067 10 = .ok (.ireturn, 1) := by decide +kernel
theorem dJ2_checkIndex_2214a_0 : decode cJ2_checkIndex_2214a 0 = .ok (.iload_n 0, 1) := by decide +kernel
theorem dJ2_checkIndex_2214a_1 : decode cJ2_checkIndex_2214a 1 = .ok (.aload_n 1, 1) := by decide +kernel
theorem dJ2_checkIndex_2214a_2 : decode cJ2_checkIndex_2214a 2 = .ok (.invokestatic 48, 3) := by decide +kernel
theorem dJ2_checkIndex_2214a_5 : decode cJ2_checkIndex_2214a 5 = .ok (.invokestatic 414, 3) := by decide +kernel
theorem dJ2_checkIndex_2214a_8 : decode cJ2_checkIndex_2214a 8 = .ok (.return_, 1) := by decide +kernel
theorem dJ2_checkBoundsBeginEnd_d044e_0 : decode cJ2_checkBoundsBeginEnd_d044e 0 = .ok (.iload_n 0, 1) := by decide +kernel
theorem dJ2_checkBoundsBeginEnd_d044e_1 : decode cJ2_checkBoundsBeginEnd_d044e 1 = .ok (.iload_n 1, 1) := by decide +kernel
theorem dJ2_checkBoundsBeginEnd_d044e_2 : decode cJ2_checkBoundsBeginEnd_d044e 2 = .ok (.aload_n 2, 1) := by decide +kernel
theorem dJ2_checkBoundsBeginEnd_d044e_3 : decode cJ2_checkBoundsBeginEnd_d044e 3 = .ok (.invokestatic 48, 3) := by decide +kernel
theorem dJ2_checkBoundsBeginEnd_d044e_6 : decode cJ2_checkBoundsBeginEnd_d044e 6 = .ok (.invokestatic 241, 3) := by decide +kernel
theorem dJ2_checkBoundsBeginEnd_d044e_9 : decode cJ2_checkBoundsBeginEnd_d044e 9 = .ok (.return_, 1) := by decide +kernel
theorem dJ3_checkIndex_8e157_0 : decode cJ3_checkIndex_8e157 0 = .ok (.iload_n 0, 1) := by decide +kernel
theorem dJ3_checkIndex_8e157_1 : decode cJ3_checkIndex_8e157 1 = .ok (.ifCond .lt 8, 3) := by decide +kernel
theorem dJ3_checkIndex_8e157_4 : decode cJ3_checkIndex_8e157 4 = .ok (.iload_n 0, 1) := by decide +kernel
theorem dJ3_checkIndex_8e157_5 : decode cJ3_checkIndex_8e157 5 = .ok (.iload_n 1, 1) := by decide +kernel
theorem dJ3_checkIndex_8e157_6 : decode cJ3_checkIndex_8e157 6 = .ok (.if_icmp .lt 10, 3) := by decide +kernel
theorem dJ3_checkIndex_8e157_9 : decode cJ3_checkIndex_8e157 9 = .ok (.aload_n 2, 1) := by decide +kernel
theorem dJ3_checkIndex_8e157_10 : decode cJ3_checkIndex_8e157 10 = .ok (.iload_n 0, 1) := by decide +kernel
theorem dJ3_checkIndex_8e157_11 : decode cJ3_checkIndex_8e157 11 = .ok (.iload_n 1, 1) := by decide +kernel
theorem dJ3_checkIndex_8e157_12 : decode cJ3_checkIndex_8e157 12 = .ok (.invokestatic 95, 3) := by decide +kernel
theorem dJ3_checkIndex_8e157_15 : decode cJ3_checkIndex_8e157 15 = .ok (.athrow, 1) := by decide +kernel
theorem dJ3_checkIndex_8e157_16 : decode cJ3_checkIndex_8e157 16 = .ok (.iload_n 0, 1) := by decide +kernel
theorem dJ3_checkIndex_8e157_17 : decode cJ3_checkIndex_8e157 17 = .ok (.ireturn, 1) := by decide +kernel
theorem dJ3_checkFromToIndex_8c36e_0 : decode cJ3_checkFromToIndex_8c36e 0 = .ok (.iload_n 0, 1) := by decide +kernel
theorem dJ3_checkFromToIndex_8c36e_1 : decode cJ3_checkFromToIndex_8c36e 1 = .ok (.ifCond .lt 13, 3) := by decide +kernel
theorem dJ3_checkFromToIndex_8c36e_4 : decode cJ3_checkFromToIndex_8c36e 4 = .ok (.iload_n 0, 1) := by decide +kernel
theorem dJ3_checkFromToIndex_8c36e_5 : decode cJ3_checkFromToIndex_8c36e 5 = .ok (.iload_n 1, 1) := by decide +kernel
theorem dJ3_checkFromToIndex_8c36e_6 : decode cJ3_checkFromToIndex_8c36e 6 = .ok (.if_icmp .gt 8, 3) := by decide +kernel
theorem dJ3_checkFromToIndex_8c36e_9 : decode cJ3_checkFromToIndex_8c36e 9 = .ok (.iload_n 1, 1) := by decide +kernel
theorem dJ3_checkFromToIndex_8c36e_10 : decode cJ3_checkFromToIndex_8c36e 10 = .ok (.iload_n 2, 1) := by decide +kernel
theorem dJ3_checkFromToIndex_8c36e_11 : decode cJ3_checkFromToIndex_8c36e 11 = .ok (.if_icmp .le 11, 3) := by decide +kernel
theorem dJ3_checkFromToIndex_8c36e_14 : decode cJ3_checkFromToIndex_8c36e 14 = .ok (.aload_n 3, 1) := by decide +kernel
theorem dJ3_checkFromToIndex_8c36e_15 : decode cJ3_checkFromToIndex_8c36e 15 = .ok (.iload_n 0, 1) := by decide +kernel
theorem dJ3_checkFromToIndex_8c36e_16 : decode cJ3_checkFromToIndex_8c36e 16 = .ok (.iload_n 1, 1) := by decide +kernel
theorem dJ3_checkFromToIndex_8c36e_17 : decode cJ3_checkFromToIndex_8c36e 17 = .ok (.iload_n 2, 1) := by decide +kernel
theorem dJ3_checkFromToIndex_8c36e_18 : decode cJ3_checkFromToIndex_8c36e 18 = .ok (.invokestatic 99, 3) := by decide +kernel
theorem dJ3_checkFromToIndex_8c36e_21 : decode cJ3_checkFromToIndex_8c36e 21 = .ok (.athrow, 1) := by decide +kernel
theorem dJ3_checkFromToIndex_8c36e_22 : decode cJ3_checkFromToIndex_8c36e 22 = .ok (.iload_n 0, 1) := by decide +kernel
theorem dJ3_checkFromToIndex_8c36e_23 : decode cJ3_checkFromToIndex_8c36e 23 = .ok (.ireturn, 1) := by decide +kernel
theorem dL_law_0 : decode cL_law 0 = .ok (.new 7, 3) := by decide +kernel
theorem dL_law_3 : decode cL_law 3 = .ok (.dup, 1) := by decide +kernel
theorem dL_law_4 : decode cL_law 4 = .ok (.invokespecial 9, 3) := by decide +kernel
theorem dL_law_7 : decode cL_law 7 = .ok (.astore_n 1, 1) := by decide +kernel
theorem dL_law_8 : decode cL_law 8 = .ok (.new 10, 3) := by decide +kernel
theorem dL_law_11 : decode cL_law 11 = .ok (.dup, 1) := by decide +kernel
theorem dL_law_12 : decode cL_law 12 = .ok (.invokespecial 12, 3) := by decide +kernel
theorem dL_law_15 : decode cL_law 15 = .ok (.astore_n 2, 1) := by decide +kernel
theorem dL_law_16 : decode cL_law 16 = .ok (.iconst 0, 1) := by decide +kernel
theorem dL_law_17 : decode cL_law 17 = .ok (.istore_n 3, 1) := by decide +kernel
theorem dL_law_18 : decode cL_law 18 = .ok (.iload_n 3, 1) := by decide +kernel
theorem dL_law_19 : decode cL_law 19 = .ok (.aload_n 0, 1) := by decide +kernel
theorem dL_law_20 : decode cL_law 20 = .ok (.arraylength, 1) := by decide +kernel
theorem dL_law_21 : decode cL_law 21 = .ok (.iconst 3, 1) := by decide +kernel
theorem dL_law_22 : decode cL_law 22 = .ok (.isub, 1) := by decide +kernel
theorem dL_law_23 : decode cL_law 23 = .ok (.if_icmp .gt 835, 3) := by decide +kernel
theorem dL_law_26 : decode cL_law 26 = .ok (.aload_n 0, 1) := by decide +kernel
theorem dL_law_27 : decode cL_law 27 = .ok (.iload_n 3, 1) := by decide +kernel
theorem dL_law_28 : decode cL_law 28 = .ok (.iaload, 1) := by decide +kernel
theorem dL_law_29 : decode cL_law 29 = .ok (.bipush 31, 2) := by decide +kernel
theorem dL_law_31 : decode cL_law 31 = .ok (.iand, 1) := by decide +kernel
theorem dL_law_32 : decode cL_law 32 = .ok (.tableswitch 820 0 31 #[144, 177, 200, 233, 246, 259, 272, 295, 318, 341, 374, 397, 410, 423, 446, 479, 512, 535, 548, 581, 604, 617, 650, 673, 696, 709, 732, 755, 768, 781, 794, 807], 144) := by decide +kernel
theorem dL_law_176 : decode cL_law 176 = .ok (.aload_n 1, 1) := by decide +kernel
theorem dL_law_177 : decode cL_law 177 = .ok (.aload_n 0, 1) := by decide +kernel
theorem dL_law_178 : decode cL_law 178 = .ok (.iload_n 3, 1) := by decide +kernel
theorem dL_law_179 : decode cL_law 179 = .ok (.iconst 1, 1) := by decide +kernel
theorem dL_law_180 : decode cL_law 180 = .ok (.iadd, 1) := by decide +kernel
theorem dL_law_181 : decode cL_law 181 = .ok (.iaload, 1) := by decide +kernel
theorem dL_law_182 : decode cL_law 182 = .ok (.aload_n 0, 1) := by decide +kernel
theorem dL_law_183 : decode cL_law 183 = .ok (.iload_n 3, 1) := by decide +kernel
theorem dL_law_184 : decode cL_law 184 = .ok (.iconst 2, 1) := by decide +kernel
theorem dL_law_185 : decode cL_law 185 = .ok (.iadd, 1) := by decide +kernel
theorem dL_law_186 : decode cL_law 186 = .ok (.iaload, 1) := by decide +kernel
theorem dL_law_187 : decode cL_law 187 = .ok (.invokevirtual 13, 3) := by decide +kernel
theorem dL_law_190 : decode cL_law 190 = .ok (.aload_n 2, 1) := by decide +kernel
theorem dL_law_191 : decode cL_law 191 = .ok (.aload_n 0, 1) := by decide +kernel
theorem dL_law_192 : decode cL_law 192 = .ok (.iload_n 3, 1) := by decide +kernel
theorem dL_law_193 : decode cL_law 193 = .ok (.iconst 1, 1) := by decide +kernel
theorem dL_law_194 : decode cL_law 194 = .ok (.iadd, 1) := by decide +kernel
theorem dL_law_195 : decode cL_law 195 = .ok (.iaload, 1) := by decide +kernel
theorem dL_law_196 : decode cL_law 196 = .ok (.aload_n 0, 1) := by decide +kernel
theorem dL_law_197 : decode cL_law 197 = .ok (.iload_n 3, 1) := by decide +kernel
theorem dL_law_198 : decode cL_law 198 = .ok (.iconst 2, 1) := by decide +kernel
theorem dL_law_199 : decode cL_law 199 = .ok (.iadd, 1) := by decide +kernel
theorem dL_law_200 : decode cL_law 200 = .ok (.iaload, 1) := by decide +kernel
theorem dL_law_201 : decode cL_law 201 = .ok (.invokevirtual 17, 3) := by decide +kernel
theorem dL_law_204 : decode cL_law 204 = .ok (.if_icmp .eq 648, 3) := by decide +kernel
theorem dL_law_207 : decode cL_law 207 = .ok (.iconst 0, 1) := by decide +kernel
theorem dL_law_208 : decode cL_law 208 = .ok (.ireturn, 1) := by decide +kernel
theorem dL_law_209 : decode cL_law 209 = .ok (.aload_n 1, 1) := by decide +kernel
theorem dL_law_210 : decode cL_law 210 = .ok (.aload_n 0, 1) := by decide +kernel
theorem dL_law_211 : decode cL_law 211 = .ok (.iload_n 3, 1) := by decide +kernel
theorem dL_law_212 : decode cL_law 212 = .ok (.iconst 1, 1) := by decide +kernel
theorem dL_law_213 : decode cL_law 213 = .ok (.iadd, 1) := by decide +kernel
theorem dL_law_214 : decode cL_law 214 = .ok (.iaload, 1) := by decide +kernel
theorem dL_law_215 : decode cL_law 215 = .ok (.invokevirtual 18, 3) := by decide +kernel
theorem dL_law_218 : decode cL_law 218 = .ok (.aload_n 2, 1) := by decide +kernel
theorem dL_law_219 : decode cL_law 219 = .ok (.aload_n 0, 1) := by decide +kernel
theorem dL_law_220 : decode cL_law 220 = .ok (.iload_n 3, 1) := by decide +kernel
theorem dL_law_221 : decode cL_law 221 = .ok (.iconst 1, 1) := by decide +kernel
theorem dL_law_222 : decode cL_law 222 = .ok (.iadd, 1) := by decide +kernel
theorem dL_law_223 : decode cL_law 223 = .ok (.iaload, 1) := by decide +kernel
theorem dL_law_224 : decode cL_law 224 = .ok (.invokevirtual 22, 3) := by decide +kernel
theorem dL_law_227 : decode cL_law 227 = .ok (.if_icmp .eq 625, 3) := by decide +kernel
theorem dL_law_230 : decode cL_law 230 = .ok (.iconst 0, 1) := by decide +kernel
theorem dL_law_231 : decode cL_law 231 = .ok (.ireturn, 1) := by decide +kernel
theorem dL_law_232 : decode cL_law 232 = .ok (.aload_n 1, 1) := by decide +kernel
theorem dL_law_233 : decode cL_law 233 = .ok (.aload_n 0, 1) := by decide +kernel
theorem dL_law_234 : decode cL_law 234 = .ok (.iload_n 3, 1) := by decide +kernel
theorem dL_law_235 : decode cL_law 235 = .ok (.iconst 1, 1) := by decide +kernel
theorem dL_law_236 : decode cL_law 236 = .ok (.iadd, 1) := by decide +kernel
theorem dL_law_237 : decode cL_law 237 = .ok (.iaload, 1) := by decide +kernel
theorem dL_law_238 : decode cL_law 238 = .ok (.aload_n 0, 1) := by decide +kernel
theorem dL_law_239 : decode cL_law 239 = .ok (.iload_n 3, 1) := by decide +kernel
theorem dL_law_240 : decode cL_law 240 = .ok (.iconst 2, 1) := by decide +kernel
theorem dL_law_241 : decode cL_law 241 = .ok (.iadd, 1) := by decide +kernel
theorem dL_law_242 : decode cL_law 242 = .ok (.iaload, 1) := by decide +kernel
theorem dL_law_243 : decode cL_law 243 = .ok (.invokevirtual 23, 3) := by decide +kernel
theorem dL_law_246 : decode cL_law 246 = .ok (.aload_n 2, 1) := by decide +kernel
theorem dL_law_247 : decode cL_law 247 = .ok (.aload_n 0, 1) := by decide +kernel
theorem dL_law_248 : decode cL_law 248 = .ok (.iload_n 3, 1) := by decide +kernel
theorem dL_law_249 : decode cL_law 249 = .ok (.iconst 1, 1) := by decide +kernel
theorem dL_law_250 : decode cL_law 250 = .ok (.iadd, 1) := by decide +kernel
theorem dL_law_251 : decode cL_law 251 = .ok (.iaload, 1) := by decide +kernel
theorem dL_law_252 : decode cL_law 252 = .ok (.aload_n 0, 1) := by decide +kernel
theorem dL_law_253 : decode cL_law 253 = .ok (.iload_n 3, 1) := by decide +kernel
theorem dL_law_254 : decode cL_law 254 = .ok (.iconst 2, 1) := by decide +kernel
theorem dL_law_255 : decode cL_law 255 = .ok (.iadd, 1) := by decide +kernel
theorem dL_law_256 : decode cL_law 256 = .ok (.iaload, 1) := by decide +kernel
theorem dL_law_257 : decode cL_law 257 = .ok (.invokevirtual 26, 3) := by decide +kernel
theorem dL_law_260 : decode cL_law 260 = .ok (.if_icmp .eq 592, 3) := by decide +kernel
theorem dL_law_263 : decode cL_law 263 = .ok (.iconst 0, 1) := by decide +kernel
theorem dL_law_264 : decode cL_law 264 = .ok (.ireturn, 1) := by decide +kernel
theorem dL_law_265 : decode cL_law 265 = .ok (.aload_n 1, 1) := by decide +kernel
theorem dL_law_266 : decode cL_law 266 = .ok (.invokevirtual 27, 3) := by decide +kernel
theorem dL_law_269 : decode cL_law 269 = .ok (.aload_n 2, 1) := by decide +kernel
theorem dL_law_270 : decode cL_law 270 = .ok (.invokevirtual 31, 3) := by decide +kernel
theorem dL_law_273 : decode cL_law 273 = .ok (.if_icmp .eq 579, 3) := by decide +kernel
theorem dL_law_276 : decode cL_law 276 = .ok (.iconst 0, 1) := by decide +kernel
theorem dL_law_277 : decode cL_law 277 = .ok (.ireturn, 1) := by decide +kernel
theorem dL_law_278 : decode cL_law 278 = .ok (.aload_n 1, 1) := by decide +kernel
theorem dL_law_279 : decode cL_law 279 = .ok (.invokevirtual 32, 3) := by decide +kernel
theorem dL_law_282 : decode cL_law 282 = .ok (.aload_n 2, 1) := by decide +kernel
theorem dL_law_283 : decode cL_law 283 = .ok (.invokevirtual 35, 3) := by decide +kernel
theorem dL_law_286 : decode cL_law 286 = .ok (.if_icmp .eq 566, 3) := by decide +kernel
theorem dL_law_289 : decode cL_law 289 = .ok (.iconst 0, 1) := by decide +kernel
theorem dL_law_290 : decode cL_law 290 = .ok (.ireturn, 1) := by decide +kernel
theorem dL_law_291 : decode cL_law 291 = .ok (.aload_n 1, 1) := by decide +kernel
theorem dL_law_292 : decode cL_law 292 = .ok (.invokevirtual 36, 3) := by decide +kernel
theorem dL_law_295 : decode cL_law 295 = .ok (.aload_n 2, 1) := by decide +kernel
theorem dL_law_296 : decode cL_law 296 = .ok (.invokevirtual 39, 3) := by decide +kernel
theorem dL_law_299 : decode cL_law 299 = .ok (.if_icmp .eq 553, 3) := by decide +kernel
theorem dL_law_302 : decode cL_law 302 = .ok (.iconst 0, 1) := by decide +kernel
theorem dL_law_303 : decode cL_law 303 = .ok (.ireturn, 1) := by decide +kernel
theorem dL_law_304 : decode cL_law 304 = .ok (.aload_n 1, 1) := by decide +kernel
theorem dL_law_305 : decode cL_law 305 = .ok (.aload_n 0, 1) := by decide +kernel
theorem dL_law_306 : decode cL_law 306 = .ok (.iload_n 3, 1) := by decide +kernel
theorem dL_law_307 : decode cL_law 307 = .ok (.iconst 1, 1) := by decide +kernel
theorem dL_law_308 : decode cL_law 308 = .ok (.iadd, 1) := by decide +kernel
theorem dL_law_309 : decode cL_law 309 = .ok (.iaload, 1) := by decide +kernel
theorem dL_law_310 : decode cL_law 310 = .ok (.invokevirtual 40, 3) := by decide +kernel
theorem dL_law_313 : decode cL_law 313 = .ok (.aload_n 2, 1) := by decide +kernel
theorem dL_law_314 : decode cL_law 314 = .ok (.aload_n 0, 1) := by decide +kernel
theorem dL_law_315 : decode cL_law 315 = .ok (.iload_n 3, 1) := by decide +kernel
theorem dL_law_316 : decode cL_law 316 = .ok (.iconst 1, 1) := by decide +kernel
theorem dL_law_317 : decode cL_law 317 = .ok (.iadd, 1) := by decide +kernel
theorem dL_law_318 : decode cL_law 318 = .ok (.iaload, 1) := by decide +kernel
theorem dL_law_319 : decode cL_law 319 = .ok (.invokevirtual 43, 3) := by decide +kernel
theorem dL_law_322 : decode cL_law 322 = .ok (.if_icmp .eq 530, 3) := by decide +kernel
theorem dL_law_325 : decode cL_law 325 = .ok (.iconst 0, 1) := by decide +kernel
theorem dL_law_326 : decode cL_law 326 = .ok (.ireturn, 1) := by decide +kernel
theorem dL_law_327 : decode cL_law 327 = .ok (.aload_n 1, 1) := by decide +kernel
theorem dL_law_328 : decode cL_law 328 = .ok (.aload_n 0, 1) := by decide +kernel
theorem dL_law_329 : decode cL_law 329 = .ok (.iload_n 3, 1) := by decide +kernel
theorem dL_law_330 : decode cL_law 330 = .ok (.iconst 1, 1) := by decide +kernel
theorem dL_law_331 : decode cL_law 331 = .ok (.iadd, 1) := by decide +kernel
theorem dL_law_332 : decode cL_law 332 = .ok (.iaload, 1) := by decide +kernel
theorem dL_law_333 : decode cL_law 333 = .ok (.invokevirtual 44, 3) := by decide +kernel
theorem dL_law_336 : decode cL_law 336 = .ok (.aload_n 2, 1) := by decide +kernel
theorem dL_law_337 : decode cL_law 337 = .ok (.aload_n 0, 1) := by decide +kernel
theorem dL_law_338 : decode cL_law 338 = .ok (.iload_n 3, 1) := by decide +kernel
theorem dL_law_339 : decode cL_law 339 = .ok (.iconst 1, 1) := by decide +kernel
theorem dL_law_340 : decode cL_law 340 = .ok (.iadd, 1) := by decide +kernel
theorem dL_law_341 : decode cL_law 341 = .ok (.iaload, 1) := by decide +kernel
theorem dL_law_342 : decode cL_law 342 = .ok (.invokevirtual 47, 3) := by decide +kernel
theorem dL_law_345 : decode cL_law 345 = .ok (.if_icmp .eq 507, 3) := by decide +kernel
theorem dL_law_348 : decode cL_law 348 = .ok (.iconst 0, 1) := by decide +kernel
theorem dL_law_349 : decode cL_law 349 = .ok (.ireturn, 1) := by decide +kernel
theorem dL_law_350 : decode cL_law 350 = .ok (.aload_n 1, 1) := by decide +kernel
theorem dL_law_351 : decode cL_law 351 = .ok (.aload_n 0, 1) := by decide +kernel
theorem dL_law_352 : decode cL_law 352 = .ok (.iload_n 3, 1) := by decide +kernel
theorem dL_law_353 : decode cL_law 353 = .ok (.iconst 1, 1) := by decide +kernel
theorem dL_law_354 : decode cL_law 354 = .ok (.iadd, 1) := by decide +kernel
theorem dL_law_355 : decode cL_law 355 = .ok (.iaload, 1) := by decide +kernel
theorem dL_law_356 : decode cL_law 356 = .ok (.invokevirtual 48, 3) := by decide +kernel
theorem dL_law_359 : decode cL_law 359 = .ok (.aload_n 2, 1) := by decide +kernel
theorem dL_law_360 : decode cL_law 360 = .ok (.aload_n 0, 1) := by decide +kernel
theorem dL_law_361 : decode cL_law 361 = .ok (.iload_n 3, 1) := by decide +kernel
theorem dL_law_362 : decode cL_law 362 = .ok (.iconst 1, 1) := by decide +kernel
theorem dL_law_363 : decode cL_law 363 = .ok (.iadd, 1) := by decide +kernel
theorem dL_law_364 : decode cL_law 364 = .ok (.iaload, 1) := by decide +kernel
theorem dL_law_365 : decode cL_law 365 = .ok (.invokevirtual 51, 3) := by decide +kernel
theorem dL_law_368 : decode cL_law 368 = .ok (.if_icmp .eq 484, 3) := by decide +kernel
theorem dL_law_371 : decode cL_law 371 = .ok (.iconst 0, 1) := by decide +kernel
theorem dL_law_372 : decode cL_law 372 = .ok (.ireturn, 1) := by decide +kernel
theorem dL_law_373 : decode cL_law 373 = .ok (.aload_n 1, 1) := by decide +kernel
theorem dL_law_374 : decode cL_law 374 = .ok (.aload_n 0, 1) := by decide +kernel
theorem dL_law_375 : decode cL_law 375 = .ok (.iload_n 3, 1) := by decide +kernel
theorem dL_law_376 : decode cL_law 376 = .ok (.iconst 1, 1) := by decide +kernel
theorem dL_law_377 : decode cL_law 377 = .ok (.iadd, 1) := by decide +kernel
theorem dL_law_378 : decode cL_law 378 = .ok (.iaload, 1) := by decide +kernel
theorem dL_law_379 : decode cL_law 379 = .ok (.aload_n 0, 1) := by decide +kernel
theorem dL_law_380 : decode cL_law 380 = .ok (.iload_n 3, 1) := by decide +kernel
theorem dL_law_381 : decode cL_law 381 = .ok (.iconst 2, 1) := by decide +kernel
theorem dL_law_382 : decode cL_law 382 = .ok (.iadd, 1) := by decide +kernel
theorem dL_law_383 : decode cL_law 383 = .ok (.iaload, 1) := by decide +kernel
theorem dL_law_384 : decode cL_law 384 = .ok (.invokevirtual 52, 3) := by decide +kernel
theorem dL_law_387 : decode cL_law 387 = .ok (.aload_n 2, 1) := by decide +kernel
theorem dL_law_388 : decode cL_law 388 = .ok (.aload_n 0, 1) := by decide +kernel
theorem dL_law_389 : decode cL_law 389 = .ok (.iload_n 3, 1) := by decide +kernel
theorem dL_law_390 : decode cL_law 390 = .ok (.iconst 1, 1) := by decide +kernel
theorem dL_law_391 : decode cL_law 391 = .ok (.iadd, 1) := by decide +kernel
theorem dL_law_392 : decode cL_law 392 = .ok (.iaload, 1) := by decide +kernel
theorem dL_law_393 : decode cL_law 393 = .ok (.aload_n 0, 1) := by decide +kernel
theorem dL_law_394 : decode cL_law 394 = .ok (.iload_n 3, 1) := by decide +kernel
theorem dL_law_395 : decode cL_law 395 = .ok (.iconst 2, 1) := by decide +kernel
theorem dL_law_396 : decode cL_law 396 = .ok (.iadd, 1) := by decide +kernel
theorem dL_law_397 : decode cL_law 397 = .ok (.iaload, 1) := by decide +kernel
theorem dL_law_398 : decode cL_law 398 = .ok (.invokevirtual 55, 3) := by decide +kernel
theorem dL_law_401 : decode cL_law 401 = .ok (.if_icmp .eq 451, 3) := by decide +kernel
theorem dL_law_404 : decode cL_law 404 = .ok (.iconst 0, 1) := by decide +kernel
theorem dL_law_405 : decode cL_law 405 = .ok (.ireturn, 1) := by decide +kernel
theorem dL_law_406 : decode cL_law 406 = .ok (.aload_n 1, 1) := by decide +kernel
theorem dL_law_407 : decode cL_law 407 = .ok (.aload_n 0, 1) := by decide +kernel
theorem dL_law_408 : decode cL_law 408 = .ok (.iload_n 3, 1) := by decide +kernel
theorem dL_law_409 : decode cL_law 409 = .ok (.iconst 1, 1) := by decide +kernel
theorem dL_law_410 : decode cL_law 410 = .ok (.iadd, 1) := by decide +kernel
theorem dL_law_411 : decode cL_law 411 = .ok (.iaload, 1) := by decide +kernel
theorem dL_law_412 : decode cL_law 412 = .ok (.invokevirtual 56, 3) := by decide +kernel
theorem dL_law_415 : decode cL_law 415 = .ok (.aload_n 2, 1) := by decide +kernel
theorem dL_law_416 : decode cL_law 416 = .ok (.aload_n 0, 1) := by decide +kernel
theorem dL_law_417 : decode cL_law 417 = .ok (.iload_n 3, 1) := by decide +kernel
theorem dL_law_418 : decode cL_law 418 = .ok (.iconst 1, 1) := by decide +kernel
theorem dL_law_419 : decode cL_law 419 = .ok (.iadd, 1) := by decide +kernel
theorem dL_law_420 : decode cL_law 420 = .ok (.iaload, 1) := by decide +kernel
theorem dL_law_421 : decode cL_law 421 = .ok (.invokevirtual 59, 3) := by decide +kernel
theorem dL_law_424 : decode cL_law 424 = .ok (.if_icmp .eq 428, 3) := by decide +kernel
theorem dL_law_427 : decode cL_law 427 = .ok (.iconst 0, 1) := by decide +kernel
theorem dL_law_428 : decode cL_law 428 = .ok (.ireturn, 1) := by decide +kernel
theorem dL_law_429 : decode cL_law 429 = .ok (.aload_n 1, 1) := by decide +kernel
theorem dL_law_430 : decode cL_law 430 = .ok (.invokevirtual 60, 3) := by decide +kernel
theorem dL_law_433 : decode cL_law 433 = .ok (.aload_n 2, 1) := by decide +kernel
theorem dL_law_434 : decode cL_law 434 = .ok (.invokevirtual 63, 3) := by decide +kernel
theorem dL_law_437 : decode cL_law 437 = .ok (.if_icmp .eq 415, 3) := by decide +kernel
theorem dL_law_440 : decode cL_law 440 = .ok (.iconst 0, 1) := by decide +kernel
theorem dL_law_441 : decode cL_law 441 = .ok (.ireturn, 1) := by decide +kernel
theorem dL_law_442 : decode cL_law 442 = .ok (.aload_n 1, 1) := by decide +kernel
theorem dL_law_443 : decode cL_law 443 = .ok (.invokevirtual 64, 3) := by decide +kernel
theorem dL_law_446 : decode cL_law 446 = .ok (.aload_n 2, 1) := by decide +kernel
theorem dL_law_447 : decode cL_law 447 = .ok (.invokevirtual 67, 3) := by decide +kernel
theorem dL_law_450 : decode cL_law 450 = .ok (.if_icmp .eq 402, 3) := by decide +kernel
theorem dL_law_453 : decode cL_law 453 = .ok (.iconst 0, 1) := by decide +kernel
theorem dL_law_454 : decode cL_law 454 = .ok (.ireturn, 1) := by decide +kernel
theorem dL_law_455 : decode cL_law 455 = .ok (.aload_n 1, 1) := by decide +kernel
theorem dL_law_456 : decode cL_law 456 = .ok (.aload_n 0, 1) := by decide +kernel
theorem dL_law_457 : decode cL_law 457 = .ok (.iload_n 3, 1) := by decide +kernel
theorem dL_law_458 : decode cL_law 458 = .ok (.iconst 1, 1) := by decide +kernel
theorem dL_law_459 : decode cL_law 459 = .ok (.iadd, 1) := by decide +kernel
theorem dL_law_460 : decode cL_law 460 = .ok (.iaload, 1) := by decide +kernel
theorem dL_law_461 : decode cL_law 461 = .ok (.invokevirtual 68, 3) := by decide +kernel
theorem dL_law_464 : decode cL_law 464 = .ok (.aload_n 2, 1) := by decide +kernel
theorem dL_law_465 : decode cL_law 465 = .ok (.aload_n 0, 1) := by decide +kernel
theorem dL_law_466 : decode cL_law 466 = .ok (.iload_n 3, 1) := by decide +kernel
theorem dL_law_467 : decode cL_law 467 = .ok (.iconst 1, 1) := by decide +kernel
theorem dL_law_468 : decode cL_law 468 = .ok (.iadd, 1) := by decide +kernel
theorem dL_law_469 : decode cL_law 469 = .ok (.iaload, 1) := by decide +kernel
theorem dL_law_470 : decode cL_law 470 = .ok (.invokevirtual 71, 3) := by decide +kernel
theorem dL_law_473 : decode cL_law 473 = .ok (.if_icmp .eq 379, 3) := by decide +kernel
theorem dL_law_476 : decode cL_law 476 = .ok (.iconst 0, 1) := by decide +kernel
theorem dL_law_477 : decode cL_law 477 = .ok (.ireturn, 1) := by decide +kernel
theorem dL_law_478 : decode cL_law 478 = .ok (.aload_n 1, 1) := by decide +kernel
theorem dL_law_479 : decode cL_law 479 = .ok (.aload_n 0, 1) := by decide +kernel
theorem dL_law_480 : decode cL_law 480 = .ok (.iload_n 3, 1) := by decide +kernel
theorem dL_law_481 : decode cL_law 481 = .ok (.iconst 1, 1) := by decide +kernel
theorem dL_law_482 : decode cL_law 482 = .ok (.iadd, 1) := by decide +kernel
theorem dL_law_483 : decode cL_law 483 = .ok (.iaload, 1) := by decide +kernel
theorem dL_law_484 : decode cL_law 484 = .ok (.aload_n 0, 1) := by decide +kernel
theorem dL_law_485 : decode cL_law 485 = .ok (.iload_n 3, 1) := by decide +kernel
theorem dL_law_486 : decode cL_law 486 = .ok (.iconst 2, 1) := by decide +kernel
theorem dL_law_487 : decode cL_law 487 = .ok (.iadd, 1) := by decide +kernel
theorem dL_law_488 : decode cL_law 488 = .ok (.iaload, 1) := by decide +kernel
theorem dL_law_489 : decode cL_law 489 = .ok (.invokevirtual 72, 3) := by decide +kernel
theorem dL_law_492 : decode cL_law 492 = .ok (.aload_n 2, 1) := by decide +kernel
theorem dL_law_493 : decode cL_law 493 = .ok (.aload_n 0, 1) := by decide +kernel
theorem dL_law_494 : decode cL_law 494 = .ok (.iload_n 3, 1) := by decide +kernel
theorem dL_law_495 : decode cL_law 495 = .ok (.iconst 1, 1) := by decide +kernel
theorem dL_law_496 : decode cL_law 496 = .ok (.iadd, 1) := by decide +kernel
theorem dL_law_497 : decode cL_law 497 = .ok (.iaload, 1) := by decide +kernel
theorem dL_law_498 : decode cL_law 498 = .ok (.aload_n 0, 1) := by decide +kernel
theorem dL_law_499 : decode cL_law 499 = .ok (.iload_n 3, 1) := by decide +kernel
theorem dL_law_500 : decode cL_law 500 = .ok (.iconst 2, 1) := by decide +kernel
theorem dL_law_501 : decode cL_law 501 = .ok (.iadd, 1) := by decide +kernel
theorem dL_law_502 : decode cL_law 502 = .ok (.iaload, 1) := by decide +kernel
theorem dL_law_503 : decode cL_law 503 = .ok (.invokevirtual 75, 3) := by decide +kernel
theorem dL_law_506 : decode cL_law 506 = .ok (.if_icmp .eq 346, 3) := by decide +kernel
theorem dL_law_509 : decode cL_law 509 = .ok (.iconst 0, 1) := by decide +kernel
theorem dL_law_510 : decode cL_law 510 = .ok (.ireturn, 1) := by decide +kernel
theorem dL_law_511 : decode cL_law 511 = .ok (.aload_n 1, 1) := by decide +kernel
theorem dL_law_512 : decode cL_law 512 = .ok (.aload_n 0, 1) := by decide +kernel
theorem dL_law_513 : decode cL_law 513 = .ok (.iload_n 3, 1) := by decide +kernel
theorem dL_law_514 : decode cL_law 514 = .ok (.iconst 1, 1) := by decide +kernel
theorem dL_law_515 : decode cL_law 515 = .ok (.iadd, 1) := by decide +kernel
theorem dL_law_516 : decode cL_law 516 = .ok (.iaload, 1) := by decide +kernel
theorem dL_law_517 : decode cL_law 517 = .ok (.aload_n 0, 1) := by decide +kernel
theorem dL_law_518 : decode cL_law 518 = .ok (.iload_n 3, 1) := by decide +kernel
theorem dL_law_519 : decode cL_law 519 = .ok (.iconst 2, 1) := by decide +kernel
theorem dL_law_520 : decode cL_law 520 = .ok (.iadd, 1) := by decide +kernel
theorem dL_law_521 : decode cL_law 521 = .ok (.iaload, 1) := by decide +kernel
theorem dL_law_522 : decode cL_law 522 = .ok (.invokevirtual 76, 3) := by decide +kernel
theorem dL_law_525 : decode cL_law 525 = .ok (.aload_n 2, 1) := by decide +kernel
theorem dL_law_526 : decode cL_law 526 = .ok (.aload_n 0, 1) := by decide +kernel
theorem dL_law_527 : decode cL_law 527 = .ok (.iload_n 3, 1) := by decide +kernel
theorem dL_law_528 : decode cL_law 528 = .ok (.iconst 1, 1) := by decide +kernel
theorem dL_law_529 : decode cL_law 529 = .ok (.iadd, 1) := by decide +kernel
theorem dL_law_530 : decode cL_law 530 = .ok (.iaload, 1) := by decide +kernel
theorem dL_law_531 : decode cL_law 531 = .ok (.aload_n 0, 1) := by decide +kernel
theorem dL_law_532 : decode cL_law 532 = .ok (.iload_n 3, 1) := by decide +kernel
theorem dL_law_533 : decode cL_law 533 = .ok (.iconst 2, 1) := by decide +kernel
theorem dL_law_534 : decode cL_law 534 = .ok (.iadd, 1) := by decide +kernel
theorem dL_law_535 : decode cL_law 535 = .ok (.iaload, 1) := by decide +kernel
theorem dL_law_536 : decode cL_law 536 = .ok (.invokevirtual 79, 3) := by decide +kernel
theorem dL_law_539 : decode cL_law 539 = .ok (.if_icmp .eq 313, 3) := by decide +kernel
theorem dL_law_542 : decode cL_law 542 = .ok (.iconst 0, 1) := by decide +kernel
theorem dL_law_543 : decode cL_law 543 = .ok (.ireturn, 1) := by decide +kernel
theorem dL_law_544 : decode cL_law 544 = .ok (.aload_n 1, 1) := by decide +kernel
theorem dL_law_545 : decode cL_law 545 = .ok (.aload_n 0, 1) := by decide +kernel
theorem dL_law_546 : decode cL_law 546 = .ok (.iload_n 3, 1) := by decide +kernel
theorem dL_law_547 : decode cL_law 547 = .ok (.iconst 1, 1) := by decide +kernel
theorem dL_law_548 : decode cL_law 548 = .ok (.iadd, 1) := by decide +kernel
theorem dL_law_549 : decode cL_law 549 = .ok (.iaload, 1) := by decide +kernel
theorem dL_law_550 : decode cL_law 550 = .ok (.invokevirtual 80, 3) := by decide +kernel
theorem dL_law_553 : decode cL_law 553 = .ok (.aload_n 2, 1) := by decide +kernel
theorem dL_law_554 : decode cL_law 554 = .ok (.aload_n 0, 1) := by decide +kernel
theorem dL_law_555 : decode cL_law 555 = .ok (.iload_n 3, 1) := by decide +kernel
theorem dL_law_556 : decode cL_law 556 = .ok (.iconst 1, 1) := by decide +kernel
theorem dL_law_557 : decode cL_law 557 = .ok (.iadd, 1) := by decide +kernel
theorem dL_law_558 : decode cL_law 558 = .ok (.iaload, 1) := by decide +kernel
theorem dL_law_559 : decode cL_law 559 = .ok (.invokevirtual 83, 3) := by decide +kernel
theorem dL_law_562 : decode cL_law 562 = .ok (.if_icmp .eq 290, 3) := by decide +kernel
theorem dL_law_565 : decode cL_law 565 = .ok (.iconst 0, 1) := by decide +kernel
theorem dL_law_566 : decode cL_law 566 = .ok (.ireturn, 1) := by decide +kernel
theorem dL_law_567 : decode cL_law 567 = .ok (.aload_n 1, 1) := by decide +kernel
theorem dL_law_568 : decode cL_law 568 = .ok (.invokevirtual 84, 3) := by decide +kernel
theorem dL_law_571 : decode cL_law 571 = .ok (.aload_n 2, 1) := by decide +kernel
theorem dL_law_572 : decode cL_law 572 = .ok (.invokevirtual 87, 3) := by decide +kernel
theorem dL_law_575 : decode cL_law 575 = .ok (.if_icmp .eq 277, 3) := by decide +kernel
theorem dL_law_578 : decode cL_law 578 = .ok (.iconst 0, 1) := by decide +kernel
theorem dL_law_579 : decode cL_law 579 = .ok (.ireturn, 1) := by decide +kernel
theorem dL_law_580 : decode cL_law 580 = .ok (.aload_n 1, 1) := by decide +kernel
theorem dL_law_581 : decode cL_law 581 = .ok (.aload_n 0, 1) := by decide +kernel
theorem dL_law_582 : decode cL_law 582 = .ok (.iload_n 3, 1) := by decide +kernel
theorem dL_law_583 : decode cL_law 583 = .ok (.iconst 1, 1) := by decide +kernel
theorem dL_law_584 : decode cL_law 584 = .ok (.iadd, 1) := by decide +kernel
theorem dL_law_585 : decode cL_law 585 = .ok (.iaload, 1) := by decide +kernel
theorem dL_law_586 : decode cL_law 586 = .ok (.aload_n 0, 1) := by decide +kernel
theorem dL_law_587 : decode cL_law 587 = .ok (.iload_n 3, 1) := by decide +kernel
theorem dL_law_588 : decode cL_law 588 = .ok (.iconst 2, 1) := by decide +kernel
theorem dL_law_589 : decode cL_law 589 = .ok (.iadd, 1) := by decide +kernel
theorem dL_law_590 : decode cL_law 590 = .ok (.iaload, 1) := by decide +kernel
theorem dL_law_591 : decode cL_law 591 = .ok (.invokevirtual 88, 3) := by decide +kernel
theorem dL_law_594 : decode cL_law 594 = .ok (.aload_n 2, 1) := by decide +kernel
theorem dL_law_595 : decode cL_law 595 = .ok (.aload_n 0, 1) := by decide +kernel
theorem dL_law_596 : decode cL_law 596 = .ok (.iload_n 3, 1) := by decide +kernel
theorem dL_law_597 : decode cL_law 597 = .ok (.iconst 1, 1) := by decide +kernel
theorem dL_law_598 : decode cL_law 598 = .ok (.iadd, 1) := by decide +kernel
theorem dL_law_599 : decode cL_law 599 = .ok (.iaload, 1) := by decide +kernel
theorem dL_law_600 : decode cL_law 600 = .ok (.aload_n 0, 1) := by decide +kernel
theorem dL_law_601 : decode cL_law 601 = .ok (.iload_n 3, 1) := by decide +kernel
theorem dL_law_602 : decode cL_law 602 = .ok (.iconst 2, 1) := by decide +kernel
theorem dL_law_603 : decode cL_law 603 = .ok (.iadd, 1) := by decide +kernel
theorem dL_law_604 : decode cL_law 604 = .ok (.iaload, 1) := by decide +kernel
theorem dL_law_605 : decode cL_law 605 = .ok (.invokevirtual 91, 3) := by decide +kernel
theorem dL_law_608 : decode cL_law 608 = .ok (.if_icmp .eq 244, 3) := by decide +kernel
theorem dL_law_611 : decode cL_law 611 = .ok (.iconst 0, 1) := by decide +kernel
theorem dL_law_612 : decode cL_law 612 = .ok (.ireturn, 1) := by decide +kernel
theorem dL_law_613 : decode cL_law 613 = .ok (.aload_n 1, 1) := by decide +kernel
theorem dL_law_614 : decode cL_law 614 = .ok (.aload_n 0, 1) := by decide +kernel
theorem dL_law_615 : decode cL_law 615 = .ok (.iload_n 3, 1) := by decide +kernel
theorem dL_law_616 : decode cL_law 616 = .ok (.iconst 1, 1) := by decide +kernel
theorem dL_law_617 : decode cL_law 617 = .ok (.iadd, 1) := by decide +kernel
theorem dL_law_618 : decode cL_law 618 = .ok (.iaload, 1) := by decide +kernel
theorem dL_law_619 : decode cL_law 619 = .ok (.invokevirtual 92, 3) := by decide +kernel
theorem dL_law_622 : decode cL_law 622 = .ok (.aload_n 2, 1) := by decide +kernel
theorem dL_law_623 : decode cL_law 623 = .ok (.aload_n 0, 1) := by decide +kernel
theorem dL_law_624 : decode cL_law 624 = .ok (.iload_n 3, 1) := by decide +kernel
theorem dL_law_625 : decode cL_law 625 = .ok (.iconst 1, 1) := by decide +kernel
theorem dL_law_626 : decode cL_law 626 = .ok (.iadd, 1) := by decide +kernel
theorem dL_law_627 : decode cL_law 627 = .ok (.iaload, 1) := by decide +kernel
theorem dL_law_628 : decode cL_law 628 = .ok (.invokevirtual 95, 3) := by decide +kernel
theorem dL_law_631 : decode cL_law 631 = .ok (.if_icmp .eq 221, 3) := by decide +kernel
theorem dL_law_634 : decode cL_law 634 = .ok (.iconst 0, 1) := by decide +kernel
theorem dL_law_635 : decode cL_law 635 = .ok (.ireturn, 1) := by decide +kernel
theorem dL_law_636 : decode cL_law 636 = .ok (.aload_n 1, 1) := by decide +kernel
theorem dL_law_637 : decode cL_law 637 = .ok (.invokevirtual 96, 3) := by decide +kernel
theorem dL_law_640 : decode cL_law 640 = .ok (.aload_n 2, 1) := by decide +kernel
theorem dL_law_641 : decode cL_law 641 = .ok (.invokevirtual 99, 3) := by decide +kernel
theorem dL_law_644 : decode cL_law 644 = .ok (.if_icmp .eq 208, 3) := by decide +kernel
theorem dL_law_647 : decode cL_law 647 = .ok (.iconst 0, 1) := by decide +kernel
theorem dL_law_648 : decode cL_law 648 = .ok (.ireturn, 1) := by decide +kernel
theorem dL_law_649 : decode cL_law 649 = .ok (.aload_n 1, 1) := by decide +kernel
theorem dL_law_650 : decode cL_law 650 = .ok (.aload_n 0, 1) := by decide +kernel
theorem dL_law_651 : decode cL_law 651 = .ok (.iload_n 3, 1) := by decide +kernel
theorem dL_law_652 : decode cL_law 652 = .ok (.iconst 1, 1) := by decide +kernel
theorem dL_law_653 : decode cL_law 653 = .ok (.iadd, 1) := by decide +kernel
theorem dL_law_654 : decode cL_law 654 = .ok (.iaload, 1) := by decide +kernel
theorem dL_law_655 : decode cL_law 655 = .ok (.aload_n 0, 1) := by decide +kernel
theorem dL_law_656 : decode cL_law 656 = .ok (.iload_n 3, 1) := by decide +kernel
theorem dL_law_657 : decode cL_law 657 = .ok (.iconst 2, 1) := by decide +kernel
theorem dL_law_658 : decode cL_law 658 = .ok (.iadd, 1) := by decide +kernel
theorem dL_law_659 : decode cL_law 659 = .ok (.iaload, 1) := by decide +kernel
theorem dL_law_660 : decode cL_law 660 = .ok (.invokevirtual 100, 3) := by decide +kernel
theorem dL_law_663 : decode cL_law 663 = .ok (.aload_n 2, 1) := by decide +kernel
theorem dL_law_664 : decode cL_law 664 = .ok (.aload_n 0, 1) := by decide +kernel
theorem dL_law_665 : decode cL_law 665 = .ok (.iload_n 3, 1) := by decide +kernel
theorem dL_law_666 : decode cL_law 666 = .ok (.iconst 1, 1) := by decide +kernel
theorem dL_law_667 : decode cL_law 667 = .ok (.iadd, 1) := by decide +kernel
theorem dL_law_668 : decode cL_law 668 = .ok (.iaload, 1) := by decide +kernel
theorem dL_law_669 : decode cL_law 669 = .ok (.aload_n 0, 1) := by decide +kernel
theorem dL_law_670 : decode cL_law 670 = .ok (.iload_n 3, 1) := by decide +kernel
theorem dL_law_671 : decode cL_law 671 = .ok (.iconst 2, 1) := by decide +kernel
theorem dL_law_672 : decode cL_law 672 = .ok (.iadd, 1) := by decide +kernel
theorem dL_law_673 : decode cL_law 673 = .ok (.iaload, 1) := by decide +kernel
theorem dL_law_674 : decode cL_law 674 = .ok (.invokevirtual 103, 3) := by decide +kernel
theorem dL_law_677 : decode cL_law 677 = .ok (.if_icmp .eq 175, 3) := by decide +kernel
theorem dL_law_680 : decode cL_law 680 = .ok (.iconst 0, 1) := by decide +kernel
theorem dL_law_681 : decode cL_law 681 = .ok (.ireturn, 1) := by decide +kernel
theorem dL_law_682 : decode cL_law 682 = .ok (.aload_n 1, 1) := by decide +kernel
theorem dL_law_683 : decode cL_law 683 = .ok (.aload_n 0, 1) := by decide +kernel
theorem dL_law_684 : decode cL_law 684 = .ok (.iload_n 3, 1) := by decide +kernel
theorem dL_law_685 : decode cL_law 685 = .ok (.iconst 1, 1) := by decide +kernel
theorem dL_law_686 : decode cL_law 686 = .ok (.iadd, 1) := by decide +kernel
theorem dL_law_687 : decode cL_law 687 = .ok (.iaload, 1) := by decide +kernel
theorem dL_law_688 : decode cL_law 688 = .ok (.invokevirtual 104, 3) := by decide +kernel
theorem dL_law_691 : decode cL_law 691 = .ok (.aload_n 2, 1) := by decide +kernel
theorem dL_law_692 : decode cL_law 692 = .ok (.aload_n 0, 1) := by decide +kernel
theorem dL_law_693 : decode cL_law 693 = .ok (.iload_n 3, 1) := by decide +kernel
theorem dL_law_694 : decode cL_law 694 = .ok (.iconst 1, 1) := by decide +kernel
theorem dL_law_695 : decode cL_law 695 = .ok (.iadd, 1) := by decide +kernel
theorem dL_law_696 : decode cL_law 696 = .ok (.iaload, 1) := by decide +kernel
theorem dL_law_697 : decode cL_law 697 = .ok (.invokevirtual 107, 3) := by decide +kernel
theorem dL_law_700 : decode cL_law 700 = .ok (.if_icmp .eq 152, 3) := by decide +kernel
theorem dL_law_703 : decode cL_law 703 = .ok (.iconst 0, 1) := by decide +kernel
theorem dL_law_704 : decode cL_law 704 = .ok (.ireturn, 1) := by decide +kernel
theorem dL_law_705 : decode cL_law 705 = .ok (.aload_n 1, 1) := by decide +kernel
theorem dL_law_706 : decode cL_law 706 = .ok (.aload_n 0, 1) := by decide +kernel
theorem dL_law_707 : decode cL_law 707 = .ok (.iload_n 3, 1) := by decide +kernel
theorem dL_law_708 : decode cL_law 708 = .ok (.iconst 1, 1) := by decide +kernel
theorem dL_law_709 : decode cL_law 709 = .ok (.iadd, 1) := by decide +kernel
theorem dL_law_710 : decode cL_law 710 = .ok (.iaload, 1) := by decide +kernel
theorem dL_law_711 : decode cL_law 711 = .ok (.invokevirtual 108, 3) := by decide +kernel
theorem dL_law_714 : decode cL_law 714 = .ok (.aload_n 2, 1) := by decide +kernel
theorem dL_law_715 : decode cL_law 715 = .ok (.aload_n 0, 1) := by decide +kernel
theorem dL_law_716 : decode cL_law 716 = .ok (.iload_n 3, 1) := by decide +kernel
theorem dL_law_717 : decode cL_law 717 = .ok (.iconst 1, 1) := by decide +kernel
theorem dL_law_718 : decode cL_law 718 = .ok (.iadd, 1) := by decide +kernel
theorem dL_law_719 : decode cL_law 719 = .ok (.iaload, 1) := by decide +kernel
theorem dL_law_720 : decode cL_law 720 = .ok (.invokevirtual 111, 3) := by decide +kernel
theorem dL_law_723 : decode cL_law 723 = .ok (.if_icmp .eq 129, 3) := by decide +kernel
theorem dL_law_726 : decode cL_law 726 = .ok (.iconst 0, 1) := by decide +kernel
theorem dL_law_727 : decode cL_law 727 = .ok (.ireturn, 1) := by decide +kernel
theorem dL_law_728 : decode cL_law 728 = .ok (.aload_n 1, 1) := by decide +kernel
theorem dL_law_729 : decode cL_law 729 = .ok (.invokevirtual 112, 3) := by decide +kernel
theorem dL_law_732 : decode cL_law 732 = .ok (.aload_n 2, 1) := by decide +kernel
theorem dL_law_733 : decode cL_law 733 = .ok (.invokevirtual 115, 3) := by decide +kernel
theorem dL_law_736 : decode cL_law 736 = .ok (.if_icmp .eq 116, 3) := by decide +kernel
theorem dL_law_739 : decode cL_law 739 = .ok (.iconst 0, 1) := by decide +kernel
theorem dL_law_740 : decode cL_law 740 = .ok (.ireturn, 1) := by decide +kernel
theorem dL_law_741 : decode cL_law 741 = .ok (.aload_n 1, 1) := by decide +kernel
theorem dL_law_742 : decode cL_law 742 = .ok (.aload_n 0, 1) := by decide +kernel
theorem dL_law_743 : decode cL_law 743 = .ok (.iload_n 3, 1) := by decide +kernel
theorem dL_law_744 : decode cL_law 744 = .ok (.iconst 1, 1) := by decide +kernel
theorem dL_law_745 : decode cL_law 745 = .ok (.iadd, 1) := by decide +kernel
theorem dL_law_746 : decode cL_law 746 = .ok (.iaload, 1) := by decide +kernel
theorem dL_law_747 : decode cL_law 747 = .ok (.invokevirtual 116, 3) := by decide +kernel
theorem dL_law_750 : decode cL_law 750 = .ok (.aload_n 2, 1) := by decide +kernel
theorem dL_law_751 : decode cL_law 751 = .ok (.aload_n 0, 1) := by decide +kernel
theorem dL_law_752 : decode cL_law 752 = .ok (.iload_n 3, 1) := by decide +kernel
theorem dL_law_753 : decode cL_law 753 = .ok (.iconst 1, 1) := by decide +kernel
theorem dL_law_754 : decode cL_law 754 = .ok (.iadd, 1) := by decide +kernel
theorem dL_law_755 : decode cL_law 755 = .ok (.iaload, 1) := by decide +kernel
theorem dL_law_756 : decode cL_law 756 = .ok (.invokevirtual 119, 3) := by decide +kernel
theorem dL_law_759 : decode cL_law 759 = .ok (.if_icmp .eq 93, 3) := by decide +kernel
theorem dL_law_762 : decode cL_law 762 = .ok (.iconst 0, 1) := by decide +kernel
theorem dL_law_763 : decode cL_law 763 = .ok (.ireturn, 1) := by decide +kernel
theorem dL_law_764 : decode cL_law 764 = .ok (.aload_n 1, 1) := by decide +kernel
theorem dL_law_765 : decode cL_law 765 = .ok (.aload_n 0, 1) := by decide +kernel
theorem dL_law_766 : decode cL_law 766 = .ok (.iload_n 3, 1) := by decide +kernel
theorem dL_law_767 : decode cL_law 767 = .ok (.iconst 1, 1) := by decide +kernel
theorem dL_law_768 : decode cL_law 768 = .ok (.iadd, 1) := by decide +kernel
theorem dL_law_769 : decode cL_law 769 = .ok (.iaload, 1) := by decide +kernel
theorem dL_law_770 : decode cL_law 770 = .ok (.invokevirtual 120, 3) := by decide +kernel
theorem dL_law_773 : decode cL_law 773 = .ok (.aload_n 2, 1) := by decide +kernel
theorem dL_law_774 : decode cL_law 774 = .ok (.aload_n 0, 1) := by decide +kernel
theorem dL_law_775 : decode cL_law 775 = .ok (.iload_n 3, 1) := by decide +kernel
theorem dL_law_776 : decode cL_law 776 = .ok (.iconst 1, 1) := by decide +kernel
theorem dL_law_777 : decode cL_law 777 = .ok (.iadd, 1) := by decide +kernel
theorem dL_law_778 : decode cL_law 778 = .ok (.iaload, 1) := by decide +kernel
theorem dL_law_779 : decode cL_law 779 = .ok (.invokevirtual 123, 3) := by decide +kernel
theorem dL_law_782 : decode cL_law 782 = .ok (.if_icmp .eq 70, 3) := by decide +kernel
theorem dL_law_785 : decode cL_law 785 = .ok (.iconst 0, 1) := by decide +kernel
theorem dL_law_786 : decode cL_law 786 = .ok (.ireturn, 1) := by decide +kernel
theorem dL_law_787 : decode cL_law 787 = .ok (.aload_n 1, 1) := by decide +kernel
theorem dL_law_788 : decode cL_law 788 = .ok (.invokevirtual 124, 3) := by decide +kernel
theorem dL_law_791 : decode cL_law 791 = .ok (.aload_n 2, 1) := by decide +kernel
theorem dL_law_792 : decode cL_law 792 = .ok (.invokevirtual 127, 3) := by decide +kernel
theorem dL_law_795 : decode cL_law 795 = .ok (.if_icmp .eq 57, 3) := by decide +kernel
theorem dL_law_798 : decode cL_law 798 = .ok (.iconst 0, 1) := by decide +kernel
theorem dL_law_799 : decode cL_law 799 = .ok (.ireturn, 1) := by decide +kernel
theorem dL_law_800 : decode cL_law 800 = .ok (.aload_n 1, 1) := by decide +kernel
theorem dL_law_801 : decode cL_law 801 = .ok (.invokevirtual 128, 3) := by decide +kernel
theorem dL_law_804 : decode cL_law 804 = .ok (.aload_n 2, 1) := by decide +kernel
theorem dL_law_805 : decode cL_law 805 = .ok (.invokevirtual 131, 3) := by decide +kernel
theorem dL_law_808 : decode cL_law 808 = .ok (.if_icmp .eq 44, 3) := by decide +kernel
theorem dL_law_811 : decode cL_law 811 = .ok (.iconst 0, 1) := by decide +kernel
theorem dL_law_812 : decode cL_law 812 = .ok (.ireturn, 1) := by decide +kernel
theorem dL_law_813 : decode cL_law 813 = .ok (.aload_n 1, 1) := by decide +kernel
theorem dL_law_814 : decode cL_law 814 = .ok (.invokevirtual 132, 3) := by decide +kernel
theorem dL_law_817 : decode cL_law 817 = .ok (.aload_n 2, 1) := by decide +kernel
theorem dL_law_818 : decode cL_law 818 = .ok (.invokevirtual 135, 3) := by decide +kernel
theorem dL_law_821 : decode cL_law 821 = .ok (.if_icmp .eq 31, 3) := by decide +kernel
theorem dL_law_824 : decode cL_law 824 = .ok (.iconst 0, 1) := by decide +kernel
theorem dL_law_825 : decode cL_law 825 = .ok (.ireturn, 1) := by decide +kernel
theorem dL_law_826 : decode cL_law 826 = .ok (.aload_n 1, 1) := by decide +kernel
theorem dL_law_827 : decode cL_law 827 = .ok (.invokevirtual 136, 3) := by decide +kernel
theorem dL_law_830 : decode cL_law 830 = .ok (.aload_n 2, 1) := by decide +kernel
theorem dL_law_831 : decode cL_law 831 = .ok (.invokevirtual 139, 3) := by decide +kernel
theorem dL_law_834 : decode cL_law 834 = .ok (.if_icmp .eq 18, 3) := by decide +kernel
theorem dL_law_837 : decode cL_law 837 = .ok (.iconst 0, 1) := by decide +kernel
theorem dL_law_838 : decode cL_law 838 = .ok (.ireturn, 1) := by decide +kernel
theorem dL_law_839 : decode cL_law 839 = .ok (.aload_n 1, 1) := by decide +kernel
theorem dL_law_840 : decode cL_law 840 = .ok (.invokevirtual 140, 3) := by decide +kernel
theorem dL_law_843 : decode cL_law 843 = .ok (.aload_n 2, 1) := by decide +kernel
theorem dL_law_844 : decode cL_law 844 = .ok (.invokevirtual 143, 3) := by decide +kernel
theorem dL_law_847 : decode cL_law 847 = .ok (.if_icmp .eq 5, 3) := by decide +kernel
theorem dL_law_850 : decode cL_law 850 = .ok (.iconst 0, 1) := by decide +kernel
theorem dL_law_851 : decode cL_law 851 = .ok (.ireturn, 1) := by decide +kernel
theorem dL_law_852 : decode cL_law 852 = .ok (.iinc 3 3, 3) := by decide +kernel
theorem dL_law_855 : decode cL_law 855 = .ok (.goto (-837), 3) := by decide +kernel
theorem dL_law_858 : decode cL_law 858 = .ok (.iconst 1, 1) := by decide +kernel
theorem dL_law_859 : decode cL_law 859 = .ok (.ireturn, 1) := by decide +kernel
end
section
/-! the abstract machine: a heap is a list of cells by place; references are places; rows for Ex, contracts Ok -/
abbrev qE : Type := (Nat × vp_A) ⊕ (Nat × List Value)
abbrev qH : Type := List qE
def q_v (ad : Nat → Nat) : Value → Value
  | .ref k => .ref (ad k)
  | v => v
theorem q_v_cat (ad : Nat → Nat) (v : Value) : (q_v ad v).category = v.category := by cases v <;> rfl
def q_c (ad : Nat → Nat) : vp_A → vp_A
  | (n, .inr (.inr (.inr (.inr f)))) => (n, .inr (.inr (.inr (.inr (fun j => (f j).map ad)))))
  | a => a
def q_e (ad : Nat → Nat) (cy : Nat → ClassId) : qE → va_E
  | .inl a => .inl (cy a.1, q_c ad a.2)
  | .inr o => .inr (o.1, o.2.map (q_v ad))
def q_w (ad : Nat → Nat) (cy : Nat → ClassId) (h : qH) : va_W := h.mapIdx (fun k e => (ad k, q_e ad cy e))
theorem q_w_get {ad : Nat → Nat} {cy : Nat → ClassId} {h : qH} {k : Nat} {e : qE} (hk : h[k]? = some e) : (q_w ad cy h)[k]? = some (ad k, q_e ad cy e) := by
  simp [q_w, hk]
theorem q_w_at {ad : Nat → Nat} {cy : Nat → ClassId} {h : qH} {k : Nat} {q : Nat × va_E} (hk : (q_w ad cy h)[k]? = some q) : q.1 = ad k ∧ k < h.length := by
  simp only [q_w, List.getElem?_mapIdx, Option.map_eq_some_iff] at hk
  obtain ⟨e, h1, h2⟩ := hk
  exact ⟨by rw [← h2], (List.getElem?_eq_some_iff.mp h1).1⟩
theorem q_w_set {ad : Nat → Nat} {cy : Nat → ClassId} {h : qH} {k : Nat} {e : qE} : (q_w ad cy h).set k (ad k, q_e ad cy e) = q_w ad cy (h.set k e) := by
  apply List.ext_getElem?
  intro i
  simp only [q_w, List.getElem?_set, List.getElem?_mapIdx, List.length_mapIdx]
  by_cases hi : k = i
  · subst hi
    by_cases hl : k < h.length <;> simp [hl]
  · simp [hi]
theorem q_w_D {ad : Nat → Nat} {cy : Nat → ClassId} {h h' : qH} {A : Nat → Prop} (hD : va_D A (q_w ad cy h)) (hl : h'.length = h.length) : va_D A (q_w ad cy h') := by
  have key : ∀ (k : Nat) (q : Nat × va_E), (q_w ad cy h')[k]? = some q → ∃ q2 : Nat × va_E, (q_w ad cy h)[k]? = some q2 ∧ q2.1 = q.1 := by
    intro k q hk
    obtain ⟨h1, h2⟩ := q_w_at hk
    rw [hl] at h2
    exact ⟨_, q_w_get (List.getElem?_eq_getElem h2), h1.symm⟩
  refine ⟨fun i j p q hi hj hpq => ?_, fun k q hk => ?_⟩
  · obtain ⟨p2, a1, a2⟩ := key i p hi
    obtain ⟨q2, b1, b2⟩ := key j q hj
    exact hD.1 i j p2 q2 a1 b1 (by rw [a2, b2, hpq])
  · obtain ⟨q2, b1, b2⟩ := key k q hk
    rw [← b2]
    exact hD.2 k q2 b1
def q_sc (j : Nat) : Int32 := ([1, 0, -1, 0, 1, -1, -1, 1, 1, 2, 2, 1, -1, -2, -2, -1] : List Int32).getD j 0
def q_sr (j : Nat) : Int32 := ([0, 1, 0, -1, 1, 1, -1, -1, 2, 1, -1, -2, -2, -1, 1, 2] : List Int32).getD j 0
def q_sl : List Nat := [8, 4]
def q_sb : List (List Int32) := [[46, 75, 81, 82, 66, 78, 35, 107], [32, 61, 43, 35]]
def q_Y (ad : Nat → Nat) (A : Nat → Prop) (U : State) (H : Heap) : Prop :=
  va_Z "MateKeys" "STEP_COLUMNS" "[I" (.ref (ad 1000)) A U H ∧ va_T .int (ad 1000) 16 (fun j => .int (q_sc j)) A U H ∧
  va_Z "MateKeys" "STEP_ROWS" "[I" (.ref (ad 1001)) A U H ∧ va_T .int (ad 1001) 16 (fun j => .int (q_sr j)) A U H ∧
  (vk_R "MateKeys$Line" 19 ".KQRBN#k" (ad 2000) U ∧ vk_R "MateKeys$Line" 34 " =+#" (ad 2001) U ∧ vk_R "MateKeys$Script" 61 ".KQRBN#k" (ad 2000) U ∧ vk_R "MateKeysModel" 175 ".KQRBN#k" (ad 2000) U) ∧
  vk_S 2 q_sl q_sb (fun i => ad (2000 + i)) (fun i => ad (2010 + i)) A U H ∧
  va_Z "java/lang/String" "COMPACT_STRINGS" "Z" (.int 1) A U H ∧
  (va_Z "jdk/internal/util/Preconditions" "SIOOBE_FORMATTER" "Ljava/util/function/BiFunction;" .null A U H ∨ va_Z "jdk/internal/util/Preconditions" "SIOOBE_FORMATTER" "Ljava/util/function/BiFunction;" (.ref (ad 2020)) A U H)
theorem q_Y.go {ad : Nat → Nat} {A B : Nat → Prop} {u U : State} {H H1 : Heap} (h : q_Y ad A u H) (hW : u.WarmedH U.vm) (hq : ∀ a : Nat, a < H.size → ¬ A a → H1[a]? = H[a]?) (hAB : ∀ q, B q → A q) : q_Y ad B U H1 := by
  obtain ⟨h1, h2, h3, h4, ⟨r1, r2, r3, r4⟩, h5, h6, h7⟩ := h
  exact ⟨((h1.moved hW.alike).kept hq).narrow hAB, ((h2.moved hW.alike).kept hq).narrow hAB, ((h3.moved hW.alike).kept hq).narrow hAB, ((h4.moved hW.alike).kept hq).narrow hAB, ⟨r1.warm hW, r2.warm hW, r3.warm hW, r4.warm hW⟩, ((h5.moved hW.alike).kept hq).narrow hAB, ((h6.moved hW.alike).kept hq).narrow hAB, h7.imp (fun z => ((z.moved hW.alike).kept hq).narrow hAB) (fun z => ((z.moved hW.alike).kept hq).narrow hAB)⟩
/-- the tables' words that a method may carry -/
def qT : List Cond := lw_tbl.filter goodWord
theorem qT_good {w : Cond} (h : w ∈ qT) : (w.onTables && w.keeps) = true ∨ ∃ ty, w = .arrayClass ty := good_of_word (List.mem_filter.mp h).2
theorem qT_in {w : Cond} (i : Nat) (h : lw_tbl[i]? = some w) (hg : goodWord w = true) : w ∈ qT := List.mem_filter.mpr ⟨List.mem_of_getElem? h, hg⟩
/-- the links across the nest -/
def q_isN : Cond → Bool
  | .fieldLinkNest .. => true
  | .methodLinkNest .. => true
  | _ => false
def qN : List Cond := lw_tbl.filter q_isN
theorem qN_in {w : Cond} (i : Nat) (h : lw_tbl[i]? = some w) (hg : q_isN w = true) : w ∈ qN := List.mem_filter.mpr ⟨List.mem_of_getElem? h, hg⟩
theorem qN_warm {w : Cond} (hw : q_isN w = true) {s U : State} (hW : s.WarmedH U.vm) (hZ : va_Nw w s) : va_Nw w U := by
  cases w <;> first | exact hZ.warmF hW | exact hZ.warmM hW | (simp [q_isN] at hw; done)
theorem qN_of {w : Cond} (hw : q_isN w = true) {a : Array Value} {s : State} (h : w.before a s = true) : va_Nw w s := by
  cases w <;> first | exact va_Nw.of rfl h | (simp [q_isN] at hw; done)
def q_G (ad : Nat → Nat) (cy : Nat → ClassId) (D : va_G) (A : Nat → Prop) (U : State) (H : Heap) : Prop :=
  va_K D vwCl [(cy 0, .int), (cy 1, .char), (cy 2, .object "MateKeys$Position")] U ∧ (∀ w ∈ qN, va_Nw w U) ∧ q_Y ad A U H
theorem q_G.go {ad : Nat → Nat} {cy : Nat → ClassId} {D : va_G} {A B : Nat → Prop} {u U : State} {H H1 : Heap} (h : q_G ad cy D A u H) (hW : u.WarmedH U.vm) (hq : ∀ a : Nat, a < H.size → ¬ A a → H1[a]? = H[a]?) (hAB : ∀ q, B q → A q) : q_G ad cy D B U H1 :=
  ⟨va_K.moved hW.alike h.1, fun w hw => qN_warm (List.mem_filter.mp hw).2 hW (h.2.1 w hw), h.2.2.go hW hq hAB⟩
/-- a method: its name, its code, its locals, its type, its room -/
abbrev qM : Type := MethodName × ByteArray × Nat × Option FieldType × Room
abbrev qws (M : qM) : List Cond := Cond.code M.1 M.2.1 M.2.2.1 M.2.2.2.1 :: qT
abbrev qX : Type := Program × Launch × Env × State × MethodId × Array Value × List Frame × Method × Code × (Nat → Nat) × (Nat → ClassId) × va_G × (Nat → Prop) × Nat × Nat × Nat × (State → Prop)
def Ex (X : qX) (M : qM) (pc : Nat) (loc : List (Nat × Value)) (st : List Value) (h : qH) : Prop :=
  match X with
  | (p, l, e, s, m, args, below, meth, c, ad, cy, D, A, cells, slots, len, Q) =>
    ∀ (H : Heap) (locs : List Loc) (ls : Array Slot), h.length = len → va_P D vwCl (q_w ad cy h) H → va_D A (q_w ad cy h) → va_S A s.heap H locs → lv_has ls M.2.2.1 (loc.map (fun q => (q.1, q_v ad q.2))) → W p l e M.2.2.2.2 s m args below meth c H locs cells slots Q (F0 m pc ls (st.map (q_v ad)))
def qC (X : qX) (M : qM) : Prop :=
  match X with
  | (p, l, e, s, m, args, below, meth, c, ad, cy, D, A, cells, slots, len, Q) =>
    p.tables.exec = Jvm.exec ∧ c.code = M.2.1 ∧ c.maxLocals = M.2.2.1 ∧ s.vm.findClass M.1.cls = some m.cls ∧ (∀ w ∈ qT, w.before args s = true) ∧ (∀ q, s.heap.size ≤ q → A q) ∧ q_G ad cy D A s s.heap ∧ cells ≤ M.2.2.2.2.cells ∧ slots ≤ M.2.2.2.2.slots
def q_B (ad : Nat → Nat) (cy : Nat → ClassId) (D : va_G) (h : qH) (sz : Nat) (U : State) : Prop :=
  U.heap.size = sz ∧ va_P D vwCl (q_w ad cy h) U.heap ∧ va_D (fun _ => True) (q_w ad cy h) ∧ q_G ad cy D (va_A (q_w ad cy h) sz) U U.heap
def q_Q (ad : Nat → Nat) (cy : Nat → ClassId) (D : va_G) (A1 : Nat → Prop) (r : Option Value) (h h' : qH) : Array Value → State → Outcome → State → Prop := fun _ st oc t =>
  (oc = .returned (r.map (q_v ad)) ∧ h'.length = h.length ∧ va_P D vwCl (q_w ad cy h') t.heap) ∧ va_F A1 st t
/-- the contract: with these arguments over this heap the method answers r and leaves h' -/
def Ok (M : qM) (args : List Value) (h : qH) (r : Option Value) (h' : qH) : Prop :=
  ∀ (l : Launch) (ad : Nat → Nat) (cy : Nat → ClassId) (D : va_G) (sz : Nat), Met l M.1 (qws M) M.2.2.2.2 (va_Pc (args.map (q_v ad)) (q_B ad cy D h sz)) (q_Q ad cy D (va_A (q_w ad cy h) sz) r h h') 0 0 (va_A (q_w ad cy h) sz)
/-- what a walk may end with -/
def qEnd (X : qX) (M : qM) (r : Option Value) (h' : qH) : Prop :=
  (∀ (pc : Nat) (loc : List (Nat × Value)) (v : Int32) (ty : FieldType), decode M.2.1 pc = .ok (.ireturn, 1) → M.2.2.2.1 = some ty → narrow ty (.int v) = .int v → r = some (.int v) → Ex X M pc loc [.int v] h') ∧
  (∀ (pc : Nat) (loc : List (Nat × Value)), decode M.2.1 pc = .ok (.return_, 1) → M.2.2.2.1 = none → r = none → Ex X M pc loc [] h') ∧
  (∀ (pc : Nat) (loc : List (Nat × Value)) (v : Value) (ty : FieldType), decode M.2.1 pc = .ok (.areturn, 1) → M.2.2.2.1 = some ty → ((∃ n, ty = .object n) ∨ ∃ t, ty = .array t) → (v = .null ∨ ∃ a, v = .ref a) → r = some v → Ex X M pc loc [v] h')
theorem q_args (ad : Nat → Nat) : ∀ (i : Nat) (vs : List Value), lv_args i (vs.map (q_v ad)) = (lv_args i vs).map (fun q => (q.1, q_v ad q.2))
  | _, [] => rfl
  | i, v :: vs => by simp only [List.map_cons, lv_args, q_v_cat, q_args ad _ vs]
theorem q_sl_len (ad : Nat → Nat) : ∀ (vs : List Value), (lg_sl (vs.map (q_v ad))).length = (lg_sl vs).length
  | [] => rfl
  | v :: vs => by
    have ih := q_sl_len ad vs
    simp only [lg_sl] at ih ⊢
    simp only [List.map_cons, List.flatMap_cons, List.length_append, q_v_cat, ih]
    split <;> rfl
theorem q_B.calling {ad : Nat → Nat} {cy : Nat → ClassId} {D : va_G} {h : qH} {sz : Nat} {U : State} {g : JFrame} {mk : MethodId} {a : Array Value} (q : q_B ad cy D h sz U) : q_B ad cy D h sz (U.calling g mk a) := by
  obtain ⟨q0, q1, q2, q3⟩ := q
  exact ⟨q0, q1, q2, q3.go (u := U) (U := U.calling g mk a) (State.WarmedH.refl U) (fun _ _ _ => rfl) (fun _ h => h)⟩
theorem ok_of {M : qM} {args : List Value} {h : qH} {r : Option Value} {h' : qH} (hy : plainName M.1.cls = true) (hcells : 0 ≤ M.2.2.2.2.cells) (hn : (lg_sl args).length ≤ M.2.2.1)
    (body : ∀ X : qX, qC X M → qEnd X M r h' → Ex X M 0 (lv_args 0 args) [] h) : Ok M args h r h' := by
  intro l ad cy D sz
  refine Met.ofW (cc := M.2.1) (maxL := M.2.2.1) (ret := M.2.2.2.1) hy rfl ?_
  intro p e s m args2 below meth c s₁ B hml hv
  obtain ⟨rfl, hsz, hP, hD0, hG⟩ := hv
  have hx := B.exec
  have hb := B.bytes
  have hr := B.returns
  have hts := atoms_spec (ws := qws M) B.pre
  have hown : s.vm.findClass M.1.cls = some m.cls := findClass_of_methodNamed B.named
  have hlocks := B.notSynchronized
  subst hsz
  have hD := hD0.self (sz := s.heap.size)
  have hS : va_S (va_A (q_w ad cy h) s.heap.size) s.heap s.heap [] := va_S.rf
  have hl := lv_entry (args.map (q_v ad)) (n := M.2.2.1) (by rw [q_sl_len]; exact hn)
  rw [q_args] at hl
  rw [lg_entry_eq]
  refine body (p, l, e, s, m, _, below, meth, c, ad, cy, D, va_A (q_w ad cy h) s.heap.size, 0, 0, h.length, _) ⟨hx, hb, hml, hown, fun w hw => hts w (List.mem_cons_of_mem _ hw), fun q hq => Or.inr hq, hG, Nat.zero_le _, Nat.zero_le _⟩ ⟨?_, ?_, ?_⟩ s.heap [] _ rfl hP hD hS hl
  · intro pc loc v ty hd hty hnar hrv H locs ls hlen hP hD hS hl
    exact W.zret hx hb (hr.trans hty) hnar (fun t ht hW => ⟨⟨by rw [hrv]; rfl, hlen, by rw [ht]; exact hP⟩, hS.F ht⟩) hS.2.2 hd hlocks
  · intro pc loc hd hty hrv H locs ls hlen hP hD hS hl
    exact W.vret hx hb (hr.trans hty) (fun t ht hW => ⟨⟨by rw [hrv]; rfl, hlen, by rw [ht]; exact hP⟩, hS.F ht⟩) hS.2.2 hd hlocks
  · intro pc loc v ty hd hty hrt hv hrv H locs ls hlen hP hD hS hl
    exact W.aret (v := q_v ad v) hx hb (hr.trans hty) hrt (hv.elim (fun e => Or.inl (by rw [e]; rfl)) (fun ⟨a, e⟩ => Or.inr ⟨ad a, by rw [e]; rfl⟩)) (fun t ht hW => ⟨⟨by rw [hrv]; rfl, hlen, by rw [ht]; exact hP⟩, hS.F ht⟩) hS.2.2 hd hlocks

theorem x_iconst {X : qX} {M : qM} (C : qC X M) {pc : Nat} {loc : List (Nat × Value)} {st : List Value} {h : qH} {n : Int} {v : Int32} (hd : decode M.2.1 pc = .ok (.iconst n, 1)) (hv : Int32.ofInt n = v) (kk : Ex X M (pc + 1) loc (.int v :: st) h) : Ex X M pc loc (st) h := by
  obtain ⟨p, l, e, s, m, args, below, meth, c, ad, cy, D, A, cells, slots, len, Q⟩ := X
  obtain ⟨hx, hb, hml, hown, hts, hA, hG, hce, hso⟩ := C
  intro H locs ls hlen hP hD hS hl
  exact lv_iconst hx hb hd hv (kk H locs ls hlen hP hD hS hl)
theorem x_bipush {X : qX} {M : qM} (C : qC X M) {pc : Nat} {loc : List (Nat × Value)} {st : List Value} {h : qH} {n : Int} {v : Int32} (hd : decode M.2.1 pc = .ok (.bipush n, 2)) (hv : (Int8.ofInt n).toInt32 = v) (kk : Ex X M (pc + 2) loc (.int v :: st) h) : Ex X M pc loc (st) h := by
  obtain ⟨p, l, e, s, m, args, below, meth, c, ad, cy, D, A, cells, slots, len, Q⟩ := X
  obtain ⟨hx, hb, hml, hown, hts, hA, hG, hce, hso⟩ := C
  intro H locs ls hlen hP hD hS hl
  exact lv_bipush hx hb hd hv (kk H locs ls hlen hP hD hS hl)
theorem x_sipush {X : qX} {M : qM} (C : qC X M) {pc : Nat} {loc : List (Nat × Value)} {st : List Value} {h : qH} {n : Int} {v : Int32} (hd : decode M.2.1 pc = .ok (.sipush n, 3)) (hv : (Int16.ofInt n).toInt32 = v) (kk : Ex X M (pc + 3) loc (.int v :: st) h) : Ex X M pc loc (st) h := by
  obtain ⟨p, l, e, s, m, args, below, meth, c, ad, cy, D, A, cells, slots, len, Q⟩ := X
  obtain ⟨hx, hb, hml, hown, hts, hA, hG, hce, hso⟩ := C
  intro H locs ls hlen hP hD hS hl
  exact lv_sipush hx hb hd hv (kk H locs ls hlen hP hD hS hl)
theorem x_ldc {X : qX} {M : qM} (C : qC X M) {pc : Nat} {loc : List (Nat × Value)} {st : List Value} {h : qH} {i : Nat} {v : Int32} (hd : decode M.2.1 pc = .ok (.ldc i, 2)) (hc : Cond.constant M.1.cls i v ∈ qT) (kk : Ex X M (pc + 2) loc (.int v :: st) h) : Ex X M pc loc (st) h := by
  obtain ⟨p, l, e, s, m, args, below, meth, c, ad, cy, D, A, cells, slots, len, Q⟩ := X
  obtain ⟨hx, hb, hml, hown, hts, hA, hG, hce, hso⟩ := C
  intro H locs ls hlen hP hD hS hl
  exact lv_ldc hx hb hown (hts _ hc) hd (kk H locs ls hlen hP hD hS hl)
theorem x_ldcw {X : qX} {M : qM} (C : qC X M) {pc : Nat} {loc : List (Nat × Value)} {st : List Value} {h : qH} {i : Nat} {v : Int32} (hd : decode M.2.1 pc = .ok (.ldc_w i, 3)) (hc : Cond.constant M.1.cls i v ∈ qT) (kk : Ex X M (pc + 3) loc (.int v :: st) h) : Ex X M pc loc (st) h := by
  obtain ⟨p, l, e, s, m, args, below, meth, c, ad, cy, D, A, cells, slots, len, Q⟩ := X
  obtain ⟨hx, hb, hml, hown, hts, hA, hG, hce, hso⟩ := C
  intro H locs ls hlen hP hD hS hl
  exact lv_ldcw hx hb hown (hts _ hc) hd (kk H locs ls hlen hP hD hS hl)
theorem x_iadd {X : qX} {M : qM} (C : qC X M) {pc : Nat} {loc : List (Nat × Value)} {st : List Value} {h : qH} {x y : Int32} (hd : decode M.2.1 pc = .ok (.iadd, 1))  (kk : Ex X M (pc + 1) loc (.int (x + y) :: st) h) : Ex X M pc loc (.int y :: .int x :: st) h := by
  obtain ⟨p, l, e, s, m, args, below, meth, c, ad, cy, D, A, cells, slots, len, Q⟩ := X
  obtain ⟨hx, hb, hml, hown, hts, hA, hG, hce, hso⟩ := C
  intro H locs ls hlen hP hD hS hl
  exact lv_iadd hx hb hd (kk H locs ls hlen hP hD hS hl)
theorem x_isub {X : qX} {M : qM} (C : qC X M) {pc : Nat} {loc : List (Nat × Value)} {st : List Value} {h : qH} {x y : Int32} (hd : decode M.2.1 pc = .ok (.isub, 1))  (kk : Ex X M (pc + 1) loc (.int (x - y) :: st) h) : Ex X M pc loc (.int y :: .int x :: st) h := by
  obtain ⟨p, l, e, s, m, args, below, meth, c, ad, cy, D, A, cells, slots, len, Q⟩ := X
  obtain ⟨hx, hb, hml, hown, hts, hA, hG, hce, hso⟩ := C
  intro H locs ls hlen hP hD hS hl
  exact lv_isub hx hb hd (kk H locs ls hlen hP hD hS hl)
theorem x_imul {X : qX} {M : qM} (C : qC X M) {pc : Nat} {loc : List (Nat × Value)} {st : List Value} {h : qH} {x y : Int32} (hd : decode M.2.1 pc = .ok (.imul, 1))  (kk : Ex X M (pc + 1) loc (.int (x * y) :: st) h) : Ex X M pc loc (.int y :: .int x :: st) h := by
  obtain ⟨p, l, e, s, m, args, below, meth, c, ad, cy, D, A, cells, slots, len, Q⟩ := X
  obtain ⟨hx, hb, hml, hown, hts, hA, hG, hce, hso⟩ := C
  intro H locs ls hlen hP hD hS hl
  exact lv_imul hx hb hd (kk H locs ls hlen hP hD hS hl)
theorem x_iand {X : qX} {M : qM} (C : qC X M) {pc : Nat} {loc : List (Nat × Value)} {st : List Value} {h : qH} {x y : Int32} (hd : decode M.2.1 pc = .ok (.iand, 1))  (kk : Ex X M (pc + 1) loc (.int (x &&& y) :: st) h) : Ex X M pc loc (.int y :: .int x :: st) h := by
  obtain ⟨p, l, e, s, m, args, below, meth, c, ad, cy, D, A, cells, slots, len, Q⟩ := X
  obtain ⟨hx, hb, hml, hown, hts, hA, hG, hce, hso⟩ := C
  intro H locs ls hlen hP hD hS hl
  exact lv_iand hx hb hd (kk H locs ls hlen hP hD hS hl)
theorem x_ior {X : qX} {M : qM} (C : qC X M) {pc : Nat} {loc : List (Nat × Value)} {st : List Value} {h : qH} {x y : Int32} (hd : decode M.2.1 pc = .ok (.ior, 1))  (kk : Ex X M (pc + 1) loc (.int (x ||| y) :: st) h) : Ex X M pc loc (.int y :: .int x :: st) h := by
  obtain ⟨p, l, e, s, m, args, below, meth, c, ad, cy, D, A, cells, slots, len, Q⟩ := X
  obtain ⟨hx, hb, hml, hown, hts, hA, hG, hce, hso⟩ := C
  intro H locs ls hlen hP hD hS hl
  exact lv_ior hx hb hd (kk H locs ls hlen hP hD hS hl)
theorem x_ixor {X : qX} {M : qM} (C : qC X M) {pc : Nat} {loc : List (Nat × Value)} {st : List Value} {h : qH} {x y : Int32} (hd : decode M.2.1 pc = .ok (.ixor, 1))  (kk : Ex X M (pc + 1) loc (.int (x ^^^ y) :: st) h) : Ex X M pc loc (.int y :: .int x :: st) h := by
  obtain ⟨p, l, e, s, m, args, below, meth, c, ad, cy, D, A, cells, slots, len, Q⟩ := X
  obtain ⟨hx, hb, hml, hown, hts, hA, hG, hce, hso⟩ := C
  intro H locs ls hlen hP hD hS hl
  exact lv_ixor hx hb hd (kk H locs ls hlen hP hD hS hl)
theorem x_ishl {X : qX} {M : qM} (C : qC X M) {pc : Nat} {loc : List (Nat × Value)} {st : List Value} {h : qH} {x y : Int32} (hd : decode M.2.1 pc = .ok (.ishl, 1))  (kk : Ex X M (pc + 1) loc (.int (x <<< (y &&& 31)) :: st) h) : Ex X M pc loc (.int y :: .int x :: st) h := by
  obtain ⟨p, l, e, s, m, args, below, meth, c, ad, cy, D, A, cells, slots, len, Q⟩ := X
  obtain ⟨hx, hb, hml, hown, hts, hA, hG, hce, hso⟩ := C
  intro H locs ls hlen hP hD hS hl
  exact lv_ishl hx hb hd (kk H locs ls hlen hP hD hS hl)
theorem x_ishr {X : qX} {M : qM} (C : qC X M) {pc : Nat} {loc : List (Nat × Value)} {st : List Value} {h : qH} {x y : Int32} (hd : decode M.2.1 pc = .ok (.ishr, 1))  (kk : Ex X M (pc + 1) loc (.int (x >>> (y &&& 31)) :: st) h) : Ex X M pc loc (.int y :: .int x :: st) h := by
  obtain ⟨p, l, e, s, m, args, below, meth, c, ad, cy, D, A, cells, slots, len, Q⟩ := X
  obtain ⟨hx, hb, hml, hown, hts, hA, hG, hce, hso⟩ := C
  intro H locs ls hlen hP hD hS hl
  exact lv_ishr hx hb hd (kk H locs ls hlen hP hD hS hl)
theorem x_ineg {X : qX} {M : qM} (C : qC X M) {pc : Nat} {loc : List (Nat × Value)} {st : List Value} {h : qH} {x : Int32} (hd : decode M.2.1 pc = .ok (.ineg, 1))  (kk : Ex X M (pc + 1) loc (.int (-x) :: st) h) : Ex X M pc loc (.int x :: st) h := by
  obtain ⟨p, l, e, s, m, args, below, meth, c, ad, cy, D, A, cells, slots, len, Q⟩ := X
  obtain ⟨hx, hb, hml, hown, hts, hA, hG, hce, hso⟩ := C
  intro H locs ls hlen hP hD hS hl
  exact lv_ineg hx hb hd (kk H locs ls hlen hP hD hS hl)
theorem x_idiv {X : qX} {M : qM} (C : qC X M) {pc : Nat} {loc : List (Nat × Value)} {st : List Value} {h : qH} {x y : Int32} (hd : decode M.2.1 pc = .ok (.idiv, 1)) (hne : ¬ y = 0) (kk : Ex X M (pc + 1) loc (.int (x / y) :: st) h) : Ex X M pc loc (.int y :: .int x :: st) h := by
  obtain ⟨p, l, e, s, m, args, below, meth, c, ad, cy, D, A, cells, slots, len, Q⟩ := X
  obtain ⟨hx, hb, hml, hown, hts, hA, hG, hce, hso⟩ := C
  intro H locs ls hlen hP hD hS hl
  exact lv_idiv hx hb hd hne (kk H locs ls hlen hP hD hS hl)
theorem x_irem {X : qX} {M : qM} (C : qC X M) {pc : Nat} {loc : List (Nat × Value)} {st : List Value} {h : qH} {x y : Int32} (hd : decode M.2.1 pc = .ok (.irem, 1)) (hne : ¬ y = 0) (kk : Ex X M (pc + 1) loc (.int (x - x / y * y) :: st) h) : Ex X M pc loc (.int y :: .int x :: st) h := by
  obtain ⟨p, l, e, s, m, args, below, meth, c, ad, cy, D, A, cells, slots, len, Q⟩ := X
  obtain ⟨hx, hb, hml, hown, hts, hA, hG, hce, hso⟩ := C
  intro H locs ls hlen hP hD hS hl
  exact lv_irem hx hb hd hne (kk H locs ls hlen hP hD hS hl)
theorem x_i2c {X : qX} {M : qM} (C : qC X M) {pc : Nat} {loc : List (Nat × Value)} {st : List Value} {h : qH} {x : Int32} (hd : decode M.2.1 pc = .ok (.i2c, 1))  (kk : Ex X M (pc + 1) loc (.int (x.toUInt32 % 65536).toInt32 :: st) h) : Ex X M pc loc (.int x :: st) h := by
  obtain ⟨p, l, e, s, m, args, below, meth, c, ad, cy, D, A, cells, slots, len, Q⟩ := X
  obtain ⟨hx, hb, hml, hown, hts, hA, hG, hce, hso⟩ := C
  intro H locs ls hlen hP hD hS hl
  exact lv_i2c hx hb hd rfl (kk H locs ls hlen hP hD hS hl)
theorem x_null {X : qX} {M : qM} (C : qC X M) {pc : Nat} {loc : List (Nat × Value)} {st : List Value} {h : qH}  (hd : decode M.2.1 pc = .ok (.aconst_null, 1))  (kk : Ex X M (pc + 1) loc (.null :: st) h) : Ex X M pc loc (st) h := by
  obtain ⟨p, l, e, s, m, args, below, meth, c, ad, cy, D, A, cells, slots, len, Q⟩ := X
  obtain ⟨hx, hb, hml, hown, hts, hA, hG, hce, hso⟩ := C
  intro H locs ls hlen hP hD hS hl
  exact lv_null hx hb hd (kk H locs ls hlen hP hD hS hl)
theorem x_dup {X : qX} {M : qM} (C : qC X M) {pc : Nat} {loc : List (Nat × Value)} {st : List Value} {h : qH} {v : Value} (hc : v.category = 1) (hd : decode M.2.1 pc = .ok (.dup, 1)) (kk : Ex X M (pc + 1) loc (v :: v :: st) h) : Ex X M pc loc (v :: st) h := by
  obtain ⟨p, l, e, s, m, args, below, meth, c, ad, cy, D, A, cells, slots, len, Q⟩ := X
  obtain ⟨hx, hb, hml, hown, hts, hA, hG, hce, hso⟩ := C
  intro H locs ls hlen hP hD hS hl
  exact lv_dup hx hb hd (by rw [q_v_cat]; exact hc) (kk H locs ls hlen hP hD hS hl)
theorem x_dup2 {X : qX} {M : qM} (C : qC X M) {pc : Nat} {loc : List (Nat × Value)} {st : List Value} {h : qH} {v u : Value} (hc : v.category = 1) (hc2 : u.category = 1) (hd : decode M.2.1 pc = .ok (.dup2, 1)) (kk : Ex X M (pc + 1) loc (v :: u :: v :: u :: st) h) : Ex X M pc loc (v :: u :: st) h := by
  obtain ⟨p, l, e, s, m, args, below, meth, c, ad, cy, D, A, cells, slots, len, Q⟩ := X
  obtain ⟨hx, hb, hml, hown, hts, hA, hG, hce, hso⟩ := C
  intro H locs ls hlen hP hD hS hl
  exact lv_dup2_11 hx hb hd (by rw [q_v_cat]; exact hc) (by rw [q_v_cat]; exact hc2) (kk H locs ls hlen hP hD hS hl)
theorem x_pop {X : qX} {M : qM} (C : qC X M) {pc : Nat} {loc : List (Nat × Value)} {st : List Value} {h : qH} {v : Value} (hc : v.category = 1) (hd : decode M.2.1 pc = .ok (.pop, 1)) (kk : Ex X M (pc + 1) loc st h) : Ex X M pc loc (v :: st) h := by
  obtain ⟨p, l, e, s, m, args, below, meth, c, ad, cy, D, A, cells, slots, len, Q⟩ := X
  obtain ⟨hx, hb, hml, hown, hts, hA, hG, hce, hso⟩ := C
  intro H locs ls hlen hP hD hS hl
  exact lv_pop hx hb hd (by rw [q_v_cat]; exact hc) (kk H locs ls hlen hP hD hS hl)
theorem q_lat {ls : Array Slot} {n : Nat} {loc : List (Nat × Value)} {ad : Nat → Nat} (hl : lv_has ls n (loc.map (fun q => (q.1, q_v ad q.2)))) {i : Nat} {v : Value} (hi : loc.lookup i = some v) : ls[i]? = some (.val (q_v ad v)) := by
  refine hl.2.2 (i, q_v ad v) (List.mem_map.mpr ⟨(i, v), ?_, rfl⟩)
  clear hl
  induction loc with
  | nil => simp at hi
  | cons a t ih =>
    obtain ⟨k, u⟩ := a
    simp only [List.lookup_cons] at hi
    by_cases hk : (i == k) = true
    · rw [hk] at hi
      simp only [Option.some.injEq] at hi
      have : i = k := by simpa using hk
      rw [this, hi]
      exact List.mem_cons_self
    · have hk' : (i == k) = false := by simpa using hk
      rw [hk'] at hi
      exact List.mem_cons_of_mem _ (ih hi)
/-- a local is set: those of category 1 alone are used -/
def q_set (loc : List (Nat × Value)) (i : Nat) (v : Value) : List (Nat × Value) := (i, v) :: loc.filter (fun q => !(q.1 == i) && !(q.1 + 1 == i && q.2.category == 2))
theorem q_set_map (ad : Nat → Nat) (loc : List (Nat × Value)) (i : Nat) (v : Value) : (i, q_v ad v) :: (loc.map (fun q => (q.1, q_v ad q.2))).filter (fun q => !(q.1 == i) && !(q.1 + 1 == i && q.2.category == 2)) = (q_set loc i v).map (fun q => (q.1, q_v ad q.2)) := by
  simp only [q_set, List.map_cons, List.filter_map]
  congr 2
  apply List.filter_congr
  intro a _
  simp only [Function.comp, q_v_cat]
theorem x_iload_n {X : qX} {M : qM} (C : qC X M) {pc : Nat} {loc : List (Nat × Value)} {st : List Value} {h : qH} {k : Fin 4} {x : Int32} (hd : decode M.2.1 pc = .ok (.iload_n k, 1)) (hi : loc.lookup (k : Nat) = some (.int x)) (kk : Ex X M (pc + 1) loc (.int x :: st) h) : Ex X M pc loc st h := by
  obtain ⟨p, l, e, s, m, args, below, meth, c, ad, cy, D, A, cells, slots, len, Q⟩ := X
  obtain ⟨hx, hb, hml, hown, hts, hA, hG, hce, hso⟩ := C
  intro H locs ls hlen hP hD hS hl
  exact lv_iload_n hx hb hd rfl (q_lat hl hi) (kk H locs ls hlen hP hD hS hl)
theorem x_iload {X : qX} {M : qM} (C : qC X M) {pc : Nat} {loc : List (Nat × Value)} {st : List Value} {h : qH} {i : Nat} {x : Int32} (hd : decode M.2.1 pc = .ok (.iload i, 2)) (hi : loc.lookup i = some (.int x)) (kk : Ex X M (pc + 2) loc (.int x :: st) h) : Ex X M pc loc st h := by
  obtain ⟨p, l, e, s, m, args, below, meth, c, ad, cy, D, A, cells, slots, len, Q⟩ := X
  obtain ⟨hx, hb, hml, hown, hts, hA, hG, hce, hso⟩ := C
  intro H locs ls hlen hP hD hS hl
  exact lv_iload hx hb hd  (q_lat hl hi) (kk H locs ls hlen hP hD hS hl)
theorem x_aload_n {X : qX} {M : qM} (C : qC X M) {pc : Nat} {loc : List (Nat × Value)} {st : List Value} {h : qH} {k : Fin 4} {x : Nat} (hd : decode M.2.1 pc = .ok (.aload_n k, 1)) (hi : loc.lookup (k : Nat) = some (.ref x)) (kk : Ex X M (pc + 1) loc (.ref x :: st) h) : Ex X M pc loc st h := by
  obtain ⟨p, l, e, s, m, args, below, meth, c, ad, cy, D, A, cells, slots, len, Q⟩ := X
  obtain ⟨hx, hb, hml, hown, hts, hA, hG, hce, hso⟩ := C
  intro H locs ls hlen hP hD hS hl
  exact lv_aload_n hx hb hd rfl (q_lat hl hi) (kk H locs ls hlen hP hD hS hl)
theorem x_aload {X : qX} {M : qM} (C : qC X M) {pc : Nat} {loc : List (Nat × Value)} {st : List Value} {h : qH} {i : Nat} {x : Nat} (hd : decode M.2.1 pc = .ok (.aload i, 2)) (hi : loc.lookup i = some (.ref x)) (kk : Ex X M (pc + 2) loc (.ref x :: st) h) : Ex X M pc loc st h := by
  obtain ⟨p, l, e, s, m, args, below, meth, c, ad, cy, D, A, cells, slots, len, Q⟩ := X
  obtain ⟨hx, hb, hml, hown, hts, hA, hG, hce, hso⟩ := C
  intro H locs ls hlen hP hD hS hl
  exact lv_aload hx hb hd  (q_lat hl hi) (kk H locs ls hlen hP hD hS hl)
theorem x_istore_n {X : qX} {M : qM} (C : qC X M) {pc : Nat} {loc : List (Nat × Value)} {st : List Value} {h : qH} {k : Fin 4} {x : Int32} (hd : decode M.2.1 pc = .ok (.istore_n k, 1)) (hn : (k : Nat) < M.2.2.1) (loc2 : List (Nat × Value)) (h2 : q_set loc (k : Nat) (.int x) = loc2) (kk : Ex X M (pc + 1) loc2 st h) : Ex X M pc loc (.int x :: st) h := by
  obtain ⟨p, l, e, s, m, args, below, meth, c, ad, cy, D, A, cells, slots, len, Q⟩ := X
  obtain ⟨hx, hb, hml, hown, hts, hA, hG, hce, hso⟩ := C
  intro H locs ls hlen hP hD hS hl
  subst h2
  exact lv_istore_n hx hb hd rfl hl hn (q_set_map ad loc (k : Nat) (.int x)) (fun ls hl => kk H locs ls hlen hP hD hS hl)
theorem x_istore {X : qX} {M : qM} (C : qC X M) {pc : Nat} {loc : List (Nat × Value)} {st : List Value} {h : qH} {i : Nat} {x : Int32} (hd : decode M.2.1 pc = .ok (.istore i, 2)) (hn : i < M.2.2.1) (loc2 : List (Nat × Value)) (h2 : q_set loc i (.int x) = loc2) (kk : Ex X M (pc + 2) loc2 st h) : Ex X M pc loc (.int x :: st) h := by
  obtain ⟨p, l, e, s, m, args, below, meth, c, ad, cy, D, A, cells, slots, len, Q⟩ := X
  obtain ⟨hx, hb, hml, hown, hts, hA, hG, hce, hso⟩ := C
  intro H locs ls hlen hP hD hS hl
  subst h2
  exact lv_istore hx hb hd  hl hn (q_set_map ad loc i (.int x)) (fun ls hl => kk H locs ls hlen hP hD hS hl)
theorem x_astore_n {X : qX} {M : qM} (C : qC X M) {pc : Nat} {loc : List (Nat × Value)} {st : List Value} {h : qH} {k : Fin 4} {x : Nat} (hd : decode M.2.1 pc = .ok (.astore_n k, 1)) (hn : (k : Nat) < M.2.2.1) (loc2 : List (Nat × Value)) (h2 : q_set loc (k : Nat) (.ref x) = loc2) (kk : Ex X M (pc + 1) loc2 st h) : Ex X M pc loc (.ref x :: st) h := by
  obtain ⟨p, l, e, s, m, args, below, meth, c, ad, cy, D, A, cells, slots, len, Q⟩ := X
  obtain ⟨hx, hb, hml, hown, hts, hA, hG, hce, hso⟩ := C
  intro H locs ls hlen hP hD hS hl
  subst h2
  exact lv_astore_n hx hb hd rfl hl hn (q_set_map ad loc (k : Nat) (.ref x)) (fun ls hl => kk H locs ls hlen hP hD hS hl)
theorem x_astore {X : qX} {M : qM} (C : qC X M) {pc : Nat} {loc : List (Nat × Value)} {st : List Value} {h : qH} {i : Nat} {x : Nat} (hd : decode M.2.1 pc = .ok (.astore i, 2)) (hn : i < M.2.2.1) (loc2 : List (Nat × Value)) (h2 : q_set loc i (.ref x) = loc2) (kk : Ex X M (pc + 2) loc2 st h) : Ex X M pc loc (.ref x :: st) h := by
  obtain ⟨p, l, e, s, m, args, below, meth, c, ad, cy, D, A, cells, slots, len, Q⟩ := X
  obtain ⟨hx, hb, hml, hown, hts, hA, hG, hce, hso⟩ := C
  intro H locs ls hlen hP hD hS hl
  subst h2
  exact lv_astore hx hb hd  hl hn (q_set_map ad loc i (.ref x)) (fun ls hl => kk H locs ls hlen hP hD hS hl)
theorem q_lget {loc : List (Nat × Value)} {i : Nat} {v : Value} : loc.lookup i = some v → ∃ k : Nat, loc[k]? = some (i, v) := by
  induction loc with
  | nil => intro hi; simp at hi
  | cons a t ih =>
    obtain ⟨k, u⟩ := a
    intro hi
    simp only [List.lookup_cons] at hi
    by_cases hk : (i == k) = true
    · rw [hk] at hi
      simp only [Option.some.injEq] at hi
      have : i = k := by simpa using hk
      exact ⟨0, by rw [this, hi]; rfl⟩
    · have hk' : (i == k) = false := by simpa using hk
      rw [hk'] at hi
      obtain ⟨j, hj⟩ := ih hi
      exact ⟨j + 1, hj⟩
theorem x_iinc {X : qX} {M : qM} (C : qC X M) {pc : Nat} {loc : List (Nat × Value)} {st : List Value} {h : qH} {i : Nat} {n : Int} {x : Int32} (v : Int32) (hd : decode M.2.1 pc = .ok (.iinc i n, 3)) (hi : loc.lookup i = some (.int x)) (hv : x + Int32.ofInt n = v) (hn : i < M.2.2.1) (loc2 : List (Nat × Value)) (h2 : q_set loc i (.int v) = loc2) (kk : Ex X M (pc + 3) loc2 st h) : Ex X M pc loc st h := by
  obtain ⟨p, l, e, s, m, args, below, meth, c, ad, cy, D, A, cells, slots, len, Q⟩ := X
  obtain ⟨hx, hb, hml, hown, hts, hA, hG, hce, hso⟩ := C
  intro H locs ls hlen hP hD hS hl
  subst h2
  obtain ⟨k, hk⟩ := q_lget hi
  exact lv_iinc (v := v) hx hb hd hl (k := k) (by rw [List.getElem?_map, hk]; rfl) hv hn (q_set_map ad loc i (.int v)) (fun ls hl => kk H locs ls hlen hP hD hS hl)
theorem x_if_eq {X : qX} {M : qM} (C : qC X M) {pc : Nat} {loc : List (Nat × Value)} {st : List Value} {h : qH} {x : Int32} {off : Int} (tgt : Nat) (hd : decode M.2.1 pc = .ok (.ifCond .eq off, 3)) (ht : (pc : Int) + off = (tgt : Int)) (kt : x = 0 → Ex X M tgt loc st h) (kf : ¬ x = 0 → Ex X M (pc + 3) loc st h) : Ex X M pc loc (.int x :: st) h := by
  obtain ⟨p, l, e, s, m, args, below, meth, c, ad, cy, D, A, cells, slots, len, Q⟩ := X
  obtain ⟨hx, hb, hml, hown, hts, hA, hG, hce, hso⟩ := C
  intro H locs ls hlen hP hD hS hl
  exact lv_if_eq hx hb hd ht (fun q => kt q H locs ls hlen hP hD hS hl) (fun q => kf q H locs ls hlen hP hD hS hl)
theorem x_if_ne {X : qX} {M : qM} (C : qC X M) {pc : Nat} {loc : List (Nat × Value)} {st : List Value} {h : qH} {x : Int32} {off : Int} (tgt : Nat) (hd : decode M.2.1 pc = .ok (.ifCond .ne off, 3)) (ht : (pc : Int) + off = (tgt : Int)) (kt : ¬ x = 0 → Ex X M tgt loc st h) (kf : x = 0 → Ex X M (pc + 3) loc st h) : Ex X M pc loc (.int x :: st) h := by
  obtain ⟨p, l, e, s, m, args, below, meth, c, ad, cy, D, A, cells, slots, len, Q⟩ := X
  obtain ⟨hx, hb, hml, hown, hts, hA, hG, hce, hso⟩ := C
  intro H locs ls hlen hP hD hS hl
  exact lv_if_ne hx hb hd ht (fun q => kt q H locs ls hlen hP hD hS hl) (fun q => kf q H locs ls hlen hP hD hS hl)
theorem x_if_lt {X : qX} {M : qM} (C : qC X M) {pc : Nat} {loc : List (Nat × Value)} {st : List Value} {h : qH} {x : Int32} {off : Int} (tgt : Nat) (hd : decode M.2.1 pc = .ok (.ifCond .lt off, 3)) (ht : (pc : Int) + off = (tgt : Int)) (kt : x < 0 → Ex X M tgt loc st h) (kf : ¬ x < 0 → Ex X M (pc + 3) loc st h) : Ex X M pc loc (.int x :: st) h := by
  obtain ⟨p, l, e, s, m, args, below, meth, c, ad, cy, D, A, cells, slots, len, Q⟩ := X
  obtain ⟨hx, hb, hml, hown, hts, hA, hG, hce, hso⟩ := C
  intro H locs ls hlen hP hD hS hl
  exact lv_if_lt hx hb hd ht (fun q => kt q H locs ls hlen hP hD hS hl) (fun q => kf q H locs ls hlen hP hD hS hl)
theorem x_if_ge {X : qX} {M : qM} (C : qC X M) {pc : Nat} {loc : List (Nat × Value)} {st : List Value} {h : qH} {x : Int32} {off : Int} (tgt : Nat) (hd : decode M.2.1 pc = .ok (.ifCond .ge off, 3)) (ht : (pc : Int) + off = (tgt : Int)) (kt : 0 ≤ x → Ex X M tgt loc st h) (kf : ¬ 0 ≤ x → Ex X M (pc + 3) loc st h) : Ex X M pc loc (.int x :: st) h := by
  obtain ⟨p, l, e, s, m, args, below, meth, c, ad, cy, D, A, cells, slots, len, Q⟩ := X
  obtain ⟨hx, hb, hml, hown, hts, hA, hG, hce, hso⟩ := C
  intro H locs ls hlen hP hD hS hl
  exact lv_if_ge hx hb hd ht (fun q => kt q H locs ls hlen hP hD hS hl) (fun q => kf q H locs ls hlen hP hD hS hl)
theorem x_if_gt {X : qX} {M : qM} (C : qC X M) {pc : Nat} {loc : List (Nat × Value)} {st : List Value} {h : qH} {x : Int32} {off : Int} (tgt : Nat) (hd : decode M.2.1 pc = .ok (.ifCond .gt off, 3)) (ht : (pc : Int) + off = (tgt : Int)) (kt : 0 < x → Ex X M tgt loc st h) (kf : ¬ 0 < x → Ex X M (pc + 3) loc st h) : Ex X M pc loc (.int x :: st) h := by
  obtain ⟨p, l, e, s, m, args, below, meth, c, ad, cy, D, A, cells, slots, len, Q⟩ := X
  obtain ⟨hx, hb, hml, hown, hts, hA, hG, hce, hso⟩ := C
  intro H locs ls hlen hP hD hS hl
  exact lv_if_gt hx hb hd ht (fun q => kt q H locs ls hlen hP hD hS hl) (fun q => kf q H locs ls hlen hP hD hS hl)
theorem x_if_le {X : qX} {M : qM} (C : qC X M) {pc : Nat} {loc : List (Nat × Value)} {st : List Value} {h : qH} {x : Int32} {off : Int} (tgt : Nat) (hd : decode M.2.1 pc = .ok (.ifCond .le off, 3)) (ht : (pc : Int) + off = (tgt : Int)) (kt : x ≤ 0 → Ex X M tgt loc st h) (kf : ¬ x ≤ 0 → Ex X M (pc + 3) loc st h) : Ex X M pc loc (.int x :: st) h := by
  obtain ⟨p, l, e, s, m, args, below, meth, c, ad, cy, D, A, cells, slots, len, Q⟩ := X
  obtain ⟨hx, hb, hml, hown, hts, hA, hG, hce, hso⟩ := C
  intro H locs ls hlen hP hD hS hl
  exact lv_if_le hx hb hd ht (fun q => kt q H locs ls hlen hP hD hS hl) (fun q => kf q H locs ls hlen hP hD hS hl)
theorem x_icmp_eq {X : qX} {M : qM} (C : qC X M) {pc : Nat} {loc : List (Nat × Value)} {st : List Value} {h : qH} {x y : Int32} {off : Int} (tgt : Nat) (hd : decode M.2.1 pc = .ok (.if_icmp .eq off, 3)) (ht : (pc : Int) + off = (tgt : Int)) (kt : x = y → Ex X M tgt loc st h) (kf : ¬ x = y → Ex X M (pc + 3) loc st h) : Ex X M pc loc (.int y :: .int x :: st) h := by
  obtain ⟨p, l, e, s, m, args, below, meth, c, ad, cy, D, A, cells, slots, len, Q⟩ := X
  obtain ⟨hx, hb, hml, hown, hts, hA, hG, hce, hso⟩ := C
  intro H locs ls hlen hP hD hS hl
  exact lv_icmp_eq hx hb hd ht (fun q => kt q H locs ls hlen hP hD hS hl) (fun q => kf q H locs ls hlen hP hD hS hl)
theorem x_icmp_ne {X : qX} {M : qM} (C : qC X M) {pc : Nat} {loc : List (Nat × Value)} {st : List Value} {h : qH} {x y : Int32} {off : Int} (tgt : Nat) (hd : decode M.2.1 pc = .ok (.if_icmp .ne off, 3)) (ht : (pc : Int) + off = (tgt : Int)) (kt : ¬ x = y → Ex X M tgt loc st h) (kf : x = y → Ex X M (pc + 3) loc st h) : Ex X M pc loc (.int y :: .int x :: st) h := by
  obtain ⟨p, l, e, s, m, args, below, meth, c, ad, cy, D, A, cells, slots, len, Q⟩ := X
  obtain ⟨hx, hb, hml, hown, hts, hA, hG, hce, hso⟩ := C
  intro H locs ls hlen hP hD hS hl
  exact lv_icmp_ne hx hb hd ht (fun q => kt q H locs ls hlen hP hD hS hl) (fun q => kf q H locs ls hlen hP hD hS hl)
theorem x_icmp_lt {X : qX} {M : qM} (C : qC X M) {pc : Nat} {loc : List (Nat × Value)} {st : List Value} {h : qH} {x y : Int32} {off : Int} (tgt : Nat) (hd : decode M.2.1 pc = .ok (.if_icmp .lt off, 3)) (ht : (pc : Int) + off = (tgt : Int)) (kt : x < y → Ex X M tgt loc st h) (kf : ¬ x < y → Ex X M (pc + 3) loc st h) : Ex X M pc loc (.int y :: .int x :: st) h := by
  obtain ⟨p, l, e, s, m, args, below, meth, c, ad, cy, D, A, cells, slots, len, Q⟩ := X
  obtain ⟨hx, hb, hml, hown, hts, hA, hG, hce, hso⟩ := C
  intro H locs ls hlen hP hD hS hl
  exact lv_icmp_lt hx hb hd ht (fun q => kt q H locs ls hlen hP hD hS hl) (fun q => kf q H locs ls hlen hP hD hS hl)
theorem x_icmp_ge {X : qX} {M : qM} (C : qC X M) {pc : Nat} {loc : List (Nat × Value)} {st : List Value} {h : qH} {x y : Int32} {off : Int} (tgt : Nat) (hd : decode M.2.1 pc = .ok (.if_icmp .ge off, 3)) (ht : (pc : Int) + off = (tgt : Int)) (kt : y ≤ x → Ex X M tgt loc st h) (kf : ¬ y ≤ x → Ex X M (pc + 3) loc st h) : Ex X M pc loc (.int y :: .int x :: st) h := by
  obtain ⟨p, l, e, s, m, args, below, meth, c, ad, cy, D, A, cells, slots, len, Q⟩ := X
  obtain ⟨hx, hb, hml, hown, hts, hA, hG, hce, hso⟩ := C
  intro H locs ls hlen hP hD hS hl
  exact lv_icmp_ge hx hb hd ht (fun q => kt q H locs ls hlen hP hD hS hl) (fun q => kf q H locs ls hlen hP hD hS hl)
theorem x_icmp_gt {X : qX} {M : qM} (C : qC X M) {pc : Nat} {loc : List (Nat × Value)} {st : List Value} {h : qH} {x y : Int32} {off : Int} (tgt : Nat) (hd : decode M.2.1 pc = .ok (.if_icmp .gt off, 3)) (ht : (pc : Int) + off = (tgt : Int)) (kt : y < x → Ex X M tgt loc st h) (kf : ¬ y < x → Ex X M (pc + 3) loc st h) : Ex X M pc loc (.int y :: .int x :: st) h := by
  obtain ⟨p, l, e, s, m, args, below, meth, c, ad, cy, D, A, cells, slots, len, Q⟩ := X
  obtain ⟨hx, hb, hml, hown, hts, hA, hG, hce, hso⟩ := C
  intro H locs ls hlen hP hD hS hl
  exact lv_icmp_gt hx hb hd ht (fun q => kt q H locs ls hlen hP hD hS hl) (fun q => kf q H locs ls hlen hP hD hS hl)
theorem x_icmp_le {X : qX} {M : qM} (C : qC X M) {pc : Nat} {loc : List (Nat × Value)} {st : List Value} {h : qH} {x y : Int32} {off : Int} (tgt : Nat) (hd : decode M.2.1 pc = .ok (.if_icmp .le off, 3)) (ht : (pc : Int) + off = (tgt : Int)) (kt : x ≤ y → Ex X M tgt loc st h) (kf : ¬ x ≤ y → Ex X M (pc + 3) loc st h) : Ex X M pc loc (.int y :: .int x :: st) h := by
  obtain ⟨p, l, e, s, m, args, below, meth, c, ad, cy, D, A, cells, slots, len, Q⟩ := X
  obtain ⟨hx, hb, hml, hown, hts, hA, hG, hce, hso⟩ := C
  intro H locs ls hlen hP hD hS hl
  exact lv_icmp_le hx hb hd ht (fun q => kt q H locs ls hlen hP hD hS hl) (fun q => kf q H locs ls hlen hP hD hS hl)
theorem x_goto {X : qX} {M : qM} (C : qC X M) {pc : Nat} {loc : List (Nat × Value)} {st : List Value} {h : qH} {off : Int} (tgt : Nat) (hd : decode M.2.1 pc = .ok (.goto off, 3)) (ht : (pc : Int) + off = (tgt : Int)) (kk : Ex X M tgt loc st h) : Ex X M pc loc st h := by
  obtain ⟨p, l, e, s, m, args, below, meth, c, ad, cy, D, A, cells, slots, len, Q⟩ := X
  obtain ⟨hx, hb, hml, hown, hts, hA, hG, hce, hso⟩ := C
  intro H locs ls hlen hP hD hS hl
  exact lv_goto hx hb hd ht (kk H locs ls hlen hP hD hS hl)
theorem x_ifnull {X : qX} {M : qM} (C : qC X M) {pc : Nat} {loc : List (Nat × Value)} {st : List Value} {h : qH} {b : Nat} {off : Int} (hd : decode M.2.1 pc = .ok (.ifnull off, 3)) (kk : Ex X M (pc + 3) loc st h) : Ex X M pc loc (.ref b :: st) h := by
  obtain ⟨p, l, e, s, m, args, below, meth, c, ad, cy, D, A, cells, slots, len, Q⟩ := X
  obtain ⟨hx, hb, hml, hown, hts, hA, hG, hce, hso⟩ := C
  intro H locs ls hlen hP hD hS hl
  exact lv_ifnull hx hb hd (kk H locs ls hlen hP hD hS hl)
theorem x_ifnullN {X : qX} {M : qM} (C : qC X M) {pc : Nat} {loc : List (Nat × Value)} {st : List Value} {h : qH} {off : Int} (tgt : Nat) (hd : decode M.2.1 pc = .ok (.ifnull off, 3)) (ht : (pc : Int) + off = (tgt : Int)) (kk : Ex X M tgt loc st h) : Ex X M pc loc (.null :: st) h := by
  obtain ⟨p, l, e, s, m, args, below, meth, c, ad, cy, D, A, cells, slots, len, Q⟩ := X
  obtain ⟨hx, hb, hml, hown, hts, hA, hG, hce, hso⟩ := C
  intro H locs ls hlen hP hD hS hl
  exact lv_ifnullN hx hb hd ht (kk H locs ls hlen hP hD hS hl)
theorem x_ifnonnull {X : qX} {M : qM} (C : qC X M) {pc : Nat} {loc : List (Nat × Value)} {st : List Value} {h : qH} {b : Nat} {off : Int} (tgt : Nat) (hd : decode M.2.1 pc = .ok (.ifnonnull off, 3)) (ht : (pc : Int) + off = (tgt : Int)) (kk : Ex X M tgt loc st h) : Ex X M pc loc (.ref b :: st) h := by
  obtain ⟨p, l, e, s, m, args, below, meth, c, ad, cy, D, A, cells, slots, len, Q⟩ := X
  obtain ⟨hx, hb, hml, hown, hts, hA, hG, hce, hso⟩ := C
  intro H locs ls hlen hP hD hS hl
  exact lv_ifnonnull hx hb hd ht (kk H locs ls hlen hP hD hS hl)
theorem x_ifnonnullN {X : qX} {M : qM} (C : qC X M) {pc : Nat} {loc : List (Nat × Value)} {st : List Value} {h : qH} {off : Int} (hd : decode M.2.1 pc = .ok (.ifnonnull off, 3)) (kk : Ex X M (pc + 3) loc st h) : Ex X M pc loc (.null :: st) h := by
  obtain ⟨p, l, e, s, m, args, below, meth, c, ad, cy, D, A, cells, slots, len, Q⟩ := X
  obtain ⟨hx, hb, hml, hown, hts, hA, hG, hce, hso⟩ := C
  intro H locs ls hlen hP hD hS hl
  exact lv_ifnonnullN hx hb hd (kk H locs ls hlen hP hD hS hl)
/-- a class of ours: its number, its name, its fields -/
def qCls (ci : Nat) (K : String) (T : u_T) (N : Nat) (ty : Nat → FieldType) : Prop :=
  vwCl[ci]? = some (K, T, N) ∧ (∀ w ∈ u_ws K T N, w ∈ qT) ∧ (∀ k, k < N → parseFieldDescriptor (T k).2.2.1 = some (ty k)) ∧ (∀ a, a < N → ∀ b, b < N → a ≠ b → (T a).2.1 ≠ (T b).2.1)
theorem x_getfield {X : qX} {M : qM} (C : qC X M) {pc : Nat} {loc : List (Nat × Value)} {st : List Value} {h : qH} {ci : Nat} {K : String} {T : u_T} {N : Nat} {ty : Nat → FieldType} (hK : qCls ci K T N ty) {idx b : Nat} {fs : List Value} {v : Value} (k : Nat) (hk : k < N) (hlk : Cond.fieldLink M.1.cls idx (T k).1 (T k).2.1 (T k).2.2.1 ∈ qT) (hd : decode M.2.1 pc = .ok (.getfield idx, 3)) (ho : h[b]? = some (.inr (ci, fs))) (hv : fs[k]? = some v) (kk : Ex X M (pc + 3) loc (v :: st) h) : Ex X M pc loc (.ref b :: st) h := by
  obtain ⟨p, l, e, s, m, args, below, meth, c, ad, cy, D, A, cells, slots, len, Q⟩ := X
  obtain ⟨hx, hb, hml, hown, hts, hA, hG, hce, hso⟩ := C
  intro H locs ls hlen hP hD hS hl
  exact va_get (D := D) (ci := ci) (v := q_v ad v) hx hb hts hK.2.1 hown hG.1 hP b (q_w_get ho) hK.1 k hk (hts _ hlk) (fun _ h9 => h9) (by rw [List.getElem?_map, hv]; rfl) hd (kk H locs ls hlen hP hD hS hl)
theorem x_putfield {X : qX} {M : qM} (C : qC X M) {pc : Nat} {loc : List (Nat × Value)} {st : List Value} {h : qH} {ci : Nat} {K : String} {T : u_T} {N : Nat} {ty : Nat → FieldType} (hK : qCls ci K T N ty) {idx b : Nat} {fs : List Value} {v : Int32} (k : Nat) (hk : k < N) (hlk : Cond.fieldLink M.1.cls idx (T k).1 (T k).2.1 (T k).2.2.1 ∈ qT) (hfin : (T k).2.2.2 = false) {ty0 : FieldType} (hpd : parseFieldDescriptor (T k).2.2.1 = some ty0) (hn : narrow ty0 (.int v) = .int v) (hfit : fits ty0 (.int v) = true) (hd : decode M.2.1 pc = .ok (.putfield idx, 3)) (ho : h[b]? = some (.inr (ci, fs))) (hf : k < fs.length) (kk : Ex X M (pc + 3) loc st (h.set b (.inr (ci, fs.set k (.int v))))) : Ex X M pc loc (.int v :: .ref b :: st) h := by
  obtain ⟨p, l, e, s, m, args, below, meth, c, ad, cy, D, A, cells, slots, len, Q⟩ := X
  obtain ⟨hx, hb, hml, hown, hts, hA, hG, hce, hso⟩ := C
  intro H locs ls hlen hP hD hS hl
  refine va_put (D := D) (ci := ci) (v := .int v) (ty := ty0) hx hb hts hK.2.1 ty hK.2.2.1 hK.2.2.2 hown hG.1 hP hD hS b (q_w_get ho) hK.1 k hk (hts _ hlk) (fun _ h9 => h9) hfin hpd hn hfit (by rw [List.length_map]; exact hf) hd (fun H1 locs1 hP1 hD1 hS1 => ?_)
  have e : (ad b, Sum.inr (ci, (fs.map (q_v ad)).set k (.int v))) = (ad b, q_e ad cy (.inr (ci, fs.set k (.int v)))) := by simp only [q_e, List.map_set]; rfl
  rw [e, q_w_set] at hP1 hD1
  exact kk H1 locs1 ls (by rw [List.length_set]; exact hlen) hP1 hD1 hS1 hl
theorem x_iaload {X : qX} {M : qM} (C : qC X M) {pc : Nat} {loc : List (Nat × Value)} {st : List Value} {h : qH} {a n : Nat} {i : Int32} {f : Nat → Int32} (hd : decode M.2.1 pc = .ok (.iaload, 1)) (ho : h[a]? = some (.inl (0, n, .inl f))) (hin : vp_in i n) (kk : Ex X M (pc + 1) loc (.int (f i.toNatClampNeg) :: st) h) : Ex X M pc loc (.int i :: .ref a :: st) h := by
  obtain ⟨p, l, e, s, m, args, below, meth, c, ad, cy, D, A, cells, slots, len, Q⟩ := X
  obtain ⟨hx, hb, hml, hown, hts, hA, hG, hce, hso⟩ := C
  intro H locs ls hlen hP hD hS hl
  exact va_iald hx hb hG.1 hP a 0 (q_w_get ho) rfl hin hd (kk H locs ls hlen hP hD hS hl)
theorem x_caload {X : qX} {M : qM} (C : qC X M) {pc : Nat} {loc : List (Nat × Value)} {st : List Value} {h : qH} {a n : Nat} {i : Int32} {f : Nat → Int32} (hd : decode M.2.1 pc = .ok (.caload, 1)) (ho : h[a]? = some (.inl (1, n, .inl f))) (hin : vp_in i n) (kk : Ex X M (pc + 1) loc (.int (f i.toNatClampNeg) :: st) h) : Ex X M pc loc (.int i :: .ref a :: st) h := by
  obtain ⟨p, l, e, s, m, args, below, meth, c, ad, cy, D, A, cells, slots, len, Q⟩ := X
  obtain ⟨hx, hb, hml, hown, hts, hA, hG, hce, hso⟩ := C
  intro H locs ls hlen hP hD hS hl
  exact va_cald hx hb hG.1 hP a 1 (q_w_get ho) rfl hin hd (kk H locs ls hlen hP hD hS hl)
theorem x_iastore {X : qX} {M : qM} (C : qC X M) {pc : Nat} {loc : List (Nat × Value)} {st : List Value} {h : qH} {a n : Nat} {i x : Int32} {f : Nat → Int32} (hd : decode M.2.1 pc = .ok (.iastore, 1)) (ho : h[a]? = some (.inl (0, n, .inl f))) (hin : vp_in i n) (kk : Ex X M (pc + 1) loc st (h.set a (.inl (0, n, .inl (upd f i.toNatClampNeg x))))) : Ex X M pc loc (.int x :: .int i :: .ref a :: st) h := by
  obtain ⟨p, l, e, s, m, args, below, meth, c, ad, cy, D, A, cells, slots, len, Q⟩ := X
  obtain ⟨hx, hb, hml, hown, hts, hA, hG, hce, hso⟩ := C
  intro H locs ls hlen hP hD hS hl
  refine va_iast hx hb hG.1 hP hD hS a 0 (q_w_get ho) rfl hin hd (fun H1 locs1 hP1 hD1 hS1 => ?_)
  have e : (ad a, (Sum.inl (cy 0, n, Sum.inl (upd f i.toNatClampNeg x)) : va_E)) = (ad a, q_e ad cy (.inl (0, n, .inl (upd f i.toNatClampNeg x)))) := rfl
  rw [e, q_w_set] at hP1 hD1
  exact kk H1 locs1 ls (by rw [List.length_set]; exact hlen) hP1 hD1 hS1 hl
theorem x_aaload {X : qX} {M : qM} (C : qC X M) {pc : Nat} {loc : List (Nat × Value)} {st : List Value} {h : qH} {a n : Nat} {i : Int32} {f : Nat → Option Nat} (hd : decode M.2.1 pc = .ok (.aaload, 1)) (ho : h[a]? = some (.inl (2, n, .inr (.inr (.inr (.inr f)))))) (hin : vp_in i n) (kk : Ex X M (pc + 1) loc (va_rf (f i.toNatClampNeg) :: st) h) : Ex X M pc loc (.int i :: .ref a :: st) h := by
  obtain ⟨p, l, e, s, m, args, below, meth, c, ad, cy, D, A, cells, slots, len, Q⟩ := X
  obtain ⟨hx, hb, hml, hown, hts, hA, hG, hce, hso⟩ := C
  intro H locs ls hlen hP hD hS hl
  refine va_aldq hx hb hG.1 hP a 2 (C := "MateKeys$Position") (q_w_get ho) rfl hin hd ?_
  have e : va_rf ((f i.toNatClampNeg).map ad) = q_v ad (va_rf (f i.toNatClampNeg)) := by cases f i.toNatClampNeg <;> rfl
  have k2 := kk H locs ls hlen hP hD hS hl
  rw [List.map_cons, ← e] at k2
  exact k2
theorem x_stepc {X : qX} {M : qM} (C : qC X M) {pc : Nat} {loc : List (Nat × Value)} {st : List Value} {h : qH} {idx : Nat} (hlk : Cond.fieldLinkNest M.1.cls idx "MateKeys" "STEP_COLUMNS" "[I" "MateKeys" ∈ qN) (hd : decode M.2.1 pc = .ok (.getstatic idx, 3)) (kk : Ex X M (pc + 3) loc (.ref 1000 :: st) h) : Ex X M pc loc st h := by
  obtain ⟨p, l, e, s, m, args, below, meth, c, ad, cy, D, A, cells, slots, len, Q⟩ := X
  obtain ⟨hx, hb, hml, hown, hts, hA, hG, hce, hso⟩ := C
  intro H locs ls hlen hP hD hS hl
  exact va_getsN hx hb hG.2.2.1 hS hown (va_Nw.use rfl (hG.2.1 _ hlk)) (fun _ h9 => h9) hd (kk H locs ls hlen hP hD hS hl)
theorem x_stepr {X : qX} {M : qM} (C : qC X M) {pc : Nat} {loc : List (Nat × Value)} {st : List Value} {h : qH} {idx : Nat} (hlk : Cond.fieldLinkNest M.1.cls idx "MateKeys" "STEP_ROWS" "[I" "MateKeys" ∈ qN) (hd : decode M.2.1 pc = .ok (.getstatic idx, 3)) (kk : Ex X M (pc + 3) loc (.ref 1001 :: st) h) : Ex X M pc loc st h := by
  obtain ⟨p, l, e, s, m, args, below, meth, c, ad, cy, D, A, cells, slots, len, Q⟩ := X
  obtain ⟨hx, hb, hml, hown, hts, hA, hG, hce, hso⟩ := C
  intro H locs ls hlen hP hD hS hl
  exact va_getsN hx hb hG.2.2.2.2.1 hS hown (va_Nw.use rfl (hG.2.1 _ hlk)) (fun _ h9 => h9) hd (kk H locs ls hlen hP hD hS hl)
theorem x_stepcld {X : qX} {M : qM} (C : qC X M) {pc : Nat} {loc : List (Nat × Value)} {st : List Value} {h : qH} {i : Int32} (hd : decode M.2.1 pc = .ok (.iaload, 1)) (hin : vp_in i 16) (kk : Ex X M (pc + 1) loc (.int (q_sc i.toNatClampNeg) :: st) h) : Ex X M pc loc (.int i :: .ref 1000 :: st) h := by
  obtain ⟨p, l, e, s, m, args, below, meth, c, ad, cy, D, A, cells, slots, len, Q⟩ := X
  obtain ⟨hx, hb, hml, hown, hts, hA, hG, hce, hso⟩ := C
  intro H locs ls hlen hP hD hS hl
  exact va_ti hx hb hG.2.2.2.1 hS hin rfl hd (kk H locs ls hlen hP hD hS hl)
theorem x_steprld {X : qX} {M : qM} (C : qC X M) {pc : Nat} {loc : List (Nat × Value)} {st : List Value} {h : qH} {i : Int32} (hd : decode M.2.1 pc = .ok (.iaload, 1)) (hin : vp_in i 16) (kk : Ex X M (pc + 1) loc (.int (q_sr i.toNatClampNeg) :: st) h) : Ex X M pc loc (.int i :: .ref 1001 :: st) h := by
  obtain ⟨p, l, e, s, m, args, below, meth, c, ad, cy, D, A, cells, slots, len, Q⟩ := X
  obtain ⟨hx, hb, hml, hown, hts, hA, hG, hce, hso⟩ := C
  intro H locs ls hlen hP hD hS hl
  exact va_ti hx hb hG.2.2.2.2.2.1 hS hin rfl hd (kk H locs ls hlen hP hD hS hl)
section QCALL
variable {p : Program} {l : Launch} {e : Env} {R : Room} {s : State} {m : MethodId} {args : Array Value} {below : List Frame} {meth : Method} {c : Code} {H : Heap} {locs : List Loc} {cells slots : Nat} {Q : State → Prop}
theorem q_call {pc : Nat} {ls : Array Slot} {rest st0 : List Value} {a : Array Value} {A0 A1 : Nat → Prop} {ad : Nat → Nat} {cy : Nat → ClassId} {D : va_G} {r : Option Value} {h h' : qH} (hr : va_Run p l e R s m args below meth c H locs cells slots 0 0 (F0 m pc ls st0) rest (q_Q ad cy D A1 r h h' a) A1) (hS : va_S A0 s.heap H locs) (hA : ∀ q, A1 q → A0 q)
    (kk : ∀ (H1 : Heap) (locs1 : List Loc), h'.length = h.length → va_P D vwCl (q_w ad cy h') H1 → va_S A0 s.heap H1 locs1 → W p l e R s m args below meth c H1 locs1 cells slots Q (F0 m (pc + 3) ls ((r.map (q_v ad)).toList ++ rest))) : W p l e R s m args below meth c H locs cells slots Q (F0 m pc ls st0) := by
  intro T hT X
  obtain ⟨v, st₀, t, T', L, h0, X', hL, e1, e2, ⟨⟨hv, hlen, hb⟩, hz, hk⟩, st⟩ := hr T hT X
  cases hv
  rw [h0] at hz hk
  obtain ⟨t2, a1, b1⟩ := kk T'.heap (locs ++ L) hlen (by rw [e1]; exact hb)
    ⟨Nat.le_trans hS.1 (by rw [e1]; exact hz), fun q h1 h2 => by rw [e1, hk q (Nat.lt_of_lt_of_le h1 hS.1) (fun z => h2 (hA q z))]; exact hS.2.1 q h1 h2, fun q hq => by
      rcases List.mem_append.mp hq with h | h
      · exact hS.2.2 q h
      · exact hA _ (hL q h)⟩ T' rfl X'
  exact ⟨t2, st t2 a1, b1⟩
end QCALL
/-- what the tables say of a method -/
def qIn (M : qM) : Prop := Cond.code M.1 M.2.1 M.2.2.1 M.2.2.2.1 ∈ qT ∧ Cond.initialized M.1.cls ∈ qT ∧ (M.1.cls ≠ "java/lang/invoke/MethodHandle" ∧ M.1.cls ≠ "java/lang/invoke/VarHandle") ∧ M.2.2.2.2.cells = 0 ∧ M.2.2.2.2.slots = 0
def qIs (M : qM) : Prop := Cond.instanceMethod M.1 ∈ qT ∧ Cond.selects M.1.cls M.1 M.1 ∈ qT
def qAr (M : qM) (n : Nat) : Prop := (parseMethodDescriptor M.1.desc).map (fun d => d.parameters.length) = some n
def qRm (M N : qM) : Prop := N.2.2.2.2.frames + 1 ≤ M.2.2.2.2.frames ∧ 8 + (N.2.2.1 + 11) + N.2.2.2.2.locals ≤ M.2.2.2.2.locals
theorem q_pay {s : State} {args : Array Value} (hts : ∀ w ∈ qT, w.before args s = true) {N : qM} (hI : qIn N) : ∀ w ∈ qws N, ∀ (a' : Array Value) (U : State), s.WarmedH U.vm → w.before a' U = true := by
  intro w hw a' U hW
  rcases List.mem_cons.mp hw with rfl | hw
  · exact word_at hW (qT_good hI.1) (hts _ hI.1)
  · exact word_at hW (qT_good hw) (hts _ hw)
theorem q_ar {N : qM} {n : Nat} (h : qAr N n) : ∀ sig, parseMethodDescriptor N.1.desc = some sig → n = sig.parameters.length := by
  intro sig hs
  have h2 := h
  unfold qAr at h2
  rw [hs] at h2
  exact (Option.some.inj h2).symm
theorem q_pre {ad : Nat → Nat} {cy : Nat → ClassId} {D : va_G} {A : Nat → Prop} {s : State} {H : Heap} {locs : List Loc} {h : qH} (hP : va_P D vwCl (q_w ad cy h) H) (hD : va_D A (q_w ad cy h)) (hS : va_S A s.heap H locs) (hA : ∀ q, s.heap.size ≤ q → A q) (hG : q_G ad cy D A s s.heap) : (∀ q, va_A (q_w ad cy h) H.size q → A q) ∧ ∀ U : State, U.heap = H → s.WarmedH U.vm → q_B ad cy D h H.size U := by
  have hF : ∀ q, va_A (q_w ad cy h) H.size q → A q := by
    intro q hq
    rcases hq with ⟨k, e, hk⟩ | hq
    · exact hD.2 k _ hk
    · exact hA q (Nat.le_trans hS.1 hq)
  refine ⟨hF, fun U hU hW => ⟨by rw [hU], by rw [hU]; exact hP, hD.weaken (fun _ _ _ _ => trivial), ?_⟩⟩
  exact hG.go hW (fun a ha hn => by rw [hU]; exact hS.2.1 a ha hn) hF
theorem q_map_rev (ad : Nat → Nat) (As st : List Value) (b : Nat) : (As.reverse ++ .ref b :: st).map (q_v ad) = (As.map (q_v ad)).reverse ++ .ref (ad b) :: st.map (q_v ad) := by
  simp [q_v]
theorem q_room {ad : Nat → Nat} {st : List Value} (h : (st.map fun v => v.category).sum ≤ 8) {m : MethodId} {pc : Nat} {ls : Array Slot} {st0 : List Value} : 2 * (F0 m pc ls st0).monitorRoom + ((st.map (q_v ad)).map fun v => v.category).sum ≤ 8 := by
  have e : (st.map (q_v ad)).map (fun v => v.category) = st.map (fun v => v.category) := by rw [List.map_map]; exact List.map_congr_left (fun v _ => q_v_cat ad v)
  rw [e]
  exact lv_room h
theorem x_callV {X : qX} {M : qM} (C : qC X M) {pc : Nat} {loc : List (Nat × Value)} {st : List Value} {h : qH} {idx b : Nat} {N : qM} {As : List Value} {r : Option Value} {h' : qH} {ci : Nat} {fs : List Value} (hok : Ok N (.ref b :: As) h r h') (hlk : Cond.methodLink M.1.cls idx N.1 ∈ qT) (hI : qIn N) (hs : qIs N) (har : qAr N As.length) (hrm : qRm M N) (hw : (st.map fun v => v.category).sum ≤ 8) (ho : h[b]? = some (.inr (ci, fs))) {T : u_T} {n : Nat} (hc : vwCl[ci]? = some (N.1.cls, T, n)) (hd : decode M.2.1 pc = .ok (.invokevirtual idx, 3)) (kk : Ex X M (pc + 3) loc (r.toList ++ st) h') : Ex X M pc loc (As.reverse ++ .ref b :: st) h := by
  obtain ⟨p, l, e, s, m, args, below, meth, c, ad, cy, D, A, cells, slots, len, Q⟩ := X
  obtain ⟨hx, hb, hml, hown, hts, hA, hG, hce, hso⟩ := C
  intro H locs ls hlen hP hD hS hl
  obtain ⟨hF, hB⟩ := q_pre hP hD hS hA hG
  have hcw : CallW M.2.2.2.2 s args M.1.cls N.1.cls idx N.1 N.2.1 N.2.2.1 N.2.2.2.1 (qws N) N.2.2.2.2 0 0 As.length := ⟨⟨hI.2.2.2.1, hI.2.2.2.2, hrm.1, hrm.2, q_pay hts hI, List.mem_cons_self, hts _ hI.1, hts _ hI.2.1, hI.2.2.1, q_ar har, hts _ hlk⟩, hts _ hs.1, hts _ hs.2⟩
  rw [q_map_rev]
  refine q_call (va_runV (As := As.map (q_v ad)) (rest := st.map (q_v ad)) ⟨hx, hb, hml, hown, hts⟩ (hok l ad cy D H.size) hcw ⟨fun a U g mk q => ⟨q.1, q.2.calling⟩, va_recv hG.1 hP hc (q_w_get ho), fun U hU hW => ⟨rfl, hB U hU hW⟩⟩ rfl (List.length_map ..) hl.1 rfl (q_room hw) hd ⟨hce, hso⟩) hS hF (fun H1 locs1 hlen1 hP1 hS1 => ?_)
  have k2 := kk H1 locs1 ls (hlen1.trans hlen) hP1 (q_w_D hD hlen1) hS1 hl
  cases r <;> exact k2
theorem x_callS {X : qX} {M : qM} (C : qC X M) {pc : Nat} {loc : List (Nat × Value)} {st : List Value} {h : qH} {idx : Nat} {N : qM} {As : List Value} {r : Option Value} {h' : qH} (hok : Ok N As h r h') (hlk : Cond.methodLink M.1.cls idx N.1 ∈ qT) (hI : qIn N) (hs : Cond.static N.1 ∈ qT) (har : qAr N As.length) (hrm : qRm M N) (hw : (st.map fun v => v.category).sum ≤ 8) (hd : decode M.2.1 pc = .ok (.invokestatic idx, 3)) (kk : Ex X M (pc + 3) loc (r.toList ++ st) h') : Ex X M pc loc (As.reverse ++ st) h := by
  obtain ⟨p, l, e, s, m, args, below, meth, c, ad, cy, D, A, cells, slots, len, Q⟩ := X
  obtain ⟨hx, hb, hml, hown, hts, hA, hG, hce, hso⟩ := C
  intro H locs ls hlen hP hD hS hl
  obtain ⟨hF, hB⟩ := q_pre hP hD hS hA hG
  have hcw : CallB M.2.2.2.2 s args M.1.cls idx N.1 N.2.1 N.2.2.1 N.2.2.2.1 (qws N) N.2.2.2.2 0 0 As.length ∧ (Cond.static N.1).before args s = true := ⟨⟨hI.2.2.2.1, hI.2.2.2.2, hrm.1, hrm.2, q_pay hts hI, List.mem_cons_self, hts _ hI.1, hts _ hI.2.1, hI.2.2.1, q_ar har, hts _ hlk⟩, hts _ hs⟩
  rw [show (As.reverse ++ st).map (q_v ad) = (As.map (q_v ad)).reverse ++ st.map (q_v ad) by simp]
  refine q_call (va_runS (As := As.map (q_v ad)) (rest := st.map (q_v ad)) ⟨hx, hb, hml, hown, hts⟩ (hok l ad cy D H.size) hcw ⟨fun a U g mk q => ⟨q.1, q.2.calling⟩, fun U hU hW => ⟨rfl, hB U hU hW⟩⟩ rfl (List.length_map ..) hl.1 rfl (q_room hw) hd ⟨hce, hso⟩) hS hF (fun H1 locs1 hlen1 hP1 hS1 => ?_)
  have k2 := kk H1 locs1 ls (hlen1.trans hlen) hP1 (q_w_D hD hlen1) hS1 hl
  cases r <;> exact k2
theorem x_callN {X : qX} {M : qM} (C : qC X M) {pc : Nat} {loc : List (Nat × Value)} {st : List Value} {h : qH} {idx : Nat} {N : qM} {As : List Value} {r : Option Value} {h' : qH} {host : String} (hok : Ok N As h r h') (hlk : Cond.methodLinkNest M.1.cls idx N.1 host ∈ qN) (hI : qIn N) (hs : Cond.static N.1 ∈ qT) (har : qAr N As.length) (hrm : qRm M N) (hw : (st.map fun v => v.category).sum ≤ 8) (hd : decode M.2.1 pc = .ok (.invokestatic idx, 3)) (kk : Ex X M (pc + 3) loc (r.toList ++ st) h') : Ex X M pc loc (As.reverse ++ st) h := by
  obtain ⟨p, l, e, s, m, args, below, meth, c, ad, cy, D, A, cells, slots, len, Q⟩ := X
  obtain ⟨hx, hb, hml, hown, hts, hA, hG, hce, hso⟩ := C
  intro H locs ls hlen hP hD hS hl
  obtain ⟨hF, hB⟩ := q_pre hP hD hS hA hG
  have hcw : va_CN M.2.2.2.2 s args M.1.cls idx N.1 host N.2.1 N.2.2.1 N.2.2.2.1 (qws N) N.2.2.2.2 0 0 As.length ∧ (Cond.static N.1).before args s = true ∧ True := ⟨⟨⟨hI.2.2.2.1, hI.2.2.2.2, hrm.1, hrm.2, q_pay hts hI, List.mem_cons_self⟩, hts _ hI.1, hts _ hI.2.1, hI.2.2.1, q_ar har, va_Nw.use rfl (hG.2.1 _ hlk)⟩, hts _ hs, trivial⟩
  rw [show (As.reverse ++ st).map (q_v ad) = (As.map (q_v ad)).reverse ++ st.map (q_v ad) by simp]
  refine q_call (va_runSN (As := As.map (q_v ad)) (rest := st.map (q_v ad)) ⟨hx, hb, hml, hown, hts⟩ (hok l ad cy D H.size) hcw ⟨fun a U g mk q => ⟨q.1, q.2.calling⟩, fun U hU hW => ⟨rfl, hB U hU hW⟩⟩ rfl (List.length_map ..) hl.1 rfl (q_room hw) hd ⟨hce, hso⟩) hS hF (fun H1 locs1 hlen1 hP1 hS1 => ?_)
  have k2 := kk H1 locs1 ls (hlen1.trans hlen) hP1 (q_w_D hD hlen1) hS1 hl
  cases r <;> exact k2
/-- the locals, fewer or in another order -/
theorem x_loc {X : qX} {M : qM} {pc : Nat} {loc : List (Nat × Value)} (loc2 : List (Nat × Value)) {st : List Value} {h : qH} (hs : ∀ q ∈ loc2, q ∈ loc) (kk : Ex X M pc loc2 st h) : Ex X M pc loc st h := by
  obtain ⟨p, l, e, s, m, args, below, meth, c, ad, cy, D, A, cells, slots, len, Q⟩ := X
  intro H locs ls hlen hP hD hS hl
  refine kk H locs ls hlen hP hD hS ⟨hl.1, hl.2.1, fun q hq => ?_⟩
  obtain ⟨z, hz, rfl⟩ := List.mem_map.mp hq
  exact hl.2.2 _ (List.mem_map.mpr ⟨z, hs z hz, rfl⟩)
theorem x_iret {X : qX} {M : qM} {pc : Nat} {loc : List (Nat × Value)} {h h' : qH} {v : Int32} {r : Option Value} (E : qEnd X M r h') (ty : FieldType) (hd : decode M.2.1 pc = .ok (.ireturn, 1)) (hty : M.2.2.2.1 = some ty) (hn : narrow ty (.int v) = .int v) (hr : r = some (.int v)) (hh : h = h') : Ex X M pc loc [.int v] h := by
  subst hh
  exact E.1 pc loc v ty hd hty hn hr
theorem x_vret {X : qX} {M : qM} {pc : Nat} {loc : List (Nat × Value)} {h h' : qH} {r : Option Value} (E : qEnd X M r h') (hd : decode M.2.1 pc = .ok (.return_, 1)) (hty : M.2.2.2.1 = none) (hr : r = none) (hh : h = h') : Ex X M pc loc [] h := by
  subst hh
  exact E.2.1 pc loc hd hty hr
theorem x_aret {X : qX} {M : qM} {pc : Nat} {loc : List (Nat × Value)} {h h' : qH} {v : Value} {r : Option Value} (E : qEnd X M r h') (ty : FieldType) (hd : decode M.2.1 pc = .ok (.areturn, 1)) (hty : M.2.2.2.1 = some ty) (hrt : (∃ n, ty = .object n) ∨ ∃ t, ty = .array t) (hv : v = .null ∨ ∃ a, v = .ref a) (hr : r = some v) (hh : h = h') : Ex X M pc loc [v] h := by
  subst hh
  exact E.2.2 pc loc v ty hd hty hrt hv hr
theorem x_callV0i {X : qX} {M : qM} (C : qC X M) {pc : Nat} {loc : List (Nat × Value)} {st : List Value} {h : qH} {v : Value} {idx b : Nat} {N : qM} {h' : qH} {ci : Nat} {fs : List Value} (hok : Ok N [.ref b] h (some v) h') (hlk : Cond.methodLink M.1.cls idx N.1 ∈ qT) (hI : qIn N) (hs : qIs N) (har : qAr N 0) (hrm : qRm M N) (hw : (st.map fun v => v.category).sum ≤ 8) (ho : h[b]? = some (.inr (ci, fs))) {T : u_T} {n : Nat} (hc : vwCl[ci]? = some (N.1.cls, T, n)) (hd : decode M.2.1 pc = .ok (.invokevirtual idx, 3)) (kk : Ex X M (pc + 3) loc (v :: st) h') : Ex X M pc loc (.ref b :: st) h := x_callV (As := []) C hok hlk hI hs har hrm hw ho hc hd kk
theorem x_callV0v {X : qX} {M : qM} (C : qC X M) {pc : Nat} {loc : List (Nat × Value)} {st : List Value} {h : qH} {idx b : Nat} {N : qM} {h' : qH} {ci : Nat} {fs : List Value} (hok : Ok N [.ref b] h (none) h') (hlk : Cond.methodLink M.1.cls idx N.1 ∈ qT) (hI : qIn N) (hs : qIs N) (har : qAr N 0) (hrm : qRm M N) (hw : (st.map fun v => v.category).sum ≤ 8) (ho : h[b]? = some (.inr (ci, fs))) {T : u_T} {n : Nat} (hc : vwCl[ci]? = some (N.1.cls, T, n)) (hd : decode M.2.1 pc = .ok (.invokevirtual idx, 3)) (kk : Ex X M (pc + 3) loc (st) h') : Ex X M pc loc (.ref b :: st) h := x_callV (As := []) C hok hlk hI hs har hrm hw ho hc hd kk
theorem x_callV1i {X : qX} {M : qM} (C : qC X M) {pc : Nat} {loc : List (Nat × Value)} {st : List Value} {h : qH} {v : Value} {idx b : Nat} {N : qM} {a1 : Value} {h' : qH} {ci : Nat} {fs : List Value} (hok : Ok N [.ref b, a1] h (some v) h') (hlk : Cond.methodLink M.1.cls idx N.1 ∈ qT) (hI : qIn N) (hs : qIs N) (har : qAr N 1) (hrm : qRm M N) (hw : (st.map fun v => v.category).sum ≤ 8) (ho : h[b]? = some (.inr (ci, fs))) {T : u_T} {n : Nat} (hc : vwCl[ci]? = some (N.1.cls, T, n)) (hd : decode M.2.1 pc = .ok (.invokevirtual idx, 3)) (kk : Ex X M (pc + 3) loc (v :: st) h') : Ex X M pc loc (a1 :: .ref b :: st) h := x_callV (As := [a1]) C hok hlk hI hs har hrm hw ho hc hd kk
theorem x_callS1i {X : qX} {M : qM} (C : qC X M) {pc : Nat} {loc : List (Nat × Value)} {st : List Value} {h : qH} {v : Value} {idx : Nat} {N : qM} {a1 : Value} {h' : qH} (hok : Ok N [a1] h (some v) h') (hlk : Cond.methodLink M.1.cls idx N.1 ∈ qT) (hI : qIn N) (hs : Cond.static N.1 ∈ qT) (har : qAr N 1) (hrm : qRm M N) (hw : (st.map fun v => v.category).sum ≤ 8) (hd : decode M.2.1 pc = .ok (.invokestatic idx, 3)) (kk : Ex X M (pc + 3) loc (v :: st) h') : Ex X M pc loc (a1 :: st) h := x_callS (As := [a1]) C hok hlk hI hs har hrm hw hd kk
theorem x_callN1i {X : qX} {M : qM} (C : qC X M) {pc : Nat} {loc : List (Nat × Value)} {st : List Value} {h : qH} {v : Value} {idx : Nat} {N : qM} {a1 : Value} {h' : qH} {host : String} (hok : Ok N [a1] h (some v) h') (hlk : Cond.methodLinkNest M.1.cls idx N.1 host ∈ qN) (hI : qIn N) (hs : Cond.static N.1 ∈ qT) (har : qAr N 1) (hrm : qRm M N) (hw : (st.map fun v => v.category).sum ≤ 8) (hd : decode M.2.1 pc = .ok (.invokestatic idx, 3)) (kk : Ex X M (pc + 3) loc (v :: st) h') : Ex X M pc loc (a1 :: st) h := x_callN (As := [a1]) C hok hlk hI hs har hrm hw hd kk
theorem x_callV1v {X : qX} {M : qM} (C : qC X M) {pc : Nat} {loc : List (Nat × Value)} {st : List Value} {h : qH} {idx b : Nat} {N : qM} {a1 : Value} {h' : qH} {ci : Nat} {fs : List Value} (hok : Ok N [.ref b, a1] h (none) h') (hlk : Cond.methodLink M.1.cls idx N.1 ∈ qT) (hI : qIn N) (hs : qIs N) (har : qAr N 1) (hrm : qRm M N) (hw : (st.map fun v => v.category).sum ≤ 8) (ho : h[b]? = some (.inr (ci, fs))) {T : u_T} {n : Nat} (hc : vwCl[ci]? = some (N.1.cls, T, n)) (hd : decode M.2.1 pc = .ok (.invokevirtual idx, 3)) (kk : Ex X M (pc + 3) loc (st) h') : Ex X M pc loc (a1 :: .ref b :: st) h := x_callV (As := [a1]) C hok hlk hI hs har hrm hw ho hc hd kk
theorem x_callS1v {X : qX} {M : qM} (C : qC X M) {pc : Nat} {loc : List (Nat × Value)} {st : List Value} {h : qH} {idx : Nat} {N : qM} {a1 : Value} {h' : qH} (hok : Ok N [a1] h (none) h') (hlk : Cond.methodLink M.1.cls idx N.1 ∈ qT) (hI : qIn N) (hs : Cond.static N.1 ∈ qT) (har : qAr N 1) (hrm : qRm M N) (hw : (st.map fun v => v.category).sum ≤ 8) (hd : decode M.2.1 pc = .ok (.invokestatic idx, 3)) (kk : Ex X M (pc + 3) loc (st) h') : Ex X M pc loc (a1 :: st) h := x_callS (As := [a1]) C hok hlk hI hs har hrm hw hd kk
theorem x_callN1v {X : qX} {M : qM} (C : qC X M) {pc : Nat} {loc : List (Nat × Value)} {st : List Value} {h : qH} {idx : Nat} {N : qM} {a1 : Value} {h' : qH} {host : String} (hok : Ok N [a1] h (none) h') (hlk : Cond.methodLinkNest M.1.cls idx N.1 host ∈ qN) (hI : qIn N) (hs : Cond.static N.1 ∈ qT) (har : qAr N 1) (hrm : qRm M N) (hw : (st.map fun v => v.category).sum ≤ 8) (hd : decode M.2.1 pc = .ok (.invokestatic idx, 3)) (kk : Ex X M (pc + 3) loc (st) h') : Ex X M pc loc (a1 :: st) h := x_callN (As := [a1]) C hok hlk hI hs har hrm hw hd kk
theorem x_callV2i {X : qX} {M : qM} (C : qC X M) {pc : Nat} {loc : List (Nat × Value)} {st : List Value} {h : qH} {v : Value} {idx b : Nat} {N : qM} {a1 a2 : Value} {h' : qH} {ci : Nat} {fs : List Value} (hok : Ok N [.ref b, a1, a2] h (some v) h') (hlk : Cond.methodLink M.1.cls idx N.1 ∈ qT) (hI : qIn N) (hs : qIs N) (har : qAr N 2) (hrm : qRm M N) (hw : (st.map fun v => v.category).sum ≤ 8) (ho : h[b]? = some (.inr (ci, fs))) {T : u_T} {n : Nat} (hc : vwCl[ci]? = some (N.1.cls, T, n)) (hd : decode M.2.1 pc = .ok (.invokevirtual idx, 3)) (kk : Ex X M (pc + 3) loc (v :: st) h') : Ex X M pc loc (a2 :: a1 :: .ref b :: st) h := x_callV (As := [a1, a2]) C hok hlk hI hs har hrm hw ho hc hd kk
theorem x_callS2i {X : qX} {M : qM} (C : qC X M) {pc : Nat} {loc : List (Nat × Value)} {st : List Value} {h : qH} {v : Value} {idx : Nat} {N : qM} {a1 a2 : Value} {h' : qH} (hok : Ok N [a1, a2] h (some v) h') (hlk : Cond.methodLink M.1.cls idx N.1 ∈ qT) (hI : qIn N) (hs : Cond.static N.1 ∈ qT) (har : qAr N 2) (hrm : qRm M N) (hw : (st.map fun v => v.category).sum ≤ 8) (hd : decode M.2.1 pc = .ok (.invokestatic idx, 3)) (kk : Ex X M (pc + 3) loc (v :: st) h') : Ex X M pc loc (a2 :: a1 :: st) h := x_callS (As := [a1, a2]) C hok hlk hI hs har hrm hw hd kk
theorem x_callN2i {X : qX} {M : qM} (C : qC X M) {pc : Nat} {loc : List (Nat × Value)} {st : List Value} {h : qH} {v : Value} {idx : Nat} {N : qM} {a1 a2 : Value} {h' : qH} {host : String} (hok : Ok N [a1, a2] h (some v) h') (hlk : Cond.methodLinkNest M.1.cls idx N.1 host ∈ qN) (hI : qIn N) (hs : Cond.static N.1 ∈ qT) (har : qAr N 2) (hrm : qRm M N) (hw : (st.map fun v => v.category).sum ≤ 8) (hd : decode M.2.1 pc = .ok (.invokestatic idx, 3)) (kk : Ex X M (pc + 3) loc (v :: st) h') : Ex X M pc loc (a2 :: a1 :: st) h := x_callN (As := [a1, a2]) C hok hlk hI hs har hrm hw hd kk
theorem x_callV2v {X : qX} {M : qM} (C : qC X M) {pc : Nat} {loc : List (Nat × Value)} {st : List Value} {h : qH} {idx b : Nat} {N : qM} {a1 a2 : Value} {h' : qH} {ci : Nat} {fs : List Value} (hok : Ok N [.ref b, a1, a2] h (none) h') (hlk : Cond.methodLink M.1.cls idx N.1 ∈ qT) (hI : qIn N) (hs : qIs N) (har : qAr N 2) (hrm : qRm M N) (hw : (st.map fun v => v.category).sum ≤ 8) (ho : h[b]? = some (.inr (ci, fs))) {T : u_T} {n : Nat} (hc : vwCl[ci]? = some (N.1.cls, T, n)) (hd : decode M.2.1 pc = .ok (.invokevirtual idx, 3)) (kk : Ex X M (pc + 3) loc (st) h') : Ex X M pc loc (a2 :: a1 :: .ref b :: st) h := x_callV (As := [a1, a2]) C hok hlk hI hs har hrm hw ho hc hd kk
theorem x_callS2v {X : qX} {M : qM} (C : qC X M) {pc : Nat} {loc : List (Nat × Value)} {st : List Value} {h : qH} {idx : Nat} {N : qM} {a1 a2 : Value} {h' : qH} (hok : Ok N [a1, a2] h (none) h') (hlk : Cond.methodLink M.1.cls idx N.1 ∈ qT) (hI : qIn N) (hs : Cond.static N.1 ∈ qT) (har : qAr N 2) (hrm : qRm M N) (hw : (st.map fun v => v.category).sum ≤ 8) (hd : decode M.2.1 pc = .ok (.invokestatic idx, 3)) (kk : Ex X M (pc + 3) loc (st) h') : Ex X M pc loc (a2 :: a1 :: st) h := x_callS (As := [a1, a2]) C hok hlk hI hs har hrm hw hd kk
theorem x_callN2v {X : qX} {M : qM} (C : qC X M) {pc : Nat} {loc : List (Nat × Value)} {st : List Value} {h : qH} {idx : Nat} {N : qM} {a1 a2 : Value} {h' : qH} {host : String} (hok : Ok N [a1, a2] h (none) h') (hlk : Cond.methodLinkNest M.1.cls idx N.1 host ∈ qN) (hI : qIn N) (hs : Cond.static N.1 ∈ qT) (har : qAr N 2) (hrm : qRm M N) (hw : (st.map fun v => v.category).sum ≤ 8) (hd : decode M.2.1 pc = .ok (.invokestatic idx, 3)) (kk : Ex X M (pc + 3) loc (st) h') : Ex X M pc loc (a2 :: a1 :: st) h := x_callN (As := [a1, a2]) C hok hlk hI hs har hrm hw hd kk
theorem x_callV3i {X : qX} {M : qM} (C : qC X M) {pc : Nat} {loc : List (Nat × Value)} {st : List Value} {h : qH} {v : Value} {idx b : Nat} {N : qM} {a1 a2 a3 : Value} {h' : qH} {ci : Nat} {fs : List Value} (hok : Ok N [.ref b, a1, a2, a3] h (some v) h') (hlk : Cond.methodLink M.1.cls idx N.1 ∈ qT) (hI : qIn N) (hs : qIs N) (har : qAr N 3) (hrm : qRm M N) (hw : (st.map fun v => v.category).sum ≤ 8) (ho : h[b]? = some (.inr (ci, fs))) {T : u_T} {n : Nat} (hc : vwCl[ci]? = some (N.1.cls, T, n)) (hd : decode M.2.1 pc = .ok (.invokevirtual idx, 3)) (kk : Ex X M (pc + 3) loc (v :: st) h') : Ex X M pc loc (a3 :: a2 :: a1 :: .ref b :: st) h := x_callV (As := [a1, a2, a3]) C hok hlk hI hs har hrm hw ho hc hd kk
theorem x_callS3i {X : qX} {M : qM} (C : qC X M) {pc : Nat} {loc : List (Nat × Value)} {st : List Value} {h : qH} {v : Value} {idx : Nat} {N : qM} {a1 a2 a3 : Value} {h' : qH} (hok : Ok N [a1, a2, a3] h (some v) h') (hlk : Cond.methodLink M.1.cls idx N.1 ∈ qT) (hI : qIn N) (hs : Cond.static N.1 ∈ qT) (har : qAr N 3) (hrm : qRm M N) (hw : (st.map fun v => v.category).sum ≤ 8) (hd : decode M.2.1 pc = .ok (.invokestatic idx, 3)) (kk : Ex X M (pc + 3) loc (v :: st) h') : Ex X M pc loc (a3 :: a2 :: a1 :: st) h := x_callS (As := [a1, a2, a3]) C hok hlk hI hs har hrm hw hd kk
theorem x_callN3i {X : qX} {M : qM} (C : qC X M) {pc : Nat} {loc : List (Nat × Value)} {st : List Value} {h : qH} {v : Value} {idx : Nat} {N : qM} {a1 a2 a3 : Value} {h' : qH} {host : String} (hok : Ok N [a1, a2, a3] h (some v) h') (hlk : Cond.methodLinkNest M.1.cls idx N.1 host ∈ qN) (hI : qIn N) (hs : Cond.static N.1 ∈ qT) (har : qAr N 3) (hrm : qRm M N) (hw : (st.map fun v => v.category).sum ≤ 8) (hd : decode M.2.1 pc = .ok (.invokestatic idx, 3)) (kk : Ex X M (pc + 3) loc (v :: st) h') : Ex X M pc loc (a3 :: a2 :: a1 :: st) h := x_callN (As := [a1, a2, a3]) C hok hlk hI hs har hrm hw hd kk
theorem x_callV3v {X : qX} {M : qM} (C : qC X M) {pc : Nat} {loc : List (Nat × Value)} {st : List Value} {h : qH} {idx b : Nat} {N : qM} {a1 a2 a3 : Value} {h' : qH} {ci : Nat} {fs : List Value} (hok : Ok N [.ref b, a1, a2, a3] h (none) h') (hlk : Cond.methodLink M.1.cls idx N.1 ∈ qT) (hI : qIn N) (hs : qIs N) (har : qAr N 3) (hrm : qRm M N) (hw : (st.map fun v => v.category).sum ≤ 8) (ho : h[b]? = some (.inr (ci, fs))) {T : u_T} {n : Nat} (hc : vwCl[ci]? = some (N.1.cls, T, n)) (hd : decode M.2.1 pc = .ok (.invokevirtual idx, 3)) (kk : Ex X M (pc + 3) loc (st) h') : Ex X M pc loc (a3 :: a2 :: a1 :: .ref b :: st) h := x_callV (As := [a1, a2, a3]) C hok hlk hI hs har hrm hw ho hc hd kk
theorem x_callS3v {X : qX} {M : qM} (C : qC X M) {pc : Nat} {loc : List (Nat × Value)} {st : List Value} {h : qH} {idx : Nat} {N : qM} {a1 a2 a3 : Value} {h' : qH} (hok : Ok N [a1, a2, a3] h (none) h') (hlk : Cond.methodLink M.1.cls idx N.1 ∈ qT) (hI : qIn N) (hs : Cond.static N.1 ∈ qT) (har : qAr N 3) (hrm : qRm M N) (hw : (st.map fun v => v.category).sum ≤ 8) (hd : decode M.2.1 pc = .ok (.invokestatic idx, 3)) (kk : Ex X M (pc + 3) loc (st) h') : Ex X M pc loc (a3 :: a2 :: a1 :: st) h := x_callS (As := [a1, a2, a3]) C hok hlk hI hs har hrm hw hd kk
theorem x_callN3v {X : qX} {M : qM} (C : qC X M) {pc : Nat} {loc : List (Nat × Value)} {st : List Value} {h : qH} {idx : Nat} {N : qM} {a1 a2 a3 : Value} {h' : qH} {host : String} (hok : Ok N [a1, a2, a3] h (none) h') (hlk : Cond.methodLinkNest M.1.cls idx N.1 host ∈ qN) (hI : qIn N) (hs : Cond.static N.1 ∈ qT) (har : qAr N 3) (hrm : qRm M N) (hw : (st.map fun v => v.category).sum ≤ 8) (hd : decode M.2.1 pc = .ok (.invokestatic idx, 3)) (kk : Ex X M (pc + 3) loc (st) h') : Ex X M pc loc (a3 :: a2 :: a1 :: st) h := x_callN (As := [a1, a2, a3]) C hok hlk hI hs har hrm hw hd kk
/-- counters: one up, one down -/
theorem q_inc (i : Nat) : nI i + Int32.ofInt 1 = nI (i + 1) := nI_1 i
theorem q_dec (i : Nat) : nI (i + 1) + Int32.ofInt (-1) = nI i := pk_m1 i
end
section
theorem qk0 : qCls 0 RX0 TX0 3 tyX0 := ⟨rfl, fun w hw => List.mem_filter.mpr ⟨(by decide +kernel : ∀ w ∈ wsX00, w ∈ lw_tbl) w hw, (List.all_eq_true.mp (by decide +kernel : (wsX00).all goodWord = true)) w hw⟩, tyX0_ok, nmX0⟩
theorem qk1 : qCls 1 RX1 TX1 2 tyX1 := ⟨rfl, fun w hw => List.mem_filter.mpr ⟨(by decide +kernel : ∀ w ∈ wsX10, w ∈ lw_tbl) w hw, (List.all_eq_true.mp (by decide +kernel : (wsX10).all goodWord = true)) w hw⟩, tyX1_ok, nmX1⟩
theorem qk2 : qCls 2 RX2 TX2 1 tyX2 := ⟨rfl, fun w hw => List.mem_filter.mpr ⟨(by decide +kernel : ∀ w ∈ wsX20, w ∈ lw_tbl) w hw, (List.all_eq_true.mp (by decide +kernel : (wsX20).all goodWord = true)) w hw⟩, tyX2_ok, nmX2⟩
theorem qk3 : qCls 3 RX3 TX3 5 tyX3 := ⟨rfl, fun w hw => List.mem_filter.mpr ⟨(by decide +kernel : ∀ w ∈ wsX30, w ∈ lw_tbl) w hw, (List.all_eq_true.mp (by decide +kernel : (wsX30).all goodWord = true)) w hw⟩, tyX3_ok, nmX3⟩
theorem qk4 : qCls 4 RX4 TX4 10 tyX4 := ⟨rfl, fun w hw => List.mem_filter.mpr ⟨(by decide +kernel : ∀ w ∈ wsX40, w ∈ lw_tbl) w hw, (List.all_eq_true.mp (by decide +kernel : (wsX40).all goodWord = true)) w hw⟩, tyX4_ok, nmX4⟩
theorem qk5 : qCls 5 RX5 TX5 16 tyX5 := ⟨rfl, fun w hw => List.mem_filter.mpr ⟨(by decide +kernel : ∀ w ∈ wsX50, w ∈ lw_tbl) w hw, (List.all_eq_true.mp (by decide +kernel : (wsX50).all goodWord = true)) w hw⟩, tyX5_ok, nmX5⟩
theorem qk6 : qCls 6 RX6 TX6 22 tyX6 := ⟨rfl, fun w hw => List.mem_filter.mpr ⟨(by decide +kernel : ∀ w ∈ wsX60, w ∈ lw_tbl) w hw, (List.all_eq_true.mp (by decide +kernel : (wsX60).all goodWord = true)) w hw⟩, tyX6_ok, nmX6⟩
abbrev MX0_push : qM := (yX0_push, cX0_push, 3, none, { frames := 1, cells := 0, slots := 0, locals := 22 })
theorem miX0_push : qIn MX0_push := ⟨qT_in 288 (by decide +kernel) rfl, qT_in 57 (by decide +kernel) rfl, ⟨by decide +kernel, by decide +kernel⟩, rfl, rfl⟩
theorem msX0_push : qIs MX0_push := ⟨qT_in 286 (by decide +kernel) rfl, qT_in 287 (by decide +kernel) rfl⟩
theorem maX0_push : qAr MX0_push 1 := by unfold qAr; decide +kernel
abbrev MX0_pop : qM := (yX0_pop, cX0_pop, 4, none, { frames := 1, cells := 0, slots := 0, locals := 22 })
theorem miX0_pop : qIn MX0_pop := ⟨qT_in 743 (by decide +kernel) rfl, qT_in 57 (by decide +kernel) rfl, ⟨by decide +kernel, by decide +kernel⟩, rfl, rfl⟩
theorem msX0_pop : qIs MX0_pop := ⟨qT_in 741 (by decide +kernel) rfl, qT_in 742 (by decide +kernel) rfl⟩
theorem maX0_pop : qAr MX0_pop 1 := by unfold qAr; decide +kernel
abbrev MX0_clear : qM := (yX0_clear, cX0_clear, 1, none, { frames := 0, cells := 0, slots := 0, locals := 0 })
theorem miX0_clear : qIn MX0_clear := ⟨qT_in 755 (by decide +kernel) rfl, qT_in 57 (by decide +kernel) rfl, ⟨by decide +kernel, by decide +kernel⟩, rfl, rfl⟩
theorem msX0_clear : qIs MX0_clear := ⟨qT_in 753 (by decide +kernel) rfl, qT_in 754 (by decide +kernel) rfl⟩
theorem maX0_clear : qAr MX0_clear 0 := by unfold qAr; decide +kernel
abbrev MX0_rowAt : qM := (yX0_rowAt, cX0_rowAt, 2, (some (.object "MateKeys$Position")), { frames := 0, cells := 0, slots := 0, locals := 0 })
theorem miX0_rowAt : qIn MX0_rowAt := ⟨qT_in 292 (by decide +kernel) rfl, qT_in 57 (by decide +kernel) rfl, ⟨by decide +kernel, by decide +kernel⟩, rfl, rfl⟩
theorem msX0_rowAt : qIs MX0_rowAt := ⟨qT_in 291 (by decide +kernel) rfl, qT_in 3 (by decide +kernel) rfl⟩
theorem maX0_rowAt : qAr MX0_rowAt 1 := by unfold qAr; decide +kernel
abbrev MX1_clear : qM := (yX1_clear, cX1_clear, 1, none, { frames := 0, cells := 0, slots := 0, locals := 0 })
theorem miX1_clear : qIn MX1_clear := ⟨qT_in 510 (by decide +kernel) rfl, qT_in 59 (by decide +kernel) rfl, ⟨by decide +kernel, by decide +kernel⟩, rfl, rfl⟩
theorem msX1_clear : qIs MX1_clear := ⟨qT_in 508 (by decide +kernel) rfl, qT_in 509 (by decide +kernel) rfl⟩
theorem maX1_clear : qAr MX1_clear 0 := by unfold qAr; decide +kernel
abbrev MX1_write : qM := (yX1_write, cX1_write, 2, none, { frames := 0, cells := 0, slots := 0, locals := 0 })
theorem miX1_write : qIn MX1_write := ⟨qT_in 567 (by decide +kernel) rfl, qT_in 59 (by decide +kernel) rfl, ⟨by decide +kernel, by decide +kernel⟩, rfl, rfl⟩
theorem msX1_write : qIs MX1_write := ⟨qT_in 565 (by decide +kernel) rfl, qT_in 566 (by decide +kernel) rfl⟩
theorem maX1_write : qAr MX1_write 1 := by unfold qAr; decide +kernel
abbrev MX1_writeMan : qM := (yX1_writeMan, cX1_writeMan, 2, none, { frames := 5, cells := 0, slots := 0, locals := 106 })
theorem miX1_writeMan : qIn MX1_writeMan := ⟨qT_in 514 (by decide +kernel) rfl, qT_in 59 (by decide +kernel) rfl, ⟨by decide +kernel, by decide +kernel⟩, rfl, rfl⟩
theorem msX1_writeMan : qIs MX1_writeMan := ⟨qT_in 512 (by decide +kernel) rfl, qT_in 513 (by decide +kernel) rfl⟩
theorem maX1_writeMan : qAr MX1_writeMan 1 := by unfold qAr; decide +kernel
abbrev MX1_writeSquare : qM := (yX1_writeSquare, cX1_writeSquare, 2, none, { frames := 1, cells := 0, slots := 0, locals := 21 })
theorem miX1_writeSquare : qIn MX1_writeSquare := ⟨qT_in 577 (by decide +kernel) rfl, qT_in 59 (by decide +kernel) rfl, ⟨by decide +kernel, by decide +kernel⟩, rfl, rfl⟩
theorem msX1_writeSquare : qIs MX1_writeSquare := ⟨qT_in 575 (by decide +kernel) rfl, qT_in 576 (by decide +kernel) rfl⟩
theorem maX1_writeSquare : qAr MX1_writeSquare 1 := by unfold qAr; decide +kernel
abbrev MX1_writeMoveSign : qM := (yX1_writeMoveSign, cX1_writeMoveSign, 2, none, { frames := 5, cells := 0, slots := 0, locals := 106 })
theorem miX1_writeMoveSign : qIn MX1_writeMoveSign := ⟨qT_in 581 (by decide +kernel) rfl, qT_in 59 (by decide +kernel) rfl, ⟨by decide +kernel, by decide +kernel⟩, rfl, rfl⟩
theorem msX1_writeMoveSign : qIs MX1_writeMoveSign := ⟨qT_in 579 (by decide +kernel) rfl, qT_in 580 (by decide +kernel) rfl⟩
theorem maX1_writeMoveSign : qAr MX1_writeMoveSign 1 := by unfold qAr; decide +kernel
abbrev MX1_codeAt : qM := (yX1_codeAt, cX1_codeAt, 2, (some .int), { frames := 0, cells := 0, slots := 0, locals := 0 })
theorem miX1_codeAt : qIn MX1_codeAt := ⟨qT_in 590 (by decide +kernel) rfl, qT_in 59 (by decide +kernel) rfl, ⟨by decide +kernel, by decide +kernel⟩, rfl, rfl⟩
theorem msX1_codeAt : qIs MX1_codeAt := ⟨qT_in 588 (by decide +kernel) rfl, qT_in 589 (by decide +kernel) rfl⟩
theorem maX1_codeAt : qAr MX1_codeAt 1 := by unfold qAr; decide +kernel
abbrev MX2_fillWithMoves : qM := (yX2_fillWithMoves, cX2_fillWithMoves, 3, none, { frames := 2, cells := 0, slots := 0, locals := 53 })
theorem miX2_fillWithMoves : qIn MX2_fillWithMoves := ⟨qT_in 432 (by decide +kernel) rfl, qT_in 58 (by decide +kernel) rfl, ⟨by decide +kernel, by decide +kernel⟩, rfl, rfl⟩
theorem msX2_fillWithMoves : qIs MX2_fillWithMoves := ⟨qT_in 430 (by decide +kernel) rfl, qT_in 431 (by decide +kernel) rfl⟩
theorem maX2_fillWithMoves : qAr MX2_fillWithMoves 1 := by unfold qAr; decide +kernel
abbrev MX2_fillWithKeys : qM := (yX2_fillWithKeys, cX2_fillWithKeys, 3, none, { frames := 4, cells := 0, slots := 0, locals := 104 })
theorem miX2_fillWithKeys : qIn MX2_fillWithKeys := ⟨qT_in 379 (by decide +kernel) rfl, qT_in 58 (by decide +kernel) rfl, ⟨by decide +kernel, by decide +kernel⟩, rfl, rfl⟩
theorem msX2_fillWithKeys : qIs MX2_fillWithKeys := ⟨qT_in 377 (by decide +kernel) rfl, qT_in 378 (by decide +kernel) rfl⟩
theorem maX2_fillWithKeys : qAr MX2_fillWithKeys 1 := by unfold qAr; decide +kernel
abbrev MX2_count : qM := (yX2_count, cX2_count, 3, (some .int), { frames := 1, cells := 0, slots := 0, locals := 22 })
theorem miX2_count : qIn MX2_count := ⟨qT_in 400 (by decide +kernel) rfl, qT_in 58 (by decide +kernel) rfl, ⟨by decide +kernel, by decide +kernel⟩, rfl, rfl⟩
theorem msX2_count : qIs MX2_count := ⟨qT_in 398 (by decide +kernel) rfl, qT_in 399 (by decide +kernel) rfl⟩
theorem maX2_count : qAr MX2_count 0 := by unfold qAr; decide +kernel
abbrev MX2_pick : qM := (yX2_pick, cX2_pick, 5, (some .int), { frames := 2, cells := 0, slots := 0, locals := 41 })
theorem miX2_pick : qIn MX2_pick := ⟨qT_in 437 (by decide +kernel) rfl, qT_in 58 (by decide +kernel) rfl, ⟨by decide +kernel, by decide +kernel⟩, rfl, rfl⟩
theorem msX2_pick : qIs MX2_pick := ⟨qT_in 435 (by decide +kernel) rfl, qT_in 436 (by decide +kernel) rfl⟩
theorem maX2_pick : qAr MX2_pick 1 := by unfold qAr; decide +kernel
abbrev MX3_copyFrom : qM := (yX3_copyFrom, cX3_copyFrom, 3, none, { frames := 0, cells := 0, slots := 0, locals := 0 })
theorem miX3_copyFrom : qIn MX3_copyFrom := ⟨qT_in 245 (by decide +kernel) rfl, qT_in 56 (by decide +kernel) rfl, ⟨by decide +kernel, by decide +kernel⟩, rfl, rfl⟩
theorem msX3_copyFrom : qIs MX3_copyFrom := ⟨qT_in 243 (by decide +kernel) rfl, qT_in 244 (by decide +kernel) rfl⟩
theorem maX3_copyFrom : qAr MX3_copyFrom 1 := by unfold qAr; decide +kernel
abbrev MX3_manOn : qM := (yX3_manOn, cX3_manOn, 2, (some .int), { frames := 1, cells := 0, slots := 0, locals := 20 })
theorem miX3_manOn : qIn MX3_manOn := ⟨qT_in 256 (by decide +kernel) rfl, qT_in 56 (by decide +kernel) rfl, ⟨by decide +kernel, by decide +kernel⟩, rfl, rfl⟩
theorem msX3_manOn : qIs MX3_manOn := ⟨qT_in 254 (by decide +kernel) rfl, qT_in 255 (by decide +kernel) rfl⟩
theorem maX3_manOn : qAr MX3_manOn 1 := by unfold qAr; decide +kernel
abbrev MX3_setMan : qM := (yX3_setMan, cX3_setMan, 3, none, { frames := 1, cells := 0, slots := 0, locals := 20 })
theorem miX3_setMan : qIn MX3_setMan := ⟨qT_in 280 (by decide +kernel) rfl, qT_in 56 (by decide +kernel) rfl, ⟨by decide +kernel, by decide +kernel⟩, rfl, rfl⟩
theorem msX3_setMan : qIs MX3_setMan := ⟨qT_in 278 (by decide +kernel) rfl, qT_in 279 (by decide +kernel) rfl⟩
theorem maX3_setMan : qAr MX3_setMan 2 := by unfold qAr; decide +kernel
abbrev MX3_countAll : qM := (yX3_countAll, cX3_countAll, 1, (some .int), { frames := 1, cells := 0, slots := 0, locals := 24 })
theorem miX3_countAll : qIn MX3_countAll := ⟨qT_in 272 (by decide +kernel) rfl, qT_in 56 (by decide +kernel) rfl, ⟨by decide +kernel, by decide +kernel⟩, rfl, rfl⟩
theorem msX3_countAll : qIs MX3_countAll := ⟨qT_in 270 (by decide +kernel) rfl, qT_in 271 (by decide +kernel) rfl⟩
theorem maX3_countAll : qAr MX3_countAll 0 := by unfold qAr; decide +kernel
abbrev MX3_countKinds : qM := (yX3_countKinds, cX3_countKinds, 5, (some .int), { frames := 0, cells := 0, slots := 0, locals := 0 })
theorem miX3_countKinds : qIn MX3_countKinds := ⟨qT_in 276 (by decide +kernel) rfl, qT_in 56 (by decide +kernel) rfl, ⟨by decide +kernel, by decide +kernel⟩, rfl, rfl⟩
theorem msX3_countKinds : qIs MX3_countKinds := ⟨qT_in 274 (by decide +kernel) rfl, qT_in 275 (by decide +kernel) rfl⟩
theorem maX3_countKinds : qAr MX3_countKinds 2 := by unfold qAr; decide +kernel
abbrev MX3_squareOf : qM := (yX3_squareOf, cX3_squareOf, 3, (some .int), { frames := 0, cells := 0, slots := 0, locals := 0 })
theorem miX3_squareOf : qIn MX3_squareOf := ⟨qT_in 268 (by decide +kernel) rfl, qT_in 56 (by decide +kernel) rfl, ⟨by decide +kernel, by decide +kernel⟩, rfl, rfl⟩
theorem msX3_squareOf : qIs MX3_squareOf := ⟨qT_in 266 (by decide +kernel) rfl, qT_in 267 (by decide +kernel) rfl⟩
theorem maX3_squareOf : qAr MX3_squareOf 1 := by unfold qAr; decide +kernel
abbrev MX3_fits : qM := (yX3_fits, cX3_fits, 2, (some .boolean), { frames := 3, cells := 0, slots := 0, locals := 72 })
theorem miX3_fits : qIn MX3_fits := ⟨qT_in 360 (by decide +kernel) rfl, qT_in 56 (by decide +kernel) rfl, ⟨by decide +kernel, by decide +kernel⟩, rfl, rfl⟩
theorem msX3_fits : qIs MX3_fits := ⟨qT_in 358 (by decide +kernel) rfl, qT_in 359 (by decide +kernel) rfl⟩
theorem maX3_fits : qAr MX3_fits 0 := by unfold qAr; decide +kernel
abbrev MX3_reach : qM := (yX3_reach, cX3_reach, 11, (some .int), { frames := 0, cells := 0, slots := 0, locals := 0 })
theorem miX3_reach : qIn MX3_reach := ⟨qT_in 325 (by decide +kernel) rfl, qT_in 56 (by decide +kernel) rfl, ⟨by decide +kernel, by decide +kernel⟩, rfl, rfl⟩
theorem msX3_reach : qIs MX3_reach := ⟨qT_in 323 (by decide +kernel) rfl, qT_in 324 (by decide +kernel) rfl⟩
theorem maX3_reach : qAr MX3_reach 1 := by unfold qAr; decide +kernel
abbrev MX3_covered : qM := (yX3_covered, cX3_covered, 3, (some .int), { frames := 1, cells := 0, slots := 0, locals := 30 })
theorem miX3_covered : qIn MX3_covered := ⟨qT_in 714 (by decide +kernel) rfl, qT_in 56 (by decide +kernel) rfl, ⟨by decide +kernel, by decide +kernel⟩, rfl, rfl⟩
theorem msX3_covered : qIs MX3_covered := ⟨qT_in 712 (by decide +kernel) rfl, qT_in 713 (by decide +kernel) rfl⟩
theorem maX3_covered : qAr MX3_covered 0 := by unfold qAr; decide +kernel
abbrev MX3_countManByMan : qM := (yX3_countManByMan, cX3_countManByMan, 4, (some .int), { frames := 2, cells := 0, slots := 0, locals := 41 })
theorem miX3_countManByMan : qIn MX3_countManByMan := ⟨qT_in 375 (by decide +kernel) rfl, qT_in 56 (by decide +kernel) rfl, ⟨by decide +kernel, by decide +kernel⟩, rfl, rfl⟩
theorem msX3_countManByMan : qIs MX3_countManByMan := ⟨qT_in 373 (by decide +kernel) rfl, qT_in 374 (by decide +kernel) rfl⟩
theorem maX3_countManByMan : qAr MX3_countManByMan 1 := by unfold qAr; decide +kernel
abbrev MX3_countLineByLine : qM := (yX3_countLineByLine, cX3_countLineByLine, 4, (some .int), { frames := 2, cells := 0, slots := 0, locals := 49 })
theorem miX3_countLineByLine : qIn MX3_countLineByLine := ⟨qT_in 364 (by decide +kernel) rfl, qT_in 56 (by decide +kernel) rfl, ⟨by decide +kernel, by decide +kernel⟩, rfl, rfl⟩
theorem msX3_countLineByLine : qIs MX3_countLineByLine := ⟨qT_in 362 (by decide +kernel) rfl, qT_in 363 (by decide +kernel) rfl⟩
theorem maX3_countLineByLine : qAr MX3_countLineByLine 1 := by unfold qAr; decide +kernel
abbrev MX3_isMetIn : qM := (yX3_isMetIn, cX3_isMetIn, 8, (some .boolean), { frames := 1, cells := 0, slots := 0, locals := 22 })
theorem miX3_isMetIn : qIn MX3_isMetIn := ⟨qT_in 368 (by decide +kernel) rfl, qT_in 56 (by decide +kernel) rfl, ⟨by decide +kernel, by decide +kernel⟩, rfl, rfl⟩
theorem msX3_isMetIn : qIs MX3_isMetIn := ⟨qT_in 367 (by decide +kernel) rfl, qT_in 9 (by decide +kernel) rfl⟩
theorem maX3_isMetIn : qAr MX3_isMetIn 2 := by unfold qAr; decide +kernel
abbrev MX3_attacksAlong : qM := (yX3_attacksAlong, cX3_attacksAlong, 3, (some .boolean), { frames := 0, cells := 0, slots := 0, locals := 0 })
theorem miX3_attacksAlong : qIn MX3_attacksAlong := ⟨qT_in 371 (by decide +kernel) rfl, qT_in 56 (by decide +kernel) rfl, ⟨by decide +kernel, by decide +kernel⟩, rfl, rfl⟩
theorem mtX3_attacksAlong : Cond.static yX3_attacksAlong ∈ qT := qT_in 370 (by decide +kernel) rfl
theorem maX3_attacksAlong : qAr MX3_attacksAlong 3 := by unfold qAr; decide +kernel
abbrev MX3_movesFrom : qM := (yX3_movesFrom, cX3_movesFrom, 4, (some .int), { frames := 1, cells := 0, slots := 0, locals := 30 })
theorem miX3_movesFrom : qIn MX3_movesFrom := ⟨qT_in 317 (by decide +kernel) rfl, qT_in 56 (by decide +kernel) rfl, ⟨by decide +kernel, by decide +kernel⟩, rfl, rfl⟩
theorem msX3_movesFrom : qIs MX3_movesFrom := ⟨qT_in 315 (by decide +kernel) rfl, qT_in 316 (by decide +kernel) rfl⟩
theorem maX3_movesFrom : qAr MX3_movesFrom 1 := by unfold qAr; decide +kernel
abbrev MX3_hasMove : qM := (yX3_hasMove, cX3_hasMove, 3, (some .boolean), { frames := 2, cells := 0, slots := 0, locals := 53 })
theorem miX3_hasMove : qIn MX3_hasMove := ⟨qT_in 313 (by decide +kernel) rfl, qT_in 56 (by decide +kernel) rfl, ⟨by decide +kernel, by decide +kernel⟩, rfl, rfl⟩
theorem msX3_hasMove : qIs MX3_hasMove := ⟨qT_in 311 (by decide +kernel) rfl, qT_in 312 (by decide +kernel) rfl⟩
theorem maX3_hasMove : qAr MX3_hasMove 2 := by unfold qAr; decide +kernel
abbrev MX3_outlook : qM := (yX3_outlook, cX3_outlook, 6, (some .int), { frames := 1, cells := 0, slots := 0, locals := 30 })
theorem miX3_outlook : qIn MX3_outlook := ⟨qT_in 391 (by decide +kernel) rfl, qT_in 56 (by decide +kernel) rfl, ⟨by decide +kernel, by decide +kernel⟩, rfl, rfl⟩
theorem msX3_outlook : qIs MX3_outlook := ⟨qT_in 389 (by decide +kernel) rfl, qT_in 390 (by decide +kernel) rfl⟩
theorem maX3_outlook : qAr MX3_outlook 0 := by unfold qAr; decide +kernel
abbrev MX3_outlookBehind : qM := (yX3_outlookBehind, cX3_outlookBehind, 6, (some .int), { frames := 2, cells := 0, slots := 0, locals := 55 })
theorem miX3_outlookBehind : qIn MX3_outlookBehind := ⟨qT_in 387 (by decide +kernel) rfl, qT_in 56 (by decide +kernel) rfl, ⟨by decide +kernel, by decide +kernel⟩, rfl, rfl⟩
theorem msX3_outlookBehind : qIs MX3_outlookBehind := ⟨qT_in 385 (by decide +kernel) rfl, qT_in 386 (by decide +kernel) rfl⟩
theorem maX3_outlookBehind : qAr MX3_outlookBehind 2 := by unfold qAr; decide +kernel
abbrev MX3_kindOfMove : qM := (yX3_kindOfMove, cX3_kindOfMove, 6, (some .int), { frames := 3, cells := 0, slots := 0, locals := 80 })
theorem miX3_kindOfMove : qIn MX3_kindOfMove := ⟨qT_in 463 (by decide +kernel) rfl, qT_in 56 (by decide +kernel) rfl, ⟨by decide +kernel, by decide +kernel⟩, rfl, rfl⟩
theorem msX3_kindOfMove : qIs MX3_kindOfMove := ⟨qT_in 461 (by decide +kernel) rfl, qT_in 462 (by decide +kernel) rfl⟩
theorem maX3_kindOfMove : qAr MX3_kindOfMove 2 := by unfold qAr; decide +kernel
abbrev MX3_keysFrom : qM := (yX3_keysFrom, cX3_keysFrom, 5, (some .int), { frames := 3, cells := 0, slots := 0, locals := 80 })
theorem miX3_keysFrom : qIn MX3_keysFrom := ⟨qT_in 383 (by decide +kernel) rfl, qT_in 56 (by decide +kernel) rfl, ⟨by decide +kernel, by decide +kernel⟩, rfl, rfl⟩
theorem msX3_keysFrom : qIs MX3_keysFrom := ⟨qT_in 381 (by decide +kernel) rfl, qT_in 382 (by decide +kernel) rfl⟩
theorem maX3_keysFrom : qAr MX3_keysFrom 1 := by unfold qAr; decide +kernel
abbrev MX4_add : qM := (yX4_add, cX4_add, 2, (some .int), { frames := 0, cells := 0, slots := 0, locals := 0 })
theorem miX4_add : qIn MX4_add := ⟨qT_in 598 (by decide +kernel) rfl, qT_in 60 (by decide +kernel) rfl, ⟨by decide +kernel, by decide +kernel⟩, rfl, rfl⟩
theorem msX4_add : qIs MX4_add := ⟨qT_in 596 (by decide +kernel) rfl, qT_in 597 (by decide +kernel) rfl⟩
theorem maX4_add : qAr MX4_add 1 := by unfold qAr; decide +kernel
abbrev MX4_clear : qM := (yX4_clear, cX4_clear, 1, none, { frames := 0, cells := 0, slots := 0, locals := 0 })
theorem miX4_clear : qIn MX4_clear := ⟨qT_in 689 (by decide +kernel) rfl, qT_in 60 (by decide +kernel) rfl, ⟨by decide +kernel, by decide +kernel⟩, rfl, rfl⟩
theorem msX4_clear : qIs MX4_clear := ⟨qT_in 687 (by decide +kernel) rfl, qT_in 688 (by decide +kernel) rfl⟩
theorem maX4_clear : qAr MX4_clear 0 := by unfold qAr; decide +kernel
abbrev MX4_findFault : qM := (yX4_findFault, cX4_findFault, 3, (some .int), { frames := 9, cells := 0, slots := 0, locals := 202 })
theorem miX4_findFault : qIn MX4_findFault := ⟨qT_in 606 (by decide +kernel) rfl, qT_in 60 (by decide +kernel) rfl, ⟨by decide +kernel, by decide +kernel⟩, rfl, rfl⟩
theorem msX4_findFault : qIs MX4_findFault := ⟨qT_in 604 (by decide +kernel) rfl, qT_in 605 (by decide +kernel) rfl⟩
theorem maX4_findFault : qAr MX4_findFault 0 := by unfold qAr; decide +kernel
abbrev MX4_keepCommand : qM := (yX4_keepCommand, cX4_keepCommand, 1, none, { frames := 0, cells := 0, slots := 0, locals := 0 })
theorem miX4_keepCommand : qIn MX4_keepCommand := ⟨qT_in 685 (by decide +kernel) rfl, qT_in 60 (by decide +kernel) rfl, ⟨by decide +kernel, by decide +kernel⟩, rfl, rfl⟩
theorem msX4_keepCommand : qIs MX4_keepCommand := ⟨qT_in 684 (by decide +kernel) rfl, qT_in 17 (by decide +kernel) rfl⟩
theorem maX4_keepCommand : qAr MX4_keepCommand 0 := by unfold qAr; decide +kernel
abbrev MX4_dueBehind : qM := (yX4_dueBehind, cX4_dueBehind, 3, (some .int), { frames := 8, cells := 0, slots := 0, locals := 180 })
theorem miX4_dueBehind : qIn MX4_dueBehind := ⟨qT_in 610 (by decide +kernel) rfl, qT_in 60 (by decide +kernel) rfl, ⟨by decide +kernel, by decide +kernel⟩, rfl, rfl⟩
theorem msX4_dueBehind : qIs MX4_dueBehind := ⟨qT_in 609 (by decide +kernel) rfl, qT_in 14 (by decide +kernel) rfl⟩
theorem maX4_dueBehind : qAr MX4_dueBehind 2 := by unfold qAr; decide +kernel
abbrev MX4_dueBehindFirst : qM := (yX4_dueBehindFirst, cX4_dueBehindFirst, 2, (some .int), { frames := 7, cells := 0, slots := 0, locals := 159 })
theorem miX4_dueBehindFirst : qIn MX4_dueBehindFirst := ⟨qT_in 614 (by decide +kernel) rfl, qT_in 60 (by decide +kernel) rfl, ⟨by decide +kernel, by decide +kernel⟩, rfl, rfl⟩
theorem msX4_dueBehindFirst : qIs MX4_dueBehindFirst := ⟨qT_in 613 (by decide +kernel) rfl, qT_in 15 (by decide +kernel) rfl⟩
theorem maX4_dueBehindFirst : qAr MX4_dueBehindFirst 1 := by unfold qAr; decide +kernel
abbrev MX4_squareIn : qM := (yX4_squareIn, cX4_squareIn, 3, (some .int), { frames := 1, cells := 0, slots := 0, locals := 20 })
theorem miX4_squareIn : qIn MX4_squareIn := ⟨qT_in 681 (by decide +kernel) rfl, qT_in 60 (by decide +kernel) rfl, ⟨by decide +kernel, by decide +kernel⟩, rfl, rfl⟩
theorem msX4_squareIn : qIs MX4_squareIn := ⟨qT_in 680 (by decide +kernel) rfl, qT_in 16 (by decide +kernel) rfl⟩
theorem maX4_squareIn : qAr MX4_squareIn 1 := by unfold qAr; decide +kernel
abbrev MX4_isLine : qM := (yX4_isLine, cX4_isLine, 1, (some .boolean), { frames := 0, cells := 0, slots := 0, locals := 0 })
theorem miX4_isLine : qIn MX4_isLine := ⟨qT_in 617 (by decide +kernel) rfl, qT_in 60 (by decide +kernel) rfl, ⟨by decide +kernel, by decide +kernel⟩, rfl, rfl⟩
theorem mtX4_isLine : Cond.static yX4_isLine ∈ qT := qT_in 616 (by decide +kernel) rfl
theorem maX4_isLine : qAr MX4_isLine 1 := by unfold qAr; decide +kernel
abbrev MX4_whatOf : qM := (yX4_whatOf, cX4_whatOf, 2, (some .int), { frames := 0, cells := 0, slots := 0, locals := 0 })
theorem miX4_whatOf : qIn MX4_whatOf := ⟨qT_in 693 (by decide +kernel) rfl, qT_in 60 (by decide +kernel) rfl, ⟨by decide +kernel, by decide +kernel⟩, rfl, rfl⟩
theorem msX4_whatOf : qIs MX4_whatOf := ⟨qT_in 691 (by decide +kernel) rfl, qT_in 692 (by decide +kernel) rfl⟩
theorem maX4_whatOf : qAr MX4_whatOf 1 := by unfold qAr; decide +kernel
abbrev MX4_originOf : qM := (yX4_originOf, cX4_originOf, 2, (some .int), { frames := 0, cells := 0, slots := 0, locals := 0 })
theorem miX4_originOf : qIn MX4_originOf := ⟨qT_in 701 (by decide +kernel) rfl, qT_in 60 (by decide +kernel) rfl, ⟨by decide +kernel, by decide +kernel⟩, rfl, rfl⟩
theorem msX4_originOf : qIs MX4_originOf := ⟨qT_in 699 (by decide +kernel) rfl, qT_in 700 (by decide +kernel) rfl⟩
theorem maX4_originOf : qAr MX4_originOf 1 := by unfold qAr; decide +kernel
abbrev MX4_squareOf : qM := (yX4_squareOf, cX4_squareOf, 2, (some .int), { frames := 0, cells := 0, slots := 0, locals := 0 })
theorem miX4_squareOf : qIn MX4_squareOf := ⟨qT_in 697 (by decide +kernel) rfl, qT_in 60 (by decide +kernel) rfl, ⟨by decide +kernel, by decide +kernel⟩, rfl, rfl⟩
theorem msX4_squareOf : qIs MX4_squareOf := ⟨qT_in 695 (by decide +kernel) rfl, qT_in 696 (by decide +kernel) rfl⟩
theorem maX4_squareOf : qAr MX4_squareOf 1 := by unfold qAr; decide +kernel
abbrev MX5_put : qM := (yX5_put, cX5_put, 3, (some .int), { frames := 3, cells := 0, slots := 0, locals := 66 })
theorem miX5_put : qIn MX5_put := ⟨qT_in 241 (by decide +kernel) rfl, qT_in 55 (by decide +kernel) rfl, ⟨by decide +kernel, by decide +kernel⟩, rfl, rfl⟩
theorem msX5_put : qIs MX5_put := ⟨qT_in 239 (by decide +kernel) rfl, qT_in 240 (by decide +kernel) rfl⟩
theorem maX5_put : qAr MX5_put 2 := by unfold qAr; decide +kernel
abbrev MX5_lift : qM := (yX5_lift, cX5_lift, 2, (some .int), { frames := 3, cells := 0, slots := 0, locals := 65 })
theorem miX5_lift : qIn MX5_lift := ⟨qT_in 297 (by decide +kernel) rfl, qT_in 55 (by decide +kernel) rfl, ⟨by decide +kernel, by decide +kernel⟩, rfl, rfl⟩
theorem msX5_lift : qIs MX5_lift := ⟨qT_in 295 (by decide +kernel) rfl, qT_in 296 (by decide +kernel) rfl⟩
theorem maX5_lift : qAr MX5_lift 1 := by unfold qAr; decide +kernel
abbrev MX5_play : qM := (yX5_play, cX5_play, 3, (some .int), { frames := 4, cells := 0, slots := 0, locals := 99 })
theorem miX5_play : qIn MX5_play := ⟨qT_in 305 (by decide +kernel) rfl, qT_in 55 (by decide +kernel) rfl, ⟨by decide +kernel, by decide +kernel⟩, rfl, rfl⟩
theorem msX5_play : qIs MX5_play := ⟨qT_in 303 (by decide +kernel) rfl, qT_in 304 (by decide +kernel) rfl⟩
theorem maX5_play : qAr MX5_play 2 := by unfold qAr; decide +kernel
abbrev MX5_turn : qM := (yX5_turn, cX5_turn, 1, (some .int), { frames := 3, cells := 0, slots := 0, locals := 67 })
theorem miX5_turn : qIn MX5_turn := ⟨qT_in 336 (by decide +kernel) rfl, qT_in 55 (by decide +kernel) rfl, ⟨by decide +kernel, by decide +kernel⟩, rfl, rfl⟩
theorem msX5_turn : qIs MX5_turn := ⟨qT_in 334 (by decide +kernel) rfl, qT_in 335 (by decide +kernel) rfl⟩
theorem maX5_turn : qAr MX5_turn 0 := by unfold qAr; decide +kernel
abbrev MX5_mirror : qM := (yX5_mirror, cX5_mirror, 1, (some .int), { frames := 3, cells := 0, slots := 0, locals := 67 })
theorem miX5_mirror : qIn MX5_mirror := ⟨qT_in 344 (by decide +kernel) rfl, qT_in 55 (by decide +kernel) rfl, ⟨by decide +kernel, by decide +kernel⟩, rfl, rfl⟩
theorem msX5_mirror : qIs MX5_mirror := ⟨qT_in 342 (by decide +kernel) rfl, qT_in 343 (by decide +kernel) rfl⟩
theorem maX5_mirror : qAr MX5_mirror 0 := by unfold qAr; decide +kernel
abbrev MX5_thrift : qM := (yX5_thrift, cX5_thrift, 1, (some .int), { frames := 6, cells := 0, slots := 0, locals := 150 })
theorem miX5_thrift : qIn MX5_thrift := ⟨qT_in 352 (by decide +kernel) rfl, qT_in 55 (by decide +kernel) rfl, ⟨by decide +kernel, by decide +kernel⟩, rfl, rfl⟩
theorem msX5_thrift : qIs MX5_thrift := ⟨qT_in 350 (by decide +kernel) rfl, qT_in 351 (by decide +kernel) rfl⟩
theorem maX5_thrift : qAr MX5_thrift 0 := by unfold qAr; decide +kernel
abbrev MX5_at : qM := (yX5_at, cX5_at, 2, (some .int), { frames := 2, cells := 0, slots := 0, locals := 41 })
theorem miX5_at : qIn MX5_at := ⟨qT_in 408 (by decide +kernel) rfl, qT_in 55 (by decide +kernel) rfl, ⟨by decide +kernel, by decide +kernel⟩, rfl, rfl⟩
theorem msX5_at : qIs MX5_at := ⟨qT_in 406 (by decide +kernel) rfl, qT_in 407 (by decide +kernel) rfl⟩
theorem maX5_at : qAr MX5_at 1 := by unfold qAr; decide +kernel
abbrev MX5_attackers : qM := (yX5_attackers, cX5_attackers, 2, (some .int), { frames := 3, cells := 0, slots := 0, locals := 64 })
theorem miX5_attackers : qIn MX5_attackers := ⟨qT_in 412 (by decide +kernel) rfl, qT_in 55 (by decide +kernel) rfl, ⟨by decide +kernel, by decide +kernel⟩, rfl, rfl⟩
theorem msX5_attackers : qIs MX5_attackers := ⟨qT_in 410 (by decide +kernel) rfl, qT_in 411 (by decide +kernel) rfl⟩
theorem maX5_attackers : qAr MX5_attackers 1 := by unfold qAr; decide +kernel
abbrev MX5_attackersAgain : qM := (yX5_attackersAgain, cX5_attackersAgain, 2, (some .int), { frames := 3, cells := 0, slots := 0, locals := 72 })
theorem miX5_attackersAgain : qIn MX5_attackersAgain := ⟨qT_in 416 (by decide +kernel) rfl, qT_in 55 (by decide +kernel) rfl, ⟨by decide +kernel, by decide +kernel⟩, rfl, rfl⟩
theorem msX5_attackersAgain : qIs MX5_attackersAgain := ⟨qT_in 414 (by decide +kernel) rfl, qT_in 415 (by decide +kernel) rfl⟩
theorem maX5_attackersAgain : qAr MX5_attackersAgain 1 := by unfold qAr; decide +kernel
abbrev MX5_manOf : qM := (yX5_manOf, cX5_manOf, 3, (some .int), { frames := 5, cells := 0, slots := 0, locals := 127 })
theorem miX5_manOf : qIn MX5_manOf := ⟨qT_in 421 (by decide +kernel) rfl, qT_in 55 (by decide +kernel) rfl, ⟨by decide +kernel, by decide +kernel⟩, rfl, rfl⟩
theorem msX5_manOf : qIs MX5_manOf := ⟨qT_in 419 (by decide +kernel) rfl, qT_in 420 (by decide +kernel) rfl⟩
theorem maX5_manOf : qAr MX5_manOf 2 := by unfold qAr; decide +kernel
abbrev MX5_move : qM := (yX5_move, cX5_move, 2, (some .int), { frames := 3, cells := 0, slots := 0, locals := 75 })
theorem miX5_move : qIn MX5_move := ⟨qT_in 428 (by decide +kernel) rfl, qT_in 55 (by decide +kernel) rfl, ⟨by decide +kernel, by decide +kernel⟩, rfl, rfl⟩
theorem msX5_move : qIs MX5_move := ⟨qT_in 426 (by decide +kernel) rfl, qT_in 427 (by decide +kernel) rfl⟩
theorem maX5_move : qAr MX5_move 1 := by unfold qAr; decide +kernel
abbrev MX5_escapes : qM := (yX5_escapes, cX5_escapes, 1, (some .int), { frames := 2, cells := 0, slots := 0, locals := 55 })
theorem miX5_escapes : qIn MX5_escapes := ⟨qT_in 442 (by decide +kernel) rfl, qT_in 55 (by decide +kernel) rfl, ⟨by decide +kernel, by decide +kernel⟩, rfl, rfl⟩
theorem msX5_escapes : qIs MX5_escapes := ⟨qT_in 440 (by decide +kernel) rfl, qT_in 441 (by decide +kernel) rfl⟩
theorem maX5_escapes : qAr MX5_escapes 0 := by unfold qAr; decide +kernel
abbrev MX5_isFit : qM := (yX5_isFit, cX5_isFit, 1, (some .int), { frames := 4, cells := 0, slots := 0, locals := 93 })
theorem miX5_isFit : qIn MX5_isFit := ⟨qT_in 451 (by decide +kernel) rfl, qT_in 55 (by decide +kernel) rfl, ⟨by decide +kernel, by decide +kernel⟩, rfl, rfl⟩
theorem msX5_isFit : qIs MX5_isFit := ⟨qT_in 449 (by decide +kernel) rfl, qT_in 450 (by decide +kernel) rfl⟩
theorem maX5_isFit : qAr MX5_isFit 0 := by unfold qAr; decide +kernel
abbrev MX5_key : qM := (yX5_key, cX5_key, 2, (some .int), { frames := 5, cells := 0, slots := 0, locals := 126 })
theorem miX5_key : qIn MX5_key := ⟨qT_in 455 (by decide +kernel) rfl, qT_in 55 (by decide +kernel) rfl, ⟨by decide +kernel, by decide +kernel⟩, rfl, rfl⟩
theorem msX5_key : qIs MX5_key := ⟨qT_in 453 (by decide +kernel) rfl, qT_in 454 (by decide +kernel) rfl⟩
theorem maX5_key : qAr MX5_key 1 := by unfold qAr; decide +kernel
abbrev MX5_kind : qM := (yX5_kind, cX5_kind, 3, (some .int), { frames := 4, cells := 0, slots := 0, locals := 105 })
theorem miX5_kind : qIn MX5_kind := ⟨qT_in 459 (by decide +kernel) rfl, qT_in 55 (by decide +kernel) rfl, ⟨by decide +kernel, by decide +kernel⟩, rfl, rfl⟩
theorem msX5_kind : qIs MX5_kind := ⟨qT_in 457 (by decide +kernel) rfl, qT_in 458 (by decide +kernel) rfl⟩
theorem maX5_kind : qAr MX5_kind 2 := by unfold qAr; decide +kernel
abbrev MX5_refutation : qM := (yX5_refutation, cX5_refutation, 3, (some .int), { frames := 4, cells := 0, slots := 0, locals := 105 })
theorem miX5_refutation : qIn MX5_refutation := ⟨qT_in 468 (by decide +kernel) rfl, qT_in 55 (by decide +kernel) rfl, ⟨by decide +kernel, by decide +kernel⟩, rfl, rfl⟩
theorem msX5_refutation : qIs MX5_refutation := ⟨qT_in 466 (by decide +kernel) rfl, qT_in 467 (by decide +kernel) rfl⟩
theorem maX5_refutation : qAr MX5_refutation 2 := by unfold qAr; decide +kernel
abbrev MX5_many : qM := (yX5_many, cX5_many, 2, (some .int), { frames := 5, cells := 0, slots := 0, locals := 128 })
theorem miX5_many : qIn MX5_many := ⟨qT_in 476 (by decide +kernel) rfl, qT_in 55 (by decide +kernel) rfl, ⟨by decide +kernel, by decide +kernel⟩, rfl, rfl⟩
theorem msX5_many : qIs MX5_many := ⟨qT_in 474 (by decide +kernel) rfl, qT_in 475 (by decide +kernel) rfl⟩
theorem maX5_many : qAr MX5_many 1 := by unfold qAr; decide +kernel
abbrev MX5_duals : qM := (yX5_duals, cX5_duals, 2, (some .int), { frames := 5, cells := 0, slots := 0, locals := 126 })
theorem miX5_duals : qIn MX5_duals := ⟨qT_in 489 (by decide +kernel) rfl, qT_in 55 (by decide +kernel) rfl, ⟨by decide +kernel, by decide +kernel⟩, rfl, rfl⟩
theorem msX5_duals : qIs MX5_duals := ⟨qT_in 487 (by decide +kernel) rfl, qT_in 488 (by decide +kernel) rfl⟩
theorem maX5_duals : qAr MX5_duals 0 := by unfold qAr; decide +kernel
abbrev MX5_would : qM := (yX5_would, cX5_would, 3, (some .int), { frames := 5, cells := 0, slots := 0, locals := 126 })
theorem miX5_would : qIn MX5_would := ⟨qT_in 493 (by decide +kernel) rfl, qT_in 55 (by decide +kernel) rfl, ⟨by decide +kernel, by decide +kernel⟩, rfl, rfl⟩
theorem msX5_would : qIs MX5_would := ⟨qT_in 491 (by decide +kernel) rfl, qT_in 492 (by decide +kernel) rfl⟩
theorem maX5_would : qAr MX5_would 2 := by unfold qAr; decide +kernel
abbrev MX5_ranked : qM := (yX5_ranked, cX5_ranked, 3, (some .int), { frames := 3, cells := 0, slots := 0, locals := 66 })
theorem miX5_ranked : qIn MX5_ranked := ⟨qT_in 497 (by decide +kernel) rfl, qT_in 55 (by decide +kernel) rfl, ⟨by decide +kernel, by decide +kernel⟩, rfl, rfl⟩
theorem msX5_ranked : qIs MX5_ranked := ⟨qT_in 495 (by decide +kernel) rfl, qT_in 496 (by decide +kernel) rfl⟩
theorem maX5_ranked : qAr MX5_ranked 1 := by unfold qAr; decide +kernel
abbrev MX5_show : qM := (yX5_show, cX5_show, 3, (some .int), { frames := 6, cells := 0, slots := 0, locals := 127 })
theorem miX5_show : qIn MX5_show := ⟨qT_in 506 (by decide +kernel) rfl, qT_in 55 (by decide +kernel) rfl, ⟨by decide +kernel, by decide +kernel⟩, rfl, rfl⟩
theorem msX5_show : qIs MX5_show := ⟨qT_in 504 (by decide +kernel) rfl, qT_in 505 (by decide +kernel) rfl⟩
theorem maX5_show : qAr MX5_show 0 := by unfold qAr; decide +kernel
abbrev MX5_tell : qM := (yX5_tell, cX5_tell, 3, (some .int), { frames := 6, cells := 0, slots := 0, locals := 127 })
theorem miX5_tell : qIn MX5_tell := ⟨qT_in 573 (by decide +kernel) rfl, qT_in 55 (by decide +kernel) rfl, ⟨by decide +kernel, by decide +kernel⟩, rfl, rfl⟩
theorem msX5_tell : qIs MX5_tell := ⟨qT_in 571 (by decide +kernel) rfl, qT_in 572 (by decide +kernel) rfl⟩
theorem maX5_tell : qAr MX5_tell 2 := by unfold qAr; decide +kernel
abbrev MX5_sign : qM := (yX5_sign, cX5_sign, 2, (some .int), { frames := 1, cells := 0, slots := 0, locals := 21 })
theorem miX5_sign : qIn MX5_sign := ⟨qT_in 586 (by decide +kernel) rfl, qT_in 55 (by decide +kernel) rfl, ⟨by decide +kernel, by decide +kernel⟩, rfl, rfl⟩
theorem msX5_sign : qIs MX5_sign := ⟨qT_in 584 (by decide +kernel) rfl, qT_in 585 (by decide +kernel) rfl⟩
theorem maX5_sign : qAr MX5_sign 1 := by unfold qAr; decide +kernel
abbrev MX5_append : qM := (yX5_append, cX5_append, 2, (some .int), { frames := 1, cells := 0, slots := 0, locals := 21 })
theorem miX5_append : qIn MX5_append := ⟨qT_in 594 (by decide +kernel) rfl, qT_in 55 (by decide +kernel) rfl, ⟨by decide +kernel, by decide +kernel⟩, rfl, rfl⟩
theorem msX5_append : qIs MX5_append := ⟨qT_in 592 (by decide +kernel) rfl, qT_in 593 (by decide +kernel) rfl⟩
theorem maX5_append : qAr MX5_append 1 := by unfold qAr; decide +kernel
abbrev MX5_read : qM := (yX5_read, cX5_read, 7, (some .int), { frames := 10, cells := 0, slots := 0, locals := 224 })
theorem miX5_read : qIn MX5_read := ⟨qT_in 602 (by decide +kernel) rfl, qT_in 55 (by decide +kernel) rfl, ⟨by decide +kernel, by decide +kernel⟩, rfl, rfl⟩
theorem msX5_read : qIs MX5_read := ⟨qT_in 600 (by decide +kernel) rfl, qT_in 601 (by decide +kernel) rfl⟩
theorem maX5_read : qAr MX5_read 0 := by unfold qAr; decide +kernel
abbrev MX5_refusal : qM := (yX5_refusal, cX5_refusal, 2, (some .int), { frames := 0, cells := 0, slots := 0, locals := 0 })
theorem miX5_refusal : qIn MX5_refusal := ⟨qT_in 705 (by decide +kernel) rfl, qT_in 55 (by decide +kernel) rfl, ⟨by decide +kernel, by decide +kernel⟩, rfl, rfl⟩
theorem msX5_refusal : qIs MX5_refusal := ⟨qT_in 703 (by decide +kernel) rfl, qT_in 704 (by decide +kernel) rfl⟩
theorem maX5_refusal : qAr MX5_refusal 1 := by unfold qAr; decide +kernel
abbrev MX5_account : qM := (yX5_account, cX5_account, 2, (some .int), { frames := 3, cells := 0, slots := 0, locals := 75 })
theorem miX5_account : qIn MX5_account := ⟨qT_in 709 (by decide +kernel) rfl, qT_in 55 (by decide +kernel) rfl, ⟨by decide +kernel, by decide +kernel⟩, rfl, rfl⟩
theorem msX5_account : qIs MX5_account := ⟨qT_in 707 (by decide +kernel) rfl, qT_in 708 (by decide +kernel) rfl⟩
theorem maX5_account : qAr MX5_account 1 := by unfold qAr; decide +kernel
abbrev MX5_isWell : qM := (yX5_isWell, cX5_isWell, 2, (some .int), { frames := 6, cells := 0, slots := 0, locals := 148 })
theorem miX5_isWell : qIn MX5_isWell := ⟨qT_in 718 (by decide +kernel) rfl, qT_in 55 (by decide +kernel) rfl, ⟨by decide +kernel, by decide +kernel⟩, rfl, rfl⟩
theorem msX5_isWell : qIs MX5_isWell := ⟨qT_in 716 (by decide +kernel) rfl, qT_in 717 (by decide +kernel) rfl⟩
theorem maX5_isWell : qAr MX5_isWell 0 := by unfold qAr; decide +kernel
abbrev MX5_share : qM := (yX5_share, cX5_share, 2, (some .int), { frames := 2, cells := 0, slots := 0, locals := 52 })
theorem miX5_share : qIn MX5_share := ⟨qT_in 730 (by decide +kernel) rfl, qT_in 55 (by decide +kernel) rfl, ⟨by decide +kernel, by decide +kernel⟩, rfl, rfl⟩
theorem msX5_share : qIs MX5_share := ⟨qT_in 728 (by decide +kernel) rfl, qT_in 729 (by decide +kernel) rfl⟩
theorem maX5_share : qAr MX5_share 0 := by unfold qAr; decide +kernel
abbrev MX5_undo : qM := (yX5_undo, cX5_undo, 1, (some .int), { frames := 2, cells := 0, slots := 0, locals := 45 })
theorem miX5_undo : qIn MX5_undo := ⟨qT_in 739 (by decide +kernel) rfl, qT_in 55 (by decide +kernel) rfl, ⟨by decide +kernel, by decide +kernel⟩, rfl, rfl⟩
theorem msX5_undo : qIs MX5_undo := ⟨qT_in 737 (by decide +kernel) rfl, qT_in 738 (by decide +kernel) rfl⟩
theorem maX5_undo : qAr MX5_undo 0 := by unfold qAr; decide +kernel
abbrev MX5_save : qM := (yX5_save, cX5_save, 1, (some .int), { frames := 2, cells := 0, slots := 0, locals := 44 })
theorem miX5_save : qIn MX5_save := ⟨qT_in 747 (by decide +kernel) rfl, qT_in 55 (by decide +kernel) rfl, ⟨by decide +kernel, by decide +kernel⟩, rfl, rfl⟩
theorem msX5_save : qIs MX5_save := ⟨qT_in 745 (by decide +kernel) rfl, qT_in 746 (by decide +kernel) rfl⟩
theorem maX5_save : qAr MX5_save 0 := by unfold qAr; decide +kernel
abbrev MX5_restore : qM := (yX5_restore, cX5_restore, 1, (some .int), { frames := 2, cells := 0, slots := 0, locals := 44 })
theorem miX5_restore : qIn MX5_restore := ⟨qT_in 751 (by decide +kernel) rfl, qT_in 55 (by decide +kernel) rfl, ⟨by decide +kernel, by decide +kernel⟩, rfl, rfl⟩
theorem msX5_restore : qIs MX5_restore := ⟨qT_in 749 (by decide +kernel) rfl, qT_in 750 (by decide +kernel) rfl⟩
theorem maX5_restore : qAr MX5_restore 0 := by unfold qAr; decide +kernel
abbrev MX5_putNow : qM := (yX5_putNow, cX5_putNow, 3, (some .int), { frames := 2, cells := 0, slots := 0, locals := 44 })
theorem miX5_putNow : qIn MX5_putNow := ⟨qT_in 249 (by decide +kernel) rfl, qT_in 55 (by decide +kernel) rfl, ⟨by decide +kernel, by decide +kernel⟩, rfl, rfl⟩
theorem msX5_putNow : qIs MX5_putNow := ⟨qT_in 248 (by decide +kernel) rfl, qT_in 0 (by decide +kernel) rfl⟩
theorem maX5_putNow : qAr MX5_putNow 2 := by unfold qAr; decide +kernel
abbrev MX5_liftNow : qM := (yX5_liftNow, cX5_liftNow, 3, (some .int), { frames := 2, cells := 0, slots := 0, locals := 42 })
theorem miX5_liftNow : qIn MX5_liftNow := ⟨qT_in 301 (by decide +kernel) rfl, qT_in 55 (by decide +kernel) rfl, ⟨by decide +kernel, by decide +kernel⟩, rfl, rfl⟩
theorem msX5_liftNow : qIs MX5_liftNow := ⟨qT_in 300 (by decide +kernel) rfl, qT_in 4 (by decide +kernel) rfl⟩
theorem maX5_liftNow : qAr MX5_liftNow 1 := by unfold qAr; decide +kernel
abbrev MX5_playNow : qM := (yX5_playNow, cX5_playNow, 5, (some .int), { frames := 3, cells := 0, slots := 0, locals := 75 })
theorem miX5_playNow : qIn MX5_playNow := ⟨qT_in 309 (by decide +kernel) rfl, qT_in 55 (by decide +kernel) rfl, ⟨by decide +kernel, by decide +kernel⟩, rfl, rfl⟩
theorem msX5_playNow : qIs MX5_playNow := ⟨qT_in 308 (by decide +kernel) rfl, qT_in 5 (by decide +kernel) rfl⟩
theorem maX5_playNow : qAr MX5_playNow 2 := by unfold qAr; decide +kernel
abbrev MX5_turnNow : qM := (yX5_turnNow, cX5_turnNow, 4, (some .int), { frames := 2, cells := 0, slots := 0, locals := 44 })
theorem miX5_turnNow : qIn MX5_turnNow := ⟨qT_in 340 (by decide +kernel) rfl, qT_in 55 (by decide +kernel) rfl, ⟨by decide +kernel, by decide +kernel⟩, rfl, rfl⟩
theorem msX5_turnNow : qIs MX5_turnNow := ⟨qT_in 339 (by decide +kernel) rfl, qT_in 6 (by decide +kernel) rfl⟩
theorem maX5_turnNow : qAr MX5_turnNow 0 := by unfold qAr; decide +kernel
abbrev MX5_mirrorNow : qM := (yX5_mirrorNow, cX5_mirrorNow, 4, (some .int), { frames := 2, cells := 0, slots := 0, locals := 44 })
theorem miX5_mirrorNow : qIn MX5_mirrorNow := ⟨qT_in 348 (by decide +kernel) rfl, qT_in 55 (by decide +kernel) rfl, ⟨by decide +kernel, by decide +kernel⟩, rfl, rfl⟩
theorem msX5_mirrorNow : qIs MX5_mirrorNow := ⟨qT_in 347 (by decide +kernel) rfl, qT_in 7 (by decide +kernel) rfl⟩
theorem maX5_mirrorNow : qAr MX5_mirrorNow 0 := by unfold qAr; decide +kernel
abbrev MX5_thriftNow : qM := (yX5_thriftNow, cX5_thriftNow, 4, (some .int), { frames := 5, cells := 0, slots := 0, locals := 127 })
theorem miX5_thriftNow : qIn MX5_thriftNow := ⟨qT_in 356 (by decide +kernel) rfl, qT_in 55 (by decide +kernel) rfl, ⟨by decide +kernel, by decide +kernel⟩, rfl, rfl⟩
theorem msX5_thriftNow : qIs MX5_thriftNow := ⟨qT_in 355 (by decide +kernel) rfl, qT_in 8 (by decide +kernel) rfl⟩
theorem maX5_thriftNow : qAr MX5_thriftNow 0 := by unfold qAr; decide +kernel
abbrev MX5_keep : qM := (yX5_keep, cX5_keep, 2, (some .int), { frames := 2, cells := 0, slots := 0, locals := 44 })
theorem miX5_keep : qIn MX5_keep := ⟨qT_in 284 (by decide +kernel) rfl, qT_in 55 (by decide +kernel) rfl, ⟨by decide +kernel, by decide +kernel⟩, rfl, rfl⟩
theorem msX5_keep : qIs MX5_keep := ⟨qT_in 283 (by decide +kernel) rfl, qT_in 2 (by decide +kernel) rfl⟩
theorem maX5_keep : qAr MX5_keep 1 := by unfold qAr; decide +kernel
abbrev MX5_refuse : qM := (yX5_refuse, cX5_refuse, 3, (some .int), { frames := 0, cells := 0, slots := 0, locals := 0 })
theorem miX5_refuse : qIn MX5_refuse := ⟨qT_in 261 (by decide +kernel) rfl, qT_in 55 (by decide +kernel) rfl, ⟨by decide +kernel, by decide +kernel⟩, rfl, rfl⟩
theorem msX5_refuse : qIs MX5_refuse := ⟨qT_in 260 (by decide +kernel) rfl, qT_in 1 (by decide +kernel) rfl⟩
theorem maX5_refuse : qAr MX5_refuse 2 := by unfold qAr; decide +kernel
abbrev MX5_canSpare : qM := (yX5_canSpare, cX5_canSpare, 4, (some .boolean), { frames := 4, cells := 0, slots := 0, locals := 104 })
theorem miX5_canSpare : qIn MX5_canSpare := ⟨qT_in 396 (by decide +kernel) rfl, qT_in 55 (by decide +kernel) rfl, ⟨by decide +kernel, by decide +kernel⟩, rfl, rfl⟩
theorem msX5_canSpare : qIs MX5_canSpare := ⟨qT_in 395 (by decide +kernel) rfl, qT_in 10 (by decide +kernel) rfl⟩
theorem maX5_canSpare : qAr MX5_canSpare 1 := by unfold qAr; decide +kernel
abbrev MX5_fillTally : qM := (yX5_fillTally, cX5_fillTally, 4, none, { frames := 4, cells := 0, slots := 0, locals := 105 })
theorem miX5_fillTally : qIn MX5_fillTally := ⟨qT_in 480 (by decide +kernel) rfl, qT_in 55 (by decide +kernel) rfl, ⟨by decide +kernel, by decide +kernel⟩, rfl, rfl⟩
theorem msX5_fillTally : qIs MX5_fillTally := ⟨qT_in 479 (by decide +kernel) rfl, qT_in 11 (by decide +kernel) rfl⟩
theorem maX5_fillTally : qAr MX5_fillTally 0 := by unfold qAr; decide +kernel
abbrev MX5_countKind : qM := (yX5_countKind, cX5_countKind, 2, none, { frames := 0, cells := 0, slots := 0, locals := 0 })
theorem miX5_countKind : qIn MX5_countKind := ⟨qT_in 485 (by decide +kernel) rfl, qT_in 55 (by decide +kernel) rfl, ⟨by decide +kernel, by decide +kernel⟩, rfl, rfl⟩
theorem msX5_countKind : qIs MX5_countKind := ⟨qT_in 484 (by decide +kernel) rfl, qT_in 12 (by decide +kernel) rfl⟩
theorem maX5_countKind : qAr MX5_countKind 1 := by unfold qAr; decide +kernel
abbrev MX5_kindsAreAllMoves : qM := (yX5_kindsAreAllMoves, cX5_kindsAreAllMoves, 1, (some .boolean), { frames := 5, cells := 0, slots := 0, locals := 128 })
theorem miX5_kindsAreAllMoves : qIn MX5_kindsAreAllMoves := ⟨qT_in 722 (by decide +kernel) rfl, qT_in 55 (by decide +kernel) rfl, ⟨by decide +kernel, by decide +kernel⟩, rfl, rfl⟩
theorem msX5_kindsAreAllMoves : qIs MX5_kindsAreAllMoves := ⟨qT_in 721 (by decide +kernel) rfl, qT_in 18 (by decide +kernel) rfl⟩
theorem maX5_kindsAreAllMoves : qAr MX5_kindsAreAllMoves 0 := by unfold qAr; decide +kernel
abbrev MX5_keysLeaveNoFlight : qM := (yX5_keysLeaveNoFlight, cX5_keysLeaveNoFlight, 3, (some .boolean), { frames := 5, cells := 0, slots := 0, locals := 126 })
theorem miX5_keysLeaveNoFlight : qIn MX5_keysLeaveNoFlight := ⟨qT_in 726 (by decide +kernel) rfl, qT_in 55 (by decide +kernel) rfl, ⟨by decide +kernel, by decide +kernel⟩, rfl, rfl⟩
theorem msX5_keysLeaveNoFlight : qIs MX5_keysLeaveNoFlight := ⟨qT_in 725 (by decide +kernel) rfl, qT_in 19 (by decide +kernel) rfl⟩
theorem maX5_keysLeaveNoFlight : qAr MX5_keysLeaveNoFlight 0 := by unfold qAr; decide +kernel
abbrev MX5_placeInOrder : qM := (yX5_placeInOrder, cX5_placeInOrder, 6, (some .int), { frames := 2, cells := 0, slots := 0, locals := 41 })
theorem miX5_placeInOrder : qIn MX5_placeInOrder := ⟨qT_in 502 (by decide +kernel) rfl, qT_in 55 (by decide +kernel) rfl, ⟨by decide +kernel, by decide +kernel⟩, rfl, rfl⟩
theorem msX5_placeInOrder : qIs MX5_placeInOrder := ⟨qT_in 501 (by decide +kernel) rfl, qT_in 13 (by decide +kernel) rfl⟩
theorem maX5_placeInOrder : qAr MX5_placeInOrder 1 := by unfold qAr; decide +kernel
abbrev MX5_isSquare : qM := (yX5_isSquare, cX5_isSquare, 1, (some .boolean), { frames := 0, cells := 0, slots := 0, locals := 0 })
theorem miX5_isSquare : qIn MX5_isSquare := ⟨qT_in 252 (by decide +kernel) rfl, qT_in 55 (by decide +kernel) rfl, ⟨by decide +kernel, by decide +kernel⟩, rfl, rfl⟩
theorem mtX5_isSquare : Cond.static yX5_isSquare ∈ qT := qT_in 251 (by decide +kernel) rfl
theorem maX5_isSquare : qAr MX5_isSquare 1 := by unfold qAr; decide +kernel
abbrev MX5_isWhite : qM := (yX5_isWhite, cX5_isWhite, 1, (some .boolean), { frames := 0, cells := 0, slots := 0, locals := 0 })
theorem miX5_isWhite : qIn MX5_isWhite := ⟨qT_in 320 (by decide +kernel) rfl, qT_in 55 (by decide +kernel) rfl, ⟨by decide +kernel, by decide +kernel⟩, rfl, rfl⟩
theorem mtX5_isWhite : Cond.static yX5_isWhite ∈ qT := qT_in 319 (by decide +kernel) rfl
theorem maX5_isWhite : qAr MX5_isWhite 1 := by unfold qAr; decide +kernel
abbrev MX5_isKing : qM := (yX5_isKing, cX5_isKing, 1, (some .boolean), { frames := 0, cells := 0, slots := 0, locals := 0 })
theorem miX5_isKing : qIn MX5_isKing := ⟨qT_in 264 (by decide +kernel) rfl, qT_in 55 (by decide +kernel) rfl, ⟨by decide +kernel, by decide +kernel⟩, rfl, rfl⟩
theorem mtX5_isKing : Cond.static yX5_isKing ∈ qT := qT_in 263 (by decide +kernel) rfl
theorem maX5_isKing : qAr MX5_isKing 1 := by unfold qAr; decide +kernel
abbrev MX5_hasSquare : qM := (yX5_hasSquare, cX5_hasSquare, 2, (some .boolean), { frames := 1, cells := 0, slots := 0, locals := 20 })
theorem miX5_hasSquare : qIn MX5_hasSquare := ⟨qT_in 332 (by decide +kernel) rfl, qT_in 55 (by decide +kernel) rfl, ⟨by decide +kernel, by decide +kernel⟩, rfl, rfl⟩
theorem mtX5_hasSquare : Cond.static yX5_hasSquare ∈ qT := qT_in 331 (by decide +kernel) rfl
theorem maX5_hasSquare : qAr MX5_hasSquare 2 := by unfold qAr; decide +kernel
abbrev MX5_squaresIn : qM := (yX5_squaresIn, cX5_squaresIn, 1, (some .int), { frames := 0, cells := 0, slots := 0, locals := 0 })
theorem miX5_squaresIn : qIn MX5_squaresIn := ⟨qT_in 446 (by decide +kernel) rfl, qT_in 55 (by decide +kernel) rfl, ⟨by decide +kernel, by decide +kernel⟩, rfl, rfl⟩
theorem mtX5_squaresIn : Cond.static yX5_squaresIn ∈ qT := qT_in 445 (by decide +kernel) rfl
theorem maX5_squaresIn : qAr MX5_squaresIn 1 := by unfold qAr; decide +kernel
abbrev MX5_bitsOf : qM := (yX5_bitsOf, cX5_bitsOf, 3, (some .int), { frames := 0, cells := 0, slots := 0, locals := 0 })
theorem miX5_bitsOf : qIn MX5_bitsOf := ⟨qT_in 403 (by decide +kernel) rfl, qT_in 55 (by decide +kernel) rfl, ⟨by decide +kernel, by decide +kernel⟩, rfl, rfl⟩
theorem mtX5_bitsOf : Cond.static yX5_bitsOf ∈ qT := qT_in 402 (by decide +kernel) rfl
theorem maX5_bitsOf : qAr MX5_bitsOf 1 := by unfold qAr; decide +kernel
abbrev MX5_lowestIn : qM := (yX5_lowestIn, cX5_lowestIn, 2, (some .int), { frames := 0, cells := 0, slots := 0, locals := 0 })
theorem miX5_lowestIn : qIn MX5_lowestIn := ⟨qT_in 472 (by decide +kernel) rfl, qT_in 55 (by decide +kernel) rfl, ⟨by decide +kernel, by decide +kernel⟩, rfl, rfl⟩
theorem mtX5_lowestIn : Cond.static yX5_lowestIn ∈ qT := qT_in 471 (by decide +kernel) rfl
theorem maX5_lowestIn : qAr MX5_lowestIn 1 := by unfold qAr; decide +kernel
abbrev MX5_bitsOfShare : qM := (yX5_bitsOfShare, cX5_bitsOfShare, 4, (some .int), { frames := 0, cells := 0, slots := 0, locals := 0 })
theorem miX5_bitsOfShare : qIn MX5_bitsOfShare := ⟨qT_in 734 (by decide +kernel) rfl, qT_in 55 (by decide +kernel) rfl, ⟨by decide +kernel, by decide +kernel⟩, rfl, rfl⟩
theorem mtX5_bitsOfShare : Cond.static yX5_bitsOfShare ∈ qT := qT_in 733 (by decide +kernel) rfl
theorem maX5_bitsOfShare : qAr MX5_bitsOfShare 1 := by unfold qAr; decide +kernel
abbrev MX6_in : qM := (yX6_in, cX6_in, 3, (some .boolean), { frames := 0, cells := 0, slots := 0, locals := 0 })
theorem miX6_in : qIn MX6_in := ⟨qT_in 836 (by decide +kernel) rfl, qT_in 61 (by decide +kernel) rfl, ⟨by decide +kernel, by decide +kernel⟩, rfl, rfl⟩
theorem mtX6_in : Cond.static yX6_in ∈ qT := qT_in 835 (by decide +kernel) rfl
theorem maX6_in : qAr MX6_in 3 := by unfold qAr; decide +kernel
abbrev MX6_keep : qM := (yX6_keep, cX6_keep, 1, none, { frames := 1, cells := 0, slots := 0, locals := 26 })
theorem miX6_keep : qIn MX6_keep := ⟨qT_in 844 (by decide +kernel) rfl, qT_in 61 (by decide +kernel) rfl, ⟨by decide +kernel, by decide +kernel⟩, rfl, rfl⟩
theorem msX6_keep : qIs MX6_keep := ⟨qT_in 843 (by decide +kernel) rfl, qT_in 20 (by decide +kernel) rfl⟩
theorem maX6_keep : qAr MX6_keep 0 := by unfold qAr; decide +kernel
abbrev MX6_ends : qM := (yX6_ends, cX6_ends, 2, (some .int), { frames := 1, cells := 0, slots := 0, locals := 26 })
theorem miX6_ends : qIn MX6_ends := ⟨qT_in 870 (by decide +kernel) rfl, qT_in 61 (by decide +kernel) rfl, ⟨by decide +kernel, by decide +kernel⟩, rfl, rfl⟩
theorem msX6_ends : qIs MX6_ends := ⟨qT_in 869 (by decide +kernel) rfl, qT_in 25 (by decide +kernel) rfl⟩
theorem maX6_ends : qAr MX6_ends 1 := by unfold qAr; decide +kernel
abbrev MX6_refuse : qM := (yX6_refuse, cX6_refuse, 3, (some .int), { frames := 0, cells := 0, slots := 0, locals := 0 })
theorem miX6_refuse : qIn MX6_refuse := ⟨qT_in 858 (by decide +kernel) rfl, qT_in 61 (by decide +kernel) rfl, ⟨by decide +kernel, by decide +kernel⟩, rfl, rfl⟩
theorem msX6_refuse : qIs MX6_refuse := ⟨qT_in 857 (by decide +kernel) rfl, qT_in 22 (by decide +kernel) rfl⟩
theorem maX6_refuse : qAr MX6_refuse 2 := by unfold qAr; decide +kernel
abbrev MX6_refusal : qM := (yX6_refusal, cX6_refusal, 2, (some .int), { frames := 1, cells := 0, slots := 0, locals := 22 })
theorem miX6_refusal : qIn MX6_refusal := ⟨qT_in 833 (by decide +kernel) rfl, qT_in 61 (by decide +kernel) rfl, ⟨by decide +kernel, by decide +kernel⟩, rfl, rfl⟩
theorem msX6_refusal : qIs MX6_refusal := ⟨qT_in 831 (by decide +kernel) rfl, qT_in 832 (by decide +kernel) rfl⟩
theorem maX6_refusal : qAr MX6_refusal 1 := by unfold qAr; decide +kernel
abbrev MX6_isSquare : qM := (yX6_isSquare, cX6_isSquare, 1, (some .boolean), { frames := 1, cells := 0, slots := 0, locals := 22 })
theorem miX6_isSquare : qIn MX6_isSquare := ⟨qT_in 854 (by decide +kernel) rfl, qT_in 61 (by decide +kernel) rfl, ⟨by decide +kernel, by decide +kernel⟩, rfl, rfl⟩
theorem mtX6_isSquare : Cond.static yX6_isSquare ∈ qT := qT_in 853 (by decide +kernel) rfl
theorem maX6_isSquare : qAr MX6_isSquare 1 := by unfold qAr; decide +kernel
abbrev MX6_isWhite : qM := (yX6_isWhite, cX6_isWhite, 1, (some .boolean), { frames := 1, cells := 0, slots := 0, locals := 22 })
theorem miX6_isWhite : qIn MX6_isWhite := ⟨qT_in 945 (by decide +kernel) rfl, qT_in 61 (by decide +kernel) rfl, ⟨by decide +kernel, by decide +kernel⟩, rfl, rfl⟩
theorem mtX6_isWhite : Cond.static yX6_isWhite ∈ qT := qT_in 944 (by decide +kernel) rfl
theorem maX6_isWhite : qAr MX6_isWhite 1 := by unfold qAr; decide +kernel
abbrev MX6_where : qM := (yX6_where, cX6_where, 4, (some .int), { frames := 0, cells := 0, slots := 0, locals := 0 })
theorem miX6_where : qIn MX6_where := ⟨qT_in 862 (by decide +kernel) rfl, qT_in 61 (by decide +kernel) rfl, ⟨by decide +kernel, by decide +kernel⟩, rfl, rfl⟩
theorem msX6_where : qIs MX6_where := ⟨qT_in 861 (by decide +kernel) rfl, qT_in 23 (by decide +kernel) rfl⟩
theorem maX6_where : qAr MX6_where 1 := by unfold qAr; decide +kernel
abbrev MX6_men : qM := (yX6_men, cX6_men, 3, (some .int), { frames := 0, cells := 0, slots := 0, locals := 0 })
theorem miX6_men : qIn MX6_men := ⟨qT_in 866 (by decide +kernel) rfl, qT_in 61 (by decide +kernel) rfl, ⟨by decide +kernel, by decide +kernel⟩, rfl, rfl⟩
theorem msX6_men : qIs MX6_men := ⟨qT_in 865 (by decide +kernel) rfl, qT_in 24 (by decide +kernel) rfl⟩
theorem maX6_men : qAr MX6_men 0 := by unfold qAr; decide +kernel
abbrev MX6_doPut : qM := (yX6_doPut, cX6_doPut, 3, (some .int), { frames := 2, cells := 0, slots := 0, locals := 42 })
theorem miX6_doPut : qIn MX6_doPut := ⟨qT_in 851 (by decide +kernel) rfl, qT_in 61 (by decide +kernel) rfl, ⟨by decide +kernel, by decide +kernel⟩, rfl, rfl⟩
theorem msX6_doPut : qIs MX6_doPut := ⟨qT_in 850 (by decide +kernel) rfl, qT_in 21 (by decide +kernel) rfl⟩
theorem maX6_doPut : qAr MX6_doPut 2 := by unfold qAr; decide +kernel
abbrev MX6_put : qM := (yX6_put, cX6_put, 3, (some .int), { frames := 3, cells := 0, slots := 0, locals := 64 })
theorem miX6_put : qIn MX6_put := ⟨qT_in 840 (by decide +kernel) rfl, qT_in 61 (by decide +kernel) rfl, ⟨by decide +kernel, by decide +kernel⟩, rfl, rfl⟩
theorem msX6_put : qIs MX6_put := ⟨qT_in 838 (by decide +kernel) rfl, qT_in 839 (by decide +kernel) rfl⟩
theorem maX6_put : qAr MX6_put 2 := by unfold qAr; decide +kernel
abbrev MX6_doLift : qM := (yX6_doLift, cX6_doLift, 3, (some .int), { frames := 2, cells := 0, slots := 0, locals := 42 })
theorem miX6_doLift : qIn MX6_doLift := ⟨qT_in 878 (by decide +kernel) rfl, qT_in 61 (by decide +kernel) rfl, ⟨by decide +kernel, by decide +kernel⟩, rfl, rfl⟩
theorem msX6_doLift : qIs MX6_doLift := ⟨qT_in 877 (by decide +kernel) rfl, qT_in 26 (by decide +kernel) rfl⟩
theorem maX6_doLift : qAr MX6_doLift 1 := by unfold qAr; decide +kernel
abbrev MX6_lift : qM := (yX6_lift, cX6_lift, 2, (some .int), { frames := 3, cells := 0, slots := 0, locals := 64 })
theorem miX6_lift : qIn MX6_lift := ⟨qT_in 874 (by decide +kernel) rfl, qT_in 61 (by decide +kernel) rfl, ⟨by decide +kernel, by decide +kernel⟩, rfl, rfl⟩
theorem msX6_lift : qIs MX6_lift := ⟨qT_in 872 (by decide +kernel) rfl, qT_in 873 (by decide +kernel) rfl⟩
theorem maX6_lift : qAr MX6_lift 1 := by unfold qAr; decide +kernel
abbrev MX6_at : qM := (yX6_at, cX6_at, 2, (some .int), { frames := 2, cells := 0, slots := 0, locals := 42 })
theorem miX6_at : qIn MX6_at := ⟨qT_in 882 (by decide +kernel) rfl, qT_in 61 (by decide +kernel) rfl, ⟨by decide +kernel, by decide +kernel⟩, rfl, rfl⟩
theorem msX6_at : qIs MX6_at := ⟨qT_in 880 (by decide +kernel) rfl, qT_in 881 (by decide +kernel) rfl⟩
theorem maX6_at : qAr MX6_at 1 := by unfold qAr; decide +kernel
abbrev MX6_away : qM := (yX6_away, cX6_away, 6, (some .int), { frames := 1, cells := 0, slots := 0, locals := 22 })
theorem miX6_away : qIn MX6_away := ⟨qT_in 894 (by decide +kernel) rfl, qT_in 61 (by decide +kernel) rfl, ⟨by decide +kernel, by decide +kernel⟩, rfl, rfl⟩
theorem msX6_away : qIs MX6_away := ⟨qT_in 893 (by decide +kernel) rfl, qT_in 28 (by decide +kernel) rfl⟩
theorem maX6_away : qAr MX6_away 3 := by unfold qAr; decide +kernel
abbrev MX6_firstAt : qM := (yX6_firstAt, cX6_firstAt, 5, (some .int), { frames := 2, cells := 0, slots := 0, locals := 47 })
theorem miX6_firstAt : qIn MX6_firstAt := ⟨qT_in 898 (by decide +kernel) rfl, qT_in 61 (by decide +kernel) rfl, ⟨by decide +kernel, by decide +kernel⟩, rfl, rfl⟩
theorem msX6_firstAt : qIs MX6_firstAt := ⟨qT_in 897 (by decide +kernel) rfl, qT_in 29 (by decide +kernel) rfl⟩
theorem maX6_firstAt : qAr MX6_firstAt 3 := by unfold qAr; decide +kernel
abbrev MX6_attackersOf : qM := (yX6_attackersOf, cX6_attackersOf, 9, (some .int), { frames := 3, cells := 0, slots := 0, locals := 71 })
theorem miX6_attackersOf : qIn MX6_attackersOf := ⟨qT_in 890 (by decide +kernel) rfl, qT_in 61 (by decide +kernel) rfl, ⟨by decide +kernel, by decide +kernel⟩, rfl, rfl⟩
theorem msX6_attackersOf : qIs MX6_attackersOf := ⟨qT_in 889 (by decide +kernel) rfl, qT_in 27 (by decide +kernel) rfl⟩
theorem maX6_attackersOf : qAr MX6_attackersOf 1 := by unfold qAr; decide +kernel
abbrev MX6_attacks : qM := (yX6_attacks, cX6_attacks, 11, (some .boolean), { frames := 3, cells := 0, slots := 0, locals := 71 })
theorem miX6_attacks : qIn MX6_attacks := ⟨qT_in 949 (by decide +kernel) rfl, qT_in 61 (by decide +kernel) rfl, ⟨by decide +kernel, by decide +kernel⟩, rfl, rfl⟩
theorem msX6_attacks : qIs MX6_attacks := ⟨qT_in 948 (by decide +kernel) rfl, qT_in 35 (by decide +kernel) rfl⟩
theorem maX6_attacks : qAr MX6_attacks 2 := by unfold qAr; decide +kernel
abbrev MX6_areBeside : qM := (yX6_areBeside, cX6_areBeside, 2, (some .boolean), { frames := 1, cells := 0, slots := 0, locals := 21 })
theorem miX6_areBeside : qIn MX6_areBeside := ⟨qT_in 918 (by decide +kernel) rfl, qT_in 61 (by decide +kernel) rfl, ⟨by decide +kernel, by decide +kernel⟩, rfl, rfl⟩
theorem mtX6_areBeside : Cond.static yX6_areBeside ∈ qT := qT_in 917 (by decide +kernel) rfl
theorem maX6_areBeside : qAr MX6_areBeside 2 := by unfold qAr; decide +kernel
abbrev MX6_isMove : qM := (yX6_isMove, cX6_isMove, 4, (some .boolean), { frames := 4, cells := 0, slots := 0, locals := 101 })
theorem miX6_isMove : qIn MX6_isMove := ⟨qT_in 942 (by decide +kernel) rfl, qT_in 61 (by decide +kernel) rfl, ⟨by decide +kernel, by decide +kernel⟩, rfl, rfl⟩
theorem msX6_isMove : qIs MX6_isMove := ⟨qT_in 941 (by decide +kernel) rfl, qT_in 34 (by decide +kernel) rfl⟩
theorem maX6_isMove : qAr MX6_isMove 2 := by unfold qAr; decide +kernel
abbrev MX6_countOf : qM := (yX6_countOf, cX6_countOf, 5, (some .int), { frames := 5, cells := 0, slots := 0, locals := 124 })
theorem miX6_countOf : qIn MX6_countOf := ⟨qT_in 1005 (by decide +kernel) rfl, qT_in 61 (by decide +kernel) rfl, ⟨by decide +kernel, by decide +kernel⟩, rfl, rfl⟩
theorem msX6_countOf : qIs MX6_countOf := ⟨qT_in 1004 (by decide +kernel) rfl, qT_in 41 (by decide +kernel) rfl⟩
theorem maX6_countOf : qAr MX6_countOf 2 := by unfold qAr; decide +kernel
abbrev MX6_attackers : qM := (yX6_attackers, cX6_attackers, 2, (some .int), { frames := 4, cells := 0, slots := 0, locals := 99 })
theorem miX6_attackers : qIn MX6_attackers := ⟨qT_in 886 (by decide +kernel) rfl, qT_in 61 (by decide +kernel) rfl, ⟨by decide +kernel, by decide +kernel⟩, rfl, rfl⟩
theorem msX6_attackers : qIs MX6_attackers := ⟨qT_in 884 (by decide +kernel) rfl, qT_in 885 (by decide +kernel) rfl⟩
theorem maX6_attackers : qAr MX6_attackers 1 := by unfold qAr; decide +kernel
abbrev MX6_attackersAgain : qM := (yX6_attackersAgain, cX6_attackersAgain, 2, (some .int), { frames := 5, cells := 0, slots := 0, locals := 120 })
theorem miX6_attackersAgain : qIn MX6_attackersAgain := ⟨qT_in 902 (by decide +kernel) rfl, qT_in 61 (by decide +kernel) rfl, ⟨by decide +kernel, by decide +kernel⟩, rfl, rfl⟩
theorem msX6_attackersAgain : qIs MX6_attackersAgain := ⟨qT_in 900 (by decide +kernel) rfl, qT_in 901 (by decide +kernel) rfl⟩
theorem maX6_attackersAgain : qAr MX6_attackersAgain 1 := by unfold qAr; decide +kernel
abbrev MX6_canEscape : qM := (yX6_canEscape, cX6_canEscape, 5, (some .boolean), { frames := 4, cells := 0, slots := 0, locals := 99 })
theorem miX6_canEscape : qIn MX6_canEscape := ⟨qT_in 915 (by decide +kernel) rfl, qT_in 61 (by decide +kernel) rfl, ⟨by decide +kernel, by decide +kernel⟩, rfl, rfl⟩
theorem msX6_canEscape : qIs MX6_canEscape := ⟨qT_in 914 (by decide +kernel) rfl, qT_in 31 (by decide +kernel) rfl⟩
theorem maX6_canEscape : qAr MX6_canEscape 1 := by unfold qAr; decide +kernel
abbrev MX6_escapeSet : qM := (yX6_escapeSet, cX6_escapeSet, 3, (some .int), { frames := 5, cells := 0, slots := 0, locals := 123 })
theorem miX6_escapeSet : qIn MX6_escapeSet := ⟨qT_in 911 (by decide +kernel) rfl, qT_in 61 (by decide +kernel) rfl, ⟨by decide +kernel, by decide +kernel⟩, rfl, rfl⟩
theorem msX6_escapeSet : qIs MX6_escapeSet := ⟨qT_in 910 (by decide +kernel) rfl, qT_in 30 (by decide +kernel) rfl⟩
theorem maX6_escapeSet : qAr MX6_escapeSet 0 := by unfold qAr; decide +kernel
abbrev MX6_escapes : qM := (yX6_escapes, cX6_escapes, 1, (some .int), { frames := 6, cells := 0, slots := 0, locals := 145 })
theorem miX6_escapes : qIn MX6_escapes := ⟨qT_in 907 (by decide +kernel) rfl, qT_in 61 (by decide +kernel) rfl, ⟨by decide +kernel, by decide +kernel⟩, rfl, rfl⟩
theorem msX6_escapes : qIs MX6_escapes := ⟨qT_in 905 (by decide +kernel) rfl, qT_in 906 (by decide +kernel) rfl⟩
theorem maX6_escapes : qAr MX6_escapes 0 := by unfold qAr; decide +kernel
abbrev MX6_fits : qM := (yX6_fits, cX6_fits, 2, (some .boolean), { frames := 4, cells := 0, slots := 0, locals := 99 })
theorem miX6_fits : qIn MX6_fits := ⟨qT_in 930 (by decide +kernel) rfl, qT_in 61 (by decide +kernel) rfl, ⟨by decide +kernel, by decide +kernel⟩, rfl, rfl⟩
theorem msX6_fits : qIs MX6_fits := ⟨qT_in 929 (by decide +kernel) rfl, qT_in 32 (by decide +kernel) rfl⟩
theorem maX6_fits : qAr MX6_fits 0 := by unfold qAr; decide +kernel
abbrev MX6_isFit : qM := (yX6_isFit, cX6_isFit, 1, (some .int), { frames := 5, cells := 0, slots := 0, locals := 120 })
theorem miX6_isFit : qIn MX6_isFit := ⟨qT_in 926 (by decide +kernel) rfl, qT_in 61 (by decide +kernel) rfl, ⟨by decide +kernel, by decide +kernel⟩, rfl, rfl⟩
theorem msX6_isFit : qIs MX6_isFit := ⟨qT_in 924 (by decide +kernel) rfl, qT_in 925 (by decide +kernel) rfl⟩
theorem maX6_isFit : qAr MX6_isFit 0 := by unfold qAr; decide +kernel
abbrev MX6_kindOf : qM := (yX6_kindOf, cX6_kindOf, 8, (some .int), { frames := 6, cells := 0, slots := 0, locals := 145 })
theorem miX6_kindOf : qIn MX6_kindOf := ⟨qT_in 953 (by decide +kernel) rfl, qT_in 61 (by decide +kernel) rfl, ⟨by decide +kernel, by decide +kernel⟩, rfl, rfl⟩
theorem msX6_kindOf : qIs MX6_kindOf := ⟨qT_in 952 (by decide +kernel) rfl, qT_in 36 (by decide +kernel) rfl⟩
theorem maX6_kindOf : qAr MX6_kindOf 2 := by unfold qAr; decide +kernel
abbrev MX6_tells : qM := (yX6_tells, cX6_tells, 6, none, { frames := 7, cells := 0, slots := 0, locals := 172 })
theorem miX6_tells : qIn MX6_tells := ⟨qT_in 938 (by decide +kernel) rfl, qT_in 61 (by decide +kernel) rfl, ⟨by decide +kernel, by decide +kernel⟩, rfl, rfl⟩
theorem msX6_tells : qIs MX6_tells := ⟨qT_in 937 (by decide +kernel) rfl, qT_in 33 (by decide +kernel) rfl⟩
theorem maX6_tells : qAr MX6_tells 2 := by unfold qAr; decide +kernel
abbrev MX6_move : qM := (yX6_move, cX6_move, 2, (some .int), { frames := 8, cells := 0, slots := 0, locals := 197 })
theorem miX6_move : qIn MX6_move := ⟨qT_in 934 (by decide +kernel) rfl, qT_in 61 (by decide +kernel) rfl, ⟨by decide +kernel, by decide +kernel⟩, rfl, rfl⟩
theorem msX6_move : qIs MX6_move := ⟨qT_in 932 (by decide +kernel) rfl, qT_in 933 (by decide +kernel) rfl⟩
theorem maX6_move : qAr MX6_move 1 := by unfold qAr; decide +kernel
abbrev MX6_key : qM := (yX6_key, cX6_key, 2, (some .int), { frames := 8, cells := 0, slots := 0, locals := 197 })
theorem miX6_key : qIn MX6_key := ⟨qT_in 957 (by decide +kernel) rfl, qT_in 61 (by decide +kernel) rfl, ⟨by decide +kernel, by decide +kernel⟩, rfl, rfl⟩
theorem msX6_key : qIs MX6_key := ⟨qT_in 955 (by decide +kernel) rfl, qT_in 956 (by decide +kernel) rfl⟩
theorem maX6_key : qAr MX6_key 1 := by unfold qAr; decide +kernel
abbrev MX6_areSquares : qM := (yX6_areSquares, cX6_areSquares, 3, (some .boolean), { frames := 2, cells := 0, slots := 0, locals := 42 })
theorem miX6_areSquares : qIn MX6_areSquares := ⟨qT_in 965 (by decide +kernel) rfl, qT_in 61 (by decide +kernel) rfl, ⟨by decide +kernel, by decide +kernel⟩, rfl, rfl⟩
theorem msX6_areSquares : qIs MX6_areSquares := ⟨qT_in 964 (by decide +kernel) rfl, qT_in 37 (by decide +kernel) rfl⟩
theorem maX6_areSquares : qAr MX6_areSquares 2 := by unfold qAr; decide +kernel
abbrev MX6_kind : qM := (yX6_kind, cX6_kind, 3, (some .int), { frames := 7, cells := 0, slots := 0, locals := 172 })
theorem miX6_kind : qIn MX6_kind := ⟨qT_in 961 (by decide +kernel) rfl, qT_in 61 (by decide +kernel) rfl, ⟨by decide +kernel, by decide +kernel⟩, rfl, rfl⟩
theorem msX6_kind : qIs MX6_kind := ⟨qT_in 959 (by decide +kernel) rfl, qT_in 960 (by decide +kernel) rfl⟩
theorem maX6_kind : qAr MX6_kind 2 := by unfold qAr; decide +kernel
abbrev MX6_refutation : qM := (yX6_refutation, cX6_refutation, 3, (some .int), { frames := 7, cells := 0, slots := 0, locals := 172 })
theorem miX6_refutation : qIn MX6_refutation := ⟨qT_in 969 (by decide +kernel) rfl, qT_in 61 (by decide +kernel) rfl, ⟨by decide +kernel, by decide +kernel⟩, rfl, rfl⟩
theorem msX6_refutation : qIs MX6_refutation := ⟨qT_in 967 (by decide +kernel) rfl, qT_in 968 (by decide +kernel) rfl⟩
theorem maX6_refutation : qAr MX6_refutation 2 := by unfold qAr; decide +kernel
abbrev MX6_manyOf : qM := (yX6_manyOf, cX6_manyOf, 2, (some .int), { frames := 8, cells := 0, slots := 0, locals := 197 })
theorem miX6_manyOf : qIn MX6_manyOf := ⟨qT_in 977 (by decide +kernel) rfl, qT_in 61 (by decide +kernel) rfl, ⟨by decide +kernel, by decide +kernel⟩, rfl, rfl⟩
theorem msX6_manyOf : qIs MX6_manyOf := ⟨qT_in 976 (by decide +kernel) rfl, qT_in 38 (by decide +kernel) rfl⟩
theorem maX6_manyOf : qAr MX6_manyOf 1 := by unfold qAr; decide +kernel
abbrev MX6_many : qM := (yX6_many, cX6_many, 2, (some .int), { frames := 9, cells := 0, slots := 0, locals := 218 })
theorem miX6_many : qIn MX6_many := ⟨qT_in 973 (by decide +kernel) rfl, qT_in 61 (by decide +kernel) rfl, ⟨by decide +kernel, by decide +kernel⟩, rfl, rfl⟩
theorem msX6_many : qIs MX6_many := ⟨qT_in 971 (by decide +kernel) rfl, qT_in 972 (by decide +kernel) rfl⟩
theorem maX6_many : qAr MX6_many 1 := by unfold qAr; decide +kernel
abbrev MX6_duals : qM := (yX6_duals, cX6_duals, 1, (some .int), { frames := 9, cells := 0, slots := 0, locals := 218 })
theorem miX6_duals : qIn MX6_duals := ⟨qT_in 981 (by decide +kernel) rfl, qT_in 61 (by decide +kernel) rfl, ⟨by decide +kernel, by decide +kernel⟩, rfl, rfl⟩
theorem msX6_duals : qIs MX6_duals := ⟨qT_in 979 (by decide +kernel) rfl, qT_in 980 (by decide +kernel) rfl⟩
theorem maX6_duals : qAr MX6_duals 0 := by unfold qAr; decide +kernel
abbrev MX6_would : qM := (yX6_would, cX6_would, 5, (some .int), { frames := 9, cells := 0, slots := 0, locals := 218 })
theorem miX6_would : qIn MX6_would := ⟨qT_in 985 (by decide +kernel) rfl, qT_in 61 (by decide +kernel) rfl, ⟨by decide +kernel, by decide +kernel⟩, rfl, rfl⟩
theorem msX6_would : qIs MX6_would := ⟨qT_in 983 (by decide +kernel) rfl, qT_in 984 (by decide +kernel) rfl⟩
theorem maX6_would : qAr MX6_would 2 := by unfold qAr; decide +kernel
abbrev MX6_canSpare : qM := (yX6_canSpare, cX6_canSpare, 6, (some .boolean), { frames := 9, cells := 0, slots := 0, locals := 218 })
theorem miX6_canSpare : qIn MX6_canSpare := ⟨qT_in 997 (by decide +kernel) rfl, qT_in 61 (by decide +kernel) rfl, ⟨by decide +kernel, by decide +kernel⟩, rfl, rfl⟩
theorem msX6_canSpare : qIs MX6_canSpare := ⟨qT_in 996 (by decide +kernel) rfl, qT_in 40 (by decide +kernel) rfl⟩
theorem maX6_canSpare : qAr MX6_canSpare 1 := by unfold qAr; decide +kernel
abbrev MX6_doThrift : qM := (yX6_doThrift, cX6_doThrift, 3, (some .int), { frames := 10, cells := 0, slots := 0, locals := 243 })
theorem miX6_doThrift : qIn MX6_doThrift := ⟨qT_in 993 (by decide +kernel) rfl, qT_in 61 (by decide +kernel) rfl, ⟨by decide +kernel, by decide +kernel⟩, rfl, rfl⟩
theorem msX6_doThrift : qIs MX6_doThrift := ⟨qT_in 992 (by decide +kernel) rfl, qT_in 39 (by decide +kernel) rfl⟩
theorem maX6_doThrift : qAr MX6_doThrift 0 := by unfold qAr; decide +kernel
abbrev MX6_thrift : qM := (yX6_thrift, cX6_thrift, 1, (some .int), { frames := 11, cells := 0, slots := 0, locals := 265 })
theorem miX6_thrift : qIn MX6_thrift := ⟨qT_in 989 (by decide +kernel) rfl, qT_in 61 (by decide +kernel) rfl, ⟨by decide +kernel, by decide +kernel⟩, rfl, rfl⟩
theorem msX6_thrift : qIs MX6_thrift := ⟨qT_in 987 (by decide +kernel) rfl, qT_in 988 (by decide +kernel) rfl⟩
theorem maX6_thrift : qAr MX6_thrift 0 := by unfold qAr; decide +kernel
abbrev MX6_manOf : qM := (yX6_manOf, cX6_manOf, 3, (some .int), { frames := 10, cells := 0, slots := 0, locals := 243 })
theorem miX6_manOf : qIn MX6_manOf := ⟨qT_in 1001 (by decide +kernel) rfl, qT_in 61 (by decide +kernel) rfl, ⟨by decide +kernel, by decide +kernel⟩, rfl, rfl⟩
theorem msX6_manOf : qIs MX6_manOf := ⟨qT_in 999 (by decide +kernel) rfl, qT_in 1000 (by decide +kernel) rfl⟩
theorem maX6_manOf : qAr MX6_manOf 2 := by unfold qAr; decide +kernel
abbrev MX6_ranked : qM := (yX6_ranked, cX6_ranked, 6, (some .int), { frames := 6, cells := 0, slots := 0, locals := 148 })
theorem miX6_ranked : qIn MX6_ranked := ⟨qT_in 1009 (by decide +kernel) rfl, qT_in 61 (by decide +kernel) rfl, ⟨by decide +kernel, by decide +kernel⟩, rfl, rfl⟩
theorem msX6_ranked : qIs MX6_ranked := ⟨qT_in 1007 (by decide +kernel) rfl, qT_in 1008 (by decide +kernel) rfl⟩
theorem maX6_ranked : qAr MX6_ranked 1 := by unfold qAr; decide +kernel
abbrev MX6_doPlay : qM := (yX6_doPlay, cX6_doPlay, 4, (some .int), { frames := 5, cells := 0, slots := 0, locals := 124 })
theorem miX6_doPlay : qIn MX6_doPlay := ⟨qT_in 1017 (by decide +kernel) rfl, qT_in 61 (by decide +kernel) rfl, ⟨by decide +kernel, by decide +kernel⟩, rfl, rfl⟩
theorem msX6_doPlay : qIs MX6_doPlay := ⟨qT_in 1016 (by decide +kernel) rfl, qT_in 42 (by decide +kernel) rfl⟩
theorem maX6_doPlay : qAr MX6_doPlay 2 := by unfold qAr; decide +kernel
abbrev MX6_play : qM := (yX6_play, cX6_play, 3, (some .int), { frames := 6, cells := 0, slots := 0, locals := 147 })
theorem miX6_play : qIn MX6_play := ⟨qT_in 1013 (by decide +kernel) rfl, qT_in 61 (by decide +kernel) rfl, ⟨by decide +kernel, by decide +kernel⟩, rfl, rfl⟩
theorem msX6_play : qIs MX6_play := ⟨qT_in 1011 (by decide +kernel) rfl, qT_in 1012 (by decide +kernel) rfl⟩
theorem maX6_play : qAr MX6_play 2 := by unfold qAr; decide +kernel
abbrev MX6_doTurn : qM := (yX6_doTurn, cX6_doTurn, 5, (some .int), { frames := 1, cells := 0, slots := 0, locals := 26 })
theorem miX6_doTurn : qIn MX6_doTurn := ⟨qT_in 1025 (by decide +kernel) rfl, qT_in 61 (by decide +kernel) rfl, ⟨by decide +kernel, by decide +kernel⟩, rfl, rfl⟩
theorem msX6_doTurn : qIs MX6_doTurn := ⟨qT_in 1024 (by decide +kernel) rfl, qT_in 43 (by decide +kernel) rfl⟩
theorem maX6_doTurn : qAr MX6_doTurn 1 := by unfold qAr; decide +kernel
abbrev MX6_turn : qM := (yX6_turn, cX6_turn, 1, (some .int), { frames := 2, cells := 0, slots := 0, locals := 50 })
theorem miX6_turn : qIn MX6_turn := ⟨qT_in 1021 (by decide +kernel) rfl, qT_in 61 (by decide +kernel) rfl, ⟨by decide +kernel, by decide +kernel⟩, rfl, rfl⟩
theorem msX6_turn : qIs MX6_turn := ⟨qT_in 1019 (by decide +kernel) rfl, qT_in 1020 (by decide +kernel) rfl⟩
theorem maX6_turn : qAr MX6_turn 0 := by unfold qAr; decide +kernel
abbrev MX6_mirror : qM := (yX6_mirror, cX6_mirror, 1, (some .int), { frames := 2, cells := 0, slots := 0, locals := 50 })
theorem miX6_mirror : qIn MX6_mirror := ⟨qT_in 1029 (by decide +kernel) rfl, qT_in 61 (by decide +kernel) rfl, ⟨by decide +kernel, by decide +kernel⟩, rfl, rfl⟩
theorem msX6_mirror : qIs MX6_mirror := ⟨qT_in 1027 (by decide +kernel) rfl, qT_in 1028 (by decide +kernel) rfl⟩
theorem maX6_mirror : qAr MX6_mirror 0 := by unfold qAr; decide +kernel
abbrev MX6_says : qM := (yX6_says, cX6_says, 2, none, { frames := 0, cells := 0, slots := 0, locals := 0 })
theorem miX6_says : qIn MX6_says := ⟨qT_in 1039 (by decide +kernel) rfl, qT_in 61 (by decide +kernel) rfl, ⟨by decide +kernel, by decide +kernel⟩, rfl, rfl⟩
theorem msX6_says : qIs MX6_says := ⟨qT_in 1038 (by decide +kernel) rfl, qT_in 44 (by decide +kernel) rfl⟩
theorem maX6_says : qAr MX6_says 1 := by unfold qAr; decide +kernel
abbrev MX6_show : qM := (yX6_show, cX6_show, 3, (some .int), { frames := 5, cells := 0, slots := 0, locals := 106 })
theorem miX6_show : qIn MX6_show := ⟨qT_in 1033 (by decide +kernel) rfl, qT_in 61 (by decide +kernel) rfl, ⟨by decide +kernel, by decide +kernel⟩, rfl, rfl⟩
theorem msX6_show : qIs MX6_show := ⟨qT_in 1031 (by decide +kernel) rfl, qT_in 1032 (by decide +kernel) rfl⟩
theorem maX6_show : qAr MX6_show 0 := by unfold qAr; decide +kernel
abbrev MX6_saysSquare : qM := (yX6_saysSquare, cX6_saysSquare, 2, none, { frames := 1, cells := 0, slots := 0, locals := 21 })
theorem miX6_saysSquare : qIn MX6_saysSquare := ⟨qT_in 1048 (by decide +kernel) rfl, qT_in 61 (by decide +kernel) rfl, ⟨by decide +kernel, by decide +kernel⟩, rfl, rfl⟩
theorem msX6_saysSquare : qIs MX6_saysSquare := ⟨qT_in 1047 (by decide +kernel) rfl, qT_in 45 (by decide +kernel) rfl⟩
theorem maX6_saysSquare : qAr MX6_saysSquare 1 := by unfold qAr; decide +kernel
abbrev MX6_tell : qM := (yX6_tell, cX6_tell, 4, (some .int), { frames := 8, cells := 0, slots := 0, locals := 194 })
theorem miX6_tell : qIn MX6_tell := ⟨qT_in 1043 (by decide +kernel) rfl, qT_in 61 (by decide +kernel) rfl, ⟨by decide +kernel, by decide +kernel⟩, rfl, rfl⟩
theorem msX6_tell : qIs MX6_tell := ⟨qT_in 1041 (by decide +kernel) rfl, qT_in 1042 (by decide +kernel) rfl⟩
theorem maX6_tell : qAr MX6_tell 2 := by unfold qAr; decide +kernel
abbrev MX6_sign : qM := (yX6_sign, cX6_sign, 2, (some .int), { frames := 1, cells := 0, slots := 0, locals := 22 })
theorem miX6_sign : qIn MX6_sign := ⟨qT_in 1052 (by decide +kernel) rfl, qT_in 61 (by decide +kernel) rfl, ⟨by decide +kernel, by decide +kernel⟩, rfl, rfl⟩
theorem msX6_sign : qIs MX6_sign := ⟨qT_in 1050 (by decide +kernel) rfl, qT_in 1051 (by decide +kernel) rfl⟩
theorem maX6_sign : qAr MX6_sign 1 := by unfold qAr; decide +kernel
abbrev MX6_append : qM := (yX6_append, cX6_append, 2, (some .int), { frames := 1, cells := 0, slots := 0, locals := 22 })
theorem miX6_append : qIn MX6_append := ⟨qT_in 1056 (by decide +kernel) rfl, qT_in 61 (by decide +kernel) rfl, ⟨by decide +kernel, by decide +kernel⟩, rfl, rfl⟩
theorem msX6_append : qIs MX6_append := ⟨qT_in 1054 (by decide +kernel) rfl, qT_in 1055 (by decide +kernel) rfl⟩
theorem maX6_append : qAr MX6_append 1 := by unfold qAr; decide +kernel
abbrev MX6_isHere : qM := (yX6_isHere, cX6_isHere, 3, (some .boolean), { frames := 1, cells := 0, slots := 0, locals := 22 })
theorem miX6_isHere : qIn MX6_isHere := ⟨qT_in 1077 (by decide +kernel) rfl, qT_in 61 (by decide +kernel) rfl, ⟨by decide +kernel, by decide +kernel⟩, rfl, rfl⟩
theorem msX6_isHere : qIs MX6_isHere := ⟨qT_in 1076 (by decide +kernel) rfl, qT_in 49 (by decide +kernel) rfl⟩
theorem maX6_isHere : qAr MX6_isHere 2 := by unfold qAr; decide +kernel
abbrev MX6_signAt : qM := (yX6_signAt, cX6_signAt, 3, (some .int), { frames := 2, cells := 0, slots := 0, locals := 44 })
theorem miX6_signAt : qIn MX6_signAt := ⟨qT_in 1073 (by decide +kernel) rfl, qT_in 61 (by decide +kernel) rfl, ⟨by decide +kernel, by decide +kernel⟩, rfl, rfl⟩
theorem msX6_signAt : qIs MX6_signAt := ⟨qT_in 1072 (by decide +kernel) rfl, qT_in 48 (by decide +kernel) rfl⟩
theorem maX6_signAt : qAr MX6_signAt 2 := by unfold qAr; decide +kernel
abbrev MX6_square : qM := (yX6_square, cX6_square, 2, (some .int), { frames := 3, cells := 0, slots := 0, locals := 66 })
theorem miX6_square : qIn MX6_square := ⟨qT_in 1069 (by decide +kernel) rfl, qT_in 61 (by decide +kernel) rfl, ⟨by decide +kernel, by decide +kernel⟩, rfl, rfl⟩
theorem msX6_square : qIs MX6_square := ⟨qT_in 1068 (by decide +kernel) rfl, qT_in 47 (by decide +kernel) rfl⟩
theorem maX6_square : qAr MX6_square 0 := by unfold qAr; decide +kernel
abbrev MX6_order : qM := (yX6_order, cX6_order, 4, none, { frames := 0, cells := 0, slots := 0, locals := 0 })
theorem miX6_order : qIn MX6_order := ⟨qT_in 1081 (by decide +kernel) rfl, qT_in 61 (by decide +kernel) rfl, ⟨by decide +kernel, by decide +kernel⟩, rfl, rfl⟩
theorem msX6_order : qIs MX6_order := ⟨qT_in 1080 (by decide +kernel) rfl, qT_in 50 (by decide +kernel) rfl⟩
theorem maX6_order : qAr MX6_order 3 := by unfold qAr; decide +kernel
abbrev MX6_readOrder : qM := (yX6_readOrder, cX6_readOrder, 5, none, { frames := 7, cells := 0, slots := 0, locals := 159 })
theorem miX6_readOrder : qIn MX6_readOrder := ⟨qT_in 1064 (by decide +kernel) rfl, qT_in 61 (by decide +kernel) rfl, ⟨by decide +kernel, by decide +kernel⟩, rfl, rfl⟩
theorem msX6_readOrder : qIs MX6_readOrder := ⟨qT_in 1063 (by decide +kernel) rfl, qT_in 46 (by decide +kernel) rfl⟩
theorem maX6_readOrder : qAr MX6_readOrder 0 := by unfold qAr; decide +kernel
abbrev MX6_does : qM := (yX6_does, cX6_does, 4, (some .int), { frames := 11, cells := 0, slots := 0, locals := 265 })
theorem miX6_does : qIn MX6_does := ⟨qT_in 1085 (by decide +kernel) rfl, qT_in 61 (by decide +kernel) rfl, ⟨by decide +kernel, by decide +kernel⟩, rfl, rfl⟩
theorem msX6_does : qIs MX6_does := ⟨qT_in 1084 (by decide +kernel) rfl, qT_in 51 (by decide +kernel) rfl⟩
theorem maX6_does : qAr MX6_does 1 := by unfold qAr; decide +kernel
abbrev MX6_read : qM := (yX6_read, cX6_read, 4, (some .int), { frames := 12, cells := 0, slots := 0, locals := 288 })
theorem miX6_read : qIn MX6_read := ⟨qT_in 1060 (by decide +kernel) rfl, qT_in 61 (by decide +kernel) rfl, ⟨by decide +kernel, by decide +kernel⟩, rfl, rfl⟩
theorem msX6_read : qIs MX6_read := ⟨qT_in 1058 (by decide +kernel) rfl, qT_in 1059 (by decide +kernel) rfl⟩
theorem maX6_read : qAr MX6_read 0 := by unfold qAr; decide +kernel
abbrev MX6_attacked : qM := (yX6_attacked, cX6_attacked, 3, (some .int), { frames := 4, cells := 0, slots := 0, locals := 99 })
theorem miX6_attacked : qIn MX6_attacked := ⟨qT_in 1097 (by decide +kernel) rfl, qT_in 61 (by decide +kernel) rfl, ⟨by decide +kernel, by decide +kernel⟩, rfl, rfl⟩
theorem msX6_attacked : qIs MX6_attacked := ⟨qT_in 1096 (by decide +kernel) rfl, qT_in 53 (by decide +kernel) rfl⟩
theorem maX6_attacked : qAr MX6_attacked 0 := by unfold qAr; decide +kernel
abbrev MX6_count : qM := (yX6_count, cX6_count, 4, (some .int), { frames := 2, cells := 0, slots := 0, locals := 42 })
theorem miX6_count : qIn MX6_count := ⟨qT_in 1093 (by decide +kernel) rfl, qT_in 61 (by decide +kernel) rfl, ⟨by decide +kernel, by decide +kernel⟩, rfl, rfl⟩
theorem msX6_count : qIs MX6_count := ⟨qT_in 1092 (by decide +kernel) rfl, qT_in 52 (by decide +kernel) rfl⟩
theorem maX6_count : qAr MX6_count 1 := by unfold qAr; decide +kernel
abbrev MX6_account : qM := (yX6_account, cX6_account, 2, (some .int), { frames := 9, cells := 0, slots := 0, locals := 218 })
theorem miX6_account : qIn MX6_account := ⟨qT_in 1089 (by decide +kernel) rfl, qT_in 61 (by decide +kernel) rfl, ⟨by decide +kernel, by decide +kernel⟩, rfl, rfl⟩
theorem msX6_account : qIs MX6_account := ⟨qT_in 1087 (by decide +kernel) rfl, qT_in 1088 (by decide +kernel) rfl⟩
theorem maX6_account : qAr MX6_account 1 := by unfold qAr; decide +kernel
abbrev MX6_isWell : qM := (yX6_isWell, cX6_isWell, 1, (some .int), { frames := 0, cells := 0, slots := 0, locals := 0 })
theorem miX6_isWell : qIn MX6_isWell := ⟨qT_in 1101 (by decide +kernel) rfl, qT_in 61 (by decide +kernel) rfl, ⟨by decide +kernel, by decide +kernel⟩, rfl, rfl⟩
theorem msX6_isWell : qIs MX6_isWell := ⟨qT_in 1099 (by decide +kernel) rfl, qT_in 1100 (by decide +kernel) rfl⟩
theorem maX6_isWell : qAr MX6_isWell 0 := by unfold qAr; decide +kernel
abbrev MX6_share : qM := (yX6_share, cX6_share, 1, (some .int), { frames := 5, cells := 0, slots := 0, locals := 121 })
theorem miX6_share : qIn MX6_share := ⟨qT_in 1105 (by decide +kernel) rfl, qT_in 61 (by decide +kernel) rfl, ⟨by decide +kernel, by decide +kernel⟩, rfl, rfl⟩
theorem msX6_share : qIs MX6_share := ⟨qT_in 1103 (by decide +kernel) rfl, qT_in 1104 (by decide +kernel) rfl⟩
theorem maX6_share : qAr MX6_share 0 := by unfold qAr; decide +kernel
abbrev MX6_undo : qM := (yX6_undo, cX6_undo, 1, (some .int), { frames := 1, cells := 0, slots := 0, locals := 26 })
theorem miX6_undo : qIn MX6_undo := ⟨qT_in 1120 (by decide +kernel) rfl, qT_in 61 (by decide +kernel) rfl, ⟨by decide +kernel, by decide +kernel⟩, rfl, rfl⟩
theorem msX6_undo : qIs MX6_undo := ⟨qT_in 1118 (by decide +kernel) rfl, qT_in 1119 (by decide +kernel) rfl⟩
theorem maX6_undo : qAr MX6_undo 0 := by unfold qAr; decide +kernel
abbrev MX6_save : qM := (yX6_save, cX6_save, 1, (some .int), { frames := 1, cells := 0, slots := 0, locals := 26 })
theorem miX6_save : qIn MX6_save := ⟨qT_in 1124 (by decide +kernel) rfl, qT_in 61 (by decide +kernel) rfl, ⟨by decide +kernel, by decide +kernel⟩, rfl, rfl⟩
theorem msX6_save : qIs MX6_save := ⟨qT_in 1122 (by decide +kernel) rfl, qT_in 1123 (by decide +kernel) rfl⟩
theorem maX6_save : qAr MX6_save 0 := by unfold qAr; decide +kernel
abbrev MX6_restore : qM := (yX6_restore, cX6_restore, 1, (some .int), { frames := 1, cells := 0, slots := 0, locals := 26 })
theorem miX6_restore : qIn MX6_restore := ⟨qT_in 1128 (by decide +kernel) rfl, qT_in 61 (by decide +kernel) rfl, ⟨by decide +kernel, by decide +kernel⟩, rfl, rfl⟩
theorem msX6_restore : qIs MX6_restore := ⟨qT_in 1126 (by decide +kernel) rfl, qT_in 1127 (by decide +kernel) rfl⟩
theorem maX6_restore : qAr MX6_restore 0 := by unfold qAr; decide +kernel
abbrev MJ11_isValidCodePoint_9a6ad : qM := (yJ11_isValidCodePoint_9a6ad, cJ11_isValidCodePoint_9a6ad, 2, (some .boolean), { frames := 0, cells := 0, slots := 0, locals := 0 })
theorem miJ11_isValidCodePoint_9a6ad : qIn MJ11_isValidCodePoint_9a6ad := ⟨qT_in 669 (by decide +kernel) rfl, qT_in 68 (by decide +kernel) rfl, ⟨by decide +kernel, by decide +kernel⟩, rfl, rfl⟩
theorem mtJ11_isValidCodePoint_9a6ad : Cond.static yJ11_isValidCodePoint_9a6ad ∈ qT := qT_in 668 (by decide +kernel) rfl
theorem maJ11_isValidCodePoint_9a6ad : qAr MJ11_isValidCodePoint_9a6ad 1 := by unfold qAr; decide +kernel
abbrev MJ11_highSurrogate_5068e : qM := (yJ11_highSurrogate_5068e, cJ11_highSurrogate_5068e, 1, (some .char), { frames := 0, cells := 0, slots := 0, locals := 0 })
theorem miJ11_highSurrogate_5068e : qIn MJ11_highSurrogate_5068e := ⟨qT_in 672 (by decide +kernel) rfl, qT_in 68 (by decide +kernel) rfl, ⟨by decide +kernel, by decide +kernel⟩, rfl, rfl⟩
theorem mtJ11_highSurrogate_5068e : Cond.static yJ11_highSurrogate_5068e ∈ qT := qT_in 671 (by decide +kernel) rfl
theorem maJ11_highSurrogate_5068e : qAr MJ11_highSurrogate_5068e 1 := by unfold qAr; decide +kernel
abbrev MJ11_lowSurrogate_5068e : qM := (yJ11_lowSurrogate_5068e, cJ11_lowSurrogate_5068e, 1, (some .char), { frames := 0, cells := 0, slots := 0, locals := 0 })
theorem miJ11_lowSurrogate_5068e : qIn MJ11_lowSurrogate_5068e := ⟨qT_in 676 (by decide +kernel) rfl, qT_in 68 (by decide +kernel) rfl, ⟨by decide +kernel, by decide +kernel⟩, rfl, rfl⟩
theorem mtJ11_lowSurrogate_5068e : Cond.static yJ11_lowSurrogate_5068e ∈ qT := qT_in 675 (by decide +kernel) rfl
theorem maJ11_lowSurrogate_5068e : qAr MJ11_lowSurrogate_5068e 1 := by unfold qAr; decide +kernel
abbrev MJ9_abs_0f7a4 : qM := (yJ9_abs_0f7a4, cJ9_abs_0f7a4, 1, (some .int), { frames := 0, cells := 0, slots := 0, locals := 0 })
theorem miJ9_abs_0f7a4 : qIn MJ9_abs_0f7a4 := ⟨qT_in 921 (by decide +kernel) rfl, qT_in 63 (by decide +kernel) rfl, ⟨by decide +kernel, by decide +kernel⟩, rfl, rfl⟩
theorem mtJ9_abs_0f7a4 : Cond.static yJ9_abs_0f7a4 ∈ qT := qT_in 920 (by decide +kernel) rfl
theorem maJ9_abs_0f7a4 : qAr MJ9_abs_0f7a4 1 := by unfold qAr; decide +kernel
abbrev MJ9_max_7cf53 : qM := (yJ9_max_7cf53, cJ9_max_7cf53, 2, (some .int), { frames := 0, cells := 0, slots := 0, locals := 0 })
theorem miJ9_max_7cf53 : qIn MJ9_max_7cf53 := ⟨qT_in 636 (by decide +kernel) rfl, qT_in 63 (by decide +kernel) rfl, ⟨by decide +kernel, by decide +kernel⟩, rfl, rfl⟩
theorem mtJ9_max_7cf53 : Cond.static yJ9_max_7cf53 ∈ qT := qT_in 635 (by decide +kernel) rfl
theorem maJ9_max_7cf53 : qAr MJ9_max_7cf53 2 := by unfold qAr; decide +kernel
abbrev MJ9_min_7cf53 : qM := (yJ9_min_7cf53, cJ9_min_7cf53, 2, (some .int), { frames := 0, cells := 0, slots := 0, locals := 0 })
theorem miJ9_min_7cf53 : qIn MJ9_min_7cf53 := ⟨qT_in 639 (by decide +kernel) rfl, qT_in 63 (by decide +kernel) rfl, ⟨by decide +kernel, by decide +kernel⟩, rfl, rfl⟩
theorem mtJ9_min_7cf53 : Cond.static yJ9_min_7cf53 ∈ qT := qT_in 638 (by decide +kernel) rfl
theorem maJ9_min_7cf53 : qAr MJ9_min_7cf53 2 := by unfold qAr; decide +kernel
abbrev MJ0_length_8abf5 : qM := (yJ0_length_8abf5, cJ0_length_8abf5, 1, (some .int), { frames := 1, cells := 0, slots := 0, locals := 20 })
theorem miJ0_length_8abf5 : qIn MJ0_length_8abf5 := ⟨qT_in 519 (by decide +kernel) rfl, qT_in 64 (by decide +kernel) rfl, ⟨by decide +kernel, by decide +kernel⟩, rfl, rfl⟩
theorem msJ0_length_8abf5 : qIs MJ0_length_8abf5 := ⟨qT_in 517 (by decide +kernel) rfl, qT_in 518 (by decide +kernel) rfl⟩
theorem maJ0_length_8abf5 : qAr MJ0_length_8abf5 0 := by unfold qAr; decide +kernel
abbrev MJ0_charAt_5068e : qM := (yJ0_charAt_5068e, cJ0_charAt_5068e, 2, (some .char), { frames := 4, cells := 0, slots := 0, locals := 85 })
theorem miJ0_charAt_5068e : qIn MJ0_charAt_5068e := ⟨qT_in 529 (by decide +kernel) rfl, qT_in 64 (by decide +kernel) rfl, ⟨by decide +kernel, by decide +kernel⟩, rfl, rfl⟩
theorem msJ0_charAt_5068e : qIs MJ0_charAt_5068e := ⟨qT_in 527 (by decide +kernel) rfl, qT_in 528 (by decide +kernel) rfl⟩
theorem maJ0_charAt_5068e : qAr MJ0_charAt_5068e 1 := by unfold qAr; decide +kernel
abbrev MJ0_indexOf_0f7a4 : qM := (yJ0_indexOf_0f7a4, cJ0_indexOf_0f7a4, 2, (some .int), { frames := 6, cells := 0, slots := 0, locals := 138 })
theorem miJ0_indexOf_0f7a4 : qIn MJ0_indexOf_0f7a4 := ⟨qT_in 622 (by decide +kernel) rfl, qT_in 64 (by decide +kernel) rfl, ⟨by decide +kernel, by decide +kernel⟩, rfl, rfl⟩
theorem msJ0_indexOf_0f7a4 : qIs MJ0_indexOf_0f7a4 := ⟨qT_in 620 (by decide +kernel) rfl, qT_in 621 (by decide +kernel) rfl⟩
theorem maJ0_indexOf_0f7a4 : qAr MJ0_indexOf_0f7a4 1 := by unfold qAr; decide +kernel
abbrev MJ0_indexOf_7cf53 : qM := (yJ0_indexOf_7cf53, cJ0_indexOf_7cf53, 3, (some .int), { frames := 5, cells := 0, slots := 0, locals := 116 })
theorem miJ0_indexOf_7cf53 : qIn MJ0_indexOf_7cf53 := ⟨qT_in 626 (by decide +kernel) rfl, qT_in 64 (by decide +kernel) rfl, ⟨by decide +kernel, by decide +kernel⟩, rfl, rfl⟩
theorem msJ0_indexOf_7cf53 : qIs MJ0_indexOf_7cf53 := ⟨qT_in 624 (by decide +kernel) rfl, qT_in 625 (by decide +kernel) rfl⟩
theorem maJ0_indexOf_7cf53 : qAr MJ0_indexOf_7cf53 2 := by unfold qAr; decide +kernel
abbrev MJ0_coder_7d493 : qM := (yJ0_coder_7d493, cJ0_coder_7d493, 1, (some .byte), { frames := 0, cells := 0, slots := 0, locals := 0 })
theorem miJ0_coder_7d493 : qIn MJ0_coder_7d493 := ⟨qT_in 523 (by decide +kernel) rfl, qT_in 64 (by decide +kernel) rfl, ⟨by decide +kernel, by decide +kernel⟩, rfl, rfl⟩
theorem msJ0_coder_7d493 : qIs MJ0_coder_7d493 := ⟨qT_in 521 (by decide +kernel) rfl, qT_in 522 (by decide +kernel) rfl⟩
theorem maJ0_coder_7d493 : qAr MJ0_coder_7d493 0 := by unfold qAr; decide +kernel
abbrev MJ0_isLatin1_aae02 : qM := (yJ0_isLatin1_aae02, cJ0_isLatin1_aae02, 1, (some .boolean), { frames := 0, cells := 0, slots := 0, locals := 0 })
theorem miJ0_isLatin1_aae02 : qIn MJ0_isLatin1_aae02 := ⟨qT_in 533 (by decide +kernel) rfl, qT_in 64 (by decide +kernel) rfl, ⟨by decide +kernel, by decide +kernel⟩, rfl, rfl⟩
theorem msJ0_isLatin1_aae02 : qIs MJ0_isLatin1_aae02 := ⟨qT_in 531 (by decide +kernel) rfl, qT_in 532 (by decide +kernel) rfl⟩
theorem maJ0_isLatin1_aae02 : qAr MJ0_isLatin1_aae02 0 := by unfold qAr; decide +kernel
abbrev MJ0_checkIndex_df160 : qM := (yJ0_checkIndex_df160, cJ0_checkIndex_df160, 2, none, { frames := 1, cells := 0, slots := 0, locals := 22 })
theorem miJ0_checkIndex_df160 : qIn MJ0_checkIndex_df160 := ⟨qT_in 539 (by decide +kernel) rfl, qT_in 64 (by decide +kernel) rfl, ⟨by decide +kernel, by decide +kernel⟩, rfl, rfl⟩
theorem mtJ0_checkIndex_df160 : Cond.static yJ0_checkIndex_df160 ∈ qT := qT_in 538 (by decide +kernel) rfl
theorem maJ0_checkIndex_df160 : qAr MJ0_checkIndex_df160 2 := by unfold qAr; decide +kernel
abbrev MJ0_checkBoundsBeginEnd_23922 : qM := (yJ0_checkBoundsBeginEnd_23922, cJ0_checkBoundsBeginEnd_23922, 3, none, { frames := 1, cells := 0, slots := 0, locals := 23 })
theorem miJ0_checkBoundsBeginEnd_23922 : qIn MJ0_checkBoundsBeginEnd_23922 := ⟨qT_in 657 (by decide +kernel) rfl, qT_in 64 (by decide +kernel) rfl, ⟨by decide +kernel, by decide +kernel⟩, rfl, rfl⟩
theorem mtJ0_checkBoundsBeginEnd_23922 : Cond.static yJ0_checkBoundsBeginEnd_23922 ∈ qT := qT_in 656 (by decide +kernel) rfl
theorem maJ0_checkBoundsBeginEnd_23922 : qAr MJ0_checkBoundsBeginEnd_23922 3 := by unfold qAr; decide +kernel
abbrev MJ1_charAt_3b067 : qM := (yJ1_charAt_3b067, cJ1_charAt_3b067, 2, (some .char), { frames := 2, cells := 0, slots := 0, locals := 43 })
theorem miJ1_charAt_3b067 : qIn MJ1_charAt_3b067 := ⟨qT_in 536 (by decide +kernel) rfl, qT_in 65 (by decide +kernel) rfl, ⟨by decide +kernel, by decide +kernel⟩, rfl, rfl⟩
theorem mtJ1_charAt_3b067 : Cond.static yJ1_charAt_3b067 ∈ qT := qT_in 535 (by decide +kernel) rfl
theorem maJ1_charAt_3b067 : qAr MJ1_charAt_3b067 2 := by unfold qAr; decide +kernel
abbrev MJ1_canEncode_9a6ad : qM := (yJ1_canEncode_9a6ad, cJ1_canEncode_9a6ad, 1, (some .boolean), { frames := 0, cells := 0, slots := 0, locals := 0 })
theorem miJ1_canEncode_9a6ad : qIn MJ1_canEncode_9a6ad := ⟨qT_in 633 (by decide +kernel) rfl, qT_in 65 (by decide +kernel) rfl, ⟨by decide +kernel, by decide +kernel⟩, rfl, rfl⟩
theorem mtJ1_canEncode_9a6ad : Cond.static yJ1_canEncode_9a6ad ∈ qT := qT_in 632 (by decide +kernel) rfl
theorem maJ1_canEncode_9a6ad : qAr MJ1_canEncode_9a6ad 1 := by unfold qAr; decide +kernel
abbrev MJ1_indexOf_4cfef : qM := (yJ1_indexOf_4cfef, cJ1_indexOf_4cfef, 4, (some .int), { frames := 1, cells := 0, slots := 0, locals := 25 })
theorem miJ1_indexOf_4cfef : qIn MJ1_indexOf_4cfef := ⟨qT_in 630 (by decide +kernel) rfl, qT_in 65 (by decide +kernel) rfl, ⟨by decide +kernel, by decide +kernel⟩, rfl, rfl⟩
theorem mtJ1_indexOf_4cfef : Cond.static yJ1_indexOf_4cfef ∈ qT := qT_in 629 (by decide +kernel) rfl
theorem maJ1_indexOf_4cfef : qAr MJ1_indexOf_4cfef 4 := by unfold qAr; decide +kernel
abbrev MJ1_indexOfChar_4cfef : qM := (yJ1_indexOfChar_4cfef, cJ1_indexOfChar_4cfef, 6, (some .int), { frames := 0, cells := 0, slots := 0, locals := 0 })
theorem miJ1_indexOfChar_4cfef : qIn MJ1_indexOfChar_4cfef := ⟨qT_in 642 (by decide +kernel) rfl, qT_in 65 (by decide +kernel) rfl, ⟨by decide +kernel, by decide +kernel⟩, rfl, rfl⟩
theorem mtJ1_indexOfChar_4cfef : Cond.static yJ1_indexOfChar_4cfef ∈ qT := qT_in 641 (by decide +kernel) rfl
theorem maJ1_indexOfChar_4cfef : qAr MJ1_indexOfChar_4cfef 4 := by unfold qAr; decide +kernel
abbrev MJ2_getChar_3b067 : qM := (yJ2_getChar_3b067, cJ2_getChar_3b067, 2, (some .char), { frames := 1, cells := 0, slots := 0, locals := 20 })
theorem miJ2_getChar_3b067 : qIn MJ2_getChar_3b067 := ⟨qT_in 557 (by decide +kernel) rfl, qT_in 67 (by decide +kernel) rfl, ⟨by decide +kernel, by decide +kernel⟩, rfl, rfl⟩
theorem mtJ2_getChar_3b067 : Cond.static yJ2_getChar_3b067 ∈ qT := qT_in 556 (by decide +kernel) rfl
theorem maJ2_getChar_3b067 : qAr MJ2_getChar_3b067 2 := by unfold qAr; decide +kernel
abbrev MJ2_length_9d52b : qM := (yJ2_length_9d52b, cJ2_length_9d52b, 1, (some .int), { frames := 0, cells := 0, slots := 0, locals := 0 })
theorem miJ2_length_9d52b : qIn MJ2_length_9d52b := ⟨qT_in 553 (by decide +kernel) rfl, qT_in 67 (by decide +kernel) rfl, ⟨by decide +kernel, by decide +kernel⟩, rfl, rfl⟩
theorem mtJ2_length_9d52b : Cond.static yJ2_length_9d52b ∈ qT := qT_in 552 (by decide +kernel) rfl
theorem maJ2_length_9d52b : qAr MJ2_length_9d52b 1 := by unfold qAr; decide +kernel
abbrev MJ2_indexOf_4cfef : qM := (yJ2_indexOf_4cfef, cJ2_indexOf_4cfef, 4, (some .int), { frames := 4, cells := 0, slots := 0, locals := 93 })
theorem miJ2_indexOf_4cfef : qIn MJ2_indexOf_4cfef := ⟨qT_in 645 (by decide +kernel) rfl, qT_in 67 (by decide +kernel) rfl, ⟨by decide +kernel, by decide +kernel⟩, rfl, rfl⟩
theorem mtJ2_indexOf_4cfef : Cond.static yJ2_indexOf_4cfef ∈ qT := qT_in 644 (by decide +kernel) rfl
theorem maJ2_indexOf_4cfef : qAr MJ2_indexOf_4cfef 4 := by unfold qAr; decide +kernel
abbrev MJ2_indexOfChar_4cfef : qM := (yJ2_indexOfChar_4cfef, cJ2_indexOfChar_4cfef, 4, (some .int), { frames := 3, cells := 0, slots := 0, locals := 67 })
theorem miJ2_indexOfChar_4cfef : qIn MJ2_indexOfChar_4cfef := ⟨qT_in 651 (by decide +kernel) rfl, qT_in 67 (by decide +kernel) rfl, ⟨by decide +kernel, by decide +kernel⟩, rfl, rfl⟩
theorem mtJ2_indexOfChar_4cfef : Cond.static yJ2_indexOfChar_4cfef ∈ qT := qT_in 650 (by decide +kernel) rfl
theorem maJ2_indexOfChar_4cfef : qAr MJ2_indexOfChar_4cfef 4 := by unfold qAr; decide +kernel
abbrev MJ2_indexOfCharUnsafe_4cfef : qM := (yJ2_indexOfCharUnsafe_4cfef, cJ2_indexOfCharUnsafe_4cfef, 5, (some .int), { frames := 2, cells := 0, slots := 0, locals := 41 })
theorem miJ2_indexOfCharUnsafe_4cfef : qIn MJ2_indexOfCharUnsafe_4cfef := ⟨qT_in 663 (by decide +kernel) rfl, qT_in 67 (by decide +kernel) rfl, ⟨by decide +kernel, by decide +kernel⟩, rfl, rfl⟩
theorem mtJ2_indexOfCharUnsafe_4cfef : Cond.static yJ2_indexOfCharUnsafe_4cfef ∈ qT := qT_in 662 (by decide +kernel) rfl
theorem maJ2_indexOfCharUnsafe_4cfef : qAr MJ2_indexOfCharUnsafe_4cfef 4 := by unfold qAr; decide +kernel
abbrev MJ2_indexOfSupplementary_4cfef : qM := (yJ2_indexOfSupplementary_4cfef, cJ2_indexOfSupplementary_4cfef, 7, (some .int), { frames := 3, cells := 0, slots := 0, locals := 67 })
theorem miJ2_indexOfSupplementary_4cfef : qIn MJ2_indexOfSupplementary_4cfef := ⟨qT_in 666 (by decide +kernel) rfl, qT_in 67 (by decide +kernel) rfl, ⟨by decide +kernel, by decide +kernel⟩, rfl, rfl⟩
theorem mtJ2_indexOfSupplementary_4cfef : Cond.static yJ2_indexOfSupplementary_4cfef ∈ qT := qT_in 665 (by decide +kernel) rfl
theorem maJ2_indexOfSupplementary_4cfef : qAr MJ2_indexOfSupplementary_4cfef 4 := by unfold qAr; decide +kernel
abbrev MJ2_charAt_3b067 : qM := (yJ2_charAt_3b067, cJ2_charAt_3b067, 2, (some .char), { frames := 3, cells := 0, slots := 0, locals := 64 })
theorem miJ2_charAt_3b067 : qIn MJ2_charAt_3b067 := ⟨qT_in 547 (by decide +kernel) rfl, qT_in 67 (by decide +kernel) rfl, ⟨by decide +kernel, by decide +kernel⟩, rfl, rfl⟩
theorem mtJ2_charAt_3b067 : Cond.static yJ2_charAt_3b067 ∈ qT := qT_in 546 (by decide +kernel) rfl
theorem maJ2_charAt_3b067 : qAr MJ2_charAt_3b067 2 := by unfold qAr; decide +kernel
abbrev MJ2_checkIndex_2214a : qM := (yJ2_checkIndex_2214a, cJ2_checkIndex_2214a, 2, none, { frames := 2, cells := 0, slots := 0, locals := 43 })
theorem miJ2_checkIndex_2214a : qIn MJ2_checkIndex_2214a := ⟨qT_in 550 (by decide +kernel) rfl, qT_in 67 (by decide +kernel) rfl, ⟨by decide +kernel, by decide +kernel⟩, rfl, rfl⟩
theorem mtJ2_checkIndex_2214a : Cond.static yJ2_checkIndex_2214a ∈ qT := qT_in 549 (by decide +kernel) rfl
theorem maJ2_checkIndex_2214a : qAr MJ2_checkIndex_2214a 2 := by unfold qAr; decide +kernel
abbrev MJ2_checkBoundsBeginEnd_d044e : qM := (yJ2_checkBoundsBeginEnd_d044e, cJ2_checkBoundsBeginEnd_d044e, 3, none, { frames := 2, cells := 0, slots := 0, locals := 45 })
theorem miJ2_checkBoundsBeginEnd_d044e : qIn MJ2_checkBoundsBeginEnd_d044e := ⟨qT_in 654 (by decide +kernel) rfl, qT_in 67 (by decide +kernel) rfl, ⟨by decide +kernel, by decide +kernel⟩, rfl, rfl⟩
theorem mtJ2_checkBoundsBeginEnd_d044e : Cond.static yJ2_checkBoundsBeginEnd_d044e ∈ qT := qT_in 653 (by decide +kernel) rfl
theorem maJ2_checkBoundsBeginEnd_d044e : qAr MJ2_checkBoundsBeginEnd_d044e 3 := by unfold qAr; decide +kernel
abbrev MJ3_checkIndex_8e157 : qM := (yJ3_checkIndex_8e157, cJ3_checkIndex_8e157, 3, (some .int), { frames := 0, cells := 0, slots := 0, locals := 0 })
theorem miJ3_checkIndex_8e157 : qIn MJ3_checkIndex_8e157 := ⟨qT_in 544 (by decide +kernel) rfl, qT_in 66 (by decide +kernel) rfl, ⟨by decide +kernel, by decide +kernel⟩, rfl, rfl⟩
theorem mtJ3_checkIndex_8e157 : Cond.static yJ3_checkIndex_8e157 ∈ qT := qT_in 543 (by decide +kernel) rfl
theorem maJ3_checkIndex_8e157 : qAr MJ3_checkIndex_8e157 3 := by unfold qAr; decide +kernel
abbrev MJ3_checkFromToIndex_8c36e : qM := (yJ3_checkFromToIndex_8c36e, cJ3_checkFromToIndex_8c36e, 4, (some .int), { frames := 0, cells := 0, slots := 0, locals := 0 })
theorem miJ3_checkFromToIndex_8c36e : qIn MJ3_checkFromToIndex_8c36e := ⟨qT_in 660 (by decide +kernel) rfl, qT_in 66 (by decide +kernel) rfl, ⟨by decide +kernel, by decide +kernel⟩, rfl, rfl⟩
theorem mtJ3_checkFromToIndex_8c36e : Cond.static yJ3_checkFromToIndex_8c36e ∈ qT := qT_in 659 (by decide +kernel) rfl
theorem maJ3_checkFromToIndex_8c36e : qAr MJ3_checkFromToIndex_8c36e 4 := by unfold qAr; decide +kernel
theorem lkX5_67 : Cond.methodLink RX5 67 yX3_copyFrom ∈ qT := qT_in 242 (by decide +kernel) rfl
theorem lkX5_71 : Cond.methodLink RX5 71 yX5_putNow ∈ qT := qT_in 246 (by decide +kernel) rfl
theorem lkX5_75 : Cond.methodLink RX5 75 yX5_keep ∈ qT := qT_in 281 (by decide +kernel) rfl
theorem lkX5_79 : Cond.methodLink RX5 79 yX5_liftNow ∈ qT := qT_in 298 (by decide +kernel) rfl
theorem lkX5_82 : Cond.methodLink RX5 82 yX5_playNow ∈ qT := qT_in 306 (by decide +kernel) rfl
theorem lkX5_85 : Cond.methodLink RX5 85 yX5_turnNow ∈ qT := qT_in 337 (by decide +kernel) rfl
theorem lkX5_89 : Cond.methodLink RX5 89 yX5_mirrorNow ∈ qT := qT_in 345 (by decide +kernel) rfl
theorem lkX5_92 : Cond.methodLink RX5 92 yX5_thriftNow ∈ qT := qT_in 353 (by decide +kernel) rfl
theorem lkX5_95 : Cond.methodLink RX5 95 yX5_isSquare ∈ qT := qT_in 250 (by decide +kernel) rfl
theorem lkX5_99 : Cond.methodLink RX5 99 yX3_manOn ∈ qT := qT_in 253 (by decide +kernel) rfl
theorem lkX5_102 : Cond.methodLink RX5 102 yX3_countManByMan ∈ qT := qT_in 372 (by decide +kernel) rfl
theorem lkX5_105 : Cond.methodLink RX5 105 yX3_countLineByLine ∈ qT := qT_in 417 (by decide +kernel) rfl
theorem lkX5_108 : Cond.methodLink RX5 108 yX3_reach ∈ qT := qT_in 422 (by decide +kernel) rfl
theorem lkX5_111 : Cond.methodLink RX5 111 yX5_bitsOf ∈ qT := qT_in 423 (by decide +kernel) rfl
theorem lkX5_114 : Cond.methodLink RX5 114 yX3_movesFrom ∈ qT := qT_in 424 (by decide +kernel) rfl
theorem lkX5_117 : Cond.methodLink RX5 117 yX3_fits ∈ qT := qT_in 357 (by decide +kernel) rfl
theorem lkX5_121 : Cond.methodLink RX5 121 yX3_keysFrom ∈ qT := qT_in 404 (by decide +kernel) rfl
theorem lkX5_124 : Cond.methodLink RX5 124 yX2_fillWithKeys ∈ qT := qT_in 376 (by decide +kernel) rfl
theorem lkX5_127 : Cond.methodLink RX5 127 yX5_canSpare ∈ qT := qT_in 393 (by decide +kernel) rfl
theorem lkX5_130 : Cond.methodLink RX5 130 yX2_fillWithMoves ∈ qT := qT_in 429 (by decide +kernel) rfl
theorem lkX5_133 : Cond.methodLink RX5 133 yX2_pick ∈ qT := qT_in 434 (by decide +kernel) rfl
theorem lkX5_136 : Cond.methodLink RX5 136 yX3_squareOf ∈ qT := qT_in 265 (by decide +kernel) rfl
theorem lkX5_139 : Cond.methodLink RX5 139 yX3_outlook ∈ qT := qT_in 443 (by decide +kernel) rfl
theorem lkX5_142 : Cond.methodLink RX5 142 yX5_squaresIn ∈ qT := qT_in 444 (by decide +kernel) rfl
theorem lkX5_145 : Cond.methodLink RX5 145 yX3_hasMove ∈ qT := qT_in 310 (by decide +kernel) rfl
theorem lkX5_149 : Cond.methodLink RX5 149 yX3_kindOfMove ∈ qT := qT_in 460 (by decide +kernel) rfl
theorem lkX5_152 : Cond.methodLink RX5 152 yX3_outlookBehind ∈ qT := qT_in 469 (by decide +kernel) rfl
theorem lkX5_155 : Cond.methodLink RX5 155 yX5_lowestIn ∈ qT := qT_in 470 (by decide +kernel) rfl
theorem lkX5_158 : Cond.methodLink RX5 158 yX5_fillTally ∈ qT := qT_in 477 (by decide +kernel) rfl
theorem lkX5_161 : Cond.methodLink RX5 161 yX2_count ∈ qT := qT_in 397 (by decide +kernel) rfl
theorem lkX5_164 : Cond.methodLink RX5 164 yX5_isKing ∈ qT := qT_in 262 (by decide +kernel) rfl
theorem lkX5_167 : Cond.methodLink RX5 167 yX3_setMan ∈ qT := qT_in 277 (by decide +kernel) rfl
theorem lkX5_171 : Cond.methodLink RX5 171 yX5_isWhite ∈ qT := qT_in 498 (by decide +kernel) rfl
theorem lkX5_174 : Cond.methodLink RX5 174 yX5_placeInOrder ∈ qT := qT_in 499 (by decide +kernel) rfl
theorem lkX5_177 : Cond.methodLink RX5 177 yX1_clear ∈ qT := qT_in 507 (by decide +kernel) rfl
theorem lkX5_180 : Cond.methodLink RX5 180 yX1_writeMan ∈ qT := qT_in 511 (by decide +kernel) rfl
theorem lkX5_184 : Cond.methodLink RX5 184 yX1_write ∈ qT := qT_in 568 (by decide +kernel) rfl
theorem lkX5_190 : Cond.methodLink RX5 190 yX1_writeSquare ∈ qT := qT_in 574 (by decide +kernel) rfl
theorem lkX5_193 : Cond.methodLink RX5 193 yX1_writeMoveSign ∈ qT := qT_in 578 (by decide +kernel) rfl
theorem lkX5_196 : Cond.methodLink RX5 196 yX1_codeAt ∈ qT := qT_in 587 (by decide +kernel) rfl
theorem lkX5_199 : Cond.methodLink RX5 199 yX4_add ∈ qT := qT_in 595 (by decide +kernel) rfl
theorem lkX5_202 : Cond.methodLink RX5 202 yX4_findFault ∈ qT := qT_in 603 (by decide +kernel) rfl
theorem lkX5_205 : Cond.methodLink RX5 205 yX4_clear ∈ qT := qT_in 686 (by decide +kernel) rfl
theorem lkX5_209 : Cond.methodLink RX5 209 yX4_whatOf ∈ qT := qT_in 690 (by decide +kernel) rfl
theorem lkX5_212 : Cond.methodLink RX5 212 yX4_squareOf ∈ qT := qT_in 694 (by decide +kernel) rfl
theorem lkX5_213 : Cond.methodLink RX5 213 yX4_originOf ∈ qT := qT_in 698 (by decide +kernel) rfl
theorem lkX5_216 : Cond.methodLink RX5 216 yX0_push ∈ qT := qT_in 285 (by decide +kernel) rfl
theorem lkX5_228 : Cond.methodLink RX5 228 yX3_countAll ∈ qT := qT_in 269 (by decide +kernel) rfl
theorem lkX5_231 : Cond.methodLink RX5 231 yX3_countKinds ∈ qT := qT_in 710 (by decide +kernel) rfl
theorem lkX5_234 : Cond.methodLink RX5 234 yX3_covered ∈ qT := qT_in 711 (by decide +kernel) rfl
theorem lkX5_253 : Cond.methodLink RX5 253 yX5_kindsAreAllMoves ∈ qT := qT_in 719 (by decide +kernel) rfl
theorem lkX5_256 : Cond.methodLink RX5 256 yX5_keysLeaveNoFlight ∈ qT := qT_in 723 (by decide +kernel) rfl
theorem lkX5_260 : Cond.methodLink RX5 260 yX5_bitsOfShare ∈ qT := qT_in 732 (by decide +kernel) rfl
theorem lkX5_264 : Cond.methodLink RX5 264 yX0_pop ∈ qT := qT_in 740 (by decide +kernel) rfl
theorem lkX5_271 : Cond.methodLink RX5 271 yX0_clear ∈ qT := qT_in 752 (by decide +kernel) rfl
theorem lkX5_272 : Cond.methodLink RX5 272 yX5_refuse ∈ qT := qT_in 258 (by decide +kernel) rfl
theorem lkX5_278 : Cond.methodLink RX5 278 yX5_hasSquare ∈ qT := qT_in 481 (by decide +kernel) rfl
theorem lkX5_281 : Cond.methodLink RX5 281 yX5_countKind ∈ qT := qT_in 482 (by decide +kernel) rfl
theorem lkX0_22 : Cond.methodLink RX0 22 yX0_rowAt ∈ qT := qT_in 289 (by decide +kernel) rfl
theorem lkX0_26 : Cond.methodLink RX0 26 yX3_copyFrom ∈ qT := qT_in 293 (by decide +kernel) rfl
theorem lkX1_21 : Cond.methodLink RX1 21 yJ0_length_8abf5 ∈ qT := qT_in 516 (by decide +kernel) rfl
theorem lkX1_26 : Cond.methodLink RX1 26 yJ0_charAt_5068e ∈ qT := qT_in 526 (by decide +kernel) rfl
theorem lkX1_30 : Cond.methodLink RX1 30 yX1_write ∈ qT := qT_in 564 (by decide +kernel) rfl
theorem lkX2_15 : Cond.methodLink RX2 15 yX3_movesFrom ∈ qT := qT_in 433 (by decide +kernel) rfl
theorem lkX2_21 : Cond.methodLink RX2 21 yX3_keysFrom ∈ qT := qT_in 380 (by decide +kernel) rfl
theorem lkX3_32 : Cond.methodLink RX3 32 yX3_countKinds ∈ qT := qT_in 273 (by decide +kernel) rfl
theorem lkX3_36 : Cond.methodLink RX3 36 yX3_squareOf ∈ qT := qT_in 321 (by decide +kernel) rfl
theorem lkX3_40 : Cond.methodLink RX3 40 yX3_countLineByLine ∈ qT := qT_in 361 (by decide +kernel) rfl
theorem lkX3_52 : Cond.methodLink RX3 52 yX3_reach ∈ qT := qT_in 322 (by decide +kernel) rfl
theorem lkX3_59 : Cond.methodLink RX3 59 yX3_isMetIn ∈ qT := qT_in 365 (by decide +kernel) rfl
theorem lkX3_62 : Cond.methodLink RX3 62 yX3_attacksAlong ∈ qT := qT_in 369 (by decide +kernel) rfl
theorem lkX3_66 : Cond.methodLink RX3 66 yX3_movesFrom ∈ qT := qT_in 314 (by decide +kernel) rfl
theorem lkX3_70 : Cond.methodLink RX3 70 yX3_outlook ∈ qT := qT_in 388 (by decide +kernel) rfl
theorem lkX3_74 : Cond.methodLink RX3 74 yX3_outlookBehind ∈ qT := qT_in 384 (by decide +kernel) rfl
theorem lkX4_31 : Cond.methodLink RX4 31 yX4_dueBehind ∈ qT := qT_in 607 (by decide +kernel) rfl
theorem lkX4_35 : Cond.methodLink RX4 35 yX4_keepCommand ∈ qT := qT_in 682 (by decide +kernel) rfl
theorem lkX4_47 : Cond.methodLink RX4 47 yX4_dueBehindFirst ∈ qT := qT_in 611 (by decide +kernel) rfl
theorem lkX4_51 : Cond.methodLink RX4 51 yX4_squareIn ∈ qT := qT_in 678 (by decide +kernel) rfl
theorem lkX4_57 : Cond.methodLink RX4 57 yX4_isLine ∈ qT := qT_in 615 (by decide +kernel) rfl
theorem lkX4_63 : Cond.methodLink RX4 63 yJ0_indexOf_0f7a4 ∈ qT := qT_in 619 (by decide +kernel) rfl
theorem lkL_13 : Cond.methodLink RL 13 yX5_put ∈ qT := qT_in 238 (by decide +kernel) rfl
theorem lkL_17 : Cond.methodLink RL 17 yX6_put ∈ qT := qT_in 837 (by decide +kernel) rfl
theorem lkL_18 : Cond.methodLink RL 18 yX5_lift ∈ qT := qT_in 294 (by decide +kernel) rfl
theorem lkL_22 : Cond.methodLink RL 22 yX6_lift ∈ qT := qT_in 871 (by decide +kernel) rfl
theorem lkL_23 : Cond.methodLink RL 23 yX5_play ∈ qT := qT_in 302 (by decide +kernel) rfl
theorem lkL_26 : Cond.methodLink RL 26 yX6_play ∈ qT := qT_in 1010 (by decide +kernel) rfl
theorem lkL_27 : Cond.methodLink RL 27 yX5_turn ∈ qT := qT_in 333 (by decide +kernel) rfl
theorem lkL_31 : Cond.methodLink RL 31 yX6_turn ∈ qT := qT_in 1018 (by decide +kernel) rfl
theorem lkL_32 : Cond.methodLink RL 32 yX5_mirror ∈ qT := qT_in 341 (by decide +kernel) rfl
theorem lkL_35 : Cond.methodLink RL 35 yX6_mirror ∈ qT := qT_in 1026 (by decide +kernel) rfl
theorem lkL_36 : Cond.methodLink RL 36 yX5_thrift ∈ qT := qT_in 349 (by decide +kernel) rfl
theorem lkL_39 : Cond.methodLink RL 39 yX6_thrift ∈ qT := qT_in 986 (by decide +kernel) rfl
theorem lkL_40 : Cond.methodLink RL 40 yX5_at ∈ qT := qT_in 405 (by decide +kernel) rfl
theorem lkL_43 : Cond.methodLink RL 43 yX6_at ∈ qT := qT_in 879 (by decide +kernel) rfl
theorem lkL_44 : Cond.methodLink RL 44 yX5_attackers ∈ qT := qT_in 409 (by decide +kernel) rfl
theorem lkL_47 : Cond.methodLink RL 47 yX6_attackers ∈ qT := qT_in 883 (by decide +kernel) rfl
theorem lkL_48 : Cond.methodLink RL 48 yX5_attackersAgain ∈ qT := qT_in 413 (by decide +kernel) rfl
theorem lkL_51 : Cond.methodLink RL 51 yX6_attackersAgain ∈ qT := qT_in 899 (by decide +kernel) rfl
theorem lkL_52 : Cond.methodLink RL 52 yX5_manOf ∈ qT := qT_in 418 (by decide +kernel) rfl
theorem lkL_55 : Cond.methodLink RL 55 yX6_manOf ∈ qT := qT_in 998 (by decide +kernel) rfl
theorem lkL_56 : Cond.methodLink RL 56 yX5_move ∈ qT := qT_in 425 (by decide +kernel) rfl
theorem lkL_59 : Cond.methodLink RL 59 yX6_move ∈ qT := qT_in 931 (by decide +kernel) rfl
theorem lkL_60 : Cond.methodLink RL 60 yX5_escapes ∈ qT := qT_in 439 (by decide +kernel) rfl
theorem lkL_63 : Cond.methodLink RL 63 yX6_escapes ∈ qT := qT_in 904 (by decide +kernel) rfl
theorem lkL_64 : Cond.methodLink RL 64 yX5_isFit ∈ qT := qT_in 448 (by decide +kernel) rfl
theorem lkL_67 : Cond.methodLink RL 67 yX6_isFit ∈ qT := qT_in 923 (by decide +kernel) rfl
theorem lkL_68 : Cond.methodLink RL 68 yX5_key ∈ qT := qT_in 452 (by decide +kernel) rfl
theorem lkL_71 : Cond.methodLink RL 71 yX6_key ∈ qT := qT_in 954 (by decide +kernel) rfl
theorem lkL_72 : Cond.methodLink RL 72 yX5_kind ∈ qT := qT_in 456 (by decide +kernel) rfl
theorem lkL_75 : Cond.methodLink RL 75 yX6_kind ∈ qT := qT_in 958 (by decide +kernel) rfl
theorem lkL_76 : Cond.methodLink RL 76 yX5_refutation ∈ qT := qT_in 465 (by decide +kernel) rfl
theorem lkL_79 : Cond.methodLink RL 79 yX6_refutation ∈ qT := qT_in 966 (by decide +kernel) rfl
theorem lkL_80 : Cond.methodLink RL 80 yX5_many ∈ qT := qT_in 473 (by decide +kernel) rfl
theorem lkL_83 : Cond.methodLink RL 83 yX6_many ∈ qT := qT_in 970 (by decide +kernel) rfl
theorem lkL_84 : Cond.methodLink RL 84 yX5_duals ∈ qT := qT_in 486 (by decide +kernel) rfl
theorem lkL_87 : Cond.methodLink RL 87 yX6_duals ∈ qT := qT_in 978 (by decide +kernel) rfl
theorem lkL_88 : Cond.methodLink RL 88 yX5_would ∈ qT := qT_in 490 (by decide +kernel) rfl
theorem lkL_91 : Cond.methodLink RL 91 yX6_would ∈ qT := qT_in 982 (by decide +kernel) rfl
theorem lkL_92 : Cond.methodLink RL 92 yX5_ranked ∈ qT := qT_in 494 (by decide +kernel) rfl
theorem lkL_95 : Cond.methodLink RL 95 yX6_ranked ∈ qT := qT_in 1006 (by decide +kernel) rfl
theorem lkL_96 : Cond.methodLink RL 96 yX5_show ∈ qT := qT_in 503 (by decide +kernel) rfl
theorem lkL_99 : Cond.methodLink RL 99 yX6_show ∈ qT := qT_in 1030 (by decide +kernel) rfl
theorem lkL_100 : Cond.methodLink RL 100 yX5_tell ∈ qT := qT_in 570 (by decide +kernel) rfl
theorem lkL_103 : Cond.methodLink RL 103 yX6_tell ∈ qT := qT_in 1040 (by decide +kernel) rfl
theorem lkL_104 : Cond.methodLink RL 104 yX5_sign ∈ qT := qT_in 583 (by decide +kernel) rfl
theorem lkL_107 : Cond.methodLink RL 107 yX6_sign ∈ qT := qT_in 1049 (by decide +kernel) rfl
theorem lkL_108 : Cond.methodLink RL 108 yX5_append ∈ qT := qT_in 591 (by decide +kernel) rfl
theorem lkL_111 : Cond.methodLink RL 111 yX6_append ∈ qT := qT_in 1053 (by decide +kernel) rfl
theorem lkL_112 : Cond.methodLink RL 112 yX5_read ∈ qT := qT_in 599 (by decide +kernel) rfl
theorem lkL_115 : Cond.methodLink RL 115 yX6_read ∈ qT := qT_in 1057 (by decide +kernel) rfl
theorem lkL_116 : Cond.methodLink RL 116 yX5_refusal ∈ qT := qT_in 702 (by decide +kernel) rfl
theorem lkL_119 : Cond.methodLink RL 119 yX6_refusal ∈ qT := qT_in 830 (by decide +kernel) rfl
theorem lkL_120 : Cond.methodLink RL 120 yX5_account ∈ qT := qT_in 706 (by decide +kernel) rfl
theorem lkL_123 : Cond.methodLink RL 123 yX6_account ∈ qT := qT_in 1086 (by decide +kernel) rfl
theorem lkL_124 : Cond.methodLink RL 124 yX5_isWell ∈ qT := qT_in 715 (by decide +kernel) rfl
theorem lkL_127 : Cond.methodLink RL 127 yX6_isWell ∈ qT := qT_in 1098 (by decide +kernel) rfl
theorem lkL_128 : Cond.methodLink RL 128 yX5_share ∈ qT := qT_in 727 (by decide +kernel) rfl
theorem lkL_131 : Cond.methodLink RL 131 yX6_share ∈ qT := qT_in 1102 (by decide +kernel) rfl
theorem lkL_132 : Cond.methodLink RL 132 yX5_undo ∈ qT := qT_in 736 (by decide +kernel) rfl
theorem lkL_135 : Cond.methodLink RL 135 yX6_undo ∈ qT := qT_in 1117 (by decide +kernel) rfl
theorem lkL_136 : Cond.methodLink RL 136 yX5_save ∈ qT := qT_in 744 (by decide +kernel) rfl
theorem lkL_139 : Cond.methodLink RL 139 yX6_save ∈ qT := qT_in 1121 (by decide +kernel) rfl
theorem lkL_140 : Cond.methodLink RL 140 yX5_restore ∈ qT := qT_in 748 (by decide +kernel) rfl
theorem lkL_143 : Cond.methodLink RL 143 yX6_restore ∈ qT := qT_in 1125 (by decide +kernel) rfl
theorem lkX6_60 : Cond.methodLink RX6 60 yX6_in ∈ qT := qT_in 834 (by decide +kernel) rfl
theorem lkX6_64 : Cond.methodLink RX6 64 yX6_isSquare ∈ qT := qT_in 852 (by decide +kernel) rfl
theorem lkX6_68 : Cond.methodLink RX6 68 yX6_refuse ∈ qT := qT_in 855 (by decide +kernel) rfl
theorem lkX6_72 : Cond.methodLink RX6 72 yX6_where ∈ qT := qT_in 859 (by decide +kernel) rfl
theorem lkX6_76 : Cond.methodLink RX6 76 yX6_men ∈ qT := qT_in 863 (by decide +kernel) rfl
theorem lkX6_80 : Cond.methodLink RX6 80 yX6_keep ∈ qT := qT_in 841 (by decide +kernel) rfl
theorem lkX6_83 : Cond.methodLink RX6 83 yX6_doPut ∈ qT := qT_in 848 (by decide +kernel) rfl
theorem lkX6_86 : Cond.methodLink RX6 86 yX6_ends ∈ qT := qT_in 867 (by decide +kernel) rfl
theorem lkX6_89 : Cond.methodLink RX6 89 yX6_doLift ∈ qT := qT_in 875 (by decide +kernel) rfl
theorem lkX6_92 : Cond.methodLink RX6 92 yX6_away ∈ qT := qT_in 891 (by decide +kernel) rfl
theorem lkX6_96 : Cond.methodLink RX6 96 yX6_firstAt ∈ qT := qT_in 895 (by decide +kernel) rfl
theorem lkX6_99 : Cond.methodLink RX6 99 yJ9_abs_0f7a4 ∈ qT := qT_in 919 (by decide +kernel) rfl
theorem lkX6_104 : Cond.methodLink RX6 104 yJ9_max_7cf53 ∈ qT := qT_in 922 (by decide +kernel) rfl
theorem lkX6_107 : Cond.methodLink RX6 107 yX6_isWhite ∈ qT := qT_in 943 (by decide +kernel) rfl
theorem lkX6_110 : Cond.methodLink RX6 110 yX6_attacks ∈ qT := qT_in 946 (by decide +kernel) rfl
theorem lkX6_114 : Cond.methodLink RX6 114 yX6_areBeside ∈ qT := qT_in 916 (by decide +kernel) rfl
theorem lkX6_117 : Cond.methodLink RX6 117 yX6_isMove ∈ qT := qT_in 939 (by decide +kernel) rfl
theorem lkX6_120 : Cond.methodLink RX6 120 yX6_attackersOf ∈ qT := qT_in 887 (by decide +kernel) rfl
theorem lkX6_123 : Cond.methodLink RX6 123 yX6_attackers ∈ qT := qT_in 903 (by decide +kernel) rfl
theorem lkX6_126 : Cond.methodLink RX6 126 yX6_canEscape ∈ qT := qT_in 912 (by decide +kernel) rfl
theorem lkX6_129 : Cond.methodLink RX6 129 yX6_escapeSet ∈ qT := qT_in 908 (by decide +kernel) rfl
theorem lkX6_132 : Cond.methodLink RX6 132 yX6_fits ∈ qT := qT_in 927 (by decide +kernel) rfl
theorem lkX6_142 : Cond.methodLink RX6 142 yX6_kindOf ∈ qT := qT_in 950 (by decide +kernel) rfl
theorem lkX6_145 : Cond.methodLink RX6 145 yX6_tells ∈ qT := qT_in 935 (by decide +kernel) rfl
theorem lkX6_149 : Cond.methodLink RX6 149 yX6_areSquares ∈ qT := qT_in 962 (by decide +kernel) rfl
theorem lkX6_152 : Cond.methodLink RX6 152 yX6_manyOf ∈ qT := qT_in 974 (by decide +kernel) rfl
theorem lkX6_155 : Cond.methodLink RX6 155 yX6_canSpare ∈ qT := qT_in 994 (by decide +kernel) rfl
theorem lkX6_158 : Cond.methodLink RX6 158 yX6_doThrift ∈ qT := qT_in 990 (by decide +kernel) rfl
theorem lkX6_161 : Cond.methodLink RX6 161 yX6_countOf ∈ qT := qT_in 1002 (by decide +kernel) rfl
theorem lkX6_165 : Cond.methodLink RX6 165 yX6_doPlay ∈ qT := qT_in 1014 (by decide +kernel) rfl
theorem lkX6_168 : Cond.methodLink RX6 168 yX6_doTurn ∈ qT := qT_in 1022 (by decide +kernel) rfl
theorem lkX6_177 : Cond.methodLink RX6 177 yJ0_charAt_5068e ∈ qT := qT_in 1035 (by decide +kernel) rfl
theorem lkX6_183 : Cond.methodLink RX6 183 yX6_says ∈ qT := qT_in 1036 (by decide +kernel) rfl
theorem lkX6_187 : Cond.methodLink RX6 187 yX6_kind ∈ qT := qT_in 1044 (by decide +kernel) rfl
theorem lkX6_190 : Cond.methodLink RX6 190 yX6_saysSquare ∈ qT := qT_in 1045 (by decide +kernel) rfl
theorem lkX6_204 : Cond.methodLink RX6 204 yX6_isHere ∈ qT := qT_in 1074 (by decide +kernel) rfl
theorem lkX6_208 : Cond.methodLink RX6 208 yX6_signAt ∈ qT := qT_in 1070 (by decide +kernel) rfl
theorem lkX6_215 : Cond.methodLink RX6 215 yJ0_indexOf_0f7a4 ∈ qT := qT_in 1065 (by decide +kernel) rfl
theorem lkX6_218 : Cond.methodLink RX6 218 yX6_square ∈ qT := qT_in 1066 (by decide +kernel) rfl
theorem lkX6_221 : Cond.methodLink RX6 221 yX6_order ∈ qT := qT_in 1078 (by decide +kernel) rfl
theorem lkX6_225 : Cond.methodLink RX6 225 yX6_readOrder ∈ qT := qT_in 1061 (by decide +kernel) rfl
theorem lkX6_228 : Cond.methodLink RX6 228 yX6_does ∈ qT := qT_in 1082 (by decide +kernel) rfl
theorem lkX6_231 : Cond.methodLink RX6 231 yX6_count ∈ qT := qT_in 1090 (by decide +kernel) rfl
theorem lkX6_234 : Cond.methodLink RX6 234 yX6_attacked ∈ qT := qT_in 1094 (by decide +kernel) rfl
theorem lkJ0_335 : Cond.methodLink RJ0 335 yJ0_coder_7d493 ∈ qT := qT_in 520 (by decide +kernel) rfl
theorem lkJ0_492 : Cond.methodLink RJ0 492 yJ0_isLatin1_aae02 ∈ qT := qT_in 530 (by decide +kernel) rfl
theorem lkJ0_495 : Cond.methodLink RJ0 495 yJ1_charAt_3b067 ∈ qT := qT_in 534 (by decide +kernel) rfl
theorem lkJ0_498 : Cond.methodLink RJ0 498 yJ2_charAt_3b067 ∈ qT := qT_in 545 (by decide +kernel) rfl
theorem lkJ0_505 : Cond.methodLink RJ0 505 yJ0_length_8abf5 ∈ qT := qT_in 627 (by decide +kernel) rfl
theorem lkJ0_633 : Cond.methodLink RJ0 633 yJ0_indexOf_7cf53 ∈ qT := qT_in 623 (by decide +kernel) rfl
theorem lkJ0_637 : Cond.methodLink RJ0 637 yJ1_indexOf_4cfef ∈ qT := qT_in 628 (by decide +kernel) rfl
theorem lkJ0_640 : Cond.methodLink RJ0 640 yJ2_indexOf_4cfef ∈ qT := qT_in 643 (by decide +kernel) rfl
theorem lkJ0_1059 : Cond.methodLink RJ0 1059 yJ3_checkIndex_8e157 ∈ qT := qT_in 542 (by decide +kernel) rfl
theorem lkJ0_1062 : Cond.methodLink RJ0 1062 yJ3_checkFromToIndex_8c36e ∈ qT := qT_in 658 (by decide +kernel) rfl
theorem lkJ1_9 : Cond.methodLink RJ1 9 yJ0_checkIndex_df160 ∈ qT := qT_in 537 (by decide +kernel) rfl
theorem lkJ1_38 : Cond.methodLink RJ1 38 yJ9_min_7cf53 ∈ qT := qT_in 637 (by decide +kernel) rfl
theorem lkJ1_88 : Cond.methodLink RJ1 88 yJ1_canEncode_9a6ad ∈ qT := qT_in 631 (by decide +kernel) rfl
theorem lkJ1_92 : Cond.methodLink RJ1 92 yJ9_max_7cf53 ∈ qT := qT_in 634 (by decide +kernel) rfl
theorem lkJ1_95 : Cond.methodLink RJ1 95 yJ1_indexOfChar_4cfef ∈ qT := qT_in 640 (by decide +kernel) rfl
theorem lkJ2_48 : Cond.methodLink RJ2 48 yJ2_length_9d52b ∈ qT := qT_in 551 (by decide +kernel) rfl
theorem lkJ2_67 : Cond.methodLink RJ2 67 yJ2_checkIndex_2214a ∈ qT := qT_in 548 (by decide +kernel) rfl
theorem lkJ2_71 : Cond.methodLink RJ2 71 yJ2_getChar_3b067 ∈ qT := qT_in 555 (by decide +kernel) rfl
theorem lkJ2_96 : Cond.methodLink RJ2 96 yJ2_checkBoundsBeginEnd_d044e ∈ qT := qT_in 652 (by decide +kernel) rfl
theorem lkJ2_157 : Cond.methodLink RJ2 157 yJ11_highSurrogate_5068e ∈ qT := qT_in 670 (by decide +kernel) rfl
theorem lkJ2_161 : Cond.methodLink RJ2 161 yJ11_lowSurrogate_5068e ∈ qT := qT_in 674 (by decide +kernel) rfl
theorem lkJ2_164 : Cond.methodLink RJ2 164 yJ11_isValidCodePoint_9a6ad ∈ qT := qT_in 667 (by decide +kernel) rfl
theorem lkJ2_183 : Cond.methodLink RJ2 183 yJ9_min_7cf53 ∈ qT := qT_in 647 (by decide +kernel) rfl
theorem lkJ2_224 : Cond.methodLink RJ2 224 yJ9_max_7cf53 ∈ qT := qT_in 646 (by decide +kernel) rfl
theorem lkJ2_228 : Cond.methodLink RJ2 228 yJ2_indexOfChar_4cfef ∈ qT := qT_in 649 (by decide +kernel) rfl
theorem lkJ2_232 : Cond.methodLink RJ2 232 yJ2_indexOfSupplementary_4cfef ∈ qT := qT_in 664 (by decide +kernel) rfl
theorem lkJ2_241 : Cond.methodLink RJ2 241 yJ0_checkBoundsBeginEnd_23922 ∈ qT := qT_in 655 (by decide +kernel) rfl
theorem lkJ2_244 : Cond.methodLink RJ2 244 yJ2_indexOfCharUnsafe_4cfef ∈ qT := qT_in 661 (by decide +kernel) rfl
theorem lkJ2_414 : Cond.methodLink RJ2 414 yJ0_checkIndex_df160 ∈ qT := qT_in 554 (by decide +kernel) rfl
theorem lkX2_24 : Cond.methodLinkNest RX2 24 yX5_bitsOf "MateKeys" ∈ qN := qN_in 401 (by decide +kernel) rfl
theorem lkX2_27 : Cond.methodLinkNest RX2 27 yX5_hasSquare "MateKeys" ∈ qN := qN_in 438 (by decide +kernel) rfl
theorem lkX3_28 : Cond.methodLinkNest RX3 28 yX5_isSquare "MateKeys" ∈ qN := qN_in 257 (by decide +kernel) rfl
theorem lkX3_49 : Cond.methodLinkNest RX3 49 yX5_isWhite "MateKeys" ∈ qN := qN_in 318 (by decide +kernel) rfl
theorem lkX3_55 : Cond.methodLinkNest RX3 55 yX5_hasSquare "MateKeys" ∈ qN := qN_in 330 (by decide +kernel) rfl
theorem lkX3_77 : Cond.methodLinkNest RX3 77 yX5_squaresIn "MateKeys" ∈ qN := qN_in 464 (by decide +kernel) rfl
theorem lfX5_12 : Cond.fieldLink RX5 12 "MateKeys" "now" "LMateKeys$Position;" ∈ qT := qT_in 189 (by decide +kernel) rfl
theorem lfX5_16 : Cond.fieldLink RX5 16 "MateKeys" "before" "LMateKeys$Position;" ∈ qT := qT_in 190 (by decide +kernel) rfl
theorem lfX5_19 : Cond.fieldLink RX5 19 "MateKeys" "trial" "LMateKeys$Position;" ∈ qT := qT_in 191 (by decide +kernel) rfl
theorem lfX5_22 : Cond.fieldLink RX5 22 "MateKeys" "saved" "LMateKeys$Position;" ∈ qT := qT_in 192 (by decide +kernel) rfl
theorem lfX5_28 : Cond.fieldLink RX5 28 "MateKeys" "history" "LMateKeys$History;" ∈ qT := qT_in 194 (by decide +kernel) rfl
theorem lfX5_35 : Cond.fieldLink RX5 35 "MateKeys" "moves" "LMateKeys$MoveTable;" ∈ qT := qT_in 195 (by decide +kernel) rfl
theorem lfX5_39 : Cond.fieldLink RX5 39 "MateKeys" "keys" "LMateKeys$MoveTable;" ∈ qT := qT_in 196 (by decide +kernel) rfl
theorem lfX5_42 : Cond.fieldLink RX5 42 "MateKeys" "tally" "[I" ∈ qT := qT_in 197 (by decide +kernel) rfl
theorem lfX5_46 : Cond.fieldLink RX5 46 "MateKeys" "moveCounts" "[I" ∈ qT := qT_in 198 (by decide +kernel) rfl
theorem lfX5_52 : Cond.fieldLink RX5 52 "MateKeys" "line" "LMateKeys$Line;" ∈ qT := qT_in 199 (by decide +kernel) rfl
theorem lfX5_59 : Cond.fieldLink RX5 59 "MateKeys" "script" "LMateKeys$Script;" ∈ qT := qT_in 200 (by decide +kernel) rfl
theorem lfX5_63 : Cond.fieldLink RX5 63 "MateKeys" "command" "I" ∈ qT := qT_in 201 (by decide +kernel) rfl
theorem lfX5_187 : Cond.fieldLink RX5 187 "MateKeys$Line" "length" "I" ∈ qT := qT_in 144 (by decide +kernel) rfl
theorem lfX5_206 : Cond.fieldLink RX5 206 "MateKeys$Script" "commands" "I" ∈ qT := qT_in 163 (by decide +kernel) rfl
theorem lfX5_219 : Cond.fieldLink RX5 219 "MateKeys" "reason" "I" ∈ qT := qT_in 202 (by decide +kernel) rfl
theorem lfX5_222 : Cond.fieldLink RX5 222 "MateKeys" "detail" "I" ∈ qT := qT_in 203 (by decide +kernel) rfl
theorem lfX5_225 : Cond.fieldLink RX5 225 "MateKeys" "refusedCommand" "I" ∈ qT := qT_in 204 (by decide +kernel) rfl
theorem lfX5_237 : Cond.fieldLink RX5 237 "MateKeys$Position" "played" "I" ∈ qT := qT_in 86 (by decide +kernel) rfl
theorem lfX5_240 : Cond.fieldLink RX5 240 "MateKeys$Position" "taken" "I" ∈ qT := qT_in 88 (by decide +kernel) rfl
theorem lfX5_243 : Cond.fieldLink RX5 243 "MateKeys$Position" "spared" "I" ∈ qT := qT_in 90 (by decide +kernel) rfl
theorem lfX5_246 : Cond.fieldLink RX5 246 "MateKeys$Position" "turned" "I" ∈ qT := qT_in 92 (by decide +kernel) rfl
theorem lfX5_249 : Cond.fieldLink RX5 249 "MateKeys$Script" "length" "I" ∈ qT := qT_in 158 (by decide +kernel) rfl
theorem lfX5_250 : Cond.fieldLink RX5 250 "MateKeys$History" "size" "I" ∈ qT := qT_in 117 (by decide +kernel) rfl
theorem lfX5_267 : Cond.fieldLink RX5 267 "MateKeys" "hasSaved" "Z" ∈ qT := qT_in 193 (by decide +kernel) rfl
theorem lfX5_275 : Cond.fieldLink RX5 275 "MateKeys$MoveTable" "targets" "[I" ∈ qT := qT_in 132 (by decide +kernel) rfl
theorem lfX0_11 : Cond.fieldLink RX0 11 "MateKeys$History" "rows" "[LMateKeys$Position;" ∈ qT := qT_in 114 (by decide +kernel) rfl
theorem lfX0_18 : Cond.fieldLink RX0 18 "MateKeys$History" "next" "I" ∈ qT := qT_in 115 (by decide +kernel) rfl
theorem lfX0_30 : Cond.fieldLink RX0 30 "MateKeys$History" "size" "I" ∈ qT := qT_in 116 (by decide +kernel) rfl
theorem lfX1_9 : Cond.fieldLink RX1 9 "MateKeys$Line" "codes" "[I" ∈ qT := qT_in 142 (by decide +kernel) rfl
theorem lfX1_15 : Cond.fieldLink RX1 15 "MateKeys$Line" "length" "I" ∈ qT := qT_in 143 (by decide +kernel) rfl
theorem lfX2_9 : Cond.fieldLink RX2 9 "MateKeys$MoveTable" "targets" "[I" ∈ qT := qT_in 131 (by decide +kernel) rfl
theorem lfX3_9 : Cond.fieldLink RX3 9 "MateKeys$Position" "men" "[I" ∈ qT := qT_in 84 (by decide +kernel) rfl
theorem lfX3_15 : Cond.fieldLink RX3 15 "MateKeys$Position" "played" "I" ∈ qT := qT_in 85 (by decide +kernel) rfl
theorem lfX3_19 : Cond.fieldLink RX3 19 "MateKeys$Position" "taken" "I" ∈ qT := qT_in 87 (by decide +kernel) rfl
theorem lfX3_22 : Cond.fieldLink RX3 22 "MateKeys$Position" "spared" "I" ∈ qT := qT_in 89 (by decide +kernel) rfl
theorem lfX3_25 : Cond.fieldLink RX3 25 "MateKeys$Position" "turned" "I" ∈ qT := qT_in 91 (by decide +kernel) rfl
theorem lfX4_9 : Cond.fieldLink RX4 9 "MateKeys$Script" "codes" "[I" ∈ qT := qT_in 156 (by decide +kernel) rfl
theorem lfX4_15 : Cond.fieldLink RX4 15 "MateKeys$Script" "whats" "[I" ∈ qT := qT_in 159 (by decide +kernel) rfl
theorem lfX4_18 : Cond.fieldLink RX4 18 "MateKeys$Script" "origins" "[I" ∈ qT := qT_in 160 (by decide +kernel) rfl
theorem lfX4_21 : Cond.fieldLink RX4 21 "MateKeys$Script" "squares" "[I" ∈ qT := qT_in 161 (by decide +kernel) rfl
theorem lfX4_24 : Cond.fieldLink RX4 24 "MateKeys$Script" "length" "I" ∈ qT := qT_in 157 (by decide +kernel) rfl
theorem lfX4_28 : Cond.fieldLink RX4 28 "MateKeys$Script" "commands" "I" ∈ qT := qT_in 162 (by decide +kernel) rfl
theorem lfX4_38 : Cond.fieldLink RX4 38 "MateKeys$Script" "what" "I" ∈ qT := qT_in 164 (by decide +kernel) rfl
theorem lfX4_41 : Cond.fieldLink RX4 41 "MateKeys$Script" "origin" "I" ∈ qT := qT_in 166 (by decide +kernel) rfl
theorem lfX4_44 : Cond.fieldLink RX4 44 "MateKeys$Script" "square" "I" ∈ qT := qT_in 167 (by decide +kernel) rfl
theorem lfX4_54 : Cond.fieldLink RX4 54 "MateKeys$Script" "column" "I" ∈ qT := qT_in 165 (by decide +kernel) rfl
theorem lfX6_9 : Cond.fieldLink RX6 9 "MateKeysModel" "s" "[I" ∈ qT := qT_in 762 (by decide +kernel) rfl
theorem lfX6_13 : Cond.fieldLink RX6 13 "MateKeysModel" "before" "[I" ∈ qT := qT_in 763 (by decide +kernel) rfl
theorem lfX6_16 : Cond.fieldLink RX6 16 "MateKeysModel" "saved" "[I" ∈ qT := qT_in 764 (by decide +kernel) rfl
theorem lfX6_19 : Cond.fieldLink RX6 19 "MateKeysModel" "past" "[I" ∈ qT := qT_in 766 (by decide +kernel) rfl
theorem lfX6_22 : Cond.fieldLink RX6 22 "MateKeysModel" "item" "I" ∈ qT := qT_in 770 (by decide +kernel) rfl
theorem lfX6_26 : Cond.fieldLink RX6 26 "MateKeysModel" "moves" "[I" ∈ qT := qT_in 772 (by decide +kernel) rfl
theorem lfX6_29 : Cond.fieldLink RX6 29 "MateKeysModel" "keys" "[I" ∈ qT := qT_in 774 (by decide +kernel) rfl
theorem lfX6_32 : Cond.fieldLink RX6 32 "MateKeysModel" "turned" "[I" ∈ qT := qT_in 775 (by decide +kernel) rfl
theorem lfX6_35 : Cond.fieldLink RX6 35 "MateKeysModel" "line" "[C" ∈ qT := qT_in 776 (by decide +kernel) rfl
theorem lfX6_39 : Cond.fieldLink RX6 39 "MateKeysModel" "text" "[C" ∈ qT := qT_in 778 (by decide +kernel) rfl
theorem lfX6_42 : Cond.fieldLink RX6 42 "MateKeysModel" "orders" "[I" ∈ qT := qT_in 782 (by decide +kernel) rfl
theorem lfX6_51 : Cond.fieldLink RX6 51 "MateKeysModel" "pastMany" "I" ∈ qT := qT_in 767 (by decide +kernel) rfl
theorem lfX6_54 : Cond.fieldLink RX6 54 "MateKeysModel" "reason" "I" ∈ qT := qT_in 768 (by decide +kernel) rfl
theorem lfX6_57 : Cond.fieldLink RX6 57 "MateKeysModel" "detail" "I" ∈ qT := qT_in 769 (by decide +kernel) rfl
theorem lfX6_136 : Cond.fieldLink RX6 136 "MateKeysModel" "lowest" "I" ∈ qT := qT_in 771 (by decide +kernel) rfl
theorem lfX6_139 : Cond.fieldLink RX6 139 "MateKeysModel" "moveMany" "I" ∈ qT := qT_in 773 (by decide +kernel) rfl
theorem lfX6_172 : Cond.fieldLink RX6 172 "MateKeysModel" "lineMany" "I" ∈ qT := qT_in 777 (by decide +kernel) rfl
theorem lfX6_194 : Cond.fieldLink RX6 194 "MateKeysModel" "length" "I" ∈ qT := qT_in 779 (by decide +kernel) rfl
theorem lfX6_197 : Cond.fieldLink RX6 197 "MateKeysModel" "isWrong" "Z" ∈ qT := qT_in 781 (by decide +kernel) rfl
theorem lfX6_201 : Cond.fieldLink RX6 201 "MateKeysModel" "at" "I" ∈ qT := qT_in 780 (by decide +kernel) rfl
theorem lfX6_212 : Cond.fieldLink RX6 212 "MateKeysModel" "orderMany" "I" ∈ qT := qT_in 783 (by decide +kernel) rfl
theorem lfX6_244 : Cond.fieldLink RX6 244 "MateKeysModel" "isSaved" "Z" ∈ qT := qT_in 765 (by decide +kernel) rfl
theorem lfJ0_9 : Cond.fieldLink RJ0 9 "java/lang/String" "value" "[B" ∈ qT := qT_in 1129 (by decide +kernel) rfl
theorem lfJ0_15 : Cond.fieldLink RJ0 15 "java/lang/String" "coder" "B" ∈ qT := qT_in 1130 (by decide +kernel) rfl
theorem lfJ0_38 : Cond.fieldLink RJ0 38 "java/lang/String" "COMPACT_STRINGS" "Z" ∈ qT := qT_in 524 (by decide +kernel) rfl
theorem lfJ0_1053 : Cond.fieldLink RJ0 1053 "jdk/internal/util/Preconditions" "SIOOBE_FORMATTER" "Ljava/util/function/BiFunction;" ∈ qT := qT_in 540 (by decide +kernel) rfl
theorem lfJ2_44 : Cond.fieldLink RJ2 44 "java/lang/StringUTF16" "$assertionsDisabled" "Z" ∈ qT := qT_in 558 (by decide +kernel) rfl
theorem lfJ2_59 : Cond.fieldLink RJ2 59 "java/lang/StringUTF16" "HI_BYTE_SHIFT" "I" ∈ qT := qT_in 560 (by decide +kernel) rfl
theorem lfJ2_63 : Cond.fieldLink RJ2 63 "java/lang/StringUTF16" "LO_BYTE_SHIFT" "I" ∈ qT := qT_in 562 (by decide +kernel) rfl
theorem lfX3_43 : Cond.fieldLinkNest RX3 43 "MateKeys" "STEP_COLUMNS" "[I" "MateKeys" ∈ qN := qN_in 326 (by decide +kernel) rfl
theorem lfX3_46 : Cond.fieldLinkNest RX3 46 "MateKeys" "STEP_ROWS" "[I" "MateKeys" ∈ qN := qN_in 328 (by decide +kernel) rfl
theorem lcX5_259 : Cond.constantFloat RX5 259 1103626240 ∈ qT := qT_in 731 (by decide +kernel) rfl
theorem lcX5_284 : Cond.constant RX5 284 33554431 ∈ qT := qT_in 447 (by decide +kernel) rfl
theorem lcX5_285 : Cond.constantFloat RX5 285 1258291200 ∈ qT := qT_in 735 (by decide +kernel) rfl
theorem lcX3_69 : Cond.constant RX3 69 33554432 ∈ qT := qT_in 392 (by decide +kernel) rfl
theorem lcX6_237 : Cond.constantFloat RX6 237 1103626240 ∈ qT := qT_in 1106 (by decide +kernel) rfl
theorem lcJ11_76 : Cond.constant RJ11 76 56320 ∈ qT := qT_in 677 (by decide +kernel) rfl
theorem lcJ11_110 : Cond.constant RJ11 110 55232 ∈ qT := qT_in 673 (by decide +kernel) rfl
theorem lcJxf58ca_77 : Cond.constant RJxf58ca 77 2143289344 ∈ qT := qT_in 1116 (by decide +kernel) rfl
theorem lcJ2_227 : Cond.constant RJ2 227 65536 ∈ qT := qT_in 648 (by decide +kernel) rfl
end
section
/-! rows for small naturals, booleans and sets of squares -/
abbrev nb (b : Nat → Nat) : Nat → Int32 := fun i => nI (b i)
def up (b : Nat → Nat) (k v : Nat) : Nat → Nat := fun i => if i = k then v else b i
theorem up_nb (b : Nat → Nat) (k v : Nat) : upd (nb b) k (nI v) = nb (up b k v) := by
  funext i
  by_cases h : i = k
  · subst h; simp [upd, nb, up]
  · simp [upd, nb, up, h]
theorem up_at (b : Nat → Nat) (k v : Nat) : up b k v k = v := by simp [up]
theorem up_ne (b : Nat → Nat) {k v i : Nat} (h : i ≠ k) : up b k v i = b i := by simp [up, h]
theorem up_up (b : Nat → Nat) (k v u : Nat) : up (up b k v) k u = up b k u := by funext i; by_cases h : i = k <;> simp [up, h]
theorem up_id (b : Nat → Nat) (k : Nat) : up b k (b k) = b := by funext i; by_cases h : i = k <;> simp [up, h]
theorem up_comm (b : Nat → Nat) {k j : Nat} (v u : Nat) (h : k ≠ j) : up (up b k v) j u = up (up b j u) k v := by
  funext i
  by_cases h1 : i = j
  · subst h1; simp [up, Ne.symm h]
  · by_cases h2 : i = k <;> simp [up, h1, h2, h]
def qb (p : Bool) : Int32 := if p = true then nI 1 else nI 0
theorem qb_t : qb true = nI 1 := rfl
theorem qb_f : qb false = nI 0 := rfl
theorem qb_0 {p : Bool} : qb p = 0 ↔ p = false := by cases p <;> decide +kernel
theorem qb_nI (p : Bool) : qb p = nI (if p = true then 1 else 0) := by cases p <;> rfl
theorem qb_nar (p : Bool) : narrow .boolean (.int (qb p)) = .int (qb p) := by cases p <;> rfl
section NROWS
theorem x_iald {X : qX} {M : qM} (C : qC X M) {pc : Nat} {loc : List (Nat × Value)} {st : List Value} {h : qH} {a n i : Nat} {f : Nat → Int32} (hd : decode M.2.1 pc = .ok (.iaload, 1)) (ho : h[a]? = some (.inl (0, n, .inl f))) (hi : i < n) (hn : n < 2147483648) (kk : Ex X M (pc + 1) loc (.int (f i) :: st) h) : Ex X M pc loc (.int (nI i) :: .ref a :: st) h := by
  refine x_iaload C hd ho (vp_in_nI hi hn) ?_
  rw [nI_clamp (Nat.lt_trans hi hn)]
  exact kk
theorem x_iast {X : qX} {M : qM} (C : qC X M) {pc : Nat} {loc : List (Nat × Value)} {st : List Value} {h : qH} {a n i : Nat} {x : Int32} {f : Nat → Int32} (hd : decode M.2.1 pc = .ok (.iastore, 1)) (ho : h[a]? = some (.inl (0, n, .inl f))) (hi : i < n) (hn : n < 2147483648) (kk : Ex X M (pc + 1) loc st (h.set a (.inl (0, n, .inl (upd f i x))))) : Ex X M pc loc (.int x :: .int (nI i) :: .ref a :: st) h := by
  refine x_iastore C hd ho (vp_in_nI hi hn) ?_
  rw [nI_clamp (Nat.lt_trans hi hn)]
  exact kk
theorem x_istb {X : qX} {M : qM} (C : qC X M) {pc : Nat} {loc : List (Nat × Value)} {st : List Value} {h : qH} {a n i v : Nat} {b : Nat → Nat} (hd : decode M.2.1 pc = .ok (.iastore, 1)) (ho : h[a]? = some (.inl (0, n, .inl (nb b)))) (hi : i < n) (hn : n < 2147483648) (kk : Ex X M (pc + 1) loc st (h.set a (.inl (0, n, .inl (nb (up b i v)))))) : Ex X M pc loc (.int (nI v) :: .int (nI i) :: .ref a :: st) h := by
  refine x_iast C hd ho hi hn ?_
  rw [up_nb]
  exact kk
theorem x_iaddN {X : qX} {M : qM} (C : qC X M) {pc : Nat} {loc : List (Nat × Value)} {st : List Value} {h : qH} {a b : Nat} (hd : decode M.2.1 pc = .ok (.iadd, 1)) (kk : Ex X M (pc + 1) loc (.int (nI (a + b)) :: st) h) : Ex X M pc loc (.int (nI b) :: .int (nI a) :: st) h := by
  refine x_iadd C hd ?_
  rw [nI_add]
  exact kk
theorem x_imulN {X : qX} {M : qM} (C : qC X M) {pc : Nat} {loc : List (Nat × Value)} {st : List Value} {h : qH} {a b : Nat} (hd : decode M.2.1 pc = .ok (.imul, 1)) (kk : Ex X M (pc + 1) loc (.int (nI (a * b)) :: st) h) : Ex X M pc loc (.int (nI b) :: .int (nI a) :: st) h := by
  refine x_imul C hd ?_
  rw [pk_mul]
  exact kk
theorem x_isubN {X : qX} {M : qM} (C : qC X M) {pc : Nat} {loc : List (Nat × Value)} {st : List Value} {h : qH} {a b : Nat} (hd : decode M.2.1 pc = .ok (.isub, 1)) (hle : b ≤ a) (kk : Ex X M (pc + 1) loc (.int (nI (a - b)) :: st) h) : Ex X M pc loc (.int (nI b) :: .int (nI a) :: st) h := by
  refine x_isub C hd ?_
  rw [pk_sub hle]
  exact kk
theorem nI_ne {d : Nat} (h0 : 0 < d) (hd : d < 2147483648) : ¬ nI d = 0 := nI_ne0 h0 hd
theorem x_idivN {X : qX} {M : qM} (C : qC X M) {pc : Nat} {loc : List (Nat × Value)} {st : List Value} {h : qH} {a d : Nat} (hd : decode M.2.1 pc = .ok (.idiv, 1)) (ha : a < 2147483648) (h0 : 0 < d) (hd2 : d < 2147483648) (kk : Ex X M (pc + 1) loc (.int (nI (a / d)) :: st) h) : Ex X M pc loc (.int (nI d) :: .int (nI a) :: st) h := by
  refine x_idiv C hd (nI_ne h0 hd2) ?_
  rw [pk_div ha h0 hd2]
  exact kk
theorem x_iremN {X : qX} {M : qM} (C : qC X M) {pc : Nat} {loc : List (Nat × Value)} {st : List Value} {h : qH} {a d : Nat} (hd : decode M.2.1 pc = .ok (.irem, 1)) (ha : a < 2147483648) (h0 : 0 < d) (hd2 : d < 2147483648) (kk : Ex X M (pc + 1) loc (.int (nI (a % d)) :: st) h) : Ex X M pc loc (.int (nI d) :: .int (nI a) :: st) h := by
  refine x_irem C hd (nI_ne h0 hd2) ?_
  rw [pk_rem ha h0 hd2]
  exact kk
theorem x_icmp_eqN {X : qX} {M : qM} (C : qC X M) {pc : Nat} {loc : List (Nat × Value)} {st : List Value} {h : qH} {a b : Nat} {off : Int} (tgt : Nat) (hd : decode M.2.1 pc = .ok (.if_icmp .eq off, 3)) (ht : (pc : Int) + off = (tgt : Int)) (ha : a < 2147483648) (hb : b < 2147483648) (kt : a = b → Ex X M tgt loc st h) (kf : ¬ a = b → Ex X M (pc + 3) loc st h) : Ex X M pc loc (.int (nI b) :: .int (nI a) :: st) h := x_icmp_eq C tgt hd ht (fun q => kt ((nI_eq ha hb).mp q)) (fun q => kf (fun z => q ((nI_eq ha hb).mpr z)))
theorem x_icmp_neN {X : qX} {M : qM} (C : qC X M) {pc : Nat} {loc : List (Nat × Value)} {st : List Value} {h : qH} {a b : Nat} {off : Int} (tgt : Nat) (hd : decode M.2.1 pc = .ok (.if_icmp .ne off, 3)) (ht : (pc : Int) + off = (tgt : Int)) (ha : a < 2147483648) (hb : b < 2147483648) (kt : ¬ a = b → Ex X M tgt loc st h) (kf : a = b → Ex X M (pc + 3) loc st h) : Ex X M pc loc (.int (nI b) :: .int (nI a) :: st) h := x_icmp_ne C tgt hd ht (fun q => kt (fun z => q ((nI_eq ha hb).mpr z))) (fun q => kf ((nI_eq ha hb).mp q))
theorem x_icmp_ltN {X : qX} {M : qM} (C : qC X M) {pc : Nat} {loc : List (Nat × Value)} {st : List Value} {h : qH} {a b : Nat} {off : Int} (tgt : Nat) (hd : decode M.2.1 pc = .ok (.if_icmp .lt off, 3)) (ht : (pc : Int) + off = (tgt : Int)) (ha : a < 2147483648) (hb : b < 2147483648) (kt : a < b → Ex X M tgt loc st h) (kf : ¬ a < b → Ex X M (pc + 3) loc st h) : Ex X M pc loc (.int (nI b) :: .int (nI a) :: st) h := x_icmp_lt C tgt hd ht (fun q => kt ((nI_ltI ha hb).mp q)) (fun q => kf (fun z => q ((nI_ltI ha hb).mpr z)))
theorem x_icmp_geN {X : qX} {M : qM} (C : qC X M) {pc : Nat} {loc : List (Nat × Value)} {st : List Value} {h : qH} {a b : Nat} {off : Int} (tgt : Nat) (hd : decode M.2.1 pc = .ok (.if_icmp .ge off, 3)) (ht : (pc : Int) + off = (tgt : Int)) (ha : a < 2147483648) (hb : b < 2147483648) (kt : b ≤ a → Ex X M tgt loc st h) (kf : ¬ b ≤ a → Ex X M (pc + 3) loc st h) : Ex X M pc loc (.int (nI b) :: .int (nI a) :: st) h := x_icmp_ge C tgt hd ht (fun q => kt ((nI_leI hb ha).mp q)) (fun q => kf (fun z => q ((nI_leI hb ha).mpr z)))
theorem x_icmp_gtN {X : qX} {M : qM} (C : qC X M) {pc : Nat} {loc : List (Nat × Value)} {st : List Value} {h : qH} {a b : Nat} {off : Int} (tgt : Nat) (hd : decode M.2.1 pc = .ok (.if_icmp .gt off, 3)) (ht : (pc : Int) + off = (tgt : Int)) (ha : a < 2147483648) (hb : b < 2147483648) (kt : b < a → Ex X M tgt loc st h) (kf : ¬ b < a → Ex X M (pc + 3) loc st h) : Ex X M pc loc (.int (nI b) :: .int (nI a) :: st) h := x_icmp_gt C tgt hd ht (fun q => kt ((nI_ltI hb ha).mp q)) (fun q => kf (fun z => q ((nI_ltI hb ha).mpr z)))
theorem x_icmp_leN {X : qX} {M : qM} (C : qC X M) {pc : Nat} {loc : List (Nat × Value)} {st : List Value} {h : qH} {a b : Nat} {off : Int} (tgt : Nat) (hd : decode M.2.1 pc = .ok (.if_icmp .le off, 3)) (ht : (pc : Int) + off = (tgt : Int)) (ha : a < 2147483648) (hb : b < 2147483648) (kt : a ≤ b → Ex X M tgt loc st h) (kf : ¬ a ≤ b → Ex X M (pc + 3) loc st h) : Ex X M pc loc (.int (nI b) :: .int (nI a) :: st) h := x_icmp_le C tgt hd ht (fun q => kt ((nI_leI ha hb).mp q)) (fun q => kf (fun z => q ((nI_leI ha hb).mpr z)))
theorem x_if_eqN {X : qX} {M : qM} (C : qC X M) {pc : Nat} {loc : List (Nat × Value)} {st : List Value} {h : qH} {a : Nat} {off : Int} (tgt : Nat) (hd : decode M.2.1 pc = .ok (.ifCond .eq off, 3)) (ht : (pc : Int) + off = (tgt : Int)) (ha : a < 2147483648) (kt : a = 0 → Ex X M tgt loc st h) (kf : ¬ a = 0 → Ex X M (pc + 3) loc st h) : Ex X M pc loc (.int (nI a) :: st) h := x_if_eq C tgt hd ht (fun q => kt ((nI_eq ha (by decide : 0 < 2147483648)).mp q)) (fun q => kf (fun z => q ((nI_eq ha (by decide : 0 < 2147483648)).mpr z)))
theorem x_if_neN {X : qX} {M : qM} (C : qC X M) {pc : Nat} {loc : List (Nat × Value)} {st : List Value} {h : qH} {a : Nat} {off : Int} (tgt : Nat) (hd : decode M.2.1 pc = .ok (.ifCond .ne off, 3)) (ht : (pc : Int) + off = (tgt : Int)) (ha : a < 2147483648) (kt : ¬ a = 0 → Ex X M tgt loc st h) (kf : a = 0 → Ex X M (pc + 3) loc st h) : Ex X M pc loc (.int (nI a) :: st) h := x_if_ne C tgt hd ht (fun q => kt (fun z => q ((nI_eq ha (by decide : 0 < 2147483648)).mpr z))) (fun q => kf ((nI_eq ha (by decide : 0 < 2147483648)).mp q))
theorem x_if_ltN {X : qX} {M : qM} (C : qC X M) {pc : Nat} {loc : List (Nat × Value)} {st : List Value} {h : qH} {a : Nat} {off : Int} (tgt : Nat) (hd : decode M.2.1 pc = .ok (.ifCond .lt off, 3)) (ht : (pc : Int) + off = (tgt : Int)) (ha : a < 2147483648) (kf : Ex X M (pc + 3) loc st h) : Ex X M pc loc (.int (nI a) :: st) h := x_if_lt C tgt hd ht (fun q => absurd q (nI_pos ha)) (fun _ => kf)
theorem x_if_geN {X : qX} {M : qM} (C : qC X M) {pc : Nat} {loc : List (Nat × Value)} {st : List Value} {h : qH} {a : Nat} {off : Int} (tgt : Nat) (hd : decode M.2.1 pc = .ok (.ifCond .ge off, 3)) (ht : (pc : Int) + off = (tgt : Int)) (ha : a < 2147483648) (kt : Ex X M tgt loc st h) : Ex X M pc loc (.int (nI a) :: st) h := x_if_ge C tgt hd ht (fun _ => kt) (fun q => absurd (nI_pos' ha) q)
theorem x_if_leN {X : qX} {M : qM} (C : qC X M) {pc : Nat} {loc : List (Nat × Value)} {st : List Value} {h : qH} {a : Nat} {off : Int} (tgt : Nat) (hd : decode M.2.1 pc = .ok (.ifCond .le off, 3)) (ht : (pc : Int) + off = (tgt : Int)) (ha : a < 2147483648) (kt : a = 0 → Ex X M tgt loc st h) (kf : ¬ a = 0 → Ex X M (pc + 3) loc st h) : Ex X M pc loc (.int (nI a) :: st) h := x_if_le C tgt hd ht (fun q => kt (Nat.le_zero.mp ((nI_leI ha (by decide : 0 < 2147483648)).mp q))) (fun q => kf (fun z => q ((nI_leI ha (by decide : 0 < 2147483648)).mpr (Nat.le_zero.mpr z))))
theorem x_if_gtN {X : qX} {M : qM} (C : qC X M) {pc : Nat} {loc : List (Nat × Value)} {st : List Value} {h : qH} {a : Nat} {off : Int} (tgt : Nat) (hd : decode M.2.1 pc = .ok (.ifCond .gt off, 3)) (ht : (pc : Int) + off = (tgt : Int)) (ha : a < 2147483648) (kt : ¬ a = 0 → Ex X M tgt loc st h) (kf : a = 0 → Ex X M (pc + 3) loc st h) : Ex X M pc loc (.int (nI a) :: st) h := x_if_gt C tgt hd ht (fun q => kt (fun z => absurd ((nI_ltI (by decide : 0 < 2147483648) ha).mp q) (by omega))) (fun q => kf (by have := mt (nI_ltI (by decide : 0 < 2147483648) ha).mpr q; omega))
theorem x_if_eqB {X : qX} {M : qM} (C : qC X M) {pc : Nat} {loc : List (Nat × Value)} {st : List Value} {h : qH} {p : Bool} {off : Int} (tgt : Nat) (hd : decode M.2.1 pc = .ok (.ifCond .eq off, 3)) (ht : (pc : Int) + off = (tgt : Int)) (kt : p = false → Ex X M tgt loc st h) (kf : p = true → Ex X M (pc + 3) loc st h) : Ex X M pc loc (.int (qb p) :: st) h := x_if_eq C tgt hd ht (fun q => kt (qb_0.mp q)) (fun q => kf (by cases p; exact absurd (qb_0.mpr rfl) q; rfl))
theorem x_if_neB {X : qX} {M : qM} (C : qC X M) {pc : Nat} {loc : List (Nat × Value)} {st : List Value} {h : qH} {p : Bool} {off : Int} (tgt : Nat) (hd : decode M.2.1 pc = .ok (.ifCond .ne off, 3)) (ht : (pc : Int) + off = (tgt : Int)) (kt : p = true → Ex X M tgt loc st h) (kf : p = false → Ex X M (pc + 3) loc st h) : Ex X M pc loc (.int (qb p) :: st) h := x_if_ne C tgt hd ht (fun q => kt (by cases p; exact absurd (qb_0.mpr rfl) q; rfl)) (fun q => kf (qb_0.mp q))
end NROWS
/-! sets of squares as ints -/
def mk (p : Nat → Bool) : Nat → Nat
  | 0 => 0
  | n + 1 => mk p n + (if p n = true then 2 ^ n else 0)
theorem mk_lt (p : Nat → Bool) : ∀ n, mk p n < 2 ^ n
  | 0 => by simp [mk]
  | n + 1 => by
    have := mk_lt p n
    simp only [mk]
    split <;> (rw [Nat.pow_succ]; omega)
theorem mk_bit (p : Nat → Bool) : ∀ n k, (mk p n).testBit k = (decide (k < n) && p k)
  | 0, k => by simp [mk]
  | n + 1, k => by
    have hl := mk_lt p n
    have ih := mk_bit p n k
    have e : mk p (n + 1) = 2 ^ n * (if p n = true then 1 else 0) + mk p n := by simp only [mk]; split <;> simp [Nat.add_comm]
    rw [e, Nat.testBit_two_pow_mul_add _ hl]
    by_cases h1 : k < n
    · simp [h1, ih, Nat.lt_succ_of_lt h1]
    · by_cases h2 : k = n
      · subst h2
        by_cases h3 : p k = true <;> simp [h3]
      · have h4 : ¬ k < n + 1 := by omega
        simp only [h1, h4, ↓reduceIte, decide_false, Bool.false_and]
        have h5 : k - n ≠ 0 := by omega
        obtain ⟨j, hj⟩ := Nat.exists_eq_succ_of_ne_zero h5
        rw [hj]
        by_cases h3 : p n = true <;> simp [h3, Nat.testBit_succ]
def mask (p : Nat → Bool) : Int32 := nI (mk p 25)
theorem mk25 (p : Nat → Bool) : mk p 25 < 33554432 := mk_lt p 25
theorem mask_bits (p : Nat → Bool) (k : Nat) : (mask p).toBitVec.getLsbD k = (decide (k < 25) && p k) := by
  have h : (mask p).toBitVec = BitVec.ofNat 32 (mk p 25) := rfl
  rw [h, BitVec.getLsbD_ofNat, mk_bit]
  by_cases h1 : k < 25
  · have : k < 32 := by omega
    simp [this]
  · simp [h1]
theorem i32_ext {x y : Int32} (h : ∀ k, k < 32 → x.toBitVec.getLsbD k = y.toBitVec.getLsbD k) : x = y := by
  apply Int32.toBitVec_inj.mp
  apply BitVec.eq_of_getLsbD_eq
  intro i hi
  exact h i hi
theorem mask_or (p q : Nat → Bool) : mask p ||| mask q = mask (fun k => p k || q k) := by
  apply i32_ext
  intro k _
  rw [Int32.toBitVec_or, BitVec.getLsbD_or, mask_bits, mask_bits, mask_bits]
  by_cases h : k < 25 <;> simp [h]
theorem mask_and (p q : Nat → Bool) : mask p &&& mask q = mask (fun k => p k && q k) := by
  apply i32_ext
  intro k _
  rw [Int32.toBitVec_and, BitVec.getLsbD_and, mask_bits, mask_bits, mask_bits]
  by_cases h : k < 25 <;> simp [h]
theorem mask_diff (p q : Nat → Bool) : mask p &&& (mask q ^^^ (-1)) = mask (fun k => p k && !q k) := by
  apply i32_ext
  intro k hk
  have h1 : ((-1 : Int32)).toBitVec.getLsbD k = decide (k < 32) := by
    rw [show ((-1 : Int32)).toBitVec = BitVec.allOnes 32 from rfl, BitVec.getLsbD_allOnes]
  rw [Int32.toBitVec_and, BitVec.getLsbD_and, Int32.toBitVec_xor, BitVec.getLsbD_xor, mask_bits, mask_bits, mask_bits, h1]
  by_cases h : k < 25 <;> simp [h, hk]
theorem mask_bit (p : Nat → Bool) {k : Nat} (hk : k < 25) : (mask p >>> (nI k &&& 31)) &&& nI 1 = qb (p k) := by
  have hs : ((nI k &&& 31).toBitVec.smod 32).toNat = k := by
    have : ∀ k : Fin 25, ((nI k &&& 31).toBitVec.smod 32).toNat = k := by decide +kernel
    exact this ⟨k, hk⟩
  rw [mask, pk_shrN (by have := mk25 p; omega) _ k hs, pk_andN (by have := mk25 p; exact Nat.lt_of_le_of_lt (Nat.div_le_self _ _) (by omega)) 1 rfl, qb_nI]
  congr 1
  have h := mk_bit p 25 k
  simp only [hk, decide_true, Bool.true_and] at h
  rw [Nat.testBit_eq_decide_div_mod_eq] at h
  have h2 : mk p 25 / 2 ^ k % 2 < 2 := Nat.mod_lt _ (by decide)
  by_cases h3 : p k = true
  · rw [h3] at h ⊢
    simpa using h
  · have h4 : p k = false := by simpa using h3
    rw [h4] at h ⊢
    simp at h
    simp
    omega
def one (k : Nat) : Nat → Bool := fun j => decide (j = k)
theorem mask_one {k : Nat} (hk : k < 25) : nI 1 <<< (nI k &&& 31) = mask (one k) := by
  have : ∀ k : Fin 25, nI 1 <<< (nI k &&& 31) = mask (one k) := by decide +kernel
  exact this ⟨k, hk⟩
theorem mask_none : mask (fun _ => false) = nI 0 := by decide +kernel
theorem mask_inj {p q : Nat → Bool} (h : mask p = mask q) : ∀ k, k < 25 → p k = q k := by
  intro k hk
  have h1 := mask_bits p k
  rw [h, mask_bits] at h1
  simpa [hk] using h1.symm
theorem mask_congr {p q : Nat → Bool} (h : ∀ k, k < 25 → p k = q k) : mask p = mask q := by
  apply i32_ext
  intro k _
  rw [mask_bits, mask_bits]
  by_cases hk : k < 25
  · simp [hk, h k hk]
  · simp [hk]
theorem mask_0 {p : Nat → Bool} : mask p = nI 0 ↔ ∀ k, k < 25 → p k = false := by
  rw [← mask_none]
  exact ⟨mask_inj, fun h => mask_congr h⟩
theorem x_sub {X : qX} {M : qM} {pc : Nat} {loc loc2 : List (Nat × Value)} {st : List Value} {h : qH} (ks : List Nat) (kk : Ex X M pc loc2 st h) (hs : lv_pick loc ks = loc2) : Ex X M pc loc st h := by
  subst hs
  refine x_loc _ (fun q hq => ?_) kk
  obtain ⟨k, -, hk⟩ := List.mem_filterMap.mp hq
  exact List.mem_of_getElem? hk
end
section
/-! small questions of MateKeys -/
def isSq (x : Int32) : Bool := !decide (x < 0) && !decide (nI 25 ≤ x)
theorem isSq_nI {i : Nat} (h : i < 2147483648) : isSq (nI i) = decide (i < 25) := by
  have h1 : ¬ nI i < 0 := nI_pos h
  by_cases h2 : i < 25
  · have h3 : ¬ nI 25 ≤ nI i := fun q => absurd ((nI_leI (by decide) h).mp q) (by omega)
    simp only [isSq, h1, h2, h3, decide_false, decide_true, Bool.not_false, Bool.and_self]
  · have h3 : nI 25 ≤ nI i := (nI_leI (by decide) h).mpr (by omega)
    simp only [isSq, h1, h2, h3, decide_false, decide_true, Bool.not_false, Bool.not_true, Bool.and_false]
theorem isSq_of {x : Int32} (h : isSq x = true) : ∃ i : Nat, i < 25 ∧ x = nI i := by
  simp only [isSq, Bool.and_eq_true, Bool.not_eq_true', decide_eq_false_iff_not] at h
  obtain ⟨j, hj, rfl⟩ := nI_of h.1
  refine ⟨j, ?_, rfl⟩
  exact Nat.lt_of_not_le (fun q => h.2 ((nI_leI (by decide) hj).mpr q))
set_option maxHeartbeats 4000000 in
set_option maxRecDepth 100000 in
theorem okX5_isSquare (x : Int32) (h : qH) : Ok MX5_isSquare [.int x] h (some (.int (qb (isSq x)))) (h) := by
  refine ok_of (by decide +kernel) (Nat.zero_le _) (Nat.le_of_ble_eq_true rfl) ?_
  intro X C E
  show Ex X MX5_isSquare 0 [(0, .int x)] [] h
  refine x_iload_n C dX5_isSquare_0 rfl ?_
  refine x_if_lt C 14 dX5_isSquare_1 (by decide) (fun c1 => ?_) (fun c1 => ?_)
  · refine x_iconst C (v := nI 0) dX5_isSquare_14 (by decide +kernel) ?_
    exact x_iret E .boolean dX5_isSquare_15 rfl rfl (by simp only [isSq, c1, decide_true, Bool.not_true, Bool.false_and]; rfl) rfl
  · refine x_iload_n C dX5_isSquare_4 rfl ?_
    refine x_bipush C (v := nI 25) dX5_isSquare_5 (by decide +kernel) ?_
    refine x_icmp_ge C 14 dX5_isSquare_7 (by decide) (fun c7 => ?_) (fun c7 => ?_)
    · refine x_iconst C (v := nI 0) dX5_isSquare_14 (by decide +kernel) ?_
      exact x_iret E .boolean dX5_isSquare_15 rfl rfl (by simp only [isSq, c1, c7, decide_true, decide_false, Bool.not_true, Bool.not_false, Bool.and_false]; rfl) rfl
    · refine x_iconst C (v := nI 1) dX5_isSquare_10 (by decide +kernel) ?_
      refine x_goto C 15 dX5_isSquare_11 (by decide) ?_
      exact x_iret E .boolean dX5_isSquare_15 rfl rfl (by simp only [isSq, c1, c7, decide_true, decide_false, Bool.not_true, Bool.not_false, Bool.and_self]; rfl) rfl
def isW (m : Nat) : Bool := decide (1 ≤ m) && decide (m ≤ 5)
set_option maxHeartbeats 4000000 in
set_option maxRecDepth 100000 in
theorem okX5_isWhite (m : Nat) (hm : m < 2147483648) (h : qH) : Ok MX5_isWhite [.int (nI m)] h (some (.int (qb (isW m)))) (h) := by
  refine ok_of (by decide +kernel) (Nat.zero_le _) (Nat.le_of_ble_eq_true rfl) ?_
  intro X C E
  show Ex X MX5_isWhite 0 [(0, .int (nI m))] [] h
  refine x_iload_n C dX5_isWhite_0 rfl ?_
  refine x_iconst C (v := nI 1) dX5_isWhite_1 (by decide +kernel) ?_
  refine x_icmp_ltN C 14 dX5_isWhite_2 (by decide) (by omega) (by omega) (fun c2 => ?_) (fun c2 => ?_)
  · refine x_iconst C (v := nI 0) dX5_isWhite_14 (by decide +kernel) ?_
    exact x_iret E .boolean dX5_isWhite_15 rfl rfl (by have e : isW m = false := (by simp [isW]; omega); rw [e]; rfl) rfl
  · refine x_iload_n C dX5_isWhite_5 rfl ?_
    refine x_iconst C (v := nI 5) dX5_isWhite_6 (by decide +kernel) ?_
    refine x_icmp_gtN C 14 dX5_isWhite_7 (by decide) (by omega) (by omega) (fun c7 => ?_) (fun c7 => ?_)
    · refine x_iconst C (v := nI 0) dX5_isWhite_14 (by decide +kernel) ?_
      exact x_iret E .boolean dX5_isWhite_15 rfl rfl (by have e : isW m = false := (by simp [isW]; omega); rw [e]; rfl) rfl
    · refine x_iconst C (v := nI 1) dX5_isWhite_10 (by decide +kernel) ?_
      refine x_goto C 15 dX5_isWhite_11 (by decide) ?_
      exact x_iret E .boolean dX5_isWhite_15 rfl rfl (by have e : isW m = true := (by simp [isW]; omega); rw [e]; rfl) rfl
def isK (m : Nat) : Bool := decide (m = 1) || decide (m = 7)
set_option maxHeartbeats 4000000 in
set_option maxRecDepth 100000 in
theorem okX5_isKing (m : Nat) (hm : m < 2147483648) (h : qH) : Ok MX5_isKing [.int (nI m)] h (some (.int (qb (isK m)))) (h) := by
  refine ok_of (by decide +kernel) (Nat.zero_le _) (Nat.le_of_ble_eq_true rfl) ?_
  intro X C E
  show Ex X MX5_isKing 0 [(0, .int (nI m))] [] h
  refine x_iload_n C dX5_isKing_0 rfl ?_
  refine x_iconst C (v := nI 1) dX5_isKing_1 (by decide +kernel) ?_
  refine x_icmp_eqN C 11 dX5_isKing_2 (by decide) (by omega) (by omega) (fun c2 => ?_) (fun c2 => ?_)
  · refine x_iconst C (v := nI 1) dX5_isKing_11 (by decide +kernel) ?_
    refine x_goto C 16 dX5_isKing_12 (by decide) ?_
    exact x_iret E .boolean dX5_isKing_16 rfl rfl (by have e : isK m = true := (by simp [isK]; omega); rw [e]; rfl) rfl
  · refine x_iload_n C dX5_isKing_5 rfl ?_
    refine x_bipush C (v := nI 7) dX5_isKing_6 (by decide +kernel) ?_
    refine x_icmp_neN C 15 dX5_isKing_8 (by decide) (by omega) (by omega) (fun c8 => ?_) (fun c8 => ?_)
    · refine x_iconst C (v := nI 0) dX5_isKing_15 (by decide +kernel) ?_
      exact x_iret E .boolean dX5_isKing_16 rfl rfl (by have e : isK m = false := (by simp [isK]; omega); rw [e]; rfl) rfl
    · refine x_iconst C (v := nI 1) dX5_isKing_11 (by decide +kernel) ?_
      refine x_goto C 16 dX5_isKing_12 (by decide) ?_
      exact x_iret E .boolean dX5_isKing_16 rfl rfl (by have e : isK m = true := (by simp [isK]; omega); rw [e]; rfl) rfl
set_option maxHeartbeats 4000000 in
set_option maxRecDepth 100000 in
theorem okX5_hasSquare (p : Nat → Bool) {k : Nat} (hk : k < 25) (h : qH) : Ok MX5_hasSquare [.int (mask p), .int (nI k)] h (some (.int (qb (p k)))) (h) := by
  refine ok_of (by decide +kernel) (Nat.zero_le _) (Nat.le_of_ble_eq_true rfl) ?_
  intro X C E
  show Ex X MX5_hasSquare 0 [(0, .int (mask p)), (1, .int (nI k))] [] h
  refine x_iload_n C dX5_hasSquare_0 rfl ?_
  refine x_callS1i C (okX5_isSquare _ _) lkX5_95 miX5_isSquare mtX5_isSquare maX5_isSquare ⟨Nat.le_of_ble_eq_true rfl, Nat.le_of_ble_eq_true rfl⟩ (Nat.le_of_ble_eq_true rfl) dX5_hasSquare_1 ?_
  rw [isSq_nI (by omega), decide_eq_true hk]
  refine x_if_eqB C 19 dX5_hasSquare_4 (by decide) (fun c4 => ?_) (fun c4 => ?_)
  · exact absurd c4 (by decide)
  · refine x_iload_n C dX5_hasSquare_7 rfl ?_
    refine x_iload_n C dX5_hasSquare_8 rfl ?_
    refine x_ishr C dX5_hasSquare_9 ?_
    refine x_iconst C (v := nI 1) dX5_hasSquare_10 (by decide +kernel) ?_
    refine x_iand C dX5_hasSquare_11 ?_
    rw [mask_bit p hk]
    refine x_if_eqB C 19 dX5_hasSquare_12 (by decide) (fun c12 => ?_) (fun c12 => ?_)
    · refine x_iconst C (v := nI 0) dX5_hasSquare_19 (by decide +kernel) ?_
      exact x_iret E .boolean dX5_hasSquare_20 rfl rfl (by rw [c12]; rfl) rfl
    · refine x_iconst C (v := nI 1) dX5_hasSquare_15 (by decide +kernel) ?_
      refine x_goto C 20 dX5_hasSquare_16 (by decide) ?_
      exact x_iret E .boolean dX5_hasSquare_20 rfl rfl (by rw [c12]; rfl) rfl
def olk (p : Nat → Bool) (c : Bool) : Int32 := if c = true then mask p ||| nI 33554432 else mask p
theorem big_bits (k : Nat) (hk : k < 32) : (nI 33554432).toBitVec.getLsbD k = decide (k = 25) := by
  have : ∀ k : Fin 32, (nI 33554432).toBitVec.getLsbD k = decide ((k : Nat) = 25) := by decide +kernel
  exact this ⟨k, hk⟩
theorem low_bits (k : Nat) (hk : k < 32) : (nI 33554431).toBitVec.getLsbD k = decide (k < 25) := by
  have : ∀ k : Fin 32, (nI 33554431).toBitVec.getLsbD k = decide ((k : Nat) < 25) := by decide +kernel
  exact this ⟨k, hk⟩
theorem olk_bits (p : Nat → Bool) (c : Bool) (k : Nat) (hk : k < 32) : (olk p c).toBitVec.getLsbD k = ((decide (k < 25) && p k) || (decide (k = 25) && c)) := by
  cases c
  · simp only [olk]
    rw [if_neg (by decide), mask_bits]
    simp
  · simp only [olk]
    rw [if_pos trivial, Int32.toBitVec_or, BitVec.getLsbD_or, mask_bits, big_bits k hk]
    simp
theorem olk_low (p : Nat → Bool) (c : Bool) : olk p c &&& nI 33554431 = mask p := by
  apply i32_ext
  intro k hk
  rw [Int32.toBitVec_and, BitVec.getLsbD_and, olk_bits p c k hk, low_bits k hk, mask_bits]
  by_cases h : k < 25
  · have h2 : ¬ k = 25 := by omega
    simp [h, h2]
  · simp [h]
theorem olk_chk (p : Nat → Bool) (c : Bool) : olk p c &&& nI 33554432 = if c = true then nI 33554432 else nI 0 := by
  apply i32_ext
  intro k hk
  rw [Int32.toBitVec_and, BitVec.getLsbD_and, olk_bits p c k hk, big_bits k hk]
  by_cases h : k = 25
  · subst h
    cases c
    · rfl
    · rw [if_pos rfl, big_bits 25 hk]
      rfl
  · cases c
    · rw [if_neg (by decide)]
      simp only [h, decide_false, Bool.and_false]
      have : ∀ k : Fin 32, (nI 0).toBitVec.getLsbD k = false := by decide +kernel
      exact (this ⟨k, hk⟩).symm
    · rw [if_pos rfl, big_bits k hk]
      simp [h]
theorem olk_eq (p : Nat → Bool) (c : Bool) : olk p c = nI 33554432 ↔ c = true ∧ ∀ k, k < 25 → p k = false := by
  constructor
  · intro e
    refine ⟨?_, fun k hk => ?_⟩
    · have h := olk_bits p c 25 (by decide)
      rw [e, big_bits 25 (by decide)] at h
      simpa using h.symm
    · have h := olk_bits p c k (by omega)
      rw [e, big_bits k (by omega)] at h
      have h2 : ¬ k = 25 := by omega
      simpa [hk, h2] using h.symm
  · intro ⟨h1, h2⟩
    apply i32_ext
    intro k hk
    rw [olk_bits p c k hk, big_bits k hk, h1]
    by_cases h3 : k < 25
    · have h4 : ¬ k = 25 := by omega
      simp [h3, h4, h2 k h3]
    · simp [h3]
set_option maxHeartbeats 4000000 in
set_option maxRecDepth 100000 in
theorem okX5_squaresIn (p : Nat → Bool) (c : Bool) (h : qH) : Ok MX5_squaresIn [.int (olk p c)] h (some (.int (mask p))) (h) := by
  refine ok_of (by decide +kernel) (Nat.zero_le _) (Nat.le_of_ble_eq_true rfl) ?_
  intro X C E
  show Ex X MX5_squaresIn 0 [(0, .int (olk p c))] [] h
  refine x_iload_n C dX5_squaresIn_0 rfl ?_
  refine x_ldcw C dX5_squaresIn_1 lcX5_284 ?_
  refine x_iand C dX5_squaresIn_4 ?_
  rw [show (33554431 : Int32) = nI 33554431 from rfl, olk_low]
  exact x_iret E .int dX5_squaresIn_5 rfl rfl rfl rfl
/-- how many of the first n places a set has -/
def cnt (p : Nat → Bool) : Nat → Nat
  | 0 => 0
  | n + 1 => cnt p n + (if p n = true then 1 else 0)
theorem cnt_le (p : Nat → Bool) : ∀ n, cnt p n ≤ n
  | 0 => Nat.le_refl 0
  | n + 1 => by
    have := cnt_le p n
    simp only [cnt]
    split <;> omega
set_option maxHeartbeats 4000000 in
set_option maxRecDepth 100000 in
theorem okX5_bitsOf (p : Nat → Bool) (h : qH) : Ok MX5_bitsOf [.int (mask p)] h (some (.int (nI (cnt p 25)))) (h) := by
  refine ok_of (by decide +kernel) (Nat.zero_le _) (Nat.le_of_ble_eq_true rfl) ?_
  intro X C E
  show Ex X MX5_bitsOf 0 [(0, .int (mask p))] [] h
  have L : ∀ n i : Nat, i + n = 25 → Ex X MX5_bitsOf 4 [(0, .int (mask p)), (1, .int (nI (cnt p i))), (2, .int (nI i))] [] h := by
    intro n
    induction n with
    | zero =>
      intro i hi
      have e : i = 25 := by omega
      subst e
      refine x_iload_n C dX5_bitsOf_4 rfl ?_
      refine x_bipush C (v := nI 25) dX5_bitsOf_5 (by decide +kernel) ?_
      refine x_icmp_geN C 24 dX5_bitsOf_7 (by decide) (by omega) (by omega) (fun c7 => ?_) (fun c7 => ?_)
      · refine x_iload_n C dX5_bitsOf_24 rfl ?_
        exact x_iret E .int dX5_bitsOf_25 rfl rfl rfl rfl
      · exact absurd c7 (by omega)
    | succ n ih =>
      intro i hi
      have hlt : i < 25 := by omega
      refine x_iload_n C dX5_bitsOf_4 rfl ?_
      refine x_bipush C (v := nI 25) dX5_bitsOf_5 (by decide +kernel) ?_
      refine x_icmp_geN C 24 dX5_bitsOf_7 (by decide) (by omega) (by omega) (fun c7 => ?_) (fun c7 => ?_)
      · exact absurd c7 (by omega)
      · refine x_iload_n C dX5_bitsOf_10 rfl ?_
        refine x_iload_n C dX5_bitsOf_11 rfl ?_
        refine x_iload_n C dX5_bitsOf_12 rfl ?_
        refine x_ishr C dX5_bitsOf_13 ?_
        refine x_iconst C (v := nI 1) dX5_bitsOf_14 (by decide +kernel) ?_
        refine x_iand C dX5_bitsOf_15 ?_
        rw [mask_bit p hlt, qb_nI]
        refine x_iaddN C dX5_bitsOf_16 ?_
        refine x_istore_n C dX5_bitsOf_17 (by decide) [(1, _), (0, _), (2, _)] rfl ?_
        refine x_iinc C _ dX5_bitsOf_18 rfl (q_inc _) (by decide) [(2, _), (1, _), (0, _)] rfl ?_
        refine x_goto C 4 dX5_bitsOf_21 (by decide) ?_
        exact x_sub [2, 1, 0] (ih (i + 1) (by omega)) rfl
  refine x_iconst C (v := nI 0) dX5_bitsOf_0 (by decide +kernel) ?_
  refine x_istore_n C dX5_bitsOf_1 (by decide) [(1, _), (0, _)] rfl ?_
  refine x_iconst C (v := nI 0) dX5_bitsOf_2 (by decide +kernel) ?_
  refine x_istore_n C dX5_bitsOf_3 (by decide) [(2, _), (1, _), (0, _)] rfl ?_
  exact x_sub [2, 1, 0] (L 25 0 (by omega)) rfl
/-- the lowest place from i on, n places looked at -/
def low (p : Nat → Bool) : Nat → Nat → Int32
  | 0, _ => -1
  | n + 1, i => if p i = true then nI i else low p n (i + 1)
set_option maxHeartbeats 4000000 in
set_option maxRecDepth 100000 in
theorem okX5_lowestIn (p : Nat → Bool) (h : qH) : Ok MX5_lowestIn [.int (mask p)] h (some (.int (low p 25 0))) (h) := by
  refine ok_of (by decide +kernel) (Nat.zero_le _) (Nat.le_of_ble_eq_true rfl) ?_
  intro X C E
  show Ex X MX5_lowestIn 0 [(0, .int (mask p))] [] h
  have L : ∀ n i : Nat, i + n = 25 → low p 25 0 = low p n i → Ex X MX5_lowestIn 2 [(0, .int (mask p)), (1, .int (nI i))] [] h := by
    intro n
    induction n with
    | zero =>
      intro i hi hp
      have e : i = 25 := by omega
      subst e
      refine x_iload_n C dX5_lowestIn_2 rfl ?_
      refine x_bipush C (v := nI 25) dX5_lowestIn_3 (by decide +kernel) ?_
      refine x_icmp_geN C 24 dX5_lowestIn_5 (by decide) (by omega) (by omega) (fun c5 => ?_) (fun c5 => ?_)
      · refine x_iconst C (v := (-1)) dX5_lowestIn_24 (by decide +kernel) ?_
        exact x_iret E .int dX5_lowestIn_25 rfl rfl (by rw [hp]; rfl) rfl
      · exact absurd c5 (by omega)
    | succ n ih =>
      intro i hi hp
      have hlt : i < 25 := by omega
      refine x_iload_n C dX5_lowestIn_2 rfl ?_
      refine x_bipush C (v := nI 25) dX5_lowestIn_3 (by decide +kernel) ?_
      refine x_icmp_geN C 24 dX5_lowestIn_5 (by decide) (by omega) (by omega) (fun c5 => ?_) (fun c5 => ?_)
      · exact absurd c5 (by omega)
      · refine x_iload_n C dX5_lowestIn_8 rfl ?_
        refine x_iload_n C dX5_lowestIn_9 rfl ?_
        refine x_ishr C dX5_lowestIn_10 ?_
        refine x_iconst C (v := nI 1) dX5_lowestIn_11 (by decide +kernel) ?_
        refine x_iand C dX5_lowestIn_12 ?_
        rw [mask_bit p hlt]
        refine x_if_eqB C 18 dX5_lowestIn_13 (by decide) (fun c13 => ?_) (fun c13 => ?_)
        · refine x_iinc C _ dX5_lowestIn_18 rfl (q_inc _) (by decide) [(1, _), (0, _)] rfl ?_
          refine x_goto C 2 dX5_lowestIn_21 (by decide) ?_
          exact x_sub [1, 0] (ih (i + 1) (by omega) (by rw [hp, low, if_neg (by rw [c13]; decide)])) rfl
        · refine x_iload_n C dX5_lowestIn_16 rfl ?_
          exact x_iret E .int dX5_lowestIn_17 rfl rfl (by rw [hp, low, if_pos c13]) rfl
  refine x_iconst C (v := nI 0) dX5_lowestIn_0 (by decide +kernel) ?_
  refine x_istore_n C dX5_lowestIn_1 (by decide) [(1, _), (0, _)] rfl ?_
  exact x_sub [1, 0] (L 25 0 (by omega) rfl) rfl
end
section
/-! a position: its board in the cell behind it -/
theorem q_gss {h : qH} {k : Nat} {x y : qE} (hk : h[k]? = some y) : (h.set k x)[k]? = some x := by
  rw [List.getElem?_set_self (List.getElem?_eq_some_iff.mp hk).1]
theorem q_gso {h : qH} {i k : Nat} {x : qE} (hk : i ≠ k) : (h.set i x)[k]? = h[k]? := List.getElem?_set_ne hk
theorem q_same {h : qH} {k : Nat} {x : qE} (hk : h[k]? = some x) : h.set k x = h := by
  apply List.ext_getElem?
  intro i
  by_cases hi : k = i
  · subst hi; rw [q_gss hk, hk]
  · rw [q_gso hi]
abbrev qA (b : Nat → Nat) : qE := .inl (0, 25, .inl (nb b))
/-- at k stands a position, its board b at k + 1 -/
def PosA (h : qH) (k : Nat) (b : Nat → Nat) : Prop := (∃ f1 f2 f3 f4 : Value, h[k]? = some (.inr (3, [.ref (k + 1), f1, f2, f3, f4]))) ∧ h[k + 1]? = some (qA b)
theorem PosA.set {h : qH} {k : Nat} {b b2 : Nat → Nat} (p : PosA h k b) : PosA (h.set (k + 1) (qA b2)) k b2 := by
  obtain ⟨⟨f1, f2, f3, f4, h0⟩, h1⟩ := p
  exact ⟨⟨f1, f2, f3, f4, by rw [q_gso (by omega)]; exact h0⟩, q_gss h1⟩
theorem x_stepcN {X : qX} {M : qM} (C : qC X M) {pc : Nat} {loc : List (Nat × Value)} {st : List Value} {h : qH} {d : Nat} (hd : decode M.2.1 pc = .ok (.iaload, 1)) (hi : d < 16) (kk : Ex X M (pc + 1) loc (.int (q_sc d) :: st) h) : Ex X M pc loc (.int (nI d) :: .ref 1000 :: st) h := by
  refine x_stepcld C hd (vp_in_nI hi (by decide)) ?_
  rw [nI_clamp (by omega)]
  exact kk
theorem x_steprN {X : qX} {M : qM} (C : qC X M) {pc : Nat} {loc : List (Nat × Value)} {st : List Value} {h : qH} {d : Nat} (hd : decode M.2.1 pc = .ok (.iaload, 1)) (hi : d < 16) (kk : Ex X M (pc + 1) loc (.int (q_sr d) :: st) h) : Ex X M pc loc (.int (nI d) :: .ref 1001 :: st) h := by
  refine x_steprld C hd (vp_in_nI hi (by decide)) ?_
  rw [nI_clamp (by omega)]
  exact kk
theorem x_top {X : qX} {M : qM} {pc : Nat} {loc : List (Nat × Value)} {st : List Value} {h : qH} {u v : Int32} (e : u = v) (kk : Ex X M pc loc (.int v :: st) h) : Ex X M pc loc (.int u :: st) h := by rw [e]; exact kk
set_option maxHeartbeats 4000000 in
set_option maxRecDepth 100000 in
theorem okX3_manOn {h : qH} {k : Nat} {b : Nat → Nat} (hp : PosA h k b) {i : Nat} (hi : i < 25) : Ok MX3_manOn [.ref k, .int (nI i)] h (some (.int (nI (b i)))) (h) := by
  refine ok_of (by decide +kernel) (Nat.zero_le _) (Nat.le_of_ble_eq_true rfl) ?_
  intro X C E
  show Ex X MX3_manOn 0 [(0, .ref k), (1, .int (nI i))] [] h
  obtain ⟨⟨f1, f2, f3, f4, h0⟩, h1⟩ := hp
  refine x_iload_n C dX3_manOn_0 rfl ?_
  refine x_callN1i C (okX5_isSquare _ _) lkX3_28 miX5_isSquare mtX5_isSquare maX5_isSquare ⟨Nat.le_of_ble_eq_true rfl, Nat.le_of_ble_eq_true rfl⟩ (Nat.le_of_ble_eq_true rfl) dX3_manOn_1 ?_
  rw [isSq_nI (by omega), decide_eq_true hi]
  refine x_if_eqB C 16 dX3_manOn_4 (by decide) (fun c4 => ?_) (fun c4 => ?_)
  · exact absurd c4 (by decide)
  · refine x_aload_n C dX3_manOn_7 rfl ?_
    refine x_getfield C qk3 0 (by decide) lfX3_9 dX3_manOn_8 h0 rfl ?_
    refine x_iload_n C dX3_manOn_11 rfl ?_
    refine x_iald C dX3_manOn_12 h1 (by omega) (by decide) ?_
    refine x_goto C 17 dX3_manOn_13 (by decide) ?_
    exact x_iret E .int dX3_manOn_17 rfl rfl rfl rfl
set_option maxHeartbeats 4000000 in
set_option maxRecDepth 100000 in
theorem okX3_manOn_out {h : qH} {k : Nat} {b : Nat → Nat} (hp : PosA h k b) {x : Int32} (hx : isSq x = false) : Ok MX3_manOn [.ref k, .int x] h (some (.int (nI 0))) (h) := by
  refine ok_of (by decide +kernel) (Nat.zero_le _) (Nat.le_of_ble_eq_true rfl) ?_
  intro X C E
  show Ex X MX3_manOn 0 [(0, .ref k), (1, .int x)] [] h
  obtain ⟨⟨f1, f2, f3, f4, h0⟩, h1⟩ := hp
  refine x_iload_n C dX3_manOn_0 rfl ?_
  refine x_callN1i C (okX5_isSquare _ _) lkX3_28 miX5_isSquare mtX5_isSquare maX5_isSquare ⟨Nat.le_of_ble_eq_true rfl, Nat.le_of_ble_eq_true rfl⟩ (Nat.le_of_ble_eq_true rfl) dX3_manOn_1 ?_
  rw [hx]
  refine x_if_eqB C 16 dX3_manOn_4 (by decide) (fun c4 => ?_) (fun c4 => ?_)
  · refine x_iconst C (v := nI 0) dX3_manOn_16 (by decide +kernel) ?_
    exact x_iret E .int dX3_manOn_17 rfl rfl rfl rfl
  · exact absurd c4 (by decide)
set_option maxHeartbeats 4000000 in
set_option maxRecDepth 100000 in
theorem okX3_setMan {h : qH} {k : Nat} {b : Nat → Nat} (hp : PosA h k b) {i : Nat} (hi : i < 25) (v : Nat) : Ok MX3_setMan [.ref k, .int (nI i), .int (nI v)] h (none) (h.set (k + 1) (qA (up b i v))) := by
  refine ok_of (by decide +kernel) (Nat.zero_le _) (Nat.le_of_ble_eq_true rfl) ?_
  intro X C E
  show Ex X MX3_setMan 0 [(0, .ref k), (1, .int (nI i)), (2, .int (nI v))] [] h
  obtain ⟨⟨f1, f2, f3, f4, h0⟩, h1⟩ := hp
  refine x_iload_n C dX3_setMan_0 rfl ?_
  refine x_callN1i C (okX5_isSquare _ _) lkX3_28 miX5_isSquare mtX5_isSquare maX5_isSquare ⟨Nat.le_of_ble_eq_true rfl, Nat.le_of_ble_eq_true rfl⟩ (Nat.le_of_ble_eq_true rfl) dX3_setMan_1 ?_
  rw [isSq_nI (by omega), decide_eq_true hi]
  refine x_if_eqB C 14 dX3_setMan_4 (by decide) (fun c4 => ?_) (fun c4 => ?_)
  · exact absurd c4 (by decide)
  · refine x_aload_n C dX3_setMan_7 rfl ?_
    refine x_getfield C qk3 0 (by decide) lfX3_9 dX3_setMan_8 h0 rfl ?_
    refine x_iload_n C dX3_setMan_11 rfl ?_
    refine x_iload_n C dX3_setMan_12 rfl ?_
    refine x_istb C dX3_setMan_13 h1 (by omega) (by decide) ?_
    exact x_vret E dX3_setMan_14 rfl rfl rfl
def ckS (b : Nat → Nat) (a z : Nat) (i : Nat) : Bool := decide (a ≤ b i ∧ b i ≤ z)
set_option maxHeartbeats 4000000 in
set_option maxRecDepth 100000 in
theorem okX3_countKinds {h : qH} {k : Nat} {b : Nat → Nat} (hp : PosA h k b) (hb : ∀ i, b i < 8) (a z : Nat) (ha : a < 100) (hz : z < 100) : Ok MX3_countKinds [.ref k, .int (nI a), .int (nI z)] h (some (.int (nI (cnt (ckS b a z) 25)))) (h) := by
  refine ok_of (by decide +kernel) (Nat.zero_le _) (Nat.le_of_ble_eq_true rfl) ?_
  intro X C E
  show Ex X MX3_countKinds 0 [(0, .ref k), (1, .int (nI a)), (2, .int (nI z))] [] h
  obtain ⟨⟨f1, f2, f3, f4, h0⟩, h1⟩ := hp
  have L : ∀ n i : Nat, i + n = 25 → Ex X MX3_countKinds 5 [(0, .ref k), (1, .int (nI a)), (2, .int (nI z)), (3, .int (nI (cnt (ckS b a z) i))), (4, .int (nI i))] [] h := by
    intro n
    induction n with
    | zero =>
      intro i hi 
      have e : i = 25 := by omega
      subst e
      refine x_iload C dX3_countKinds_5 rfl ?_
      refine x_bipush C (v := nI 25) dX3_countKinds_7 (by decide +kernel) ?_
      refine x_icmp_geN C 43 dX3_countKinds_9 (by decide) (by omega) (by omega) (fun c9 => ?_) (fun c9 => ?_)
      · refine x_iload_n C dX3_countKinds_43 rfl ?_
        exact x_iret E .int dX3_countKinds_44 rfl rfl rfl rfl
      · exact absurd c9 (by omega)
    | succ n ih =>
      intro i hi 
      have hlt : i < 25 := by omega
      have hbi := hb i
      refine x_iload C dX3_countKinds_5 rfl ?_
      refine x_bipush C (v := nI 25) dX3_countKinds_7 (by decide +kernel) ?_
      refine x_icmp_geN C 43 dX3_countKinds_9 (by decide) (by omega) (by omega) (fun c9 => ?_) (fun c9 => ?_)
      · exact absurd c9 (by omega)
      · refine x_aload_n C dX3_countKinds_12 rfl ?_
        refine x_getfield C qk3 0 (by decide) lfX3_9 dX3_countKinds_13 h0 rfl ?_
        refine x_iload C dX3_countKinds_16 rfl ?_
        refine x_iald C dX3_countKinds_18 h1 (by omega) (by decide) ?_
        refine x_iload_n C dX3_countKinds_19 rfl ?_
        refine x_icmp_ltN C 37 dX3_countKinds_20 (by decide) (by omega) (by omega) (fun c20 => ?_) (fun c20 => ?_)
        · have e : cnt (ckS b a z) i = cnt (ckS b a z) (i + 1) := by
            have : ckS b a z i = false := by unfold ckS; exact decide_eq_false (by omega)
            simp [cnt, this]
          rw [e]
          refine x_iinc C _ dX3_countKinds_37 rfl (q_inc _) (by decide) [(4, _), (0, _), (1, _), (2, _), (3, _)] rfl ?_
          refine x_goto C 5 dX3_countKinds_40 (by decide) ?_
          exact x_sub [1, 2, 3, 4, 0] (ih (i + 1) (by omega)) rfl
        · refine x_aload_n C dX3_countKinds_23 rfl ?_
          refine x_getfield C qk3 0 (by decide) lfX3_9 dX3_countKinds_24 h0 rfl ?_
          refine x_iload C dX3_countKinds_27 rfl ?_
          refine x_iald C dX3_countKinds_29 h1 (by omega) (by decide) ?_
          refine x_iload_n C dX3_countKinds_30 rfl ?_
          refine x_icmp_gtN C 37 dX3_countKinds_31 (by decide) (by omega) (by omega) (fun c31 => ?_) (fun c31 => ?_)
          · have e : cnt (ckS b a z) i = cnt (ckS b a z) (i + 1) := by
              have : ckS b a z i = false := by unfold ckS; exact decide_eq_false (by omega)
              simp [cnt, this]
            rw [e]
            refine x_iinc C _ dX3_countKinds_37 rfl (q_inc _) (by decide) [(4, _), (0, _), (1, _), (2, _), (3, _)] rfl ?_
            refine x_goto C 5 dX3_countKinds_40 (by decide) ?_
            exact x_sub [1, 2, 3, 4, 0] (ih (i + 1) (by omega)) rfl
          · have e : cnt (ckS b a z) i + 1 = cnt (ckS b a z) (i + 1) := by
              have : ckS b a z i = true := by unfold ckS; exact decide_eq_true (by omega)
              simp [cnt, this]
            refine x_iinc C (nI (cnt (ckS b a z) (i + 1))) dX3_countKinds_34 rfl (by rw [← e]; exact q_inc _) (by decide) [(3, _), (0, _), (1, _), (2, _), (4, _)] rfl ?_
            refine x_iinc C _ dX3_countKinds_37 rfl (q_inc _) (by decide) [(4, _), (3, _), (0, _), (1, _), (2, _)] rfl ?_
            refine x_goto C 5 dX3_countKinds_40 (by decide) ?_
            exact x_sub [2, 3, 4, 1, 0] (ih (i + 1) (by omega)) rfl
  refine x_iconst C (v := nI 0) dX3_countKinds_0 (by decide +kernel) ?_
  refine x_istore_n C dX3_countKinds_1 (by decide) [(3, _), (0, _), (1, _), (2, _)] rfl ?_
  refine x_iconst C (v := nI 0) dX3_countKinds_2 (by decide +kernel) ?_
  refine x_istore C dX3_countKinds_3 (by decide) [(4, _), (3, _), (0, _), (1, _), (2, _)] rfl ?_
  exact x_sub [2, 3, 4, 1, 0] (L 25 0 (by omega)) rfl
set_option maxHeartbeats 4000000 in
set_option maxRecDepth 100000 in
theorem okX3_countAll {h : qH} {k : Nat} {b : Nat → Nat} (hp : PosA h k b) (hb : ∀ i, b i < 8) : Ok MX3_countAll [.ref k] h (some (.int (nI (cnt (ckS b 1 7) 25)))) (h) := by
  refine ok_of (by decide +kernel) (Nat.zero_le _) (Nat.le_of_ble_eq_true rfl) ?_
  intro X C E
  show Ex X MX3_countAll 0 [(0, .ref k)] [] h
  refine x_aload_n C dX3_countAll_0 rfl ?_
  refine x_iconst C (v := nI 1) dX3_countAll_1 (by decide +kernel) ?_
  refine x_bipush C (v := nI 7) dX3_countAll_2 (by decide +kernel) ?_
  refine x_callV2i C (okX3_countKinds hp hb 1 7 (by decide) (by decide)) lkX3_32 miX3_countKinds msX3_countKinds maX3_countKinds ⟨Nat.le_of_ble_eq_true rfl, Nat.le_of_ble_eq_true rfl⟩ (Nat.le_of_ble_eq_true rfl) hp.1.choose_spec.choose_spec.choose_spec.choose_spec rfl dX3_countAll_4 ?_
  exact x_iret E .int dX3_countAll_7 rfl rfl rfl rfl
/-- the first place from i on, n places looked at -/
def find (p : Nat → Bool) : Nat → Nat → Option Nat
  | 0, _ => none
  | n + 1, i => if p i = true then some i else find p n (i + 1)
def sqI (o : Option Nat) : Int32 := match o with
  | none => -1
  | some i => nI i
theorem low_find (p : Nat → Bool) : ∀ n i, low p n i = sqI (find p n i)
  | 0, _ => rfl
  | n + 1, i => by
    simp only [low, find]
    split
    · rfl
    · exact low_find p n (i + 1)
theorem find_some {p : Nat → Bool} : ∀ {n i j : Nat}, find p n i = some j → i ≤ j ∧ j < i + n ∧ p j = true ∧ ∀ t, i ≤ t → t < j → p t = false
  | 0, _, _, h => by simp [find] at h
  | n + 1, i, j, h => by
    simp only [find] at h
    by_cases hp : p i = true
    · rw [if_pos hp] at h
      cases h
      exact ⟨Nat.le_refl _, by omega, hp, fun t h1 h2 => by omega⟩
    · rw [if_neg hp] at h
      obtain ⟨a1, a2, a3, a4⟩ := find_some h
      refine ⟨by omega, by omega, a3, fun t h1 h2 => ?_⟩
      by_cases ht : t = i
      · subst ht; simpa using hp
      · exact a4 t (by omega) h2
theorem find_none {p : Nat → Bool} : ∀ {n i : Nat}, find p n i = none → ∀ t, i ≤ t → t < i + n → p t = false
  | 0, _, _ => fun t h1 h2 => by omega
  | n + 1, i, h => by
    simp only [find] at h
    by_cases hp : p i = true
    · rw [if_pos hp] at h; cases h
    · rw [if_neg hp] at h
      intro t h1 h2
      by_cases ht : t = i
      · subst ht; simpa using hp
      · exact find_none h t (by omega) (by omega)
/-- where a kind stands -/
def loc7 (b : Nat → Nat) (v : Nat) : Option Nat := find (fun i => decide (b i = v)) 25 0
theorem loc7_some {b : Nat → Nat} {v j : Nat} (h : loc7 b v = some j) : j < 25 ∧ b j = v := by
  obtain ⟨-, h2, h3, -⟩ := find_some h
  exact ⟨by omega, by simpa using h3⟩
theorem sqI_neg {o : Option Nat} (ho : ∀ j, o = some j → j < 2147483648) : sqI o < 0 ↔ o = none := by
  cases o with
  | none => exact ⟨fun _ => rfl, fun _ => by show (-1 : Int32) < 0; decide⟩
  | some j => exact ⟨fun q => absurd q (nI_pos (ho j rfl)), fun q => by cases q⟩
set_option maxHeartbeats 4000000 in
set_option maxRecDepth 100000 in
theorem okX3_squareOf {h : qH} {k : Nat} {b : Nat → Nat} (hp : PosA h k b) (hb : ∀ i, b i < 8) (v : Nat) (hv : v < 100) : Ok MX3_squareOf [.ref k, .int (nI v)] h (some (.int (sqI (loc7 b v)))) (h) := by
  refine ok_of (by decide +kernel) (Nat.zero_le _) (Nat.le_of_ble_eq_true rfl) ?_
  intro X C E
  show Ex X MX3_squareOf 0 [(0, .ref k), (1, .int (nI v))] [] h
  obtain ⟨⟨f1, f2, f3, f4, h0⟩, h1⟩ := hp
  have L : ∀ n i : Nat, i + n = 25 → loc7 b v = find (fun i => decide (b i = v)) n i → Ex X MX3_squareOf 2 [(0, .ref k), (1, .int (nI v)), (2, .int (nI i))] [] h := by
    intro n
    induction n with
    | zero =>
      intro i hi hp
      have e : i = 25 := by omega
      subst e
      refine x_iload_n C dX3_squareOf_2 rfl ?_
      refine x_bipush C (v := nI 25) dX3_squareOf_3 (by decide +kernel) ?_
      refine x_icmp_geN C 26 dX3_squareOf_5 (by decide) (by omega) (by omega) (fun c5 => ?_) (fun c5 => ?_)
      · refine x_iconst C (v := (-1)) dX3_squareOf_26 (by decide +kernel) ?_
        exact x_iret E .int dX3_squareOf_27 rfl rfl (by rw [hp]; rfl) rfl
      · exact absurd c5 (by omega)
    | succ n ih =>
      intro i hi hp
      have hlt : i < 25 := by omega
      have hbi := hb i
      refine x_iload_n C dX3_squareOf_2 rfl ?_
      refine x_bipush C (v := nI 25) dX3_squareOf_3 (by decide +kernel) ?_
      refine x_icmp_geN C 26 dX3_squareOf_5 (by decide) (by omega) (by omega) (fun c5 => ?_) (fun c5 => ?_)
      · exact absurd c5 (by omega)
      · refine x_aload_n C dX3_squareOf_8 rfl ?_
        refine x_getfield C qk3 0 (by decide) lfX3_9 dX3_squareOf_9 h0 rfl ?_
        refine x_iload_n C dX3_squareOf_12 rfl ?_
        refine x_iald C dX3_squareOf_13 h1 (by omega) (by decide) ?_
        refine x_iload_n C dX3_squareOf_14 rfl ?_
        refine x_icmp_neN C 20 dX3_squareOf_15 (by decide) (by omega) (by omega) (fun c15 => ?_) (fun c15 => ?_)
        · refine x_iinc C _ dX3_squareOf_20 rfl (q_inc _) (by decide) [(2, _), (0, _), (1, _)] rfl ?_
          refine x_goto C 2 dX3_squareOf_23 (by decide) ?_
          exact x_sub [1, 2, 0] (ih (i + 1) (by omega) (by rw [hp, find, if_neg (by simpa using c15)])) rfl
        · refine x_iload_n C dX3_squareOf_18 rfl ?_
          exact x_iret E .int dX3_squareOf_19 rfl rfl (by rw [hp, find, if_pos (by simpa using c15)]; rfl) rfl
  refine x_iconst C (v := nI 0) dX3_squareOf_0 (by decide +kernel) ?_
  refine x_istore_n C dX3_squareOf_1 (by decide) [(2, _), (0, _), (1, _)] rfl ?_
  exact x_sub [1, 2, 0] (L 25 0 (by omega) rfl) rfl
def along (m d s : Nat) : Bool := decide ((8 ≤ d ∧ m = 5) ∨ (d < 8 ∧ m = 1 ∧ s = 0) ∨ (d < 8 ∧ m ≠ 1 ∧ (m = 2 ∨ (d < 4 ∧ m = 3) ∨ (4 ≤ d ∧ m = 4))))
set_option maxHeartbeats 4000000 in
set_option maxRecDepth 100000 in
theorem okX3_attacksAlong (m d s : Nat) (hm : m < 100) (hd : d < 100) (hs : s < 100) (h : qH) : Ok MX3_attacksAlong [.int (nI m), .int (nI d), .int (nI s)] h (some (.int (qb (along m d s)))) (h) := by
  refine ok_of (by decide +kernel) (Nat.zero_le _) (Nat.le_of_ble_eq_true rfl) ?_
  intro X C E
  show Ex X MX3_attacksAlong 0 [(0, .int (nI m)), (1, .int (nI d)), (2, .int (nI s))] [] h
  refine x_iload_n C dX3_attacksAlong_0 rfl ?_
  refine x_bipush C (v := nI 8) dX3_attacksAlong_1 (by decide +kernel) ?_
  refine x_icmp_ltN C 17 dX3_attacksAlong_3 (by decide) (by omega) (by omega) (fun c3 => ?_) (fun c3 => ?_)
  · refine x_iload_n C dX3_attacksAlong_17 rfl ?_
    refine x_iconst C (v := nI 1) dX3_attacksAlong_18 (by decide +kernel) ?_
    refine x_icmp_neN C 32 dX3_attacksAlong_19 (by decide) (by omega) (by omega) (fun c19 => ?_) (fun c19 => ?_)
    · refine x_iload_n C dX3_attacksAlong_32 rfl ?_
      refine x_iconst C (v := nI 2) dX3_attacksAlong_33 (by decide +kernel) ?_
      refine x_icmp_eqN C 51 dX3_attacksAlong_34 (by decide) (by omega) (by omega) (fun c34 => ?_) (fun c34 => ?_)
      · refine x_iconst C (v := nI 1) dX3_attacksAlong_51 (by decide +kernel) ?_
        refine x_goto C 56 dX3_attacksAlong_52 (by decide) ?_
        exact x_iret E .boolean dX3_attacksAlong_56 rfl rfl (by have e : along m d s = true := (by unfold along; exact decide_eq_true (by omega)); rw [e]; rfl) rfl
      · refine x_iload_n C dX3_attacksAlong_37 rfl ?_
        refine x_iload_n C dX3_attacksAlong_38 rfl ?_
        refine x_iconst C (v := nI 4) dX3_attacksAlong_39 (by decide +kernel) ?_
        refine x_icmp_geN C 47 dX3_attacksAlong_40 (by decide) (by omega) (by omega) (fun c40 => ?_) (fun c40 => ?_)
        · refine x_iconst C (v := nI 4) dX3_attacksAlong_47 (by decide +kernel) ?_
          refine x_icmp_neN C 55 dX3_attacksAlong_48 (by decide) (by omega) (by omega) (fun c48 => ?_) (fun c48 => ?_)
          · refine x_iconst C (v := nI 0) dX3_attacksAlong_55 (by decide +kernel) ?_
            exact x_iret E .boolean dX3_attacksAlong_56 rfl rfl (by have e : along m d s = false := (by unfold along; exact decide_eq_false (by omega)); rw [e]; rfl) rfl
          · refine x_iconst C (v := nI 1) dX3_attacksAlong_51 (by decide +kernel) ?_
            refine x_goto C 56 dX3_attacksAlong_52 (by decide) ?_
            exact x_iret E .boolean dX3_attacksAlong_56 rfl rfl (by have e : along m d s = true := (by unfold along; exact decide_eq_true (by omega)); rw [e]; rfl) rfl
        · refine x_iconst C (v := nI 3) dX3_attacksAlong_43 (by decide +kernel) ?_
          refine x_goto C 48 dX3_attacksAlong_44 (by decide) ?_
          refine x_icmp_neN C 55 dX3_attacksAlong_48 (by decide) (by omega) (by omega) (fun c48 => ?_) (fun c48 => ?_)
          · refine x_iconst C (v := nI 0) dX3_attacksAlong_55 (by decide +kernel) ?_
            exact x_iret E .boolean dX3_attacksAlong_56 rfl rfl (by have e : along m d s = false := (by unfold along; exact decide_eq_false (by omega)); rw [e]; rfl) rfl
          · refine x_iconst C (v := nI 1) dX3_attacksAlong_51 (by decide +kernel) ?_
            refine x_goto C 56 dX3_attacksAlong_52 (by decide) ?_
            exact x_iret E .boolean dX3_attacksAlong_56 rfl rfl (by have e : along m d s = true := (by unfold along; exact decide_eq_true (by omega)); rw [e]; rfl) rfl
    · refine x_iload_n C dX3_attacksAlong_22 rfl ?_
      refine x_if_neN C 30 dX3_attacksAlong_23 (by decide) (by omega) (fun c23 => ?_) (fun c23 => ?_)
      · refine x_iconst C (v := nI 0) dX3_attacksAlong_30 (by decide +kernel) ?_
        exact x_iret E .boolean dX3_attacksAlong_31 rfl rfl (by have e : along m d s = false := (by unfold along; exact decide_eq_false (by omega)); rw [e]; rfl) rfl
      · refine x_iconst C (v := nI 1) dX3_attacksAlong_26 (by decide +kernel) ?_
        refine x_goto C 31 dX3_attacksAlong_27 (by decide) ?_
        exact x_iret E .boolean dX3_attacksAlong_31 rfl rfl (by have e : along m d s = true := (by unfold along; exact decide_eq_true (by omega)); rw [e]; rfl) rfl
  · refine x_iload_n C dX3_attacksAlong_6 rfl ?_
    refine x_iconst C (v := nI 5) dX3_attacksAlong_7 (by decide +kernel) ?_
    refine x_icmp_neN C 15 dX3_attacksAlong_8 (by decide) (by omega) (by omega) (fun c8 => ?_) (fun c8 => ?_)
    · refine x_iconst C (v := nI 0) dX3_attacksAlong_15 (by decide +kernel) ?_
      exact x_iret E .boolean dX3_attacksAlong_16 rfl rfl (by have e : along m d s = false := (by unfold along; exact decide_eq_false (by omega)); rw [e]; rfl) rfl
    · refine x_iconst C (v := nI 1) dX3_attacksAlong_11 (by decide +kernel) ?_
      refine x_goto C 16 dX3_attacksAlong_12 (by decide) ?_
      exact x_iret E .boolean dX3_attacksAlong_16 rfl rfl (by have e : along m d s = true := (by unfold along; exact decide_eq_true (by omega)); rw [e]; rfl) rfl
def dcI (d : Nat) : Int := ([1, 0, -1, 0, 1, -1, -1, 1, 1, 2, 2, 1, -1, -2, -2, -1] : List Int).getD d 0
def drI (d : Nat) : Int := ([0, 1, 0, -1, 1, 1, -1, -1, 2, 1, -1, -2, -2, -1, 1, 2] : List Int).getD d 0
/-- one step in a direction, from column c and row r -/
def stepC (c r d : Nat) : Option (Nat × Nat) :=
  if 0 ≤ (c : Int) + dcI d ∧ (c : Int) + dcI d < 5 ∧ 0 ≤ (r : Int) + drI d ∧ (r : Int) + drI d < 5 then some (((c : Int) + dcI d).toNat, ((r : Int) + drI d).toNat) else none
def stepOk (c r d : Nat) : Bool := match stepC c r d with
  | none => decide (nI c + q_sc d < 0) || decide (nI 5 ≤ nI c + q_sc d) || decide (nI r + q_sr d < 0) || decide (nI 5 ≤ nI r + q_sr d)
  | some q => decide (q.1 < 5) && decide (q.2 < 5) && decide (nI c + q_sc d = nI q.1) && decide (nI r + q_sr d = nI q.2)
theorem stepOk_all : ∀ (c r : Fin 5) (d : Fin 16), stepOk c r d = true := by decide +kernel
theorem step_cases {c r d : Nat} (hc : c < 5) (hr : r < 5) (hd : d < 16) : (stepC c r d = none ∧ (nI c + q_sc d < 0 ∨ nI 5 ≤ nI c + q_sc d ∨ nI r + q_sr d < 0 ∨ nI 5 ≤ nI r + q_sr d)) ∨ ∃ c2 r2 : Nat, c2 < 5 ∧ r2 < 5 ∧ stepC c r d = some (c2, r2) ∧ nI c + q_sc d = nI c2 ∧ nI r + q_sr d = nI r2 := by
  have h : stepOk c r d = true := stepOk_all ⟨c, hc⟩ ⟨r, hr⟩ ⟨d, hd⟩
  unfold stepOk at h
  cases e : stepC c r d with
  | none =>
    rw [e] at h
    simp only [Bool.or_eq_true, decide_eq_true_eq] at h
    exact Or.inl ⟨rfl, by rcases h with ((h | h) | h) | h <;> simp only [h, true_or, or_true]⟩
  | some q =>
    obtain ⟨c2, r2⟩ := q
    rw [e] at h
    simp only [Bool.and_eq_true, decide_eq_true_eq] at h
    exact Or.inr ⟨c2, r2, h.1.1.1, h.1.1.2, rfl, h.1.2, h.2⟩
/-- whether the first one met on a way is a white man that attacks back: n steps are left, s done -/
def met (b : Nat → Nat) (d : Nat) : Nat → Nat → Nat → Nat → Bool
  | 0, _, _, _ => false
  | n + 1, c, r, s => match stepC c r d with
    | none => false
    | some q => if b (q.2 * 5 + q.1) = 0 then met b d n q.1 q.2 (s + 1) else along (b (q.2 * 5 + q.1)) d s
def stp (d : Nat) : Nat := if d < 8 then 4 else 1
def metB (b : Nat → Nat) (i d : Nat) : Bool := met b d (stp d) (i % 5) (i / 5) 0
set_option maxHeartbeats 4000000 in
set_option maxRecDepth 100000 in
theorem okX3_isMetIn {h : qH} {k : Nat} {b : Nat → Nat} (hp : PosA h k b) (hb : ∀ i, b i < 8) {i d : Nat} (hi : i < 25) (hd : d < 16) : Ok MX3_isMetIn [.ref k, .int (nI i), .int (nI d)] h (some (.int (qb (metB b i d)))) (h) := by
  refine ok_of (by decide +kernel) (Nat.zero_le _) (Nat.le_of_ble_eq_true rfl) ?_
  intro X C E
  show Ex X MX3_isMetIn 0 [(0, .ref k), (1, .int (nI i)), (2, .int (nI d))] [] h
  obtain ⟨⟨f1, f2, f3, f4, h0⟩, h1⟩ := hp
  have hst : stp d ≤ 4 := by unfold stp; split <;> omega
  have L : ∀ n c r s : Nat, s + n = stp d → c < 5 → r < 5 → metB b i d = met b d n c r s → Ex X MX3_isMetIn 44 [(0, .ref k), (1, .int (nI i)), (2, .int (nI d)), (3, .int (nI c)), (4, .int (nI r)), (5, .int (nI (stp d))), (6, .int (nI s))] [] h := by
    intro n
    induction n with
    | zero =>
      intro c r s hsn hc hr ht
      refine x_iload C dX3_isMetIn_44 rfl ?_
      refine x_iload C dX3_isMetIn_46 rfl ?_
      refine x_icmp_geN C 124 dX3_isMetIn_48 (by decide) (by omega) (by omega) (fun c48 => ?_) (fun c48 => ?_)
      · refine x_iconst C (v := nI 0) dX3_isMetIn_124 (by decide +kernel) ?_
        exact x_iret E .boolean dX3_isMetIn_125 rfl rfl (by rw [ht]; rfl) rfl
      · exact absurd c48 (by omega)
    | succ n ih =>
      intro c r s hsn hc hr ht
      refine x_iload C dX3_isMetIn_44 rfl ?_
      refine x_iload C dX3_isMetIn_46 rfl ?_
      refine x_icmp_geN C 124 dX3_isMetIn_48 (by decide) (by omega) (by omega) (fun c48 => ?_) (fun c48 => ?_)
      · exact absurd c48 (by omega)
      · rcases step_cases hc hr hd with ⟨hs, hx⟩ | ⟨c2, r2, hc2, hr2, hs, hx, hy⟩
        · refine x_iload_n C dX3_isMetIn_51 rfl ?_
          refine x_stepc C lfX3_43 dX3_isMetIn_52 ?_
          refine x_iload_n C dX3_isMetIn_55 rfl ?_
          refine x_stepcN C dX3_isMetIn_56 (by omega) ?_
          refine x_iadd C dX3_isMetIn_57 ?_
          refine x_istore_n C dX3_isMetIn_58 (by decide) [(3, _), (0, _), (1, _), (2, _), (4, _), (5, _), (6, _)] rfl ?_
          refine x_iload C dX3_isMetIn_59 rfl ?_
          refine x_stepr C lfX3_46 dX3_isMetIn_61 ?_
          refine x_iload_n C dX3_isMetIn_64 rfl ?_
          refine x_steprN C dX3_isMetIn_65 (by omega) ?_
          refine x_iadd C dX3_isMetIn_66 ?_
          refine x_istore C dX3_isMetIn_67 (by decide) [(4, _), (3, _), (0, _), (1, _), (2, _), (5, _), (6, _)] rfl ?_
          refine x_iload_n C dX3_isMetIn_69 rfl ?_
          refine x_if_lt C 89 dX3_isMetIn_70 (by decide) (fun c70 => ?_) (fun c70 => ?_)
          · refine x_iconst C (v := nI 0) dX3_isMetIn_89 (by decide +kernel) ?_
            exact x_iret E .boolean dX3_isMetIn_90 rfl rfl (by rw [ht, met, hs]; rfl) rfl
          · refine x_iload_n C dX3_isMetIn_73 rfl ?_
            refine x_iconst C (v := nI 5) dX3_isMetIn_74 (by decide +kernel) ?_
            refine x_icmp_ge C 89 dX3_isMetIn_75 (by decide) (fun c75 => ?_) (fun c75 => ?_)
            · refine x_iconst C (v := nI 0) dX3_isMetIn_89 (by decide +kernel) ?_
              exact x_iret E .boolean dX3_isMetIn_90 rfl rfl (by rw [ht, met, hs]; rfl) rfl
            · refine x_iload C dX3_isMetIn_78 rfl ?_
              refine x_if_lt C 89 dX3_isMetIn_80 (by decide) (fun c80 => ?_) (fun c80 => ?_)
              · refine x_iconst C (v := nI 0) dX3_isMetIn_89 (by decide +kernel) ?_
                exact x_iret E .boolean dX3_isMetIn_90 rfl rfl (by rw [ht, met, hs]; rfl) rfl
              · refine x_iload C dX3_isMetIn_83 rfl ?_
                refine x_iconst C (v := nI 5) dX3_isMetIn_85 (by decide +kernel) ?_
                refine x_icmp_lt C 91 dX3_isMetIn_86 (by decide) (fun c86 => ?_) (fun c86 => ?_)
                · rcases hx with hx | hx | hx | hx; exact absurd hx c70; exact absurd hx c75; exact absurd hx c80; exact absurd c86 (Int32.not_lt.mpr hx)
                · refine x_iconst C (v := nI 0) dX3_isMetIn_89 (by decide +kernel) ?_
                  exact x_iret E .boolean dX3_isMetIn_90 rfl rfl (by rw [ht, met, hs]; rfl) rfl
        · have hb2 := hb (r2 * 5 + c2)
          refine x_iload_n C dX3_isMetIn_51 rfl ?_
          refine x_stepc C lfX3_43 dX3_isMetIn_52 ?_
          refine x_iload_n C dX3_isMetIn_55 rfl ?_
          refine x_stepcN C dX3_isMetIn_56 (by omega) ?_
          refine x_iadd C dX3_isMetIn_57 ?_
          rw [hx]
          refine x_istore_n C dX3_isMetIn_58 (by decide) [(3, _), (0, _), (1, _), (2, _), (4, _), (5, _), (6, _)] rfl ?_
          refine x_iload C dX3_isMetIn_59 rfl ?_
          refine x_stepr C lfX3_46 dX3_isMetIn_61 ?_
          refine x_iload_n C dX3_isMetIn_64 rfl ?_
          refine x_steprN C dX3_isMetIn_65 (by omega) ?_
          refine x_iadd C dX3_isMetIn_66 ?_
          rw [hy]
          refine x_istore C dX3_isMetIn_67 (by decide) [(4, _), (3, _), (0, _), (1, _), (2, _), (5, _), (6, _)] rfl ?_
          refine x_iload_n C dX3_isMetIn_69 rfl ?_
          refine x_if_ltN C 89 dX3_isMetIn_70 (by decide) (by omega) ?_
          refine x_iload_n C dX3_isMetIn_73 rfl ?_
          refine x_iconst C (v := nI 5) dX3_isMetIn_74 (by decide +kernel) ?_
          refine x_icmp_geN C 89 dX3_isMetIn_75 (by decide) (by omega) (by omega) (fun c75 => ?_) (fun c75 => ?_)
          · exact absurd c75 (by omega)
          · refine x_iload C dX3_isMetIn_78 rfl ?_
            refine x_if_ltN C 89 dX3_isMetIn_80 (by decide) (by omega) ?_
            refine x_iload C dX3_isMetIn_83 rfl ?_
            refine x_iconst C (v := nI 5) dX3_isMetIn_85 (by decide +kernel) ?_
            refine x_icmp_ltN C 91 dX3_isMetIn_86 (by decide) (by omega) (by omega) (fun c86 => ?_) (fun c86 => ?_)
            · refine x_aload_n C dX3_isMetIn_91 rfl ?_
              refine x_getfield C qk3 0 (by decide) lfX3_9 dX3_isMetIn_92 h0 rfl ?_
              refine x_iload C dX3_isMetIn_95 rfl ?_
              refine x_iconst C (v := nI 5) dX3_isMetIn_97 (by decide +kernel) ?_
              refine x_imulN C dX3_isMetIn_98 ?_
              refine x_iload_n C dX3_isMetIn_99 rfl ?_
              refine x_iaddN C dX3_isMetIn_100 ?_
              refine x_iald C dX3_isMetIn_101 h1 (by omega) (by decide) ?_
              refine x_istore C dX3_isMetIn_102 (by decide) [(7, _), (4, _), (3, _), (0, _), (1, _), (2, _), (5, _), (6, _)] rfl ?_
              refine x_iload C dX3_isMetIn_104 rfl ?_
              refine x_if_eqN C 118 dX3_isMetIn_106 (by decide) (by omega) (fun c106 => ?_) (fun c106 => ?_)
              · refine x_iinc C _ dX3_isMetIn_118 rfl (q_inc _) (by decide) [(6, _), (7, _), (4, _), (3, _), (0, _), (1, _), (2, _), (5, _)] rfl ?_
                refine x_goto C 44 dX3_isMetIn_121 (by decide) ?_
                exact x_sub [4, 5, 6, 3, 2, 7, 0] (ih c2 r2 (s + 1) (by omega) hc2 hr2 (by rw [ht, met, hs]; simp only [if_pos c106])) rfl
              · refine x_iload C dX3_isMetIn_109 rfl ?_
                refine x_iload_n C dX3_isMetIn_111 rfl ?_
                refine x_iload C dX3_isMetIn_112 rfl ?_
                refine x_callS3i C (okX3_attacksAlong _ _ _ (by omega) (by omega) (by omega) _) lkX3_62 miX3_attacksAlong mtX3_attacksAlong maX3_attacksAlong ⟨Nat.le_of_ble_eq_true rfl, Nat.le_of_ble_eq_true rfl⟩ (Nat.le_of_ble_eq_true rfl) dX3_isMetIn_114 ?_
                exact x_iret E .boolean dX3_isMetIn_117 rfl (qb_nar _) (by rw [ht, met, hs]; simp only [if_neg c106]) rfl
            · exact absurd c86 (by omega)
  refine x_iload_n C dX3_isMetIn_0 rfl ?_
  refine x_callN1i C (okX5_isSquare _ _) lkX3_28 miX5_isSquare mtX5_isSquare maX5_isSquare ⟨Nat.le_of_ble_eq_true rfl, Nat.le_of_ble_eq_true rfl⟩ (Nat.le_of_ble_eq_true rfl) dX3_isMetIn_1 ?_
  rw [isSq_nI (by omega), decide_eq_true hi]
  refine x_if_eqB C 17 dX3_isMetIn_4 (by decide) (fun c4 => ?_) (fun c4 => ?_)
  · exact absurd c4 (by decide)
  · refine x_iload_n C dX3_isMetIn_7 rfl ?_
    refine x_if_ltN C 17 dX3_isMetIn_8 (by decide) (by omega) ?_
    refine x_iload_n C dX3_isMetIn_11 rfl ?_
    refine x_bipush C (v := nI 16) dX3_isMetIn_12 (by decide +kernel) ?_
    refine x_icmp_ltN C 19 dX3_isMetIn_14 (by decide) (by omega) (by omega) (fun c14 => ?_) (fun c14 => ?_)
    · refine x_iload_n C dX3_isMetIn_19 rfl ?_
      refine x_iconst C (v := nI 5) dX3_isMetIn_20 (by decide +kernel) ?_
      refine x_iremN C dX3_isMetIn_21 (by omega) (by decide) (by decide) ?_
      refine x_istore_n C dX3_isMetIn_22 (by decide) [(3, _), (0, _), (1, _), (2, _)] rfl ?_
      refine x_iload_n C dX3_isMetIn_23 rfl ?_
      refine x_iconst C (v := nI 5) dX3_isMetIn_24 (by decide +kernel) ?_
      refine x_idivN C dX3_isMetIn_25 (by omega) (by decide) (by decide) ?_
      refine x_istore C dX3_isMetIn_26 (by decide) [(4, _), (3, _), (0, _), (1, _), (2, _)] rfl ?_
      refine x_iload_n C dX3_isMetIn_28 rfl ?_
      refine x_bipush C (v := nI 8) dX3_isMetIn_29 (by decide +kernel) ?_
      refine x_icmp_geN C 38 dX3_isMetIn_31 (by decide) (by omega) (by omega) (fun c31 => ?_) (fun c31 => ?_)
      · refine x_iconst C (v := nI 1) dX3_isMetIn_38 (by decide +kernel) ?_
        refine x_top (v := nI (stp d)) (by unfold stp; rw [if_neg (by omega)]) ?_
        refine x_istore C dX3_isMetIn_39 (by decide) [(5, _), (4, _), (3, _), (0, _), (1, _), (2, _)] rfl ?_
        refine x_iconst C (v := nI 0) dX3_isMetIn_41 (by decide +kernel) ?_
        refine x_istore C dX3_isMetIn_42 (by decide) [(6, _), (5, _), (4, _), (3, _), (0, _), (1, _), (2, _)] rfl ?_
        exact x_sub [4, 5, 6, 3, 2, 1, 0] (L (stp d) (i % 5) (i / 5) 0 (by omega) (by omega) (by omega) rfl) rfl
      · refine x_iconst C (v := nI 4) dX3_isMetIn_34 (by decide +kernel) ?_
        refine x_goto C 39 dX3_isMetIn_35 (by decide) ?_
        refine x_top (v := nI (stp d)) (by unfold stp; rw [if_pos (by omega)]) ?_
        refine x_istore C dX3_isMetIn_39 (by decide) [(5, _), (4, _), (3, _), (0, _), (1, _), (2, _)] rfl ?_
        refine x_iconst C (v := nI 0) dX3_isMetIn_41 (by decide +kernel) ?_
        refine x_istore C dX3_isMetIn_42 (by decide) [(6, _), (5, _), (4, _), (3, _), (0, _), (1, _), (2, _)] rfl ?_
        exact x_sub [4, 5, 6, 3, 2, 1, 0] (L (stp d) (i % 5) (i / 5) 0 (by omega) (by omega) (by omega) rfl) rfl
    · exact absurd c14 (by omega)
end
section
/-! a position, further: lines, reach, covered, moves -/
def lineN (b : Nat → Nat) (i : Nat) : Nat := cnt (metB b i) 16
set_option maxHeartbeats 4000000 in
set_option maxRecDepth 100000 in
theorem okX3_countLineByLine {h : qH} {k : Nat} {b : Nat → Nat} (hp : PosA h k b) (hb : ∀ i, b i < 8) {i : Nat} (hi : i < 25) : Ok MX3_countLineByLine [.ref k, .int (nI i)] (h) (some (.int (nI (lineN b i)))) (h) := by
  refine ok_of (by decide +kernel) (Nat.zero_le _) (Nat.le_of_ble_eq_true rfl) ?_
  intro X C E
  show Ex X MX3_countLineByLine 0 [(0, .ref k), (1, .int (nI i))] [] (h)
  obtain ⟨⟨f1, f2, f3, f4, h0⟩, h1⟩ := id hp
  have L : ∀ n j : Nat, j + n = 16 → Ex X MX3_countLineByLine 4 [(0, .ref k), (1, .int (nI i)), (2, .int (nI (cnt (metB b i) j))), (3, .int (nI j))] [] (h) := by
    intro n
    induction n with
    | zero =>
      intro j hin 
      have e : j = 16 := by omega
      subst e
      refine x_iload_n C dX3_countLineByLine_4 rfl ?_
      refine x_bipush C (v := nI 16) dX3_countLineByLine_5 (by decide +kernel) ?_
      refine x_icmp_geN C 28 dX3_countLineByLine_7 (by decide) (by omega) (by omega) (fun c7 => ?_) (fun c7 => ?_)
      · refine x_iload_n C dX3_countLineByLine_28 rfl ?_
        exact x_iret E .int dX3_countLineByLine_29 rfl rfl rfl rfl
      · exact absurd c7 (by omega)
    | succ n ih =>
      intro j hin 
      have hlt : j < 16 := by omega
      refine x_iload_n C dX3_countLineByLine_4 rfl ?_
      refine x_bipush C (v := nI 16) dX3_countLineByLine_5 (by decide +kernel) ?_
      refine x_icmp_geN C 28 dX3_countLineByLine_7 (by decide) (by omega) (by omega) (fun c7 => ?_) (fun c7 => ?_)
      · exact absurd c7 (by omega)
      · refine x_aload_n C dX3_countLineByLine_10 rfl ?_
        refine x_iload_n C dX3_countLineByLine_11 rfl ?_
        refine x_iload_n C dX3_countLineByLine_12 rfl ?_
        refine x_callV2i C (okX3_isMetIn hp hb hi hlt) lkX3_59 miX3_isMetIn msX3_isMetIn maX3_isMetIn ⟨Nat.le_of_ble_eq_true rfl, Nat.le_of_ble_eq_true rfl⟩ (Nat.le_of_ble_eq_true rfl) h0 rfl dX3_countLineByLine_13 ?_
        refine x_if_eqB C 22 dX3_countLineByLine_16 (by decide) (fun c16 => ?_) (fun c16 => ?_)
        · have e : cnt (metB b i) j = cnt (metB b i) (j + 1) := by simp [cnt, c16]
          rw [e]
          refine x_iinc C _ dX3_countLineByLine_22 rfl (q_inc _) (by decide) [(3, _), (0, _), (1, _), (2, _)] rfl ?_
          refine x_goto C 4 dX3_countLineByLine_25 (by decide) ?_
          exact x_sub [1, 2, 3, 0] (ih (j + 1) (by omega)) rfl
        · have e : cnt (metB b i) j + 1 = cnt (metB b i) (j + 1) := by simp [cnt, c16]
          refine x_iinc C (nI (cnt (metB b i) (j + 1))) dX3_countLineByLine_19 rfl (by rw [← e]; exact q_inc _) (by decide) [(2, _), (0, _), (1, _), (3, _)] rfl ?_
          refine x_iinc C _ dX3_countLineByLine_22 rfl (q_inc _) (by decide) [(3, _), (2, _), (0, _), (1, _)] rfl ?_
          refine x_goto C 4 dX3_countLineByLine_25 (by decide) ?_
          exact x_sub [2, 3, 1, 0] (ih (j + 1) (by omega)) rfl
  refine x_iconst C (v := nI 0) dX3_countLineByLine_0 (by decide +kernel) ?_
  refine x_istore_n C dX3_countLineByLine_1 (by decide) [(2, _), (0, _), (1, _)] rfl ?_
  refine x_iconst C (v := nI 0) dX3_countLineByLine_2 (by decide +kernel) ?_
  refine x_istore_n C dX3_countLineByLine_3 (by decide) [(3, _), (2, _), (0, _), (1, _)] rfl ?_
  exact x_sub [2, 3, 1, 0] (L 16 0 (by omega)) rfl
def fitsB (b : Nat → Nat) : Bool := match loc7 b 7 with
  | none => false
  | some i => decide (lineN b i = 0)
theorem lineN_le (b : Nat → Nat) (i : Nat) : lineN b i ≤ 16 := cnt_le _ 16
theorem sqI_neg7 {b : Nat → Nat} {v : Nat} : sqI (loc7 b v) < 0 ↔ loc7 b v = none := sqI_neg (fun j hj => by have := (loc7_some hj).1; omega)
set_option maxHeartbeats 4000000 in
set_option maxRecDepth 100000 in
theorem okX3_fits {h : qH} {k : Nat} {b : Nat → Nat} (hp : PosA h k b) (hb : ∀ i, b i < 8) : Ok MX3_fits [.ref k] (h) (some (.int (qb (fitsB b)))) (h) := by
  refine ok_of (by decide +kernel) (Nat.zero_le _) (Nat.le_of_ble_eq_true rfl) ?_
  intro X C E
  show Ex X MX3_fits 0 [(0, .ref k)] [] (h)
  obtain ⟨⟨f1, f2, f3, f4, h0⟩, h1⟩ := id hp
  cases e : loc7 b 7 with
  | none =>
    refine x_aload_n C dX3_fits_0 rfl ?_
    refine x_bipush C (v := nI 7) dX3_fits_1 (by decide +kernel) ?_
    refine x_callV1i C (okX3_squareOf hp hb 7 (by decide)) lkX3_36 miX3_squareOf msX3_squareOf maX3_squareOf ⟨Nat.le_of_ble_eq_true rfl, Nat.le_of_ble_eq_true rfl⟩ (Nat.le_of_ble_eq_true rfl) h0 rfl dX3_fits_3 ?_
    rw [e]
    refine x_istore_n C dX3_fits_6 (by decide) [(1, _), (0, _)] rfl ?_
    refine x_iload_n C dX3_fits_7 rfl ?_
    refine x_if_lt C 23 dX3_fits_8 (by decide) (fun c8 => ?_) (fun c8 => ?_)
    · refine x_iconst C (v := nI 0) dX3_fits_23 (by decide +kernel) ?_
      exact x_iret E .boolean dX3_fits_24 rfl rfl (by unfold fitsB; rw [e]; rfl) rfl
    · exact absurd (by decide : (-1 : Int32) < 0) c8
  | some i =>
    have hi := (loc7_some e).1
    have hle := lineN_le b i
    refine x_aload_n C dX3_fits_0 rfl ?_
    refine x_bipush C (v := nI 7) dX3_fits_1 (by decide +kernel) ?_
    refine x_callV1i C (okX3_squareOf hp hb 7 (by decide)) lkX3_36 miX3_squareOf msX3_squareOf maX3_squareOf ⟨Nat.le_of_ble_eq_true rfl, Nat.le_of_ble_eq_true rfl⟩ (Nat.le_of_ble_eq_true rfl) h0 rfl dX3_fits_3 ?_
    rw [e]
    show Ex X MX3_fits 6 [(0, .ref k)] [.int (nI i)] h
    refine x_istore_n C dX3_fits_6 (by decide) [(1, _), (0, _)] rfl ?_
    refine x_iload_n C dX3_fits_7 rfl ?_
    refine x_if_ltN C 23 dX3_fits_8 (by decide) (by omega) ?_
    refine x_aload_n C dX3_fits_11 rfl ?_
    refine x_iload_n C dX3_fits_12 rfl ?_
    refine x_callV1i C (okX3_countLineByLine hp hb hi) lkX3_40 miX3_countLineByLine msX3_countLineByLine maX3_countLineByLine ⟨Nat.le_of_ble_eq_true rfl, Nat.le_of_ble_eq_true rfl⟩ (Nat.le_of_ble_eq_true rfl) h0 rfl dX3_fits_13 ?_
    refine x_if_neN C 23 dX3_fits_16 (by decide) (by omega) (fun c16 => ?_) (fun c16 => ?_)
    · refine x_iconst C (v := nI 0) dX3_fits_23 (by decide +kernel) ?_
      exact x_iret E .boolean dX3_fits_24 rfl rfl (by unfold fitsB; rw [e]; simp only []; rw [decide_eq_false c16]; rfl) rfl
    · refine x_iconst C (v := nI 1) dX3_fits_19 (by decide +kernel) ?_
      refine x_goto C 24 dX3_fits_20 (by decide) ?_
      exact x_iret E .boolean dX3_fits_24 rfl rfl (by unfold fitsB; rw [e]; simp only []; rw [decide_eq_true c16]; rfl) rfl
def ray (b : Nat → Nat) (d : Nat) : Nat → Nat → Nat → (Nat → Bool) → (Nat → Bool)
  | 0, _, _, p => p
  | n + 1, c, r, p => match stepC c r d with
    | none => p
    | some q => if b (q.2 * 5 + q.1) = 0 then ray b d n q.1 q.2 (fun t => p t || one (q.2 * 5 + q.1) t) else (fun t => p t || one (q.2 * 5 + q.1) t)
def rays (b : Nat → Nat) (i s : Nat) : Nat → Nat → (Nat → Bool) → (Nat → Bool)
  | 0, _, p => p
  | n + 1, d, p => rays b i s n (d + 1) (ray b d s (i % 5) (i / 5) p)
def rF (m : Nat) : Nat := if m = 5 then 8 else if m = 4 then 4 else 0
def rE (m : Nat) : Nat := if m = 5 then 16 else if m = 3 then 4 else 8
def rS (m : Nat) : Nat := if m = 2 ∨ m = 3 ∨ m = 4 then 4 else 1
theorem rF_le (m : Nat) : rF m ≤ rE m := by unfold rF rE; (repeat' split) <;> omega
theorem rE_le (m : Nat) : rE m ≤ 16 := by unfold rE; (repeat' split) <;> omega
theorem rS_le (m : Nat) : rS m ≤ 4 := by unfold rS; split <;> omega
def reachM (b : Nat → Nat) (i m : Nat) : Nat → Bool := rays b i (rS m) (rE m - rF m) (rF m) (fun _ => false)
def reachP (b : Nat → Nat) (i : Nat) : Nat → Bool := if b i = 0 ∨ b i = 6 then fun _ => false else reachM b i (b i)
set_option maxHeartbeats 4000000 in
set_option maxRecDepth 100000 in
theorem okX3_reach {h : qH} {k : Nat} {b : Nat → Nat} (hp : PosA h k b) (hb : ∀ i, b i < 8) {i : Nat} (hi : i < 25) : Ok MX3_reach [.ref k, .int (nI i)] (h) (some (.int (mask (reachP b i)))) (h) := by
  refine ok_of (by decide +kernel) (Nat.zero_le _) (Nat.le_of_ble_eq_true rfl) ?_
  intro X C E
  show Ex X MX3_reach 0 [(0, .ref k), (1, .int (nI i))] [] (h)
  obtain ⟨⟨f1, f2, f3, f4, h0⟩, h1⟩ := id hp
  have hbi := hb i
  have hF := rF_le (b i)
  have hE := rE_le (b i)
  have hS := rS_le (b i)
  have L2 : ∀ d : Nat, d < 16 → ∀ n c r s : Nat, ∀ p : Nat → Bool, s + n = rS (b i) → c < 5 → r < 5 → Ex X MX3_reach 230 [(0, .ref k), (1, .int (nI i)), (2, .int (nI (b i))), (3, .int (nI (rF (b i)))), (4, .int (nI (rE (b i)))), (5, .int (nI (rS (b i)))), (6, .int (mask (ray b d n c r p))), (7, .int (nI d))] [] h → Ex X MX3_reach 138 [(0, .ref k), (1, .int (nI i)), (2, .int (nI (b i))), (3, .int (nI (rF (b i)))), (4, .int (nI (rE (b i)))), (5, .int (nI (rS (b i)))), (6, .int (mask p)), (7, .int (nI d)), (8, .int (nI c)), (9, .int (nI r)), (10, .int (nI s))] [] h := by
    intro d hd n
    induction n with
    | zero =>
      intro c r s p hsn hc hr kk
      refine x_iload C dX3_reach_138 rfl ?_
      refine x_iload C dX3_reach_140 rfl ?_
      refine x_icmp_geN C 230 dX3_reach_142 (by decide) (by omega) (by omega) (fun c142 => ?_) (fun c142 => ?_)
      · exact x_sub [0, 1, 2, 3, 4, 5, 6, 7] (kk) rfl
      · exact absurd c142 (by omega)
    | succ n ih =>
      intro c r s p hsn hc hr kk
      rw [ray] at kk
      refine x_iload C dX3_reach_138 rfl ?_
      refine x_iload C dX3_reach_140 rfl ?_
      refine x_icmp_geN C 230 dX3_reach_142 (by decide) (by omega) (by omega) (fun c142 => ?_) (fun c142 => ?_)
      · exact absurd c142 (by omega)
      · rcases step_cases hc hr hd with ⟨hs, hx⟩ | ⟨c2, r2, hc2, hr2, hs, hx, hy⟩
        · rw [hs] at kk
          refine x_iload C dX3_reach_145 rfl ?_
          refine x_stepc C lfX3_43 dX3_reach_147 ?_
          refine x_iload C dX3_reach_150 rfl ?_
          refine x_stepcN C dX3_reach_152 (by omega) ?_
          refine x_iadd C dX3_reach_153 ?_
          refine x_istore C dX3_reach_154 (by decide) [(8, _), (0, _), (1, _), (2, _), (3, _), (4, _), (5, _), (6, _), (7, _), (9, _), (10, _)] rfl ?_
          refine x_iload C dX3_reach_156 rfl ?_
          refine x_stepr C lfX3_46 dX3_reach_158 ?_
          refine x_iload C dX3_reach_161 rfl ?_
          refine x_steprN C dX3_reach_163 (by omega) ?_
          refine x_iadd C dX3_reach_164 ?_
          refine x_istore C dX3_reach_165 (by decide) [(9, _), (8, _), (0, _), (1, _), (2, _), (3, _), (4, _), (5, _), (6, _), (7, _), (10, _)] rfl ?_
          refine x_iload C dX3_reach_167 rfl ?_
          refine x_if_lt C 230 dX3_reach_169 (by decide) (fun c169 => ?_) (fun c169 => ?_)
          · exact x_sub [2, 3, 4, 5, 6, 7, 8, 9] (kk) rfl
          · refine x_iload C dX3_reach_172 rfl ?_
            refine x_iconst C (v := nI 5) dX3_reach_174 (by decide +kernel) ?_
            refine x_icmp_ge C 230 dX3_reach_175 (by decide) (fun c175 => ?_) (fun c175 => ?_)
            · exact x_sub [2, 3, 4, 5, 6, 7, 8, 9] (kk) rfl
            · refine x_iload C dX3_reach_178 rfl ?_
              refine x_if_lt C 230 dX3_reach_180 (by decide) (fun c180 => ?_) (fun c180 => ?_)
              · exact x_sub [2, 3, 4, 5, 6, 7, 8, 9] (kk) rfl
              · refine x_iload C dX3_reach_183 rfl ?_
                refine x_iconst C (v := nI 5) dX3_reach_185 (by decide +kernel) ?_
                refine x_icmp_lt C 192 dX3_reach_186 (by decide) (fun c186 => ?_) (fun c186 => ?_)
                · rcases hx with hx | hx | hx | hx; exact absurd hx c169; exact absurd hx c175; exact absurd hx c180; exact absurd c186 (Int32.not_lt.mpr hx)
                · refine x_goto C 230 dX3_reach_189 (by decide) ?_
                  exact x_sub [2, 3, 4, 5, 6, 7, 8, 9] (kk) rfl
        · rw [hs] at kk
          simp only [] at kk
          have hb2 := hb (r2 * 5 + c2)
          refine x_iload C dX3_reach_145 rfl ?_
          refine x_stepc C lfX3_43 dX3_reach_147 ?_
          refine x_iload C dX3_reach_150 rfl ?_
          refine x_stepcN C dX3_reach_152 (by omega) ?_
          refine x_iadd C dX3_reach_153 ?_
          rw [hx]
          refine x_istore C dX3_reach_154 (by decide) [(8, _), (0, _), (1, _), (2, _), (3, _), (4, _), (5, _), (6, _), (7, _), (9, _), (10, _)] rfl ?_
          refine x_iload C dX3_reach_156 rfl ?_
          refine x_stepr C lfX3_46 dX3_reach_158 ?_
          refine x_iload C dX3_reach_161 rfl ?_
          refine x_steprN C dX3_reach_163 (by omega) ?_
          refine x_iadd C dX3_reach_164 ?_
          rw [hy]
          refine x_istore C dX3_reach_165 (by decide) [(9, _), (8, _), (0, _), (1, _), (2, _), (3, _), (4, _), (5, _), (6, _), (7, _), (10, _)] rfl ?_
          refine x_iload C dX3_reach_167 rfl ?_
          refine x_if_ltN C 230 dX3_reach_169 (by decide) (by omega) ?_
          refine x_iload C dX3_reach_172 rfl ?_
          refine x_iconst C (v := nI 5) dX3_reach_174 (by decide +kernel) ?_
          refine x_icmp_geN C 230 dX3_reach_175 (by decide) (by omega) (by omega) (fun c175 => ?_) (fun c175 => ?_)
          · exact absurd c175 (by omega)
          · refine x_iload C dX3_reach_178 rfl ?_
            refine x_if_ltN C 230 dX3_reach_180 (by decide) (by omega) ?_
            refine x_iload C dX3_reach_183 rfl ?_
            refine x_iconst C (v := nI 5) dX3_reach_185 (by decide +kernel) ?_
            refine x_icmp_ltN C 192 dX3_reach_186 (by decide) (by omega) (by omega) (fun c186 => ?_) (fun c186 => ?_)
            · refine x_iload C dX3_reach_192 rfl ?_
              refine x_iconst C (v := nI 1) dX3_reach_194 (by decide +kernel) ?_
              refine x_iload C dX3_reach_195 rfl ?_
              refine x_iconst C (v := nI 5) dX3_reach_197 (by decide +kernel) ?_
              refine x_imulN C dX3_reach_198 ?_
              refine x_iload C dX3_reach_199 rfl ?_
              refine x_iaddN C dX3_reach_201 ?_
              refine x_ishl C dX3_reach_202 ?_
              rw [mask_one (by omega)]
              refine x_ior C dX3_reach_203 ?_
              rw [mask_or]
              refine x_istore C dX3_reach_204 (by decide) [(6, _), (9, _), (8, _), (0, _), (1, _), (2, _), (3, _), (4, _), (5, _), (7, _), (10, _)] rfl ?_
              refine x_aload_n C dX3_reach_206 rfl ?_
              refine x_getfield C qk3 0 (by decide) lfX3_9 dX3_reach_207 h0 rfl ?_
              refine x_iload C dX3_reach_210 rfl ?_
              refine x_iconst C (v := nI 5) dX3_reach_212 (by decide +kernel) ?_
              refine x_imulN C dX3_reach_213 ?_
              refine x_iload C dX3_reach_214 rfl ?_
              refine x_iaddN C dX3_reach_216 ?_
              refine x_iald C dX3_reach_217 h1 (by omega) (by decide) ?_
              refine x_if_eqN C 224 dX3_reach_218 (by decide) (by omega) (fun c218 => ?_) (fun c218 => ?_)
              · rw [if_pos c218] at kk
                refine x_iinc C _ dX3_reach_224 rfl (q_inc _) (by decide) [(10, _), (6, _), (9, _), (8, _), (0, _), (1, _), (2, _), (3, _), (4, _), (5, _), (7, _)] rfl ?_
                refine x_goto C 138 dX3_reach_227 (by decide) ?_
                exact x_sub [4, 5, 6, 7, 8, 9, 1, 10, 3, 2, 0] (ih c2 r2 (s + 1) (fun t => p t || one (r2 * 5 + c2) t) (by omega) hc2 hr2 kk) rfl
              · rw [if_neg c218] at kk
                refine x_goto C 230 dX3_reach_221 (by decide) ?_
                exact x_sub [3, 4, 5, 6, 7, 8, 0, 9] (kk) rfl
            · exact absurd c186 (by omega)
  have L1 : ∀ n d : Nat, ∀ p : Nat → Bool, d + n = rE (b i) → mask (reachP b i) = mask (rays b i (rS (b i)) n d p) → Ex X MX3_reach 111 [(0, .ref k), (1, .int (nI i)), (2, .int (nI (b i))), (3, .int (nI (rF (b i)))), (4, .int (nI (rE (b i)))), (5, .int (nI (rS (b i)))), (6, .int (mask p)), (7, .int (nI d))] [] h := by
    intro n
    induction n with
    | zero =>
      intro d p hdn ht
      refine x_iload C dX3_reach_111 rfl ?_
      refine x_iload C dX3_reach_113 rfl ?_
      refine x_icmp_geN C 236 dX3_reach_115 (by decide) (by omega) (by omega) (fun c115 => ?_) (fun c115 => ?_)
      · refine x_iload C dX3_reach_236 rfl ?_
        exact x_iret E .int dX3_reach_238 rfl rfl (by rw [ht]; rfl) rfl
      · exact absurd c115 (by omega)
    | succ n ih =>
      intro d p hdn ht
      have hd : d < 16 := by omega
      refine x_iload C dX3_reach_111 rfl ?_
      refine x_iload C dX3_reach_113 rfl ?_
      refine x_icmp_geN C 236 dX3_reach_115 (by decide) (by omega) (by omega) (fun c115 => ?_) (fun c115 => ?_)
      · exact absurd c115 (by omega)
      · refine x_iload C dX3_reach_118 rfl ?_
        refine x_bipush C (v := nI 16) dX3_reach_120 (by decide +kernel) ?_
        refine x_icmp_geN C 236 dX3_reach_122 (by decide) (by omega) (by omega) (fun c122 => ?_) (fun c122 => ?_)
        · exact absurd c122 (by omega)
        · refine x_iload_n C dX3_reach_125 rfl ?_
          refine x_iconst C (v := nI 5) dX3_reach_126 (by decide +kernel) ?_
          refine x_iremN C dX3_reach_127 (by omega) (by decide) (by decide) ?_
          refine x_istore C dX3_reach_128 (by decide) [(8, _), (0, _), (1, _), (2, _), (3, _), (4, _), (5, _), (6, _), (7, _)] rfl ?_
          refine x_iload_n C dX3_reach_130 rfl ?_
          refine x_iconst C (v := nI 5) dX3_reach_131 (by decide +kernel) ?_
          refine x_idivN C dX3_reach_132 (by omega) (by decide) (by decide) ?_
          refine x_istore C dX3_reach_133 (by decide) [(9, _), (8, _), (0, _), (1, _), (2, _), (3, _), (4, _), (5, _), (6, _), (7, _)] rfl ?_
          refine x_iconst C (v := nI 0) dX3_reach_135 (by decide +kernel) ?_
          refine x_istore C dX3_reach_136 (by decide) [(10, _), (9, _), (8, _), (0, _), (1, _), (2, _), (3, _), (4, _), (5, _), (6, _), (7, _)] rfl ?_
          exact x_sub [3, 4, 5, 6, 7, 8, 9, 10, 2, 1, 0] (L2 d hd (rS (b i)) (i % 5) (i / 5) 0 p (by omega) (by omega) (by omega) (by
          refine x_iinc C _ dX3_reach_230 rfl (q_inc _) (by decide) [(7, _), (0, _), (1, _), (2, _), (3, _), (4, _), (5, _), (6, _)] rfl ?_
          refine x_goto C 111 dX3_reach_233 (by decide) ?_
          exact x_sub [1, 2, 3, 4, 5, 6, 7, 0] (ih (d + 1) (ray b d (rS (b i)) (i % 5) (i / 5) p) (by omega) ht) rfl)) rfl
  by_cases hz : b i = 0 ∨ b i = 6
  · have e : reachP b i = fun _ => false := by unfold reachP; rw [if_pos hz]
    rw [e, mask_none] at E
    refine x_iload_n C dX3_reach_0 rfl ?_
    refine x_if_ltN C 30 dX3_reach_1 (by decide) (by omega) ?_
    refine x_iload_n C dX3_reach_4 rfl ?_
    refine x_bipush C (v := nI 25) dX3_reach_5 (by decide +kernel) ?_
    refine x_icmp_geN C 30 dX3_reach_7 (by decide) (by omega) (by omega) (fun c7 => ?_) (fun c7 => ?_)
    · exact absurd c7 (by omega)
    · refine x_aload_n C dX3_reach_10 rfl ?_
      refine x_getfield C qk3 0 (by decide) lfX3_9 dX3_reach_11 h0 rfl ?_
      refine x_iload_n C dX3_reach_14 rfl ?_
      refine x_iald C dX3_reach_15 h1 (by omega) (by decide) ?_
      refine x_if_eqN C 30 dX3_reach_16 (by decide) (by omega) (fun c16 => ?_) (fun c16 => ?_)
      · refine x_iconst C (v := nI 0) dX3_reach_30 (by decide +kernel) ?_
        exact x_iret E .int dX3_reach_31 rfl rfl rfl rfl
      · refine x_aload_n C dX3_reach_19 rfl ?_
        refine x_getfield C qk3 0 (by decide) lfX3_9 dX3_reach_20 h0 rfl ?_
        refine x_iload_n C dX3_reach_23 rfl ?_
        refine x_iald C dX3_reach_24 h1 (by omega) (by decide) ?_
        refine x_bipush C (v := nI 6) dX3_reach_25 (by decide +kernel) ?_
        refine x_icmp_neN C 32 dX3_reach_27 (by decide) (by omega) (by omega) (fun c27 => ?_) (fun c27 => ?_)
        · omega
        · refine x_iconst C (v := nI 0) dX3_reach_30 (by decide +kernel) ?_
          exact x_iret E .int dX3_reach_31 rfl rfl rfl rfl
  · 
    have J103 : Ex X MX3_reach 103 [(0, .ref k), (1, .int (nI i)), (2, .int (nI (b i))), (3, .int (nI (rF (b i)))), (4, .int (nI (rE (b i))))] [.int (nI (rS (b i)))] h := by
      refine x_istore C dX3_reach_103 (by decide) [(5, _), (0, _), (1, _), (2, _), (3, _), (4, _)] rfl ?_
      refine x_iconst C (v := nI 0) dX3_reach_105 (by decide +kernel) ?_
      rw [← mask_none]
      refine x_istore C dX3_reach_106 (by decide) [(6, _), (5, _), (0, _), (1, _), (2, _), (3, _), (4, _)] rfl ?_
      refine x_iload_n C dX3_reach_108 rfl ?_
      refine x_istore C dX3_reach_109 (by decide) [(7, _), (6, _), (5, _), (0, _), (1, _), (2, _), (3, _), (4, _)] rfl ?_
      exact x_sub [3, 4, 5, 6, 7, 2, 1, 0] (L1 (rE (b i) - rF (b i)) (rF (b i)) (fun _ => false) (by omega) (by unfold reachP; rw [if_neg (by omega)]; rfl)) rfl
    have J81 : Ex X MX3_reach 81 [(0, .ref k), (1, .int (nI i)), (2, .int (nI (b i))), (3, .int (nI (rF (b i))))] [.int (nI (rE (b i)))] h := by
      refine x_istore C dX3_reach_81 (by decide) [(4, _), (0, _), (1, _), (2, _), (3, _)] rfl ?_
      refine x_iload_n C dX3_reach_83 rfl ?_
      refine x_iconst C (v := nI 2) dX3_reach_84 (by decide +kernel) ?_
      refine x_icmp_eqN C 98 dX3_reach_85 (by decide) (by omega) (by omega) (fun c85 => ?_) (fun c85 => ?_)
      · refine x_iconst C (v := nI 4) dX3_reach_98 (by decide +kernel) ?_
        refine x_goto C 103 dX3_reach_99 (by decide) ?_
        refine x_top (v := nI (rS (b i))) (by unfold rS; simp [*]) ?_
        exact x_sub [1, 2, 3, 4, 0] J103 rfl
      · refine x_iload_n C dX3_reach_88 rfl ?_
        refine x_iconst C (v := nI 3) dX3_reach_89 (by decide +kernel) ?_
        refine x_icmp_eqN C 98 dX3_reach_90 (by decide) (by omega) (by omega) (fun c90 => ?_) (fun c90 => ?_)
        · refine x_iconst C (v := nI 4) dX3_reach_98 (by decide +kernel) ?_
          refine x_goto C 103 dX3_reach_99 (by decide) ?_
          refine x_top (v := nI (rS (b i))) (by unfold rS; simp [*]) ?_
          exact x_sub [1, 2, 3, 4, 0] J103 rfl
        · refine x_iload_n C dX3_reach_93 rfl ?_
          refine x_iconst C (v := nI 4) dX3_reach_94 (by decide +kernel) ?_
          refine x_icmp_neN C 102 dX3_reach_95 (by decide) (by omega) (by omega) (fun c95 => ?_) (fun c95 => ?_)
          · refine x_iconst C (v := nI 1) dX3_reach_102 (by decide +kernel) ?_
            refine x_top (v := nI (rS (b i))) (by unfold rS; simp [*]) ?_
            exact x_sub [1, 2, 3, 4, 0] J103 rfl
          · refine x_iconst C (v := nI 4) dX3_reach_98 (by decide +kernel) ?_
            refine x_goto C 103 dX3_reach_99 (by decide) ?_
            refine x_top (v := nI (rS (b i))) (by unfold rS; simp [*]) ?_
            exact x_sub [1, 2, 3, 4, 0] J103 rfl
    have J59 : Ex X MX3_reach 59 [(0, .ref k), (1, .int (nI i)), (2, .int (nI (b i)))] [.int (nI (rF (b i)))] h := by
      refine x_istore_n C dX3_reach_59 (by decide) [(3, _), (0, _), (1, _), (2, _)] rfl ?_
      refine x_iload_n C dX3_reach_60 rfl ?_
      refine x_iconst C (v := nI 5) dX3_reach_61 (by decide +kernel) ?_
      refine x_icmp_neN C 70 dX3_reach_62 (by decide) (by omega) (by omega) (fun c62 => ?_) (fun c62 => ?_)
      · refine x_iload_n C dX3_reach_70 rfl ?_
        refine x_iconst C (v := nI 3) dX3_reach_71 (by decide +kernel) ?_
        refine x_icmp_neN C 79 dX3_reach_72 (by decide) (by omega) (by omega) (fun c72 => ?_) (fun c72 => ?_)
        · refine x_bipush C (v := nI 8) dX3_reach_79 (by decide +kernel) ?_
          refine x_top (v := nI (rE (b i))) (by unfold rE; simp [*]) ?_
          exact x_sub [1, 2, 3, 0] J81 rfl
        · refine x_iconst C (v := nI 4) dX3_reach_75 (by decide +kernel) ?_
          refine x_goto C 81 dX3_reach_76 (by decide) ?_
          refine x_top (v := nI (rE (b i))) (by unfold rE; simp [*]) ?_
          exact x_sub [1, 2, 3, 0] J81 rfl
      · refine x_bipush C (v := nI 16) dX3_reach_65 (by decide +kernel) ?_
        refine x_goto C 81 dX3_reach_67 (by decide) ?_
        refine x_top (v := nI (rE (b i))) (by unfold rE; simp [*]) ?_
        exact x_sub [1, 2, 3, 0] J81 rfl
    refine x_iload_n C dX3_reach_0 rfl ?_
    refine x_if_ltN C 30 dX3_reach_1 (by decide) (by omega) ?_
    refine x_iload_n C dX3_reach_4 rfl ?_
    refine x_bipush C (v := nI 25) dX3_reach_5 (by decide +kernel) ?_
    refine x_icmp_geN C 30 dX3_reach_7 (by decide) (by omega) (by omega) (fun c7 => ?_) (fun c7 => ?_)
    · exact absurd c7 (by omega)
    · refine x_aload_n C dX3_reach_10 rfl ?_
      refine x_getfield C qk3 0 (by decide) lfX3_9 dX3_reach_11 h0 rfl ?_
      refine x_iload_n C dX3_reach_14 rfl ?_
      refine x_iald C dX3_reach_15 h1 (by omega) (by decide) ?_
      refine x_if_eqN C 30 dX3_reach_16 (by decide) (by omega) (fun c16 => ?_) (fun c16 => ?_)
      · omega
      · refine x_aload_n C dX3_reach_19 rfl ?_
        refine x_getfield C qk3 0 (by decide) lfX3_9 dX3_reach_20 h0 rfl ?_
        refine x_iload_n C dX3_reach_23 rfl ?_
        refine x_iald C dX3_reach_24 h1 (by omega) (by decide) ?_
        refine x_bipush C (v := nI 6) dX3_reach_25 (by decide +kernel) ?_
        refine x_icmp_neN C 32 dX3_reach_27 (by decide) (by omega) (by omega) (fun c27 => ?_) (fun c27 => ?_)
        · refine x_aload_n C dX3_reach_32 rfl ?_
          refine x_getfield C qk3 0 (by decide) lfX3_9 dX3_reach_33 h0 rfl ?_
          refine x_iload_n C dX3_reach_36 rfl ?_
          refine x_iald C dX3_reach_37 h1 (by omega) (by decide) ?_
          refine x_istore_n C dX3_reach_38 (by decide) [(2, _), (0, _), (1, _)] rfl ?_
          refine x_iload_n C dX3_reach_39 rfl ?_
          refine x_iconst C (v := nI 5) dX3_reach_40 (by decide +kernel) ?_
          refine x_icmp_neN C 49 dX3_reach_41 (by decide) (by omega) (by omega) (fun c41 => ?_) (fun c41 => ?_)
          · refine x_iload_n C dX3_reach_49 rfl ?_
            refine x_iconst C (v := nI 4) dX3_reach_50 (by decide +kernel) ?_
            refine x_icmp_neN C 58 dX3_reach_51 (by decide) (by omega) (by omega) (fun c51 => ?_) (fun c51 => ?_)
            · refine x_iconst C (v := nI 0) dX3_reach_58 (by decide +kernel) ?_
              refine x_top (v := nI (rF (b i))) (by unfold rF; simp [*]) ?_
              exact x_sub [1, 2, 0] J59 rfl
            · refine x_iconst C (v := nI 4) dX3_reach_54 (by decide +kernel) ?_
              refine x_goto C 59 dX3_reach_55 (by decide) ?_
              refine x_top (v := nI (rF (b i))) (by unfold rF; simp [*]) ?_
              exact x_sub [1, 2, 0] J59 rfl
          · refine x_bipush C (v := nI 8) dX3_reach_44 (by decide +kernel) ?_
            refine x_goto C 59 dX3_reach_46 (by decide) ?_
            refine x_top (v := nI (rF (b i))) (by unfold rF; simp [*]) ?_
            exact x_sub [1, 2, 0] J59 rfl
        · omega
set_option maxHeartbeats 4000000 in
set_option maxRecDepth 100000 in
theorem okX3_reach_out {h : qH} {k : Nat} {b : Nat → Nat} (hp : PosA h k b) {x : Int32} (hx : isSq x = false) : Ok MX3_reach [.ref k, .int x] (h) (some (.int (nI 0))) (h) := by
  refine ok_of (by decide +kernel) (Nat.zero_le _) (Nat.le_of_ble_eq_true rfl) ?_
  intro X C E
  show Ex X MX3_reach 0 [(0, .ref k), (1, .int x)] [] (h)
  refine x_iload_n C dX3_reach_0 rfl ?_
  refine x_if_lt C 30 dX3_reach_1 (by decide) (fun c1 => ?_) (fun c1 => ?_)
  · refine x_iconst C (v := nI 0) dX3_reach_30 (by decide +kernel) ?_
    exact x_iret E .int dX3_reach_31 rfl rfl rfl rfl
  · refine x_iload_n C dX3_reach_4 rfl ?_
    refine x_bipush C (v := nI 25) dX3_reach_5 (by decide +kernel) ?_
    refine x_icmp_ge C 30 dX3_reach_7 (by decide) (fun c7 => ?_) (fun c7 => ?_)
    · refine x_iconst C (v := nI 0) dX3_reach_30 (by decide +kernel) ?_
      exact x_iret E .int dX3_reach_31 rfl rfl rfl rfl
    · exact absurd hx (by simp only [isSq, c1, c7, decide_false, Bool.not_false, Bool.and_self]; decide)
end
section
/-! a position, further: what is covered, moves, outlooks, keys -/
def covR (b : Nat → Nat) : Nat → (Nat → Bool)
  | 0 => fun _ => false
  | n + 1 => if isW (b n) = true then fun t => covR b n t || reachP b n t else covR b n
def attR (b : Nat → Nat) (i : Nat) (f : Nat) : Bool := isW (b f) && reachP b f i
def stoR (b : Nat → Nat) : Nat → (Nat → Bool)
  | 0 => fun _ => false
  | n + 1 => if b n = 6 then fun t => stoR b n t || one n t else stoR b n
def barR (b : Nat → Nat) : Nat → (Nat → Bool)
  | 0 => fun _ => false
  | n + 1 => if isW (b n) = true ∨ b n = 7 then fun t => barR b n t || one n t else barR b n
theorem isW_6 {m : Nat} (h : m = 6) : isW m = false := by subst h; rfl
set_option maxHeartbeats 4000000 in
set_option maxRecDepth 100000 in
theorem okX3_covered {h : qH} {k : Nat} {b : Nat → Nat} (hp : PosA h k b) (hb : ∀ i, b i < 8) : Ok MX3_covered [.ref k] (h) (some (.int (mask (covR b 25)))) (h) := by
  refine ok_of (by decide +kernel) (Nat.zero_le _) (Nat.le_of_ble_eq_true rfl) ?_
  intro X C E
  show Ex X MX3_covered 0 [(0, .ref k)] [] (h)
  obtain ⟨⟨f1, f2, f3, f4, h0⟩, h1⟩ := id hp
  have L : ∀ n i : Nat, i + n = 25 → Ex X MX3_covered 4 [(0, .ref k), (1, .int (mask (covR b i))), (2, .int (nI i))] [] (h) := by
    intro n
    induction n with
    | zero =>
      intro i hin 
      have e : i = 25 := by omega
      subst e
      refine x_iload_n C dX3_covered_4 rfl ?_
      refine x_bipush C (v := nI 25) dX3_covered_5 (by decide +kernel) ?_
      refine x_icmp_geN C 36 dX3_covered_7 (by decide) (by omega) (by omega) (fun c7 => ?_) (fun c7 => ?_)
      · refine x_iload_n C dX3_covered_36 rfl ?_
        exact x_iret E .int dX3_covered_37 rfl rfl rfl rfl
      · exact absurd c7 (by omega)
    | succ n ih =>
      intro i hin 
      have hlt : i < 25 := by omega
      have hbi := hb i
      refine x_iload_n C dX3_covered_4 rfl ?_
      refine x_bipush C (v := nI 25) dX3_covered_5 (by decide +kernel) ?_
      refine x_icmp_geN C 36 dX3_covered_7 (by decide) (by omega) (by omega) (fun c7 => ?_) (fun c7 => ?_)
      · exact absurd c7 (by omega)
      · refine x_aload_n C dX3_covered_10 rfl ?_
        refine x_getfield C qk3 0 (by decide) lfX3_9 dX3_covered_11 h0 rfl ?_
        refine x_iload_n C dX3_covered_14 rfl ?_
        refine x_iald C dX3_covered_15 h1 (by omega) (by decide) ?_
        refine x_callN1i C (okX5_isWhite _ (by omega) _) lkX3_49 miX5_isWhite mtX5_isWhite maX5_isWhite ⟨Nat.le_of_ble_eq_true rfl, Nat.le_of_ble_eq_true rfl⟩ (Nat.le_of_ble_eq_true rfl) dX3_covered_16 ?_
        refine x_if_eqB C 30 dX3_covered_19 (by decide) (fun c19 => ?_) (fun c19 => ?_)
        · rw [show covR b i = covR b (i + 1) by simp only [covR, c19]; rfl]
          refine x_iinc C _ dX3_covered_30 rfl (q_inc _) (by decide) [(2, _), (0, _), (1, _)] rfl ?_
          refine x_goto C 4 dX3_covered_33 (by decide) ?_
          exact x_sub [1, 2, 0] (ih (i + 1) (by omega)) rfl
        · refine x_iload_n C dX3_covered_22 rfl ?_
          refine x_aload_n C dX3_covered_23 rfl ?_
          refine x_iload_n C dX3_covered_24 rfl ?_
          refine x_callV1i C (okX3_reach hp hb hlt) lkX3_52 miX3_reach msX3_reach maX3_reach ⟨Nat.le_of_ble_eq_true rfl, Nat.le_of_ble_eq_true rfl⟩ (Nat.le_of_ble_eq_true rfl) h0 rfl dX3_covered_25 ?_
          refine x_ior C dX3_covered_28 ?_
          rw [mask_or, show (fun t => covR b i t || reachP b i t) = covR b (i + 1) by simp only [covR, if_pos c19]]
          refine x_istore_n C dX3_covered_29 (by decide) [(1, _), (0, _), (2, _)] rfl ?_
          refine x_iinc C _ dX3_covered_30 rfl (q_inc _) (by decide) [(2, _), (1, _), (0, _)] rfl ?_
          refine x_goto C 4 dX3_covered_33 (by decide) ?_
          exact x_sub [2, 1, 0] (ih (i + 1) (by omega)) rfl
  refine x_iconst C (v := nI 0) dX3_covered_0 (by decide +kernel) ?_
  rw [← mask_none]
  refine x_istore_n C dX3_covered_1 (by decide) [(1, _), (0, _)] rfl ?_
  refine x_iconst C (v := nI 0) dX3_covered_2 (by decide +kernel) ?_
  refine x_istore_n C dX3_covered_3 (by decide) [(2, _), (1, _), (0, _)] rfl ?_
  exact x_sub [2, 1, 0] (L 25 0 (by omega)) rfl
set_option maxHeartbeats 4000000 in
set_option maxRecDepth 100000 in
theorem okX3_countManByMan {h : qH} {k : Nat} {b : Nat → Nat} (hp : PosA h k b) (hb : ∀ i, b i < 8) {s : Nat} (hs : s < 25) : Ok MX3_countManByMan [.ref k, .int (nI s)] (h) (some (.int (nI (cnt (attR b s) 25)))) (h) := by
  refine ok_of (by decide +kernel) (Nat.zero_le _) (Nat.le_of_ble_eq_true rfl) ?_
  intro X C E
  show Ex X MX3_countManByMan 0 [(0, .ref k), (1, .int (nI s))] [] (h)
  obtain ⟨⟨f1, f2, f3, f4, h0⟩, h1⟩ := id hp
  have L : ∀ n i : Nat, i + n = 25 → Ex X MX3_countManByMan 4 [(0, .ref k), (1, .int (nI s)), (2, .int (nI (cnt (attR b s) i))), (3, .int (nI i))] [] (h) := by
    intro n
    induction n with
    | zero =>
      intro i hin 
      have e : i = 25 := by omega
      subst e
      refine x_iload_n C dX3_countManByMan_4 rfl ?_
      refine x_bipush C (v := nI 25) dX3_countManByMan_5 (by decide +kernel) ?_
      refine x_icmp_geN C 43 dX3_countManByMan_7 (by decide) (by omega) (by omega) (fun c7 => ?_) (fun c7 => ?_)
      · refine x_iload_n C dX3_countManByMan_43 rfl ?_
        exact x_iret E .int dX3_countManByMan_44 rfl rfl rfl rfl
      · exact absurd c7 (by omega)
    | succ n ih =>
      intro i hin 
      have hlt : i < 25 := by omega
      have hbi := hb i
      refine x_iload_n C dX3_countManByMan_4 rfl ?_
      refine x_bipush C (v := nI 25) dX3_countManByMan_5 (by decide +kernel) ?_
      refine x_icmp_geN C 43 dX3_countManByMan_7 (by decide) (by omega) (by omega) (fun c7 => ?_) (fun c7 => ?_)
      · exact absurd c7 (by omega)
      · refine x_aload_n C dX3_countManByMan_10 rfl ?_
        refine x_getfield C qk3 0 (by decide) lfX3_9 dX3_countManByMan_11 h0 rfl ?_
        refine x_iload_n C dX3_countManByMan_14 rfl ?_
        refine x_iald C dX3_countManByMan_15 h1 (by omega) (by decide) ?_
        refine x_callN1i C (okX5_isWhite _ (by omega) _) lkX3_49 miX5_isWhite mtX5_isWhite maX5_isWhite ⟨Nat.le_of_ble_eq_true rfl, Nat.le_of_ble_eq_true rfl⟩ (Nat.le_of_ble_eq_true rfl) dX3_countManByMan_16 ?_
        refine x_if_eqB C 37 dX3_countManByMan_19 (by decide) (fun c19 => ?_) (fun c19 => ?_)
        · rw [show cnt (attR b s) i = cnt (attR b s) (i + 1) by simp [cnt, attR, c19]]
          refine x_iinc C _ dX3_countManByMan_37 rfl (q_inc _) (by decide) [(3, _), (0, _), (1, _), (2, _)] rfl ?_
          refine x_goto C 4 dX3_countManByMan_40 (by decide) ?_
          exact x_sub [1, 2, 3, 0] (ih (i + 1) (by omega)) rfl
        · refine x_aload_n C dX3_countManByMan_22 rfl ?_
          refine x_iload_n C dX3_countManByMan_23 rfl ?_
          refine x_callV1i C (okX3_reach hp hb hlt) lkX3_52 miX3_reach msX3_reach maX3_reach ⟨Nat.le_of_ble_eq_true rfl, Nat.le_of_ble_eq_true rfl⟩ (Nat.le_of_ble_eq_true rfl) h0 rfl dX3_countManByMan_24 ?_
          refine x_iload_n C dX3_countManByMan_27 rfl ?_
          refine x_callN2i C (okX5_hasSquare _ hs _) lkX3_55 miX5_hasSquare mtX5_hasSquare maX5_hasSquare ⟨Nat.le_of_ble_eq_true rfl, Nat.le_of_ble_eq_true rfl⟩ (Nat.le_of_ble_eq_true rfl) dX3_countManByMan_28 ?_
          refine x_if_eqB C 37 dX3_countManByMan_31 (by decide) (fun c31 => ?_) (fun c31 => ?_)
          · rw [show cnt (attR b s) i = cnt (attR b s) (i + 1) by simp [cnt, attR, c31]]
            refine x_iinc C _ dX3_countManByMan_37 rfl (q_inc _) (by decide) [(3, _), (0, _), (1, _), (2, _)] rfl ?_
            refine x_goto C 4 dX3_countManByMan_40 (by decide) ?_
            exact x_sub [1, 2, 3, 0] (ih (i + 1) (by omega)) rfl
          · have e : cnt (attR b s) i + 1 = cnt (attR b s) (i + 1) := by simp [cnt, attR, c19, c31]
            refine x_iinc C (nI (cnt (attR b s) (i + 1))) dX3_countManByMan_34 rfl (by rw [← e]; exact q_inc _) (by decide) [(2, _), (0, _), (1, _), (3, _)] rfl ?_
            refine x_iinc C _ dX3_countManByMan_37 rfl (q_inc _) (by decide) [(3, _), (2, _), (0, _), (1, _)] rfl ?_
            refine x_goto C 4 dX3_countManByMan_40 (by decide) ?_
            exact x_sub [2, 3, 1, 0] (ih (i + 1) (by omega)) rfl
  refine x_iconst C (v := nI 0) dX3_countManByMan_0 (by decide +kernel) ?_
  refine x_istore_n C dX3_countManByMan_1 (by decide) [(2, _), (0, _), (1, _)] rfl ?_
  refine x_iconst C (v := nI 0) dX3_countManByMan_2 (by decide +kernel) ?_
  refine x_istore_n C dX3_countManByMan_3 (by decide) [(3, _), (2, _), (0, _), (1, _)] rfl ?_
  exact x_sub [2, 3, 1, 0] (L 25 0 (by omega)) rfl
def kReach (b : Nat → Nat) : Nat → Bool := match loc7 b 7 with
  | none => fun _ => false
  | some j => reachP b j
def barP (b : Nat → Nat) (i : Nat) : Nat → Bool := if b i = 1 then fun t => barR b 25 t || kReach b t else barR b 25
def movP (b : Nat → Nat) (i : Nat) : Nat → Bool := if isW (b i) = true then fun t => reachP b i t && !barP b i t else fun _ => false
set_option maxHeartbeats 4000000 in
set_option maxRecDepth 100000 in
theorem okX3_reachK {h : qH} {k : Nat} {b : Nat → Nat} (hp : PosA h k b) (hb : ∀ i, b i < 8) : Ok MX3_reach [.ref k, .int (sqI (loc7 b 7))] h (some (.int (mask (kReach b)))) h := by
  unfold kReach
  cases e : loc7 b 7 with
  | none =>
    rw [show mask (fun _ => false) = nI 0 from mask_none]
    exact okX3_reach_out hp (by decide +kernel)
  | some j => exact okX3_reach hp hb (loc7_some e).1
set_option maxHeartbeats 4000000 in
set_option maxRecDepth 100000 in
theorem okX3_movesFrom {h : qH} {k : Nat} {b : Nat → Nat} (hp : PosA h k b) (hb : ∀ i, b i < 8) {i : Nat} (hi : i < 25) : Ok MX3_movesFrom [.ref k, .int (nI i)] (h) (some (.int (mask (movP b i)))) (h) := by
  refine ok_of (by decide +kernel) (Nat.zero_le _) (Nat.le_of_ble_eq_true rfl) ?_
  intro X C E
  show Ex X MX3_movesFrom 0 [(0, .ref k), (1, .int (nI i))] [] (h)
  obtain ⟨⟨f1, f2, f3, f4, h0⟩, h1⟩ := id hp
  have hbi := hb i
  have J92 : isW (b i) = true → Ex X MX3_movesFrom 92 [(0, .ref k), (1, .int (nI i)), (2, .int (mask (barP b i)))] [] h := by
    intro hw
    refine x_aload_n C dX3_movesFrom_92 rfl ?_
    refine x_iload_n C dX3_movesFrom_93 rfl ?_
    refine x_callV1i C (okX3_reach hp hb hi) lkX3_52 miX3_reach msX3_reach maX3_reach ⟨Nat.le_of_ble_eq_true rfl, Nat.le_of_ble_eq_true rfl⟩ (Nat.le_of_ble_eq_true rfl) h0 rfl dX3_movesFrom_94 ?_
    refine x_iload_n C dX3_movesFrom_97 rfl ?_
    refine x_iconst C (v := (-1)) dX3_movesFrom_98 (by decide +kernel) ?_
    refine x_ixor C dX3_movesFrom_99 ?_
    refine x_iand C dX3_movesFrom_100 ?_
    rw [mask_diff]
    exact x_iret E .int dX3_movesFrom_101 rfl rfl (by unfold movP; rw [if_pos hw]) rfl
  have L : ∀ n j : Nat, j + n = 25 → isW (b i) = true → Ex X MX3_movesFrom 28 [(0, .ref k), (1, .int (nI i)), (2, .int (mask (barR b j))), (3, .int (nI j))] [] (h) := by
    intro n
    induction n with
    | zero =>
      intro j hin hw
      have e : j = 25 := by omega
      subst e
      refine x_iload_n C dX3_movesFrom_28 rfl ?_
      refine x_bipush C (v := nI 25) dX3_movesFrom_29 (by decide +kernel) ?_
      refine x_icmp_geN C 69 dX3_movesFrom_31 (by decide) (by omega) (by omega) (fun c31 => ?_) (fun c31 => ?_)
      · refine x_aload_n C dX3_movesFrom_69 rfl ?_
        refine x_getfield C qk3 0 (by decide) lfX3_9 dX3_movesFrom_70 h0 rfl ?_
        refine x_iload_n C dX3_movesFrom_73 rfl ?_
        refine x_iald C dX3_movesFrom_74 h1 (by omega) (by decide) ?_
        refine x_iconst C (v := nI 1) dX3_movesFrom_75 (by decide +kernel) ?_
        refine x_icmp_neN C 92 dX3_movesFrom_76 (by decide) (by omega) (by omega) (fun c76 => ?_) (fun c76 => ?_)
        · rw [show barR b 25 = barP b i by unfold barP; rw [if_neg c76]]
          exact x_sub [0, 1, 2] (J92 hw) rfl
        · refine x_iload_n C dX3_movesFrom_79 rfl ?_
          refine x_aload_n C dX3_movesFrom_80 rfl ?_
          refine x_aload_n C dX3_movesFrom_81 rfl ?_
          refine x_bipush C (v := nI 7) dX3_movesFrom_82 (by decide +kernel) ?_
          refine x_callV1i C (okX3_squareOf hp hb 7 (by decide)) lkX3_36 miX3_squareOf msX3_squareOf maX3_squareOf ⟨Nat.le_of_ble_eq_true rfl, Nat.le_of_ble_eq_true rfl⟩ (Nat.le_of_ble_eq_true rfl) h0 rfl dX3_movesFrom_84 ?_
          refine x_callV1i C (okX3_reachK hp hb) lkX3_52 miX3_reach msX3_reach maX3_reach ⟨Nat.le_of_ble_eq_true rfl, Nat.le_of_ble_eq_true rfl⟩ (Nat.le_of_ble_eq_true rfl) h0 rfl dX3_movesFrom_87 ?_
          refine x_ior C dX3_movesFrom_90 ?_
          rw [mask_or]
          rw [show (fun t => barR b 25 t || kReach b t) = barP b i by unfold barP; rw [if_pos c76]]
          refine x_istore_n C dX3_movesFrom_91 (by decide) [(2, _), (0, _), (1, _), (3, _)] rfl ?_
          exact x_sub [1, 2, 0] (J92 hw) rfl
      · exact absurd c31 (by omega)
    | succ n ih =>
      intro j hin hw
      have hlt : j < 25 := by omega
      have hbj := hb j
      refine x_iload_n C dX3_movesFrom_28 rfl ?_
      refine x_bipush C (v := nI 25) dX3_movesFrom_29 (by decide +kernel) ?_
      refine x_icmp_geN C 69 dX3_movesFrom_31 (by decide) (by omega) (by omega) (fun c31 => ?_) (fun c31 => ?_)
      · exact absurd c31 (by omega)
      · refine x_aload_n C dX3_movesFrom_34 rfl ?_
        refine x_getfield C qk3 0 (by decide) lfX3_9 dX3_movesFrom_35 h0 rfl ?_
        refine x_iload_n C dX3_movesFrom_38 rfl ?_
        refine x_iald C dX3_movesFrom_39 h1 (by omega) (by decide) ?_
        refine x_callN1i C (okX5_isWhite _ (by omega) _) lkX3_49 miX5_isWhite mtX5_isWhite maX5_isWhite ⟨Nat.le_of_ble_eq_true rfl, Nat.le_of_ble_eq_true rfl⟩ (Nat.le_of_ble_eq_true rfl) dX3_movesFrom_40 ?_
        refine x_if_neB C 57 dX3_movesFrom_43 (by decide) (fun c43 => ?_) (fun c43 => ?_)
        · have hor : isW (b j) = true ∨ b j = 7 := Or.inl c43
          refine x_iload_n C dX3_movesFrom_57 rfl ?_
          refine x_iconst C (v := nI 1) dX3_movesFrom_58 (by decide +kernel) ?_
          refine x_iload_n C dX3_movesFrom_59 rfl ?_
          refine x_ishl C dX3_movesFrom_60 ?_
          rw [mask_one hlt]
          refine x_ior C dX3_movesFrom_61 ?_
          rw [mask_or]
          rw [show (fun t => barR b j t || one j t) = barR b (j + 1) by simp only [barR]; rw [if_pos hor]]
          refine x_istore_n C dX3_movesFrom_62 (by decide) [(2, _), (0, _), (1, _), (3, _)] rfl ?_
          refine x_iinc C _ dX3_movesFrom_63 rfl (q_inc _) (by decide) [(3, _), (2, _), (0, _), (1, _)] rfl ?_
          refine x_goto C 28 dX3_movesFrom_66 (by decide) ?_
          exact x_sub [2, 3, 1, 0] (ih (j + 1) (by omega) hw) rfl
        · refine x_aload_n C dX3_movesFrom_46 rfl ?_
          refine x_getfield C qk3 0 (by decide) lfX3_9 dX3_movesFrom_47 h0 rfl ?_
          refine x_iload_n C dX3_movesFrom_50 rfl ?_
          refine x_iald C dX3_movesFrom_51 h1 (by omega) (by decide) ?_
          refine x_bipush C (v := nI 7) dX3_movesFrom_52 (by decide +kernel) ?_
          refine x_icmp_neN C 63 dX3_movesFrom_54 (by decide) (by omega) (by omega) (fun c54 => ?_) (fun c54 => ?_)
          · rw [show barR b j = barR b (j + 1) by simp only [barR]; rw [if_neg (by simp [c43, c54])]]
            refine x_iinc C _ dX3_movesFrom_63 rfl (q_inc _) (by decide) [(3, _), (0, _), (1, _), (2, _)] rfl ?_
            refine x_goto C 28 dX3_movesFrom_66 (by decide) ?_
            exact x_sub [1, 2, 3, 0] (ih (j + 1) (by omega) hw) rfl
          · have hor : isW (b j) = true ∨ b j = 7 := Or.inr c54
            refine x_iload_n C dX3_movesFrom_57 rfl ?_
            refine x_iconst C (v := nI 1) dX3_movesFrom_58 (by decide +kernel) ?_
            refine x_iload_n C dX3_movesFrom_59 rfl ?_
            refine x_ishl C dX3_movesFrom_60 ?_
            rw [mask_one hlt]
            refine x_ior C dX3_movesFrom_61 ?_
            rw [mask_or]
            rw [show (fun t => barR b j t || one j t) = barR b (j + 1) by simp only [barR]; rw [if_pos hor]]
            refine x_istore_n C dX3_movesFrom_62 (by decide) [(2, _), (0, _), (1, _), (3, _)] rfl ?_
            refine x_iinc C _ dX3_movesFrom_63 rfl (q_inc _) (by decide) [(3, _), (2, _), (0, _), (1, _)] rfl ?_
            refine x_goto C 28 dX3_movesFrom_66 (by decide) ?_
            exact x_sub [2, 3, 1, 0] (ih (j + 1) (by omega) hw) rfl
  refine x_iload_n C dX3_movesFrom_0 rfl ?_
  refine x_if_ltN C 22 dX3_movesFrom_1 (by decide) (by omega) ?_
  refine x_iload_n C dX3_movesFrom_4 rfl ?_
  refine x_bipush C (v := nI 25) dX3_movesFrom_5 (by decide +kernel) ?_
  refine x_icmp_geN C 22 dX3_movesFrom_7 (by decide) (by omega) (by omega) (fun c7 => ?_) (fun c7 => ?_)
  · exact absurd c7 (by omega)
  · refine x_aload_n C dX3_movesFrom_10 rfl ?_
    refine x_getfield C qk3 0 (by decide) lfX3_9 dX3_movesFrom_11 h0 rfl ?_
    refine x_iload_n C dX3_movesFrom_14 rfl ?_
    refine x_iald C dX3_movesFrom_15 h1 (by omega) (by decide) ?_
    refine x_callN1i C (okX5_isWhite _ (by omega) _) lkX3_49 miX5_isWhite mtX5_isWhite maX5_isWhite ⟨Nat.le_of_ble_eq_true rfl, Nat.le_of_ble_eq_true rfl⟩ (Nat.le_of_ble_eq_true rfl) dX3_movesFrom_16 ?_
    refine x_if_neB C 24 dX3_movesFrom_19 (by decide) (fun c19 => ?_) (fun c19 => ?_)
    · refine x_iconst C (v := nI 0) dX3_movesFrom_24 (by decide +kernel) ?_
      rw [← mask_none]
      refine x_istore_n C dX3_movesFrom_25 (by decide) [(2, _), (0, _), (1, _)] rfl ?_
      refine x_iconst C (v := nI 0) dX3_movesFrom_26 (by decide +kernel) ?_
      refine x_istore_n C dX3_movesFrom_27 (by decide) [(3, _), (2, _), (0, _), (1, _)] rfl ?_
      exact x_sub [2, 3, 1, 0] (L 25 0 (by omega) c19) rfl
    · refine x_iconst C (v := nI 0) dX3_movesFrom_22 (by decide +kernel) ?_
      exact x_iret E .int dX3_movesFrom_23 rfl rfl (by unfold movP; rw [if_neg (by rw [c19]; decide), mask_none]) rfl
set_option maxHeartbeats 4000000 in
set_option maxRecDepth 100000 in
theorem okX3_hasMove {h : qH} {k : Nat} {b : Nat → Nat} (hp : PosA h k b) (hb : ∀ i, b i < 8) {i j : Nat} (hi : i < 25) (hj : j < 25) : Ok MX3_hasMove [.ref k, .int (nI i), .int (nI j)] (h) (some (.int (qb (movP b i j)))) (h) := by
  refine ok_of (by decide +kernel) (Nat.zero_le _) (Nat.le_of_ble_eq_true rfl) ?_
  intro X C E
  show Ex X MX3_hasMove 0 [(0, .ref k), (1, .int (nI i)), (2, .int (nI j))] [] (h)
  obtain ⟨⟨f1, f2, f3, f4, h0⟩, h1⟩ := id hp
  refine x_iload_n C dX3_hasMove_0 rfl ?_
  refine x_callN1i C (okX5_isSquare _ _) lkX3_28 miX5_isSquare mtX5_isSquare maX5_isSquare ⟨Nat.le_of_ble_eq_true rfl, Nat.le_of_ble_eq_true rfl⟩ (Nat.le_of_ble_eq_true rfl) dX3_hasMove_1 ?_
  rw [isSq_nI (by omega), decide_eq_true hi]
  refine x_if_eqB C 30 dX3_hasMove_4 (by decide) (fun c4 => ?_) (fun c4 => ?_)
  · exact absurd c4 (by decide)
  · refine x_iload_n C dX3_hasMove_7 rfl ?_
    refine x_callN1i C (okX5_isSquare _ _) lkX3_28 miX5_isSquare mtX5_isSquare maX5_isSquare ⟨Nat.le_of_ble_eq_true rfl, Nat.le_of_ble_eq_true rfl⟩ (Nat.le_of_ble_eq_true rfl) dX3_hasMove_8 ?_
    rw [isSq_nI (by omega), decide_eq_true hj]
    refine x_if_eqB C 30 dX3_hasMove_11 (by decide) (fun c11 => ?_) (fun c11 => ?_)
    · exact absurd c11 (by decide)
    · refine x_aload_n C dX3_hasMove_14 rfl ?_
      refine x_iload_n C dX3_hasMove_15 rfl ?_
      refine x_callV1i C (okX3_movesFrom hp hb hi) lkX3_66 miX3_movesFrom msX3_movesFrom maX3_movesFrom ⟨Nat.le_of_ble_eq_true rfl, Nat.le_of_ble_eq_true rfl⟩ (Nat.le_of_ble_eq_true rfl) h0 rfl dX3_hasMove_16 ?_
      refine x_iload_n C dX3_hasMove_19 rfl ?_
      refine x_callN2i C (okX5_hasSquare _ hj _) lkX3_55 miX5_hasSquare mtX5_hasSquare maX5_hasSquare ⟨Nat.le_of_ble_eq_true rfl, Nat.le_of_ble_eq_true rfl⟩ (Nat.le_of_ble_eq_true rfl) dX3_hasMove_20 ?_
      refine x_if_eqB C 30 dX3_hasMove_23 (by decide) (fun c23 => ?_) (fun c23 => ?_)
      · refine x_iconst C (v := nI 0) dX3_hasMove_30 (by decide +kernel) ?_
        exact x_iret E .boolean dX3_hasMove_31 rfl rfl (by rw [c23]; rfl) rfl
      · refine x_iconst C (v := nI 1) dX3_hasMove_26 (by decide +kernel) ?_
        refine x_goto C 31 dX3_hasMove_27 (by decide) ?_
        exact x_iret E .boolean dX3_hasMove_31 rfl rfl (by rw [c23]; rfl) rfl
set_option maxHeartbeats 4000000 in
set_option maxRecDepth 100000 in
theorem okX3_hasMove_out {h : qH} {k : Nat} {b : Nat → Nat} (hp : PosA h k b) {x y : Int32} (hx : isSq x = false ∨ isSq y = false) : Ok MX3_hasMove [.ref k, .int x, .int y] (h) (some (.int (nI 0))) (h) := by
  refine ok_of (by decide +kernel) (Nat.zero_le _) (Nat.le_of_ble_eq_true rfl) ?_
  intro X C E
  show Ex X MX3_hasMove 0 [(0, .ref k), (1, .int x), (2, .int y)] [] (h)
  refine x_iload_n C dX3_hasMove_0 rfl ?_
  refine x_callN1i C (okX5_isSquare _ _) lkX3_28 miX5_isSquare mtX5_isSquare maX5_isSquare ⟨Nat.le_of_ble_eq_true rfl, Nat.le_of_ble_eq_true rfl⟩ (Nat.le_of_ble_eq_true rfl) dX3_hasMove_1 ?_
  refine x_if_eqB C 30 dX3_hasMove_4 (by decide) (fun c4 => ?_) (fun c4 => ?_)
  · refine x_iconst C (v := nI 0) dX3_hasMove_30 (by decide +kernel) ?_
    exact x_iret E .boolean dX3_hasMove_31 rfl rfl rfl rfl
  · refine x_iload_n C dX3_hasMove_7 rfl ?_
    refine x_callN1i C (okX5_isSquare _ _) lkX3_28 miX5_isSquare mtX5_isSquare maX5_isSquare ⟨Nat.le_of_ble_eq_true rfl, Nat.le_of_ble_eq_true rfl⟩ (Nat.le_of_ble_eq_true rfl) dX3_hasMove_8 ?_
    refine x_if_eqB C 30 dX3_hasMove_11 (by decide) (fun c11 => ?_) (fun c11 => ?_)
    · refine x_iconst C (v := nI 0) dX3_hasMove_30 (by decide +kernel) ?_
      exact x_iret E .boolean dX3_hasMove_31 rfl rfl rfl rfl
    · rcases hx with hx | hx
      · rw [c4] at hx; cases hx
      · rw [c11] at hx; cases hx
end
section
/-! a position, further: outlooks, what a move is, keys, copies -/
theorem isW_ne6 {m : Nat} (h : isW m = true) : ¬ m = 6 := by intro e; subst e; cases h
theorem mask_or0 (p : Nat → Bool) : mask p ||| nI 0 = mask p := by
  rw [← mask_none, mask_or]
  exact mask_congr (fun _ _ => by simp)
def escP (b : Nat → Nat) : Nat → Bool := match loc7 b 7 with
  | none => fun _ => false
  | some j => fun t => (reachP b j t && !stoR (up b j 0) 25 t) && !covR (up b j 0) 25 t
def chkP (b : Nat → Nat) : Bool := match loc7 b 7 with
  | none => false
  | some j => covR (up b j 0) 25 j
theorem up_lt {b : Nat → Nat} (hb : ∀ i, b i < 8) {k v : Nat} (hv : v < 8) : ∀ i, up b k v i < 8 := by
  intro i
  unfold up
  split
  · exact hv
  · exact hb i
set_option maxHeartbeats 4000000 in
set_option maxRecDepth 100000 in
theorem okX3_outlook {h : qH} {k : Nat} {b : Nat → Nat} (hp : PosA h k b) (hb : ∀ i, b i < 8) : Ok MX3_outlook [.ref k] (h) (some (.int (olk (escP b) (chkP b)))) (h) := by
  refine ok_of (by decide +kernel) (Nat.zero_le _) (Nat.le_of_ble_eq_true rfl) ?_
  intro X C E
  show Ex X MX3_outlook 0 [(0, .ref k)] [] (h)
  obtain ⟨⟨f1, f2, f3, f4, h0⟩, h1⟩ := id hp
  cases e : loc7 b 7 with
  | none =>
    refine x_aload_n C dX3_outlook_0 rfl ?_
    refine x_bipush C (v := nI 7) dX3_outlook_1 (by decide +kernel) ?_
    refine x_callV1i C (okX3_squareOf hp hb 7 (by decide)) lkX3_36 miX3_squareOf msX3_squareOf maX3_squareOf ⟨Nat.le_of_ble_eq_true rfl, Nat.le_of_ble_eq_true rfl⟩ (Nat.le_of_ble_eq_true rfl) h0 rfl dX3_outlook_3 ?_
    rw [e]
    refine x_istore_n C dX3_outlook_6 (by decide) [(1, _), (0, _)] rfl ?_
    refine x_iload_n C dX3_outlook_7 rfl ?_
    refine x_if_lt C 17 dX3_outlook_8 (by decide) (fun c8 => ?_) (fun c8 => ?_)
    · refine x_iconst C (v := nI 0) dX3_outlook_17 (by decide +kernel) ?_
      exact x_iret E .int dX3_outlook_18 rfl rfl (by unfold escP chkP; rw [e]; simp only [olk]; rw [if_neg (by decide), mask_none]) rfl
    · exact absurd (by decide : (-1 : Int32) < 0) c8
  | some j =>
    have hj := (loc7_some e).1
    have hj7 := (loc7_some e).2
    have he : escP b = fun t => (reachP b j t && !stoR (up b j 0) 25 t) && !covR (up b j 0) 25 t := by unfold escP; rw [e]
    have hc : chkP b = covR (up b j 0) 25 j := by unfold chkP; rw [e]
    have hback : up b j 7 = b := by rw [← hj7]; exact up_id b j
    have hp1 : PosA (h.set (k + 1) (qA (up b j 0))) k (up b j 0) := hp.set
    have hb1 := up_lt hb (k := j) (v := 0) (by decide)
    have L : ∀ n i : Nat, i + n = 25 → Ex X MX3_outlook 40 [(0, .ref k), (1, .int (nI j)), (2, .int (mask (reachP b j))), (3, .int (mask (stoR (up b j 0) i))), (4, .int (mask (covR (up b j 0) i))), (5, .int (nI i))] [] (h.set (k + 1) (qA (up b j 0))) := by
      intro n
      induction n with
      | zero =>
        intro i hin 
        have e : i = 25 := by omega
        subst e
        refine x_iload C dX3_outlook_40 rfl ?_
        refine x_bipush C (v := nI 25) dX3_outlook_42 (by decide +kernel) ?_
        refine x_icmp_geN C 99 dX3_outlook_44 (by decide) (by omega) (by omega) (fun c44 => ?_) (fun c44 => ?_)
        · refine x_aload_n C dX3_outlook_99 rfl ?_
          refine x_getfield C qk3 0 (by decide) lfX3_9 dX3_outlook_100 ((q_gso (by omega)).trans h0) rfl ?_
          refine x_iload_n C dX3_outlook_103 rfl ?_
          refine x_bipush C (v := nI 7) dX3_outlook_104 (by decide +kernel) ?_
          refine x_istb C dX3_outlook_106 (q_gss h1) (by omega) (by decide) ?_
          rw [List.set_set, up_up, hback, q_same h1]
          refine x_iload C dX3_outlook_107 rfl ?_
          refine x_iload_n C dX3_outlook_109 rfl ?_
          refine x_ishr C dX3_outlook_110 ?_
          refine x_iconst C (v := nI 1) dX3_outlook_111 (by decide +kernel) ?_
          refine x_iand C dX3_outlook_112 ?_
          rw [mask_bit _ hj]
          refine x_if_eqB C 121 dX3_outlook_113 (by decide) (fun c113 => ?_) (fun c113 => ?_)
          · refine x_iconst C (v := nI 0) dX3_outlook_121 (by decide +kernel) ?_
            refine x_istore C dX3_outlook_122 (by decide) [(5, _), (0, _), (1, _), (2, _), (3, _), (4, _)] rfl ?_
            refine x_iload_n C dX3_outlook_124 rfl ?_
            refine x_iload_n C dX3_outlook_125 rfl ?_
            refine x_iconst C (v := (-1)) dX3_outlook_126 (by decide +kernel) ?_
            refine x_ixor C dX3_outlook_127 ?_
            refine x_iand C dX3_outlook_128 ?_
            rw [mask_diff]
            refine x_iload C dX3_outlook_129 rfl ?_
            refine x_iconst C (v := (-1)) dX3_outlook_131 (by decide +kernel) ?_
            refine x_ixor C dX3_outlook_132 ?_
            refine x_iand C dX3_outlook_133 ?_
            rw [mask_diff]
            refine x_iload C dX3_outlook_134 rfl ?_
            refine x_ior C dX3_outlook_136 ?_
            exact x_iret E .int dX3_outlook_137 rfl rfl (by rw [he, hc, c113, mask_or0]; rfl) rfl
          · refine x_ldc C dX3_outlook_116 lcX3_69 ?_
            refine x_goto C 122 dX3_outlook_118 (by decide) ?_
            refine x_istore C dX3_outlook_122 (by decide) [(5, _), (0, _), (1, _), (2, _), (3, _), (4, _)] rfl ?_
            refine x_iload_n C dX3_outlook_124 rfl ?_
            refine x_iload_n C dX3_outlook_125 rfl ?_
            refine x_iconst C (v := (-1)) dX3_outlook_126 (by decide +kernel) ?_
            refine x_ixor C dX3_outlook_127 ?_
            refine x_iand C dX3_outlook_128 ?_
            rw [mask_diff]
            refine x_iload C dX3_outlook_129 rfl ?_
            refine x_iconst C (v := (-1)) dX3_outlook_131 (by decide +kernel) ?_
            refine x_ixor C dX3_outlook_132 ?_
            refine x_iand C dX3_outlook_133 ?_
            rw [mask_diff]
            refine x_iload C dX3_outlook_134 rfl ?_
            refine x_ior C dX3_outlook_136 ?_
            exact x_iret E .int dX3_outlook_137 rfl rfl (by rw [he, hc, c113]; rfl) rfl
        · exact absurd c44 (by omega)
      | succ n ih =>
        intro i hin 
        have hlt : i < 25 := by omega
        have hbi := hb1 i
        refine x_iload C dX3_outlook_40 rfl ?_
        refine x_bipush C (v := nI 25) dX3_outlook_42 (by decide +kernel) ?_
        refine x_icmp_geN C 99 dX3_outlook_44 (by decide) (by omega) (by omega) (fun c44 => ?_) (fun c44 => ?_)
        · exact absurd c44 (by omega)
        · refine x_aload_n C dX3_outlook_47 rfl ?_
          refine x_getfield C qk3 0 (by decide) lfX3_9 dX3_outlook_48 ((q_gso (by omega)).trans h0) rfl ?_
          refine x_iload C dX3_outlook_51 rfl ?_
          refine x_iald C dX3_outlook_53 (q_gss h1) (by omega) (by decide) ?_
          refine x_callN1i C (okX5_isWhite _ (by omega) _) lkX3_49 miX5_isWhite mtX5_isWhite maX5_isWhite ⟨Nat.le_of_ble_eq_true rfl, Nat.le_of_ble_eq_true rfl⟩ (Nat.le_of_ble_eq_true rfl) dX3_outlook_54 ?_
          refine x_if_eqB C 74 dX3_outlook_57 (by decide) (fun c57 => ?_) (fun c57 => ?_)
          · rw [show covR (up b j 0) i = covR (up b j 0) (i + 1) by simp only [covR, c57]; rfl]
            refine x_aload_n C dX3_outlook_74 rfl ?_
            refine x_getfield C qk3 0 (by decide) lfX3_9 dX3_outlook_75 ((q_gso (by omega)).trans h0) rfl ?_
            refine x_iload C dX3_outlook_78 rfl ?_
            refine x_iald C dX3_outlook_80 (q_gss h1) (by omega) (by decide) ?_
            refine x_bipush C (v := nI 6) dX3_outlook_81 (by decide +kernel) ?_
            refine x_icmp_neN C 93 dX3_outlook_83 (by decide) (by omega) (by omega) (fun c83 => ?_) (fun c83 => ?_)
            · rw [show stoR (up b j 0) i = stoR (up b j 0) (i + 1) by simp only [stoR, if_neg c83]]
              refine x_iinc C _ dX3_outlook_93 rfl (q_inc _) (by decide) [(5, _), (0, _), (1, _), (2, _), (3, _), (4, _)] rfl ?_
              refine x_goto C 40 dX3_outlook_96 (by decide) ?_
              exact x_sub [1, 2, 3, 4, 5, 0] (ih (i + 1) (by omega)) rfl
            · refine x_iload_n C dX3_outlook_86 rfl ?_
              refine x_iconst C (v := nI 1) dX3_outlook_87 (by decide +kernel) ?_
              refine x_iload C dX3_outlook_88 rfl ?_
              refine x_ishl C dX3_outlook_90 ?_
              rw [mask_one hlt]
              refine x_ior C dX3_outlook_91 ?_
              rw [mask_or, show (fun t => stoR (up b j 0) i t || one i t) = stoR (up b j 0) (i + 1) by simp only [stoR, if_pos c83]]
              refine x_istore_n C dX3_outlook_92 (by decide) [(3, _), (0, _), (1, _), (2, _), (4, _), (5, _)] rfl ?_
              refine x_iinc C _ dX3_outlook_93 rfl (q_inc _) (by decide) [(5, _), (3, _), (0, _), (1, _), (2, _), (4, _)] rfl ?_
              refine x_goto C 40 dX3_outlook_96 (by decide) ?_
              exact x_sub [2, 3, 4, 1, 5, 0] (ih (i + 1) (by omega)) rfl
          · refine x_iload C dX3_outlook_60 rfl ?_
            refine x_aload_n C dX3_outlook_62 rfl ?_
            refine x_iload C dX3_outlook_63 rfl ?_
            refine x_callV1i C (okX3_reach hp1 hb1 hlt) lkX3_52 miX3_reach msX3_reach maX3_reach ⟨Nat.le_of_ble_eq_true rfl, Nat.le_of_ble_eq_true rfl⟩ (Nat.le_of_ble_eq_true rfl) ((q_gso (by omega)).trans h0) rfl dX3_outlook_65 ?_
            refine x_ior C dX3_outlook_68 ?_
            rw [mask_or, show (fun t => covR (up b j 0) i t || reachP (up b j 0) i t) = covR (up b j 0) (i + 1) by simp only [covR, if_pos c57], show stoR (up b j 0) i = stoR (up b j 0) (i + 1) by simp only [stoR, if_neg (isW_ne6 c57)]]
            refine x_istore C dX3_outlook_69 (by decide) [(4, _), (0, _), (1, _), (2, _), (3, _), (5, _)] rfl ?_
            refine x_goto C 93 dX3_outlook_71 (by decide) ?_
            refine x_iinc C _ dX3_outlook_93 rfl (q_inc _) (by decide) [(5, _), (4, _), (0, _), (1, _), (2, _), (3, _)] rfl ?_
            refine x_goto C 40 dX3_outlook_96 (by decide) ?_
            exact x_sub [2, 3, 4, 5, 1, 0] (ih (i + 1) (by omega)) rfl
    refine x_aload_n C dX3_outlook_0 rfl ?_
    refine x_bipush C (v := nI 7) dX3_outlook_1 (by decide +kernel) ?_
    refine x_callV1i C (okX3_squareOf hp hb 7 (by decide)) lkX3_36 miX3_squareOf msX3_squareOf maX3_squareOf ⟨Nat.le_of_ble_eq_true rfl, Nat.le_of_ble_eq_true rfl⟩ (Nat.le_of_ble_eq_true rfl) h0 rfl dX3_outlook_3 ?_
    rw [e]
    show Ex X MX3_outlook 6 [(0, .ref k)] [.int (nI j)] h
    refine x_istore_n C dX3_outlook_6 (by decide) [(1, _), (0, _)] rfl ?_
    refine x_iload_n C dX3_outlook_7 rfl ?_
    refine x_if_ltN C 17 dX3_outlook_8 (by decide) (by omega) ?_
    refine x_iload_n C dX3_outlook_11 rfl ?_
    refine x_bipush C (v := nI 25) dX3_outlook_12 (by decide +kernel) ?_
    refine x_icmp_ltN C 19 dX3_outlook_14 (by decide) (by omega) (by omega) (fun c14 => ?_) (fun c14 => ?_)
    · refine x_aload_n C dX3_outlook_19 rfl ?_
      refine x_iload_n C dX3_outlook_20 rfl ?_
      refine x_callV1i C (okX3_reach hp hb hj) lkX3_52 miX3_reach msX3_reach maX3_reach ⟨Nat.le_of_ble_eq_true rfl, Nat.le_of_ble_eq_true rfl⟩ (Nat.le_of_ble_eq_true rfl) h0 rfl dX3_outlook_21 ?_
      refine x_istore_n C dX3_outlook_24 (by decide) [(2, _), (1, _), (0, _)] rfl ?_
      refine x_iconst C (v := nI 0) dX3_outlook_25 (by decide +kernel) ?_
      rw [← mask_none]
      refine x_istore_n C dX3_outlook_26 (by decide) [(3, _), (2, _), (1, _), (0, _)] rfl ?_
      refine x_iconst C (v := nI 0) dX3_outlook_27 (by decide +kernel) ?_
      rw [← mask_none]
      refine x_istore C dX3_outlook_28 (by decide) [(4, _), (3, _), (2, _), (1, _), (0, _)] rfl ?_
      refine x_aload_n C dX3_outlook_30 rfl ?_
      refine x_getfield C qk3 0 (by decide) lfX3_9 dX3_outlook_31 h0 rfl ?_
      refine x_iload_n C dX3_outlook_34 rfl ?_
      refine x_iconst C (v := nI 0) dX3_outlook_35 (by decide +kernel) ?_
      refine x_istb C dX3_outlook_36 h1 (by omega) (by decide) ?_
      refine x_iconst C (v := nI 0) dX3_outlook_37 (by decide +kernel) ?_
      refine x_istore C dX3_outlook_38 (by decide) [(5, _), (4, _), (3, _), (2, _), (1, _), (0, _)] rfl ?_
      exact x_sub [5, 4, 3, 2, 1, 0] (L 25 0 (by omega)) rfl
    · exact absurd hj c14
def aft (b : Nat → Nat) (f t : Nat) : Nat → Nat := up (up b f 0) t (b f)
theorem aft_back (b : Nat → Nat) (f t : Nat) : up (up (aft b f t) t (b t)) f (b f) = b := by
  unfold aft
  rw [up_up]
  funext i
  simp only [up]
  by_cases h1 : i = f
  · simp [h1]
  · by_cases h2 : i = t
    · subst h2; simp [h1]
    · simp [h1, h2]
set_option maxHeartbeats 4000000 in
set_option maxRecDepth 100000 in
theorem okX3_outlookBehind {h : qH} {k : Nat} {b : Nat → Nat} (hp : PosA h k b) (hb : ∀ i, b i < 8) {i j : Nat} (hi : i < 25) (hj : j < 25) : Ok MX3_outlookBehind [.ref k, .int (nI i), .int (nI j)] (h) (some (.int (olk (escP (aft b i j)) (chkP (aft b i j))))) (h) := by
  refine ok_of (by decide +kernel) (Nat.zero_le _) (Nat.le_of_ble_eq_true rfl) ?_
  intro X C E
  show Ex X MX3_outlookBehind 0 [(0, .ref k), (1, .int (nI i)), (2, .int (nI j))] [] (h)
  obtain ⟨⟨f1, f2, f3, f4, h0⟩, h1⟩ := id hp
  have hbi := hb i
  have hbj := hb j
  have hb1 := up_lt hb (k := i) (v := 0) (by decide)
  have hb2 : ∀ t, aft b i j t < 8 := up_lt hb1 hbi
  refine x_iload_n C dX3_outlookBehind_0 rfl ?_
  refine x_if_ltN C 20 dX3_outlookBehind_1 (by decide) (by omega) ?_
  refine x_iload_n C dX3_outlookBehind_4 rfl ?_
  refine x_bipush C (v := nI 25) dX3_outlookBehind_5 (by decide +kernel) ?_
  refine x_icmp_geN C 20 dX3_outlookBehind_7 (by decide) (by omega) (by omega) (fun c7 => ?_) (fun c7 => ?_)
  · exact absurd c7 (by omega)
  · refine x_iload_n C dX3_outlookBehind_10 rfl ?_
    refine x_if_ltN C 20 dX3_outlookBehind_11 (by decide) (by omega) ?_
    refine x_iload_n C dX3_outlookBehind_14 rfl ?_
    refine x_bipush C (v := nI 25) dX3_outlookBehind_15 (by decide +kernel) ?_
    refine x_icmp_ltN C 22 dX3_outlookBehind_17 (by decide) (by omega) (by omega) (fun c17 => ?_) (fun c17 => ?_)
    · refine x_aload_n C dX3_outlookBehind_22 rfl ?_
      refine x_getfield C qk3 0 (by decide) lfX3_9 dX3_outlookBehind_23 h0 rfl ?_
      refine x_iload_n C dX3_outlookBehind_26 rfl ?_
      refine x_iald C dX3_outlookBehind_27 h1 (by omega) (by decide) ?_
      refine x_istore_n C dX3_outlookBehind_28 (by decide) [(3, _), (0, _), (1, _), (2, _)] rfl ?_
      refine x_aload_n C dX3_outlookBehind_29 rfl ?_
      refine x_getfield C qk3 0 (by decide) lfX3_9 dX3_outlookBehind_30 h0 rfl ?_
      refine x_iload_n C dX3_outlookBehind_33 rfl ?_
      refine x_iald C dX3_outlookBehind_34 h1 (by omega) (by decide) ?_
      refine x_istore C dX3_outlookBehind_35 (by decide) [(4, _), (3, _), (0, _), (1, _), (2, _)] rfl ?_
      refine x_aload_n C dX3_outlookBehind_37 rfl ?_
      refine x_getfield C qk3 0 (by decide) lfX3_9 dX3_outlookBehind_38 h0 rfl ?_
      refine x_iload_n C dX3_outlookBehind_41 rfl ?_
      refine x_iconst C (v := nI 0) dX3_outlookBehind_42 (by decide +kernel) ?_
      refine x_istb C dX3_outlookBehind_43 h1 (by omega) (by decide) ?_
      refine x_aload_n C dX3_outlookBehind_44 rfl ?_
      refine x_getfield C qk3 0 (by decide) lfX3_9 dX3_outlookBehind_45 ((q_gso (by omega)).trans h0) rfl ?_
      refine x_iload_n C dX3_outlookBehind_48 rfl ?_
      refine x_iload_n C dX3_outlookBehind_49 rfl ?_
      refine x_istb C dX3_outlookBehind_50 (q_gss h1) (by omega) (by decide) ?_
      refine x_aload_n C dX3_outlookBehind_51 rfl ?_
      refine x_callV0i C (okX3_outlook (b := aft b i j) (PosA.set (PosA.set hp)) hb2) lkX3_70 miX3_outlook msX3_outlook maX3_outlook ⟨Nat.le_of_ble_eq_true rfl, Nat.le_of_ble_eq_true rfl⟩ (Nat.le_of_ble_eq_true rfl) ((q_gso (by omega)).trans ((q_gso (by omega)).trans h0)) rfl dX3_outlookBehind_52 ?_
      refine x_istore C dX3_outlookBehind_55 (by decide) [(5, _), (4, _), (3, _), (0, _), (1, _), (2, _)] rfl ?_
      refine x_aload_n C dX3_outlookBehind_57 rfl ?_
      refine x_getfield C qk3 0 (by decide) lfX3_9 dX3_outlookBehind_58 ((q_gso (by omega)).trans ((q_gso (by omega)).trans h0)) rfl ?_
      refine x_iload_n C dX3_outlookBehind_61 rfl ?_
      refine x_iload C dX3_outlookBehind_62 rfl ?_
      refine x_istb C dX3_outlookBehind_64 (q_gss (q_gss h1)) (by omega) (by decide) ?_
      refine x_aload_n C dX3_outlookBehind_65 rfl ?_
      refine x_getfield C qk3 0 (by decide) lfX3_9 dX3_outlookBehind_66 ((q_gso (by omega)).trans ((q_gso (by omega)).trans ((q_gso (by omega)).trans h0))) rfl ?_
      refine x_iload_n C dX3_outlookBehind_69 rfl ?_
      refine x_iload_n C dX3_outlookBehind_70 rfl ?_
      refine x_istb C dX3_outlookBehind_71 (q_gss (q_gss (q_gss h1))) (by omega) (by decide) ?_
      rw [List.set_set, List.set_set, List.set_set]
      rw [show up (up (up (up b i 0) j (b i)) j (b j)) i (b i) = b from aft_back b i j, q_same h1]
      refine x_iload C dX3_outlookBehind_72 rfl ?_
      exact x_iret E .int dX3_outlookBehind_74 rfl rfl rfl rfl
    · exact absurd c17 (by omega)
def nob (p : Nat → Bool) : Bool := decide (∀ t : Fin 25, p t = false)
theorem nob_iff {p : Nat → Bool} : nob p = true ↔ ∀ t, t < 25 → p t = false := by
  unfold nob
  rw [decide_eq_true_iff]
  exact ⟨fun h t ht => h ⟨t, ht⟩, fun h t => h t t.2⟩
theorem mask_z {p : Nat → Bool} : mask p = 0 ↔ nob p = true := by
  rw [nob_iff]
  exact mask_0
def kindB (b : Nat → Nat) : Nat := if chkP b = true then (if nob (escP b) = true then 3 else 2) else (if nob (escP b) = true then 1 else 0)
theorem kindB_le (b : Nat → Nat) : kindB b ≤ 3 := by unfold kindB; (repeat' split) <;> omega
theorem chk_0 {c : Bool} : (if c = true then nI 33554432 else nI 0) = 0 ↔ c = false := by cases c <;> decide +kernel
set_option maxHeartbeats 4000000 in
set_option maxRecDepth 100000 in
theorem okX3_kindOfMove {h : qH} {k : Nat} {b : Nat → Nat} (hp : PosA h k b) (hb : ∀ i, b i < 8) {i j : Nat} (hi : i < 25) (hj : j < 25) : Ok MX3_kindOfMove [.ref k, .int (nI i), .int (nI j)] (h) (some (.int (nI (kindB (aft b i j))))) (h) := by
  refine ok_of (by decide +kernel) (Nat.zero_le _) (Nat.le_of_ble_eq_true rfl) ?_
  intro X C E
  show Ex X MX3_kindOfMove 0 [(0, .ref k), (1, .int (nI i)), (2, .int (nI j))] [] (h)
  obtain ⟨⟨f1, f2, f3, f4, h0⟩, h1⟩ := id hp
  refine x_aload_n C dX3_kindOfMove_0 rfl ?_
  refine x_iload_n C dX3_kindOfMove_1 rfl ?_
  refine x_iload_n C dX3_kindOfMove_2 rfl ?_
  refine x_callV2i C (okX3_outlookBehind hp hb hi hj) lkX3_74 miX3_outlookBehind msX3_outlookBehind maX3_outlookBehind ⟨Nat.le_of_ble_eq_true rfl, Nat.le_of_ble_eq_true rfl⟩ (Nat.le_of_ble_eq_true rfl) h0 rfl dX3_kindOfMove_3 ?_
  refine x_istore_n C dX3_kindOfMove_6 (by decide) [(3, _), (0, _), (1, _), (2, _)] rfl ?_
  refine x_iload_n C dX3_kindOfMove_7 rfl ?_
  refine x_ldc C dX3_kindOfMove_8 lcX3_69 ?_
  refine x_iand C dX3_kindOfMove_10 ?_
  rw [show (33554432 : Int32) = nI 33554432 from rfl, olk_chk]
  refine x_if_eq C 18 dX3_kindOfMove_11 (by decide) (fun c11 => ?_) (fun c11 => ?_)
  · have g11 := chk_0.mp c11
    refine x_iconst C (v := nI 0) dX3_kindOfMove_18 (by decide +kernel) ?_
    refine x_istore C dX3_kindOfMove_19 (by decide) [(4, _), (3, _), (0, _), (1, _), (2, _)] rfl ?_
    refine x_iload_n C dX3_kindOfMove_21 rfl ?_
    refine x_callN1i C (okX5_squaresIn _ _ _) lkX3_77 miX5_squaresIn mtX5_squaresIn maX5_squaresIn ⟨Nat.le_of_ble_eq_true rfl, Nat.le_of_ble_eq_true rfl⟩ (Nat.le_of_ble_eq_true rfl) dX3_kindOfMove_22 ?_
    refine x_if_eq C 32 dX3_kindOfMove_25 (by decide) (fun c25 => ?_) (fun c25 => ?_)
    · have g25 := mask_z.mp c25
      refine x_iconst C (v := nI 0) dX3_kindOfMove_32 (by decide +kernel) ?_
      refine x_istore C dX3_kindOfMove_33 (by decide) [(5, _), (4, _), (3, _), (0, _), (1, _), (2, _)] rfl ?_
      refine x_iload C dX3_kindOfMove_35 rfl ?_
      refine x_if_eqN C 51 dX3_kindOfMove_37 (by decide) (by omega) (fun c37 => ?_) (fun c37 => ?_)
      · refine x_iload C dX3_kindOfMove_51 rfl ?_
        refine x_if_eqN C 60 dX3_kindOfMove_53 (by decide) (by omega) (fun c53 => ?_) (fun c53 => ?_)
        · refine x_iconst C (v := nI 1) dX3_kindOfMove_60 (by decide +kernel) ?_
          exact x_iret E .int dX3_kindOfMove_61 rfl rfl (by unfold kindB; rw [if_neg (by rw [g11]; decide), if_pos (by rw [g25])]) rfl
        · exact absurd rfl c53
      · exact absurd rfl c37
    · have g25 : nob (escP (aft b i j)) = false := by cases hq : nob (escP (aft b i j)); rfl; exact absurd (mask_z.mpr hq) c25
      refine x_iconst C (v := nI 1) dX3_kindOfMove_28 (by decide +kernel) ?_
      refine x_goto C 33 dX3_kindOfMove_29 (by decide) ?_
      refine x_istore C dX3_kindOfMove_33 (by decide) [(5, _), (4, _), (3, _), (0, _), (1, _), (2, _)] rfl ?_
      refine x_iload C dX3_kindOfMove_35 rfl ?_
      refine x_if_eqN C 51 dX3_kindOfMove_37 (by decide) (by omega) (fun c37 => ?_) (fun c37 => ?_)
      · refine x_iload C dX3_kindOfMove_51 rfl ?_
        refine x_if_eqN C 60 dX3_kindOfMove_53 (by decide) (by omega) (fun c53 => ?_) (fun c53 => ?_)
        · exact absurd c53 (by decide)
        · refine x_iconst C (v := nI 0) dX3_kindOfMove_56 (by decide +kernel) ?_
          refine x_goto C 61 dX3_kindOfMove_57 (by decide) ?_
          exact x_iret E .int dX3_kindOfMove_61 rfl rfl (by unfold kindB; rw [if_neg (by rw [g11]; decide), if_neg (by rw [g25]; decide)]) rfl
      · exact absurd rfl c37
  · have g11 : chkP (aft b i j) = true := by cases hq : chkP (aft b i j); exact absurd (chk_0.mpr hq) c11; rfl
    refine x_iconst C (v := nI 1) dX3_kindOfMove_14 (by decide +kernel) ?_
    refine x_goto C 19 dX3_kindOfMove_15 (by decide) ?_
    refine x_istore C dX3_kindOfMove_19 (by decide) [(4, _), (3, _), (0, _), (1, _), (2, _)] rfl ?_
    refine x_iload_n C dX3_kindOfMove_21 rfl ?_
    refine x_callN1i C (okX5_squaresIn _ _ _) lkX3_77 miX5_squaresIn mtX5_squaresIn maX5_squaresIn ⟨Nat.le_of_ble_eq_true rfl, Nat.le_of_ble_eq_true rfl⟩ (Nat.le_of_ble_eq_true rfl) dX3_kindOfMove_22 ?_
    refine x_if_eq C 32 dX3_kindOfMove_25 (by decide) (fun c25 => ?_) (fun c25 => ?_)
    · have g25 := mask_z.mp c25
      refine x_iconst C (v := nI 0) dX3_kindOfMove_32 (by decide +kernel) ?_
      refine x_istore C dX3_kindOfMove_33 (by decide) [(5, _), (4, _), (3, _), (0, _), (1, _), (2, _)] rfl ?_
      refine x_iload C dX3_kindOfMove_35 rfl ?_
      refine x_if_eqN C 51 dX3_kindOfMove_37 (by decide) (by omega) (fun c37 => ?_) (fun c37 => ?_)
      · exact absurd c37 (by decide)
      · refine x_iload C dX3_kindOfMove_40 rfl ?_
        refine x_if_eqN C 49 dX3_kindOfMove_42 (by decide) (by omega) (fun c42 => ?_) (fun c42 => ?_)
        · refine x_iconst C (v := nI 3) dX3_kindOfMove_49 (by decide +kernel) ?_
          exact x_iret E .int dX3_kindOfMove_50 rfl rfl (by unfold kindB; rw [if_pos (by rw [g11]), if_pos (by rw [g25])]) rfl
        · exact absurd rfl c42
    · have g25 : nob (escP (aft b i j)) = false := by cases hq : nob (escP (aft b i j)); rfl; exact absurd (mask_z.mpr hq) c25
      refine x_iconst C (v := nI 1) dX3_kindOfMove_28 (by decide +kernel) ?_
      refine x_goto C 33 dX3_kindOfMove_29 (by decide) ?_
      refine x_istore C dX3_kindOfMove_33 (by decide) [(5, _), (4, _), (3, _), (0, _), (1, _), (2, _)] rfl ?_
      refine x_iload C dX3_kindOfMove_35 rfl ?_
      refine x_if_eqN C 51 dX3_kindOfMove_37 (by decide) (by omega) (fun c37 => ?_) (fun c37 => ?_)
      · exact absurd c37 (by decide)
      · refine x_iload C dX3_kindOfMove_40 rfl ?_
        refine x_if_eqN C 49 dX3_kindOfMove_42 (by decide) (by omega) (fun c42 => ?_) (fun c42 => ?_)
        · exact absurd c42 (by decide)
        · refine x_iconst C (v := nI 2) dX3_kindOfMove_45 (by decide +kernel) ?_
          refine x_goto C 50 dX3_kindOfMove_46 (by decide) ?_
          exact x_iret E .int dX3_kindOfMove_50 rfl rfl (by unfold kindB; rw [if_pos (by rw [g11]), if_neg (by rw [g25]; decide)]) rfl
def isKey (b : Nat → Nat) (i t : Nat) : Bool := chkP (aft b i t) && nob (escP (aft b i t))
theorem olk_key (b : Nat → Nat) : olk (escP b) (chkP b) = 33554432 ↔ (chkP b && nob (escP b)) = true := by
  rw [Bool.and_eq_true, nob_iff]
  exact olk_eq _ _
def keyR (b : Nat → Nat) (i : Nat) : Nat → (Nat → Bool)
  | 0 => fun _ => false
  | n + 1 => if movP b i n = true ∧ isKey b i n = true then fun t => keyR b i n t || one n t else keyR b i n
def keyP (b : Nat → Nat) (i : Nat) : Nat → Bool := keyR b i 25
set_option maxHeartbeats 4000000 in
set_option maxRecDepth 100000 in
theorem okX3_keysFrom {h : qH} {k : Nat} {b : Nat → Nat} (hp : PosA h k b) (hb : ∀ i, b i < 8) {i : Nat} (hi : i < 25) : Ok MX3_keysFrom [.ref k, .int (nI i)] (h) (some (.int (mask (keyP b i)))) (h) := by
  refine ok_of (by decide +kernel) (Nat.zero_le _) (Nat.le_of_ble_eq_true rfl) ?_
  intro X C E
  show Ex X MX3_keysFrom 0 [(0, .ref k), (1, .int (nI i))] [] (h)
  obtain ⟨⟨f1, f2, f3, f4, h0⟩, h1⟩ := id hp
  have L : ∀ n j : Nat, j + n = 25 → Ex X MX3_keysFrom 11 [(0, .ref k), (1, .int (nI i)), (2, .int (mask (movP b i))), (3, .int (mask (keyR b i j))), (4, .int (nI j))] [] (h) := by
    intro n
    induction n with
    | zero =>
      intro j hin 
      have e : j = 25 := by omega
      subst e
      refine x_iload C dX3_keysFrom_11 rfl ?_
      refine x_bipush C (v := nI 25) dX3_keysFrom_13 (by decide +kernel) ?_
      refine x_icmp_geN C 52 dX3_keysFrom_15 (by decide) (by omega) (by omega) (fun c15 => ?_) (fun c15 => ?_)
      · refine x_iload_n C dX3_keysFrom_52 rfl ?_
        exact x_iret E .int dX3_keysFrom_53 rfl rfl rfl rfl
      · exact absurd c15 (by omega)
    | succ n ih =>
      intro j hin 
      have hlt : j < 25 := by omega
      refine x_iload C dX3_keysFrom_11 rfl ?_
      refine x_bipush C (v := nI 25) dX3_keysFrom_13 (by decide +kernel) ?_
      refine x_icmp_geN C 52 dX3_keysFrom_15 (by decide) (by omega) (by omega) (fun c15 => ?_) (fun c15 => ?_)
      · exact absurd c15 (by omega)
      · refine x_iload_n C dX3_keysFrom_18 rfl ?_
        refine x_iload C dX3_keysFrom_19 rfl ?_
        refine x_ishr C dX3_keysFrom_21 ?_
        refine x_iconst C (v := nI 1) dX3_keysFrom_22 (by decide +kernel) ?_
        refine x_iand C dX3_keysFrom_23 ?_
        rw [mask_bit _ hlt]
        refine x_if_eqB C 46 dX3_keysFrom_24 (by decide) (fun c24 => ?_) (fun c24 => ?_)
        · rw [show keyR b i j = keyR b i (j + 1) by simp only [keyR]; rw [if_neg (fun q => by rw [c24] at q; cases q.1)]]
          refine x_iinc C _ dX3_keysFrom_46 rfl (q_inc _) (by decide) [(4, _), (0, _), (1, _), (2, _), (3, _)] rfl ?_
          refine x_goto C 11 dX3_keysFrom_49 (by decide) ?_
          exact x_sub [1, 2, 3, 4, 0] (ih (j + 1) (by omega)) rfl
        · refine x_aload_n C dX3_keysFrom_27 rfl ?_
          refine x_iload_n C dX3_keysFrom_28 rfl ?_
          refine x_iload C dX3_keysFrom_29 rfl ?_
          refine x_callV2i C (okX3_outlookBehind hp hb hi hlt) lkX3_74 miX3_outlookBehind msX3_outlookBehind maX3_outlookBehind ⟨Nat.le_of_ble_eq_true rfl, Nat.le_of_ble_eq_true rfl⟩ (Nat.le_of_ble_eq_true rfl) h0 rfl dX3_keysFrom_31 ?_
          refine x_ldc C dX3_keysFrom_34 lcX3_69 ?_
          refine x_icmp_ne C 46 dX3_keysFrom_36 (by decide) (fun c36 => ?_) (fun c36 => ?_)
          · rw [show keyR b i j = keyR b i (j + 1) by simp only [keyR]; rw [if_neg (fun q => c36 ((olk_key _).mpr q.2))]]
            refine x_iinc C _ dX3_keysFrom_46 rfl (q_inc _) (by decide) [(4, _), (0, _), (1, _), (2, _), (3, _)] rfl ?_
            refine x_goto C 11 dX3_keysFrom_49 (by decide) ?_
            exact x_sub [1, 2, 3, 4, 0] (ih (j + 1) (by omega)) rfl
          · refine x_iload_n C dX3_keysFrom_39 rfl ?_
            refine x_iconst C (v := nI 1) dX3_keysFrom_40 (by decide +kernel) ?_
            refine x_iload C dX3_keysFrom_41 rfl ?_
            refine x_ishl C dX3_keysFrom_43 ?_
            rw [mask_one hlt]
            refine x_ior C dX3_keysFrom_44 ?_
            rw [mask_or, show (fun t => keyR b i j t || one j t) = keyR b i (j + 1) by simp only [keyR]; rw [if_pos ⟨c24, (olk_key _).mp c36⟩]]
            refine x_istore_n C dX3_keysFrom_45 (by decide) [(3, _), (0, _), (1, _), (2, _), (4, _)] rfl ?_
            refine x_iinc C _ dX3_keysFrom_46 rfl (q_inc _) (by decide) [(4, _), (3, _), (0, _), (1, _), (2, _)] rfl ?_
            refine x_goto C 11 dX3_keysFrom_49 (by decide) ?_
            exact x_sub [2, 3, 4, 1, 0] (ih (j + 1) (by omega)) rfl
  refine x_aload_n C dX3_keysFrom_0 rfl ?_
  refine x_iload_n C dX3_keysFrom_1 rfl ?_
  refine x_callV1i C (okX3_movesFrom hp hb hi) lkX3_66 miX3_movesFrom msX3_movesFrom maX3_movesFrom ⟨Nat.le_of_ble_eq_true rfl, Nat.le_of_ble_eq_true rfl⟩ (Nat.le_of_ble_eq_true rfl) h0 rfl dX3_keysFrom_2 ?_
  refine x_istore_n C dX3_keysFrom_5 (by decide) [(2, _), (0, _), (1, _)] rfl ?_
  refine x_iconst C (v := nI 0) dX3_keysFrom_6 (by decide +kernel) ?_
  rw [← mask_none]
  refine x_istore_n C dX3_keysFrom_7 (by decide) [(3, _), (2, _), (0, _), (1, _)] rfl ?_
  refine x_iconst C (v := nI 0) dX3_keysFrom_8 (by decide +kernel) ?_
  refine x_istore C dX3_keysFrom_9 (by decide) [(4, _), (3, _), (2, _), (0, _), (1, _)] rfl ?_
  exact x_sub [3, 4, 2, 1, 0] (L 25 0 (by omega)) rfl
abbrev qP : Type := (Nat → Nat) × Nat × Nat × Nat × Nat
abbrev qO (k : Nat) (P : qP) : qE := .inr (3, [.ref (k + 1), .int (nI P.2.1), .int (nI P.2.2.1), .int (nI P.2.2.2.1), .int (nI P.2.2.2.2)])
/-- at k stands the position P -/
def PosF (h : qH) (k : Nat) (P : qP) : Prop := h[k]? = some (qO k P) ∧ h[k + 1]? = some (qA P.1)
theorem PosF.a {h : qH} {k : Nat} {P : qP} (p : PosF h k P) : PosA h k P.1 := ⟨⟨_, _, _, _, p.1⟩, p.2⟩
/-- off the board there is nothing -/
def Bd (b : Nat → Nat) : Prop := (∀ i, b i < 8) ∧ ∀ i, 25 ≤ i → b i = 0
theorem Bd.up {b : Nat → Nat} (h : Bd b) {k v : Nat} (hk : k < 25) (hv : v < 8) : Bd (up b k v) := ⟨up_lt h.1 hv, fun i hi => by rw [up_ne _ (by omega)]; exact h.2 i hi⟩
def setP (h : qH) (k : Nat) (P : qP) : qH := (h.set (k + 1) (qA P.1)).set k (qO k P)
def cpy (g b : Nat → Nat) (n : Nat) : Nat → Nat := fun i => if i < n then g i else b i
theorem cpy_0 (g b : Nat → Nat) : cpy g b 0 = b := by funext i; simp [cpy]
theorem cpy_s (g b : Nat → Nat) (n : Nat) : up (cpy g b n) n (g n) = cpy g b (n + 1) := by
  funext i
  by_cases h : i = n
  · subst h; simp [up, cpy]
  · by_cases h2 : i < n
    · have : i < n + 1 := by omega
      simp [up, cpy, h, h2, this]
    · have : ¬ i < n + 1 := by omega
      simp [up, cpy, h, h2, this]
theorem cpy_25 {g b : Nat → Nat} (hg : Bd g) (hb : Bd b) : cpy g b 25 = g := by
  funext i
  by_cases h : i < 25
  · simp [cpy, h]
  · simp [cpy, h, hg.2 i (by omega), hb.2 i (by omega)]
set_option maxHeartbeats 4000000 in
set_option maxRecDepth 100000 in
theorem okX3_copyFrom {h : qH} {k m : Nat} {P P2 : qP} (hp : PosF h k P) (hq : PosF h m P2) (hb1 : Bd P.1) (hb2 : Bd P2.1) (hkm : k ≠ m) (hk1 : k + 1 ≠ m) (hk2 : k ≠ m + 1) : Ok MX3_copyFrom [.ref k, .ref m] (h) (none) (setP h k P2) := by
  refine ok_of (by decide +kernel) (Nat.zero_le _) (Nat.le_of_ble_eq_true rfl) ?_
  intro X C E
  show Ex X MX3_copyFrom 0 [(0, .ref k), (1, .ref m)] [] (h)
  obtain ⟨h0, h1⟩ := hp
  obtain ⟨m0, m1⟩ := hq
  have L : ∀ n i : Nat, i + n = 25 → Ex X MX3_copyFrom 2 [(0, .ref k), (1, .ref m), (2, .int (nI i))] [] (h.set (k + 1) (qA (cpy P2.1 P.1 i))) := by
    intro n
    induction n with
    | zero =>
      intro i hin 
      have e : i = 25 := by omega
      subst e
      refine x_iload_n C dX3_copyFrom_2 rfl ?_
      refine x_bipush C (v := nI 25) dX3_copyFrom_3 (by decide +kernel) ?_
      refine x_icmp_geN C 26 dX3_copyFrom_5 (by decide) (by omega) (by omega) (fun c5 => ?_) (fun c5 => ?_)
      · refine x_aload_n C dX3_copyFrom_26 rfl ?_
        refine x_aload_n C dX3_copyFrom_27 rfl ?_
        refine x_getfield C qk3 1 (by decide) lfX3_15 dX3_copyFrom_28 ((q_gso (by omega)).trans m0) rfl ?_
        refine x_putfield C qk3 1 (by decide) lfX3_15 rfl (ty0 := .int) (by decide +kernel) rfl rfl dX3_copyFrom_31 ((q_gso (by omega)).trans h0) (Nat.le_of_ble_eq_true rfl) ?_
        refine x_aload_n C dX3_copyFrom_34 rfl ?_
        refine x_aload_n C dX3_copyFrom_35 rfl ?_
        refine x_getfield C qk3 2 (by decide) lfX3_19 dX3_copyFrom_36 ((q_gso hkm).trans ((q_gso (by omega)).trans m0)) rfl ?_
        refine x_putfield C qk3 2 (by decide) lfX3_19 rfl (ty0 := .int) (by decide +kernel) rfl rfl dX3_copyFrom_39 (q_gss ((q_gso (by omega)).trans h0)) (Nat.le_of_ble_eq_true rfl) ?_
        refine x_aload_n C dX3_copyFrom_42 rfl ?_
        refine x_aload_n C dX3_copyFrom_43 rfl ?_
        refine x_getfield C qk3 3 (by decide) lfX3_22 dX3_copyFrom_44 ((q_gso hkm).trans ((q_gso hkm).trans ((q_gso (by omega)).trans m0))) rfl ?_
        refine x_putfield C qk3 3 (by decide) lfX3_22 rfl (ty0 := .int) (by decide +kernel) rfl rfl dX3_copyFrom_47 (q_gss (q_gss ((q_gso (by omega)).trans h0))) (Nat.le_of_ble_eq_true rfl) ?_
        refine x_aload_n C dX3_copyFrom_50 rfl ?_
        refine x_aload_n C dX3_copyFrom_51 rfl ?_
        refine x_getfield C qk3 4 (by decide) lfX3_25 dX3_copyFrom_52 ((q_gso hkm).trans ((q_gso hkm).trans ((q_gso hkm).trans ((q_gso (by omega)).trans m0)))) rfl ?_
        refine x_putfield C qk3 4 (by decide) lfX3_25 rfl (ty0 := .int) (by decide +kernel) rfl rfl dX3_copyFrom_55 (q_gss (q_gss (q_gss ((q_gso (by omega)).trans h0)))) (Nat.le_of_ble_eq_true rfl) ?_
        exact x_vret E dX3_copyFrom_58 rfl rfl (by rw [List.set_set, List.set_set, List.set_set, cpy_25 hb2 hb1]; rfl)
      · exact absurd c5 (by omega)
    | succ n ih =>
      intro i hin 
      have hlt : i < 25 := by omega
      refine x_iload_n C dX3_copyFrom_2 rfl ?_
      refine x_bipush C (v := nI 25) dX3_copyFrom_3 (by decide +kernel) ?_
      refine x_icmp_geN C 26 dX3_copyFrom_5 (by decide) (by omega) (by omega) (fun c5 => ?_) (fun c5 => ?_)
      · exact absurd c5 (by omega)
      · refine x_aload_n C dX3_copyFrom_8 rfl ?_
        refine x_getfield C qk3 0 (by decide) lfX3_9 dX3_copyFrom_9 ((q_gso (by omega)).trans h0) rfl ?_
        refine x_iload_n C dX3_copyFrom_12 rfl ?_
        refine x_aload_n C dX3_copyFrom_13 rfl ?_
        refine x_getfield C qk3 0 (by decide) lfX3_9 dX3_copyFrom_14 ((q_gso (by omega)).trans m0) rfl ?_
        refine x_iload_n C dX3_copyFrom_17 rfl ?_
        refine x_iald C dX3_copyFrom_18 ((q_gso (by omega)).trans m1) (by omega) (by decide) ?_
        refine x_istb C dX3_copyFrom_19 (q_gss h1) (by omega) (by decide) ?_
        rw [List.set_set, cpy_s]
        refine x_iinc C _ dX3_copyFrom_20 rfl (q_inc _) (by decide) [(2, _), (0, _), (1, _)] rfl ?_
        refine x_goto C 2 dX3_copyFrom_23 (by decide) ?_
        exact x_sub [1, 2, 0] (ih (i + 1) (by omega)) rfl
  refine x_iconst C (v := nI 0) dX3_copyFrom_0 (by decide +kernel) ?_
  refine x_istore_n C dX3_copyFrom_1 (by decide) [(2, _), (0, _), (1, _)] rfl ?_
  have L0 := L 25 0 (by omega)
  rw [cpy_0, q_same h1] at L0
  exact x_sub [1, 2, 0] L0 rfl
end
section
/-! tables of moves, the history -/
theorem PosA.off {h : qH} {m j : Nat} {b : Nat → Nat} {x : qE} (p : PosA h m b) (h1 : j ≠ m) (h2 : j ≠ m + 1) : PosA (h.set j x) m b := by
  obtain ⟨⟨f1, f2, f3, f4, h0⟩, h3⟩ := p
  exact ⟨⟨f1, f2, f3, f4, (q_gso h1).trans h0⟩, (q_gso h2).trans h3⟩
theorem PosF.off {h : qH} {m j : Nat} {P : qP} {x : qE} (p : PosF h m P) (h1 : j ≠ m) (h2 : j ≠ m + 1) : PosF (h.set j x) m P := ⟨(q_gso h1).trans p.1, (q_gso h2).trans p.2⟩
def TabA (h : qH) (k : Nat) (T : Nat → Int32) : Prop := h[k]? = some (.inr (2, [.ref (k + 1)])) ∧ h[k + 1]? = some (.inl (0, 25, .inl T))
def fil (g T : Nat → Int32) (n : Nat) : Nat → Int32 := fun i => if i < n then g i else T i
theorem fil_0 (g T : Nat → Int32) : fil g T 0 = T := by funext i; simp [fil]
theorem fil_s (g T : Nat → Int32) (n : Nat) : upd (fil g T n) n (g n) = fil g T (n + 1) := by
  funext i
  by_cases h : i = n
  · subst h; simp [upd, fil]
  · by_cases h2 : i < n
    · have : i < n + 1 := by omega
      simp [upd, fil, h, h2, this]
    · have : ¬ i < n + 1 := by omega
      simp [upd, fil, h, h2, this]
set_option maxHeartbeats 4000000 in
set_option maxRecDepth 100000 in
theorem okX2_fillWithMoves {h : qH} {k m : Nat} {T : Nat → Int32} {b : Nat → Nat} (ht : TabA h k T) (hp : PosA h m b) (hb : ∀ i, b i < 8) (hk1 : k + 1 ≠ m) (hk2 : k + 1 ≠ m + 1) : Ok MX2_fillWithMoves [.ref k, .ref m] (h) (none) (h.set (k + 1) (.inl (0, 25, .inl (fil (fun i => mask (movP b i)) T 25)))) := by
  refine ok_of (by decide +kernel) (Nat.zero_le _) (Nat.le_of_ble_eq_true rfl) ?_
  intro X C E
  show Ex X MX2_fillWithMoves 0 [(0, .ref k), (1, .ref m)] [] (h)
  obtain ⟨h0, h1⟩ := ht
  have L : ∀ n i : Nat, i + n = 25 → Ex X MX2_fillWithMoves 2 [(0, .ref k), (1, .ref m), (2, .int (nI i))] [] (h.set (k + 1) (.inl (0, 25, .inl (fil (fun i => mask (movP b i)) T i)))) := by
    intro n
    induction n with
    | zero =>
      intro i hin 
      have e : i = 25 := by omega
      subst e
      refine x_iload_n C dX2_fillWithMoves_2 rfl ?_
      refine x_bipush C (v := nI 25) dX2_fillWithMoves_3 (by decide +kernel) ?_
      refine x_icmp_geN C 25 dX2_fillWithMoves_5 (by decide) (by omega) (by omega) (fun c5 => ?_) (fun c5 => ?_)
      · exact x_vret E dX2_fillWithMoves_25 rfl rfl rfl
      · exact absurd c5 (by omega)
    | succ n ih =>
      intro i hin 
      have hlt : i < 25 := by omega
      refine x_iload_n C dX2_fillWithMoves_2 rfl ?_
      refine x_bipush C (v := nI 25) dX2_fillWithMoves_3 (by decide +kernel) ?_
      refine x_icmp_geN C 25 dX2_fillWithMoves_5 (by decide) (by omega) (by omega) (fun c5 => ?_) (fun c5 => ?_)
      · exact absurd c5 (by omega)
      · refine x_aload_n C dX2_fillWithMoves_8 rfl ?_
        refine x_getfield C qk2 0 (by decide) lfX2_9 dX2_fillWithMoves_9 ((q_gso (by omega)).trans h0) rfl ?_
        refine x_iload_n C dX2_fillWithMoves_12 rfl ?_
        refine x_aload_n C dX2_fillWithMoves_13 rfl ?_
        refine x_iload_n C dX2_fillWithMoves_14 rfl ?_
        refine x_callV1i C (okX3_movesFrom (hp.off hk1 hk2) hb hlt) lkX2_15 miX3_movesFrom msX3_movesFrom maX3_movesFrom ⟨Nat.le_of_ble_eq_true rfl, Nat.le_of_ble_eq_true rfl⟩ (Nat.le_of_ble_eq_true rfl) (hp.off hk1 hk2).1.choose_spec.choose_spec.choose_spec.choose_spec rfl dX2_fillWithMoves_15 ?_
        refine x_iast C dX2_fillWithMoves_18 (q_gss h1) (by omega) (by decide) ?_
        rw [List.set_set, show upd (fil (fun i => mask (movP b i)) T i) i (mask (movP b i)) = fil (fun i => mask (movP b i)) T (i + 1) from fil_s (fun i => mask (movP b i)) T i]
        refine x_iinc C _ dX2_fillWithMoves_19 rfl (q_inc _) (by decide) [(2, _), (0, _), (1, _)] rfl ?_
        refine x_goto C 2 dX2_fillWithMoves_22 (by decide) ?_
        exact x_sub [1, 2, 0] (ih (i + 1) (by omega)) rfl
  refine x_iconst C (v := nI 0) dX2_fillWithMoves_0 (by decide +kernel) ?_
  refine x_istore_n C dX2_fillWithMoves_1 (by decide) [(2, _), (0, _), (1, _)] rfl ?_
  have L0 := L 25 0 (by omega)
  rw [fil_0, q_same h1] at L0
  exact x_sub [1, 2, 0] L0 rfl
set_option maxHeartbeats 4000000 in
set_option maxRecDepth 100000 in
theorem okX2_fillWithKeys {h : qH} {k m : Nat} {T : Nat → Int32} {b : Nat → Nat} (ht : TabA h k T) (hp : PosA h m b) (hb : ∀ i, b i < 8) (hk1 : k + 1 ≠ m) (hk2 : k + 1 ≠ m + 1) : Ok MX2_fillWithKeys [.ref k, .ref m] (h) (none) (h.set (k + 1) (.inl (0, 25, .inl (fil (fun i => mask (keyP b i)) T 25)))) := by
  refine ok_of (by decide +kernel) (Nat.zero_le _) (Nat.le_of_ble_eq_true rfl) ?_
  intro X C E
  show Ex X MX2_fillWithKeys 0 [(0, .ref k), (1, .ref m)] [] (h)
  obtain ⟨h0, h1⟩ := ht
  have L : ∀ n i : Nat, i + n = 25 → Ex X MX2_fillWithKeys 2 [(0, .ref k), (1, .ref m), (2, .int (nI i))] [] (h.set (k + 1) (.inl (0, 25, .inl (fil (fun i => mask (keyP b i)) T i)))) := by
    intro n
    induction n with
    | zero =>
      intro i hin 
      have e : i = 25 := by omega
      subst e
      refine x_iload_n C dX2_fillWithKeys_2 rfl ?_
      refine x_bipush C (v := nI 25) dX2_fillWithKeys_3 (by decide +kernel) ?_
      refine x_icmp_geN C 25 dX2_fillWithKeys_5 (by decide) (by omega) (by omega) (fun c5 => ?_) (fun c5 => ?_)
      · exact x_vret E dX2_fillWithKeys_25 rfl rfl rfl
      · exact absurd c5 (by omega)
    | succ n ih =>
      intro i hin 
      have hlt : i < 25 := by omega
      refine x_iload_n C dX2_fillWithKeys_2 rfl ?_
      refine x_bipush C (v := nI 25) dX2_fillWithKeys_3 (by decide +kernel) ?_
      refine x_icmp_geN C 25 dX2_fillWithKeys_5 (by decide) (by omega) (by omega) (fun c5 => ?_) (fun c5 => ?_)
      · exact absurd c5 (by omega)
      · refine x_aload_n C dX2_fillWithKeys_8 rfl ?_
        refine x_getfield C qk2 0 (by decide) lfX2_9 dX2_fillWithKeys_9 ((q_gso (by omega)).trans h0) rfl ?_
        refine x_iload_n C dX2_fillWithKeys_12 rfl ?_
        refine x_aload_n C dX2_fillWithKeys_13 rfl ?_
        refine x_iload_n C dX2_fillWithKeys_14 rfl ?_
        refine x_callV1i C (okX3_keysFrom (hp.off hk1 hk2) hb hlt) lkX2_21 miX3_keysFrom msX3_keysFrom maX3_keysFrom ⟨Nat.le_of_ble_eq_true rfl, Nat.le_of_ble_eq_true rfl⟩ (Nat.le_of_ble_eq_true rfl) (hp.off hk1 hk2).1.choose_spec.choose_spec.choose_spec.choose_spec rfl dX2_fillWithKeys_15 ?_
        refine x_iast C dX2_fillWithKeys_18 (q_gss h1) (by omega) (by decide) ?_
        rw [List.set_set, show upd (fil (fun i => mask (keyP b i)) T i) i (mask (keyP b i)) = fil (fun i => mask (keyP b i)) T (i + 1) from fil_s (fun i => mask (keyP b i)) T i]
        refine x_iinc C _ dX2_fillWithKeys_19 rfl (q_inc _) (by decide) [(2, _), (0, _), (1, _)] rfl ?_
        refine x_goto C 2 dX2_fillWithKeys_22 (by decide) ?_
        exact x_sub [1, 2, 0] (ih (i + 1) (by omega)) rfl
  refine x_iconst C (v := nI 0) dX2_fillWithKeys_0 (by decide +kernel) ?_
  refine x_istore_n C dX2_fillWithKeys_1 (by decide) [(2, _), (0, _), (1, _)] rfl ?_
  have L0 := L 25 0 (by omega)
  rw [fil_0, q_same h1] at L0
  exact x_sub [1, 2, 0] L0 rfl
def sumc (S : Nat → Nat → Bool) : Nat → Nat
  | 0 => 0
  | n + 1 => sumc S n + cnt (S n) 25
set_option maxHeartbeats 4000000 in
set_option maxRecDepth 100000 in
theorem okX2_count {h : qH} {k : Nat} {T : Nat → Int32} (ht : TabA h k T) (S : Nat → Nat → Bool) (hT : ∀ i, i < 25 → T i = mask (S i)) : Ok MX2_count [.ref k] (h) (some (.int (nI (sumc S 25)))) (h) := by
  refine ok_of (by decide +kernel) (Nat.zero_le _) (Nat.le_of_ble_eq_true rfl) ?_
  intro X C E
  show Ex X MX2_count 0 [(0, .ref k)] [] (h)
  obtain ⟨h0, h1⟩ := ht
  have L : ∀ n i : Nat, i + n = 25 → Ex X MX2_count 4 [(0, .ref k), (1, .int (nI (sumc S i))), (2, .int (nI i))] [] (h) := by
    intro n
    induction n with
    | zero =>
      intro i hin 
      have e : i = 25 := by omega
      subst e
      refine x_iload_n C dX2_count_4 rfl ?_
      refine x_bipush C (v := nI 25) dX2_count_5 (by decide +kernel) ?_
      refine x_icmp_geN C 28 dX2_count_7 (by decide) (by omega) (by omega) (fun c7 => ?_) (fun c7 => ?_)
      · refine x_iload_n C dX2_count_28 rfl ?_
        exact x_iret E .int dX2_count_29 rfl rfl rfl rfl
      · exact absurd c7 (by omega)
    | succ n ih =>
      intro i hin 
      have hlt : i < 25 := by omega
      refine x_iload_n C dX2_count_4 rfl ?_
      refine x_bipush C (v := nI 25) dX2_count_5 (by decide +kernel) ?_
      refine x_icmp_geN C 28 dX2_count_7 (by decide) (by omega) (by omega) (fun c7 => ?_) (fun c7 => ?_)
      · exact absurd c7 (by omega)
      · refine x_iload_n C dX2_count_10 rfl ?_
        refine x_aload_n C dX2_count_11 rfl ?_
        refine x_getfield C qk2 0 (by decide) lfX2_9 dX2_count_12 h0 rfl ?_
        refine x_iload_n C dX2_count_15 rfl ?_
        refine x_iald C dX2_count_16 h1 (by omega) (by decide) ?_
        rw [hT i hlt]
        refine x_callN1i C (okX5_bitsOf _ _) lkX2_24 miX5_bitsOf mtX5_bitsOf maX5_bitsOf ⟨Nat.le_of_ble_eq_true rfl, Nat.le_of_ble_eq_true rfl⟩ (Nat.le_of_ble_eq_true rfl) dX2_count_17 ?_
        refine x_iaddN C dX2_count_20 ?_
        refine x_istore_n C dX2_count_21 (by decide) [(1, _), (0, _), (2, _)] rfl ?_
        refine x_iinc C _ dX2_count_22 rfl (q_inc _) (by decide) [(2, _), (1, _), (0, _)] rfl ?_
        refine x_goto C 4 dX2_count_25 (by decide) ?_
        exact x_sub [2, 1, 0] (ih (i + 1) (by omega)) rfl
  refine x_iconst C (v := nI 0) dX2_count_0 (by decide +kernel) ?_
  refine x_istore_n C dX2_count_1 (by decide) [(1, _), (0, _)] rfl ?_
  refine x_iconst C (v := nI 0) dX2_count_2 (by decide +kernel) ?_
  refine x_istore_n C dX2_count_3 (by decide) [(2, _), (1, _), (0, _)] rfl ?_
  exact x_sub [2, 1, 0] (L 25 0 (by omega)) rfl
def rowL (S : Nat → Nat → Bool) (f : Nat) : Nat → Nat → List Nat
  | 0, _ => []
  | n + 1, t => if S f t = true then (100 * f + t) :: rowL S f n (t + 1) else rowL S f n (t + 1)
def allL (S : Nat → Nat → Bool) : Nat → Nat → List Nat
  | 0, _ => []
  | n + 1, f => rowL S f 25 0 ++ allL S n (f + 1)
def pk (x : Int32) : List Nat → Nat → Int32
  | [], _ => -1
  | a :: t, c => if nI c = x then nI a else pk x t (c + 1)
set_option maxHeartbeats 4000000 in
set_option maxRecDepth 100000 in
theorem okX2_pick {h : qH} {k : Nat} {T : Nat → Int32} (ht : TabA h k T) (S : Nat → Nat → Bool) (hT : ∀ i, i < 25 → T i = mask (S i)) (x : Int32) : Ok MX2_pick [.ref k, .int x] (h) (some (.int (pk x (allL S 25 0) 0))) (h) := by
  refine ok_of (by decide +kernel) (Nat.zero_le _) (Nat.le_of_ble_eq_true rfl) ?_
  intro X C E
  show Ex X MX2_pick 0 [(0, .ref k), (1, .int x)] [] (h)
  obtain ⟨h0, h1⟩ := ht
  have L : ∀ n f c : Nat, f + n = 25 → pk x (allL S 25 0) 0 = pk x (allL S n f) c → Ex X MX2_pick 4 [(0, .ref k), (1, .int x), (2, .int (nI c)), (3, .int (nI f))] [] h := by
    intro n
    induction n with
    | zero =>
      intro f c hf ht
      refine x_iload_n C dX2_pick_4 rfl ?_
      refine x_bipush C (v := nI 25) dX2_pick_5 (by decide +kernel) ?_
      refine x_icmp_geN C 62 dX2_pick_7 (by decide) (by omega) (by omega) (fun c7 => ?_) (fun c7 => ?_)
      · refine x_iconst C (v := (-1)) dX2_pick_62 (by decide +kernel) ?_
        exact x_iret E .int dX2_pick_63 rfl rfl (by rw [ht]; rfl) rfl
      · exact absurd c7 (by omega)
    | succ n ih =>
      intro f c hf ht
      have hfl : f < 25 := by omega
      have L2 : ∀ j t c : Nat, t + j = 25 → pk x (allL S 25 0) 0 = pk x (rowL S f j t ++ allL S n (f + 1)) c → Ex X MX2_pick 13 [(0, .ref k), (1, .int x), (2, .int (nI c)), (3, .int (nI f)), (4, .int (nI t))] [] h := by
        intro j
        induction j with
        | zero =>
          intro t c htj ht
          refine x_iload C dX2_pick_13 rfl ?_
          refine x_bipush C (v := nI 25) dX2_pick_15 (by decide +kernel) ?_
          refine x_icmp_geN C 56 dX2_pick_17 (by decide) (by omega) (by omega) (fun c17 => ?_) (fun c17 => ?_)
          · refine x_iinc C _ dX2_pick_56 rfl (q_inc _) (by decide) [(3, _), (0, _), (1, _), (2, _), (4, _)] rfl ?_
            refine x_goto C 4 dX2_pick_59 (by decide) ?_
            exact x_sub [1, 2, 3, 0] (ih (f + 1) c (by omega) ht) rfl
          · exact absurd c17 (by omega)
        | succ j ih2 =>
          intro t c htj ht
          have htl : t < 25 := by omega
          refine x_iload C dX2_pick_13 rfl ?_
          refine x_bipush C (v := nI 25) dX2_pick_15 (by decide +kernel) ?_
          refine x_icmp_geN C 56 dX2_pick_17 (by decide) (by omega) (by omega) (fun c17 => ?_) (fun c17 => ?_)
          · exact absurd c17 (by omega)
          · refine x_aload_n C dX2_pick_20 rfl ?_
            refine x_getfield C qk2 0 (by decide) lfX2_9 dX2_pick_21 h0 rfl ?_
            refine x_iload_n C dX2_pick_24 rfl ?_
            refine x_iald C dX2_pick_25 h1 (by omega) (by decide) ?_
            rw [hT f hfl]
            refine x_iload C dX2_pick_26 rfl ?_
            refine x_callN2i C (okX5_hasSquare _ htl _) lkX2_27 miX5_hasSquare mtX5_hasSquare maX5_hasSquare ⟨Nat.le_of_ble_eq_true rfl, Nat.le_of_ble_eq_true rfl⟩ (Nat.le_of_ble_eq_true rfl) dX2_pick_28 ?_
            refine x_if_eqB C 50 dX2_pick_31 (by decide) (fun c31 => ?_) (fun c31 => ?_)
            · rw [rowL, if_neg (by rw [c31]; decide)] at ht
              refine x_iinc C _ dX2_pick_50 rfl (q_inc _) (by decide) [(4, _), (0, _), (1, _), (2, _), (3, _)] rfl ?_
              refine x_goto C 13 dX2_pick_53 (by decide) ?_
              exact x_sub [1, 2, 3, 4, 0] (ih2 (t + 1) c (by omega) ht) rfl
            · refine x_iload_n C dX2_pick_34 rfl ?_
              refine x_iload_n C dX2_pick_35 rfl ?_
              refine x_icmp_ne C 47 dX2_pick_36 (by decide) (fun c36 => ?_) (fun c36 => ?_)
              · rw [rowL, if_pos c31, List.cons_append, pk, if_neg c36] at ht
                refine x_iinc C _ dX2_pick_47 rfl (q_inc _) (by decide) [(2, _), (0, _), (1, _), (3, _), (4, _)] rfl ?_
                refine x_iinc C _ dX2_pick_50 rfl (q_inc _) (by decide) [(4, _), (2, _), (0, _), (1, _), (3, _)] rfl ?_
                refine x_goto C 13 dX2_pick_53 (by decide) ?_
                exact x_sub [2, 3, 1, 4, 0] (ih2 (t + 1) (c + 1) (by omega) ht) rfl
              · refine x_bipush C (v := nI 100) dX2_pick_39 (by decide +kernel) ?_
                refine x_iload_n C dX2_pick_41 rfl ?_
                refine x_imulN C dX2_pick_42 ?_
                refine x_iload C dX2_pick_43 rfl ?_
                refine x_iaddN C dX2_pick_45 ?_
                exact x_iret E .int dX2_pick_46 rfl rfl (by rw [ht, rowL, if_pos c31, List.cons_append, pk, if_pos c36]) rfl
      refine x_iload_n C dX2_pick_4 rfl ?_
      refine x_bipush C (v := nI 25) dX2_pick_5 (by decide +kernel) ?_
      refine x_icmp_geN C 62 dX2_pick_7 (by decide) (by omega) (by omega) (fun c7 => ?_) (fun c7 => ?_)
      · exact absurd c7 (by omega)
      · refine x_iconst C (v := nI 0) dX2_pick_10 (by decide +kernel) ?_
        refine x_istore C dX2_pick_11 (by decide) [(4, _), (0, _), (1, _), (2, _), (3, _)] rfl ?_
        exact x_sub [1, 2, 3, 4, 0] (L2 25 0 c (by omega) ht) rfl
  refine x_iconst C (v := nI 0) dX2_pick_0 (by decide +kernel) ?_
  refine x_istore_n C dX2_pick_1 (by decide) [(2, _), (0, _), (1, _)] rfl ?_
  refine x_iconst C (v := nI 0) dX2_pick_2 (by decide +kernel) ?_
  refine x_istore_n C dX2_pick_3 (by decide) [(3, _), (2, _), (0, _), (1, _)] rfl ?_
  exact x_sub [2, 3, 1, 0] (L 25 0 0 (by omega) rfl) rfl
def qRows : Nat → Option Nat := fun j => if j < 8 then some (11 + 2 * j) else none
abbrev qHi (nx sz : Nat) : qE := .inr (0, [.ref 10, .int (nI nx), .int (nI sz)])
def HistA (h : qH) (R : Nat → qP) (nx sz : Nat) : Prop := h[9]? = some (qHi nx sz) ∧ h[10]? = some (.inl (2, 8, .inr (.inr (.inr (.inr qRows))))) ∧ ∀ j, j < 8 → PosF h (11 + 2 * j) (R j)
theorem qRows_at {j : Nat} (hj : j < 8) : va_rf (qRows (nI j).toNatClampNeg) = .ref (11 + 2 * j) := by
  rw [nI_clamp (by omega)]
  unfold qRows
  rw [if_pos hj]
  rfl
set_option maxHeartbeats 4000000 in
set_option maxRecDepth 100000 in
theorem okX0_rowAt {h : qH} {R : Nat → qP} {nx sz : Nat} (hh : HistA h R nx sz) {j : Nat} (hj : j < 8) : Ok MX0_rowAt [.ref 9, .int (nI j)] (h) (some (.ref (11 + 2 * j))) (h) := by
  refine ok_of (by decide +kernel) (Nat.zero_le _) (Nat.le_of_ble_eq_true rfl) ?_
  intro X C E
  show Ex X MX0_rowAt 0 [(0, .ref 9), (1, .int (nI j))] [] (h)
  obtain ⟨h0, h1, h2⟩ := hh
  refine x_iload_n C dX0_rowAt_0 rfl ?_
  refine x_if_ltN C 19 dX0_rowAt_1 (by decide) (by omega) ?_
  refine x_iload_n C dX0_rowAt_4 rfl ?_
  refine x_bipush C (v := nI 8) dX0_rowAt_5 (by decide +kernel) ?_
  refine x_icmp_geN C 19 dX0_rowAt_7 (by decide) (by omega) (by omega) (fun c7 => ?_) (fun c7 => ?_)
  · exact absurd c7 (by omega)
  · refine x_aload_n C dX0_rowAt_10 rfl ?_
    refine x_getfield C qk0 0 (by decide) lfX0_11 dX0_rowAt_11 h0 rfl ?_
    refine x_iload_n C dX0_rowAt_14 rfl ?_
    refine x_aaload C dX0_rowAt_15 h1 (vp_in_nI hj (by decide)) ?_
    rw [qRows_at hj]
    refine x_goto C 20 dX0_rowAt_16 (by decide) ?_
    exact x_aret E (.object "MateKeys$Position") dX0_rowAt_20 rfl (Or.inl ⟨_, rfl⟩) (Or.inr ⟨_, rfl⟩) rfl rfl
def nxt (nx : Nat) : Nat := if nx + 1 < 8 then nx + 1 else 0
def szt (sz : Nat) : Nat := if sz < 8 then sz + 1 else sz
theorem setP_9 {h : qH} {k : Nat} {P : qP} (hk : 9 < k) : (setP h k P)[9]? = h[9]? := by
  unfold setP
  rw [q_gso (by omega), q_gso (by omega)]
set_option maxHeartbeats 4000000 in
set_option maxRecDepth 100000 in
theorem okX0_push {h : qH} {R : Nat → qP} {nx sz m : Nat} {P : qP} (hh : HistA h R nx sz) (hn : nx < 8) (hsz : sz ≤ 8) (hp : PosF h m P) (hR : ∀ j, j < 8 → Bd (R j).1) (hP : Bd P.1) (hm : m + 1 < 9) : Ok MX0_push [.ref 9, .ref m] (h) (none) ((setP h (11 + 2 * nx) P).set 9 (qHi (nxt nx) (szt sz))) := by
  refine ok_of (by decide +kernel) (Nat.zero_le _) (Nat.le_of_ble_eq_true rfl) ?_
  intro X C E
  show Ex X MX0_push 0 [(0, .ref 9), (1, .ref m)] [] (h)
  obtain ⟨h0, h1, h2⟩ := id hh
  have hpr := h2 nx hn
  refine x_aload_n C dX0_push_0 rfl ?_
  refine x_aload_n C dX0_push_1 rfl ?_
  refine x_getfield C qk0 1 (by decide) lfX0_18 dX0_push_2 h0 rfl ?_
  refine x_callV1i C (okX0_rowAt hh hn) lkX0_22 miX0_rowAt msX0_rowAt maX0_rowAt ⟨Nat.le_of_ble_eq_true rfl, Nat.le_of_ble_eq_true rfl⟩ (Nat.le_of_ble_eq_true rfl) h0 rfl dX0_push_5 ?_
  refine x_astore_n C dX0_push_8 (by decide) [(2, _), (0, _), (1, _)] rfl ?_
  refine x_aload_n C dX0_push_9 rfl ?_
  refine x_ifnonnull C 14 dX0_push_10 (by decide) ?_
  refine x_aload_n C dX0_push_14 rfl ?_
  refine x_aload_n C dX0_push_15 rfl ?_
  refine x_callV1v C (okX3_copyFrom hpr hp (hR nx hn) hP (by omega) (by omega) (by omega)) lkX0_26 miX3_copyFrom msX3_copyFrom maX3_copyFrom ⟨Nat.le_of_ble_eq_true rfl, Nat.le_of_ble_eq_true rfl⟩ (Nat.le_of_ble_eq_true rfl) hpr.1 rfl dX0_push_16 ?_
  refine x_aload_n C dX0_push_19 rfl ?_
  refine x_aload_n C dX0_push_20 rfl ?_
  refine x_getfield C qk0 1 (by decide) lfX0_18 dX0_push_21 ((setP_9 (by omega)).trans h0) rfl ?_
  refine x_iconst C (v := nI 1) dX0_push_24 (by decide +kernel) ?_
  refine x_iaddN C dX0_push_25 ?_
  refine x_bipush C (v := nI 8) dX0_push_26 (by decide +kernel) ?_
  refine x_icmp_geN C 40 dX0_push_28 (by decide) (by omega) (by omega) (fun c28 => ?_) (fun c28 => ?_)
  · refine x_iconst C (v := nI 0) dX0_push_40 (by decide +kernel) ?_
    refine x_putfield C qk0 1 (by decide) lfX0_18 rfl (ty0 := .int) (by decide +kernel) rfl rfl dX0_push_41 ((setP_9 (by omega)).trans h0) (Nat.le_of_ble_eq_true rfl) ?_
    refine x_aload_n C dX0_push_44 rfl ?_
    refine x_getfield C qk0 2 (by decide) lfX0_30 dX0_push_45 (q_gss ((setP_9 (by omega)).trans h0)) rfl ?_
    refine x_bipush C (v := nI 8) dX0_push_48 (by decide +kernel) ?_
    refine x_icmp_geN C 63 dX0_push_50 (by decide) (by omega) (by omega) (fun c50 => ?_) (fun c50 => ?_)
    · exact x_vret E dX0_push_63 rfl rfl (by rw [show nxt nx = 0 by unfold nxt; rw [if_neg (by omega)]]; rw [show szt sz = sz by unfold szt; rw [if_neg (by omega)]]; rfl)
    · refine x_aload_n C dX0_push_53 rfl ?_
      refine x_dup C rfl dX0_push_54 ?_
      refine x_getfield C qk0 2 (by decide) lfX0_30 dX0_push_55 (q_gss ((setP_9 (by omega)).trans h0)) rfl ?_
      refine x_iconst C (v := nI 1) dX0_push_58 (by decide +kernel) ?_
      refine x_iaddN C dX0_push_59 ?_
      refine x_putfield C qk0 2 (by decide) lfX0_30 rfl (ty0 := .int) (by decide +kernel) rfl rfl dX0_push_60 (q_gss ((setP_9 (by omega)).trans h0)) (Nat.le_of_ble_eq_true rfl) ?_
      exact x_vret E dX0_push_63 rfl rfl (by rw [show nxt nx = 0 by unfold nxt; rw [if_neg (by omega)]]; rw [show szt sz = sz + 1 by unfold szt; rw [if_pos (by omega)]]; rw [List.set_set]; rfl)
  · refine x_aload_n C dX0_push_31 rfl ?_
    refine x_getfield C qk0 1 (by decide) lfX0_18 dX0_push_32 ((setP_9 (by omega)).trans h0) rfl ?_
    refine x_iconst C (v := nI 1) dX0_push_35 (by decide +kernel) ?_
    refine x_iaddN C dX0_push_36 ?_
    refine x_goto C 41 dX0_push_37 (by decide) ?_
    refine x_putfield C qk0 1 (by decide) lfX0_18 rfl (ty0 := .int) (by decide +kernel) rfl rfl dX0_push_41 ((setP_9 (by omega)).trans h0) (Nat.le_of_ble_eq_true rfl) ?_
    refine x_aload_n C dX0_push_44 rfl ?_
    refine x_getfield C qk0 2 (by decide) lfX0_30 dX0_push_45 (q_gss ((setP_9 (by omega)).trans h0)) rfl ?_
    refine x_bipush C (v := nI 8) dX0_push_48 (by decide +kernel) ?_
    refine x_icmp_geN C 63 dX0_push_50 (by decide) (by omega) (by omega) (fun c50 => ?_) (fun c50 => ?_)
    · exact x_vret E dX0_push_63 rfl rfl (by rw [show nxt nx = nx + 1 by unfold nxt; rw [if_pos (by omega)]]; rw [show szt sz = sz by unfold szt; rw [if_neg (by omega)]]; rfl)
    · refine x_aload_n C dX0_push_53 rfl ?_
      refine x_dup C rfl dX0_push_54 ?_
      refine x_getfield C qk0 2 (by decide) lfX0_30 dX0_push_55 (q_gss ((setP_9 (by omega)).trans h0)) rfl ?_
      refine x_iconst C (v := nI 1) dX0_push_58 (by decide +kernel) ?_
      refine x_iaddN C dX0_push_59 ?_
      refine x_putfield C qk0 2 (by decide) lfX0_30 rfl (ty0 := .int) (by decide +kernel) rfl rfl dX0_push_60 (q_gss ((setP_9 (by omega)).trans h0)) (Nat.le_of_ble_eq_true rfl) ?_
      exact x_vret E dX0_push_63 rfl rfl (by rw [show nxt nx = nx + 1 by unfold nxt; rw [if_pos (by omega)]]; rw [show szt sz = sz + 1 by unfold szt; rw [if_pos (by omega)]]; rw [List.set_set]; rfl)
def prv (nx : Nat) : Nat := if nx = 0 then 7 else nx - 1
theorem prv_lt {nx : Nat} (h : nx < 8) : prv nx < 8 := by unfold prv; split <;> omega
set_option maxHeartbeats 4000000 in
set_option maxRecDepth 100000 in
theorem okX0_pop {h : qH} {R : Nat → qP} {nx sz m : Nat} {P : qP} (hh : HistA h R nx sz) (hn : nx < 8) (hsz : 0 < sz) (hsz8 : sz ≤ 8) (hp : PosF h m P) (hR : ∀ j, j < 8 → Bd (R j).1) (hP : Bd P.1) (hm : m + 1 < 9) : Ok MX0_pop [.ref 9, .ref m] (h) (none) ((setP h m (R (prv nx))).set 9 (qHi (prv nx) (sz - 1))) := by
  refine ok_of (by decide +kernel) (Nat.zero_le _) (Nat.le_of_ble_eq_true rfl) ?_
  intro X C E
  show Ex X MX0_pop 0 [(0, .ref 9), (1, .ref m)] [] (h)
  obtain ⟨h0, h1, h2⟩ := id hh
  have hpn := prv_lt hn
  have hpr := h2 (prv nx) hpn
  have h9 : (setP h m (R (prv nx)))[9]? = some (qHi nx sz) := by
    unfold setP
    rw [q_gso (by omega), q_gso (by omega)]
    exact h0
  have J : Ex X MX0_pop 18 [(0, .ref 9), (1, .ref m)] [.int (nI (prv nx))] h := by
    refine x_istore_n C dX0_pop_18 (by decide) [(2, _), (0, _), (1, _)] rfl ?_
    refine x_aload_n C dX0_pop_19 rfl ?_
    refine x_iload_n C dX0_pop_20 rfl ?_
    refine x_callV1i C (okX0_rowAt hh hpn) lkX0_22 miX0_rowAt msX0_rowAt maX0_rowAt ⟨Nat.le_of_ble_eq_true rfl, Nat.le_of_ble_eq_true rfl⟩ (Nat.le_of_ble_eq_true rfl) h0 rfl dX0_pop_21 ?_
    refine x_astore_n C dX0_pop_24 (by decide) [(3, _), (2, _), (0, _), (1, _)] rfl ?_
    refine x_aload_n C dX0_pop_25 rfl ?_
    refine x_ifnull C dX0_pop_26 ?_
    refine x_aload_n C dX0_pop_29 rfl ?_
    refine x_getfield C qk0 2 (by decide) lfX0_30 dX0_pop_30 h0 rfl ?_
    refine x_if_neN C 37 dX0_pop_33 (by decide) (by omega) (fun c33 => ?_) (fun c33 => ?_)
    · refine x_aload_n C dX0_pop_37 rfl ?_
      refine x_aload_n C dX0_pop_38 rfl ?_
      refine x_callV1v C (okX3_copyFrom hp hpr hP (hR _ hpn) (by omega) (by omega) (by omega)) lkX0_26 miX3_copyFrom msX3_copyFrom maX3_copyFrom ⟨Nat.le_of_ble_eq_true rfl, Nat.le_of_ble_eq_true rfl⟩ (Nat.le_of_ble_eq_true rfl) hp.1 rfl dX0_pop_39 ?_
      refine x_aload_n C dX0_pop_42 rfl ?_
      refine x_iload_n C dX0_pop_43 rfl ?_
      refine x_putfield C qk0 1 (by decide) lfX0_18 rfl (ty0 := .int) (by decide +kernel) rfl rfl dX0_pop_44 h9 (Nat.le_of_ble_eq_true rfl) ?_
      refine x_aload_n C dX0_pop_47 rfl ?_
      refine x_dup C rfl dX0_pop_48 ?_
      refine x_getfield C qk0 2 (by decide) lfX0_30 dX0_pop_49 (q_gss h9) rfl ?_
      refine x_iconst C (v := nI 1) dX0_pop_52 (by decide +kernel) ?_
      refine x_isubN C dX0_pop_53 (by omega) ?_
      refine x_putfield C qk0 2 (by decide) lfX0_30 rfl (ty0 := .int) (by decide +kernel) rfl rfl dX0_pop_54 (q_gss h9) (Nat.le_of_ble_eq_true rfl) ?_
      exact x_vret E dX0_pop_57 rfl rfl (by rw [List.set_set]; rfl)
    · exact absurd c33 (by omega)
  refine x_aload_n C dX0_pop_0 rfl ?_
  refine x_getfield C qk0 1 (by decide) lfX0_18 dX0_pop_1 h0 rfl ?_
  refine x_if_leN C 16 dX0_pop_4 (by decide) (by omega) (fun c4 => ?_) (fun c4 => ?_)
  · refine x_bipush C (v := nI 7) dX0_pop_16 (by decide +kernel) ?_
    exact x_top (by unfold prv; rw [if_pos c4]) J
  · refine x_aload_n C dX0_pop_7 rfl ?_
    refine x_getfield C qk0 1 (by decide) lfX0_18 dX0_pop_8 h0 rfl ?_
    refine x_iconst C (v := nI 1) dX0_pop_11 (by decide +kernel) ?_
    refine x_isubN C dX0_pop_12 (by omega) ?_
    refine x_goto C 18 dX0_pop_13 (by decide) ?_
    exact x_top (by unfold prv; rw [if_neg c4]) J
set_option maxHeartbeats 4000000 in
set_option maxRecDepth 100000 in
theorem okX0_clear {h : qH} {R : Nat → qP} {nx sz : Nat} (hh : HistA h R nx sz) : Ok MX0_clear [.ref 9] (h) (none) (h.set 9 (qHi 0 0)) := by
  refine ok_of (by decide +kernel) (Nat.zero_le _) (Nat.le_of_ble_eq_true rfl) ?_
  intro X C E
  show Ex X MX0_clear 0 [(0, .ref 9)] [] (h)
  obtain ⟨h0, h1, h2⟩ := id hh
  refine x_aload_n C dX0_clear_0 rfl ?_
  refine x_iconst C (v := nI 0) dX0_clear_1 (by decide +kernel) ?_
  refine x_putfield C qk0 1 (by decide) lfX0_18 rfl (ty0 := .int) (by decide +kernel) rfl rfl dX0_clear_2 h0 (Nat.le_of_ble_eq_true rfl) ?_
  refine x_aload_n C dX0_clear_5 rfl ?_
  refine x_iconst C (v := nI 0) dX0_clear_6 (by decide +kernel) ?_
  refine x_putfield C qk0 2 (by decide) lfX0_30 rfl (ty0 := .int) (by decide +kernel) rfl rfl dX0_clear_7 (q_gss h0) (Nat.le_of_ble_eq_true rfl) ?_
  exact x_vret E dX0_clear_10 rfl rfl (by rw [List.set_set]; rfl)
end
section
/-! String constants (place 2000 + q, their bytes at 2010 + q) and the JDK's methods -/
theorem x_ldcS {X : qX} {M : qM} (C : qC X M) {pc : Nat} {loc : List (Nat × Value)} {st : List Value} {h : qH} {q idx : Nat} {tx : String} (hc : ∀ (ad : Nat → Nat) (A : Nat → Prop) (U : State) (H : Heap), q_Y ad A U H → vk_R M.1.cls idx tx (ad (2000 + q)) U) (hd : decode M.2.1 pc = .ok (.ldc idx, 2)) (kk : Ex X M (pc + 2) loc (.ref (2000 + q) :: st) h) : Ex X M pc loc st h := by
  obtain ⟨p, l, e, s, m, args, below, meth, c, ad, cy, D, A, cells, slots, len, Q⟩ := X
  obtain ⟨hx, hb, hml, hown, hts, hA, hG, hce, hso⟩ := C
  intro H locs ls hlen hP hD hS hl
  exact va_ldcS hx hb hown (hc _ _ _ _ hG.2.2) hd (kk H locs ls hlen hP hD hS hl)
theorem x_strvalue {X : qX} {M : qM} (C : qC X M) {pc : Nat} {loc : List (Nat × Value)} {st : List Value} {h : qH} {q idx : Nat} (hq : q < 2) (hlk : Cond.fieldLink M.1.cls idx "java/lang/String" "value" "[B" ∈ qT) (hd : decode M.2.1 pc = .ok (.getfield idx, 3)) (kk : Ex X M (pc + 3) loc (.ref (2010 + q) :: st) h) : Ex X M pc loc (.ref (2000 + q) :: st) h := by
  obtain ⟨p, l, e, s, m, args, below, meth, c, ad, cy, D, A, cells, slots, len, Q⟩ := X
  obtain ⟨hx, hb, hml, hown, hts, hA, hG, hce, hso⟩ := C
  intro H locs ls hlen hP hD hS hl
  exact vk_getf hx hb (hG.2.2.2.2.2.2.2.1.1 q hq).2.2.1 hS hown (hts _ hlk) (fun _ h9 => h9) hd (kk H locs ls hlen hP hD hS hl)
theorem x_strcoder {X : qX} {M : qM} (C : qC X M) {pc : Nat} {loc : List (Nat × Value)} {st : List Value} {h : qH} {q idx : Nat} (hq : q < 2) (hlk : Cond.fieldLink M.1.cls idx "java/lang/String" "coder" "B" ∈ qT) (hd : decode M.2.1 pc = .ok (.getfield idx, 3)) (kk : Ex X M (pc + 3) loc (.int (nI 0) :: st) h) : Ex X M pc loc (.ref (2000 + q) :: st) h := by
  obtain ⟨p, l, e, s, m, args, below, meth, c, ad, cy, D, A, cells, slots, len, Q⟩ := X
  obtain ⟨hx, hb, hml, hown, hts, hA, hG, hce, hso⟩ := C
  intro H locs ls hlen hP hD hS hl
  exact vk_getf hx hb (hG.2.2.2.2.2.2.2.1.1 q hq).2.1 hS hown (hts _ hlk) (fun _ h9 => h9) hd (kk H locs ls hlen hP hD hS hl)
theorem x_balen {X : qX} {M : qM} (C : qC X M) {pc : Nat} {loc : List (Nat × Value)} {st : List Value} {h : qH} {q : Nat} (hq : q < 2) (hd : decode M.2.1 pc = .ok (.arraylength, 1)) (kk : Ex X M (pc + 1) loc (.int (nI (q_sl.getD q 0)) :: st) h) : Ex X M pc loc (.ref (2010 + q) :: st) h := by
  obtain ⟨p, l, e, s, m, args, below, meth, c, ad, cy, D, A, cells, slots, len, Q⟩ := X
  obtain ⟨hx, hb, hml, hown, hts, hA, hG, hce, hso⟩ := C
  intro H locs ls hlen hP hD hS hl
  exact va_tlen hx hb (hG.2.2.2.2.2.2.2.1.1 q hq).2.2.2 hS rfl hd (kk H locs ls hlen hP hD hS hl)
theorem x_bald {X : qX} {M : qM} (C : qC X M) {pc : Nat} {loc : List (Nat × Value)} {st : List Value} {h : qH} {q i : Nat} (hq : q < 2) (hd : decode M.2.1 pc = .ok (.baload, 1)) (hi : i < q_sl.getD q 0) (kk : Ex X M (pc + 1) loc (.int ((q_sb.getD q []).getD i 0) :: st) h) : Ex X M pc loc (.int (nI i) :: .ref (2010 + q) :: st) h := by
  obtain ⟨p, l, e, s, m, args, below, meth, c, ad, cy, D, A, cells, slots, len, Q⟩ := X
  obtain ⟨hx, hb, hml, hown, hts, hA, hG, hce, hso⟩ := C
  intro H locs ls hlen hP hD hS hl
  have hn : q_sl.getD q 0 < 2147483648 := by
    have : ∀ q : Fin 2, q_sl.getD q 0 < 2147483648 := by decide +kernel
    exact this ⟨q, hq⟩
  refine va_tb hx hb (hG.2.2.2.2.2.2.2.1.1 q hq).2.2.2 hS (vp_in_nI hi hn) rfl hd ?_
  rw [nI_clamp (by omega)]
  exact kk H locs ls hlen hP hD hS hl
theorem x_compact {X : qX} {M : qM} (C : qC X M) {pc : Nat} {loc : List (Nat × Value)} {st : List Value} {h : qH} {idx : Nat} (hlk : Cond.fieldLink M.1.cls idx "java/lang/String" "COMPACT_STRINGS" "Z" ∈ qT) (hd : decode M.2.1 pc = .ok (.getstatic idx, 3)) (kk : Ex X M (pc + 3) loc (.int (nI 1) :: st) h) : Ex X M pc loc st h := by
  obtain ⟨p, l, e, s, m, args, below, meth, c, ad, cy, D, A, cells, slots, len, Q⟩ := X
  obtain ⟨hx, hb, hml, hown, hts, hA, hG, hce, hso⟩ := C
  intro H locs ls hlen hP hD hS hl
  exact va_gets hx hb hG.2.2.2.2.2.2.2.2.1 hS hown (hts _ hlk) (fun _ h9 => h9) hd (kk H locs ls hlen hP hD hS hl)
theorem x_sioobe {X : qX} {M : qM} (C : qC X M) {pc : Nat} {loc : List (Nat × Value)} {st : List Value} {h : qH} {idx : Nat} (hlk : Cond.fieldLink M.1.cls idx "jdk/internal/util/Preconditions" "SIOOBE_FORMATTER" "Ljava/util/function/BiFunction;" ∈ qT) (hd : decode M.2.1 pc = .ok (.getstatic idx, 3)) (kk : ∀ v : Value, v = .null ∨ v = .ref 2020 → Ex X M (pc + 3) loc (v :: st) h) : Ex X M pc loc st h := by
  obtain ⟨p, l, e, s, m, args, below, meth, c, ad, cy, D, A, cells, slots, len, Q⟩ := X
  obtain ⟨hx, hb, hml, hown, hts, hA, hG, hce, hso⟩ := C
  intro H locs ls hlen hP hD hS hl
  rcases hG.2.2.2.2.2.2.2.2.2 with hz | hz
  · exact va_gets hx hb hz hS hown (hts _ hlk) (fun _ h9 => h9) hd (kk _ (Or.inl rfl) H locs ls hlen hP hD hS hl)
  · exact va_gets hx hb hz hS hown (hts _ hlk) (fun _ h9 => h9) hd (kk _ (Or.inr rfl) H locs ls hlen hP hD hS hl)
theorem x_i2b {X : qX} {M : qM} (C : qC X M) {pc : Nat} {loc : List (Nat × Value)} {st : List Value} {h : qH} {x : Int32} (hd : decode M.2.1 pc = .ok (.i2b, 1)) (kk : Ex X M (pc + 1) loc (.int x.toInt8.toInt32 :: st) h) : Ex X M pc loc (.int x :: st) h := by
  obtain ⟨p, l, e, s, m, args, below, meth, c, ad, cy, D, A, cells, slots, len, Q⟩ := X
  obtain ⟨hx, hb, hml, hown, hts, hA, hG, hce, hso⟩ := C
  intro H locs ls hlen hP hD hS hl
  exact lv_i2b hx hb hd rfl (kk H locs ls hlen hP hD hS hl)
theorem x_callK {X : qX} {M : qM} (C : qC X M) {pc : Nat} {loc : List (Nat × Value)} {st : List Value} {h : qH} {idx q : Nat} {N : qM} {As : List Value} {r : Option Value} {h' : qH} (hok : Ok N (.ref (2000 + q) :: As) h r h') (hlk : Cond.methodLink M.1.cls idx N.1 ∈ qT) (hI : qIn N) (hs : qIs N) (har : qAr N As.length) (hrm : qRm M N) (hw : (st.map fun v => v.category).sum ≤ 8) (hq : q < 2) (hcl : "java/lang/String" = N.1.cls) (hd : decode M.2.1 pc = .ok (.invokevirtual idx, 3)) (kk : Ex X M (pc + 3) loc (r.toList ++ st) h') : Ex X M pc loc (As.reverse ++ .ref (2000 + q) :: st) h := by
  obtain ⟨p, l, e, s, m, args, below, meth, c, ad, cy, D, A, cells, slots, len, Q⟩ := X
  obtain ⟨hx, hb, hml, hown, hts, hA, hG, hce, hso⟩ := C
  intro H locs ls hlen hP hD hS hl
  obtain ⟨hF, hB⟩ := q_pre hP hD hS hA hG
  have hcw : CallW M.2.2.2.2 s args M.1.cls N.1.cls idx N.1 N.2.1 N.2.2.1 N.2.2.2.1 (qws N) N.2.2.2.2 0 0 As.length := ⟨⟨hI.2.2.2.1, hI.2.2.2.2, hrm.1, hrm.2, q_pay hts hI, List.mem_cons_self, hts _ hI.1, hts _ hI.2.1, hI.2.2.1, q_ar har, hts _ hlk⟩, hts _ hs.1, hts _ hs.2⟩
  have hrv := vk_recv hG.2.2.2.2.2.2.2.1 hq hS
  rw [hcl] at hrv
  rw [q_map_rev]
  refine q_call (va_runV (As := As.map (q_v ad)) (rest := st.map (q_v ad)) ⟨hx, hb, hml, hown, hts⟩ (hok l ad cy D H.size) hcw ⟨fun a U g mk q => ⟨q.1, q.2.calling⟩, hrv, fun U hU hW => ⟨rfl, hB U hU hW⟩⟩ rfl (List.length_map ..) hl.1 rfl (q_room hw) hd ⟨hce, hso⟩) hS hF (fun H1 locs1 hlen1 hP1 hS1 => ?_)
  have k2 := kk H1 locs1 ls (hlen1.trans hlen) hP1 (q_w_D hD hlen1) hS1 hl
  cases r <;> exact k2
theorem x_callK0i {X : qX} {M : qM} (C : qC X M) {pc : Nat} {loc : List (Nat × Value)} {st : List Value} {h : qH} {v : Value} {idx q : Nat} {N : qM} {h' : qH} (hok : Ok N [.ref (2000 + q)] h (some v) h') (hlk : Cond.methodLink M.1.cls idx N.1 ∈ qT) (hI : qIn N) (hs : qIs N) (har : qAr N 0) (hrm : qRm M N) (hw : (st.map fun v => v.category).sum ≤ 8) (hq : q < 2) (hcl : "java/lang/String" = N.1.cls) (hd : decode M.2.1 pc = .ok (.invokevirtual idx, 3)) (kk : Ex X M (pc + 3) loc (v :: st) h') : Ex X M pc loc (.ref (2000 + q) :: st) h := x_callK (As := []) C hok hlk hI hs har hrm hw hq hcl hd kk
theorem x_callK1i {X : qX} {M : qM} (C : qC X M) {pc : Nat} {loc : List (Nat × Value)} {st : List Value} {h : qH} {v : Value} {idx q : Nat} {N : qM} {a1 : Value} {h' : qH} (hok : Ok N [.ref (2000 + q), a1] h (some v) h') (hlk : Cond.methodLink M.1.cls idx N.1 ∈ qT) (hI : qIn N) (hs : qIs N) (har : qAr N 1) (hrm : qRm M N) (hw : (st.map fun v => v.category).sum ≤ 8) (hq : q < 2) (hcl : "java/lang/String" = N.1.cls) (hd : decode M.2.1 pc = .ok (.invokevirtual idx, 3)) (kk : Ex X M (pc + 3) loc (v :: st) h') : Ex X M pc loc (a1 :: .ref (2000 + q) :: st) h := x_callK (As := [a1]) C hok hlk hI hs har hrm hw hq hcl hd kk
theorem x_callK2i {X : qX} {M : qM} (C : qC X M) {pc : Nat} {loc : List (Nat × Value)} {st : List Value} {h : qH} {v : Value} {idx q : Nat} {N : qM} {a1 a2 : Value} {h' : qH} (hok : Ok N [.ref (2000 + q), a1, a2] h (some v) h') (hlk : Cond.methodLink M.1.cls idx N.1 ∈ qT) (hI : qIn N) (hs : qIs N) (har : qAr N 2) (hrm : qRm M N) (hw : (st.map fun v => v.category).sum ≤ 8) (hq : q < 2) (hcl : "java/lang/String" = N.1.cls) (hd : decode M.2.1 pc = .ok (.invokevirtual idx, 3)) (kk : Ex X M (pc + 3) loc (v :: st) h') : Ex X M pc loc (a2 :: a1 :: .ref (2000 + q) :: st) h := x_callK (As := [a1, a2]) C hok hlk hI hs har hrm hw hq hcl hd kk
theorem x_callS4i {X : qX} {M : qM} (C : qC X M) {pc : Nat} {loc : List (Nat × Value)} {st : List Value} {h : qH} {v : Value} {idx : Nat} {N : qM} {a1 a2 a3 a4 : Value} {h' : qH} (hok : Ok N [a1, a2, a3, a4] h (some v) h') (hlk : Cond.methodLink M.1.cls idx N.1 ∈ qT) (hI : qIn N) (hs : Cond.static N.1 ∈ qT) (har : qAr N 4) (hrm : qRm M N) (hw : (st.map fun v => v.category).sum ≤ 8) (hd : decode M.2.1 pc = .ok (.invokestatic idx, 3)) (kk : Ex X M (pc + 3) loc (v :: st) h') : Ex X M pc loc (a4 :: a3 :: a2 :: a1 :: st) h := x_callS (As := [a1, a2, a3, a4]) C hok hlk hI hs har hrm hw hd kk
def strC (q i : Nat) : Int32 := (q_sb.getD q []).getD i 0
def strN (q : Nat) : Nat := q_sl.getD q 0
set_option maxHeartbeats 4000000 in
set_option maxRecDepth 100000 in
theorem okJ0_coder_7d493 {q : Nat} (hq : q < 2) (h : qH) : Ok MJ0_coder_7d493 [.ref (2000 + q)] (h) (some (.int (nI 0))) (h) := by
  refine ok_of (by decide +kernel) (Nat.zero_le _) (Nat.le_of_ble_eq_true rfl) ?_
  intro X C E
  show Ex X MJ0_coder_7d493 0 [(0, .ref (2000 + q))] [] (h)
  refine x_compact C lfJ0_38 dJ0_coder_7d493_0 ?_
  refine x_if_eqN C 13 dJ0_coder_7d493_3 (by decide) (by omega) (fun c3 => ?_) (fun c3 => ?_)
  · exact absurd c3 (by decide)
  · refine x_aload_n C dJ0_coder_7d493_6 rfl ?_
    refine x_strcoder C hq lfJ0_15 dJ0_coder_7d493_7 ?_
    refine x_goto C 14 dJ0_coder_7d493_10 (by decide) ?_
    exact x_iret E .byte dJ0_coder_7d493_14 rfl rfl rfl rfl
set_option maxHeartbeats 4000000 in
set_option maxRecDepth 100000 in
theorem okJ0_isLatin1_aae02 {q : Nat} (hq : q < 2) (h : qH) : Ok MJ0_isLatin1_aae02 [.ref (2000 + q)] (h) (some (.int (qb true))) (h) := by
  refine ok_of (by decide +kernel) (Nat.zero_le _) (Nat.le_of_ble_eq_true rfl) ?_
  intro X C E
  show Ex X MJ0_isLatin1_aae02 0 [(0, .ref (2000 + q))] [] (h)
  refine x_compact C lfJ0_38 dJ0_isLatin1_aae02_0 ?_
  refine x_if_eqN C 17 dJ0_isLatin1_aae02_3 (by decide) (by omega) (fun c3 => ?_) (fun c3 => ?_)
  · exact absurd c3 (by decide)
  · refine x_aload_n C dJ0_isLatin1_aae02_6 rfl ?_
    refine x_strcoder C hq lfJ0_15 dJ0_isLatin1_aae02_7 ?_
    refine x_if_neN C 17 dJ0_isLatin1_aae02_10 (by decide) (by omega) (fun c10 => ?_) (fun c10 => ?_)
    · exact absurd rfl c10
    · refine x_iconst C (v := nI 1) dJ0_isLatin1_aae02_13 (by decide +kernel) ?_
      refine x_goto C 18 dJ0_isLatin1_aae02_14 (by decide) ?_
      exact x_iret E .boolean dJ0_isLatin1_aae02_18 rfl rfl rfl rfl
set_option maxHeartbeats 4000000 in
set_option maxRecDepth 100000 in
theorem okJ0_length_8abf5 {q : Nat} (hq : q < 2) (h : qH) : Ok MJ0_length_8abf5 [.ref (2000 + q)] (h) (some (.int (nI (strN q)))) (h) := by
  refine ok_of (by decide +kernel) (Nat.zero_le _) (Nat.le_of_ble_eq_true rfl) ?_
  intro X C E
  show Ex X MJ0_length_8abf5 0 [(0, .ref (2000 + q))] [] (h)
  refine x_aload_n C dJ0_length_8abf5_0 rfl ?_
  refine x_strvalue C hq lfJ0_9 dJ0_length_8abf5_1 ?_
  refine x_balen C hq dJ0_length_8abf5_4 ?_
  refine x_aload_n C dJ0_length_8abf5_5 rfl ?_
  refine x_callK0i C (okJ0_coder_7d493 hq _) lkJ0_335 miJ0_coder_7d493 msJ0_coder_7d493 maJ0_coder_7d493 ⟨Nat.le_of_ble_eq_true rfl, Nat.le_of_ble_eq_true rfl⟩ (Nat.le_of_ble_eq_true rfl) hq rfl dJ0_length_8abf5_6 ?_
  refine x_ishr C dJ0_length_8abf5_9 ?_
  rw [show nI (q_sl.getD q 0) >>> (nI 0 &&& 31) = nI (strN q) from (by decide +kernel : ∀ q : Fin 2, nI (q_sl.getD q 0) >>> (nI 0 &&& 31) = nI (strN q)) ⟨q, hq⟩]
  exact x_iret E .int dJ0_length_8abf5_10 rfl rfl rfl rfl
set_option maxHeartbeats 4000000 in
set_option maxRecDepth 100000 in
theorem okJ3_checkIndex_8e157 {i n : Nat} (hi : i < n) (hn : n < 2147483648) (v : Value) (hv : v = .null ∨ v = .ref 2020) (h : qH) : Ok MJ3_checkIndex_8e157 [.int (nI i), .int (nI n), v] (h) (some (.int (nI i))) (h) := by
  refine ok_of (by decide +kernel) (Nat.zero_le _) (by rcases hv with rfl | rfl <;> exact Nat.le_of_ble_eq_true rfl) ?_
  intro X C E
  rcases hv with rfl | rfl
  · refine x_iload_n C dJ3_checkIndex_8e157_0 rfl ?_
    refine x_if_ltN C 9 dJ3_checkIndex_8e157_1 (by decide) (by omega) ?_
    refine x_iload_n C dJ3_checkIndex_8e157_4 rfl ?_
    refine x_iload_n C dJ3_checkIndex_8e157_5 rfl ?_
    refine x_icmp_ltN C 16 dJ3_checkIndex_8e157_6 (by decide) (by omega) (by omega) (fun c6 => ?_) (fun c6 => ?_)
    · refine x_iload_n C dJ3_checkIndex_8e157_16 rfl ?_
      exact x_iret E .int dJ3_checkIndex_8e157_17 rfl rfl rfl rfl
    · exact absurd hi c6
  · refine x_iload_n C dJ3_checkIndex_8e157_0 rfl ?_
    refine x_if_ltN C 9 dJ3_checkIndex_8e157_1 (by decide) (by omega) ?_
    refine x_iload_n C dJ3_checkIndex_8e157_4 rfl ?_
    refine x_iload_n C dJ3_checkIndex_8e157_5 rfl ?_
    refine x_icmp_ltN C 16 dJ3_checkIndex_8e157_6 (by decide) (by omega) (by omega) (fun c6 => ?_) (fun c6 => ?_)
    · refine x_iload_n C dJ3_checkIndex_8e157_16 rfl ?_
      exact x_iret E .int dJ3_checkIndex_8e157_17 rfl rfl rfl rfl
    · exact absurd hi c6
set_option maxHeartbeats 4000000 in
set_option maxRecDepth 100000 in
theorem okJ0_checkIndex_df160 {i n : Nat} (hi : i < n) (hn : n < 2147483648) (h : qH) : Ok MJ0_checkIndex_df160 [.int (nI i), .int (nI n)] (h) (none) (h) := by
  refine ok_of (by decide +kernel) (Nat.zero_le _) (Nat.le_of_ble_eq_true rfl) ?_
  intro X C E
  show Ex X MJ0_checkIndex_df160 0 [(0, .int (nI i)), (1, .int (nI n))] [] (h)
  refine x_iload_n C dJ0_checkIndex_df160_0 rfl ?_
  refine x_iload_n C dJ0_checkIndex_df160_1 rfl ?_
  refine x_sioobe C lfJ0_1053 dJ0_checkIndex_df160_2 (fun v hv => ?_)
  have hcat : v.category = 1 := by rcases hv with rfl | rfl <;> rfl
  refine x_callS3i C (okJ3_checkIndex_8e157 hi hn v hv _) lkJ0_1059 miJ3_checkIndex_8e157 mtJ3_checkIndex_8e157 maJ3_checkIndex_8e157 ⟨Nat.le_of_ble_eq_true rfl, Nat.le_of_ble_eq_true rfl⟩ (Nat.le_of_ble_eq_true rfl) dJ0_checkIndex_df160_5 ?_
  refine x_pop C rfl dJ0_checkIndex_df160_8 ?_
  exact x_vret E dJ0_checkIndex_df160_9 rfl rfl rfl
theorem strN_lt {q : Nat} (hq : q < 2) : strN q < 100 := (by decide +kernel : ∀ q : Fin 2, strN q < 100) ⟨q, hq⟩
theorem strC_char {q i : Nat} (hq : q < 2) (hi : i < strN q) : ((strC q i &&& nI 255).toUInt32 % 65536).toInt32 = strC q i ∧ narrow .char (.int (strC q i)) = .int (strC q i) := by
  have h : ∀ (q : Fin 2) (i : Fin 8), ((strC q i &&& nI 255).toUInt32 % 65536).toInt32 = strC q i ∧ strC q i = nI (strC q i).toInt.toNat ∧ (strC q i).toInt.toNat < 65536 := by decide +kernel
  have h8 : strN q ≤ 8 := (by decide +kernel : ∀ q : Fin 2, strN q ≤ 8) ⟨q, hq⟩
  obtain ⟨h1, h2, h3⟩ := h ⟨q, hq⟩ ⟨i, by omega⟩
  refine ⟨h1, ?_⟩
  have h4 := (pk_charN h3).1
  rw [← h2] at h4
  exact h4
set_option maxHeartbeats 4000000 in
set_option maxRecDepth 100000 in
theorem okJ1_charAt_3b067 {q i : Nat} (hq : q < 2) (hi : i < strN q) (h : qH) : Ok MJ1_charAt_3b067 [.ref (2010 + q), .int (nI i)] (h) (some (.int (strC q i))) (h) := by
  refine ok_of (by decide +kernel) (Nat.zero_le _) (Nat.le_of_ble_eq_true rfl) ?_
  intro X C E
  show Ex X MJ1_charAt_3b067 0 [(0, .ref (2010 + q)), (1, .int (nI i))] [] (h)
  have hs := strC_char hq hi
  have hn := strN_lt hq
  refine x_iload_n C dJ1_charAt_3b067_0 rfl ?_
  refine x_aload_n C dJ1_charAt_3b067_1 rfl ?_
  refine x_balen C hq dJ1_charAt_3b067_2 ?_
  refine x_callS2v C (okJ0_checkIndex_df160 (n := strN q) hi (by omega) _) lkJ1_9 miJ0_checkIndex_df160 mtJ0_checkIndex_df160 maJ0_checkIndex_df160 ⟨Nat.le_of_ble_eq_true rfl, Nat.le_of_ble_eq_true rfl⟩ (Nat.le_of_ble_eq_true rfl) dJ1_charAt_3b067_3 ?_
  refine x_aload_n C dJ1_charAt_3b067_6 rfl ?_
  refine x_iload_n C dJ1_charAt_3b067_7 rfl ?_
  refine x_bald C hq dJ1_charAt_3b067_8 hi ?_
  refine x_sipush C (v := nI 255) dJ1_charAt_3b067_9 (by decide +kernel) ?_
  refine x_iand C dJ1_charAt_3b067_12 ?_
  refine x_i2c C dJ1_charAt_3b067_13 ?_
  rw [show (((q_sb.getD q []).getD i 0 &&& nI 255).toUInt32 % 65536).toInt32 = strC q i from hs.1]
  exact x_iret E .char dJ1_charAt_3b067_14 rfl hs.2 rfl rfl
set_option maxHeartbeats 4000000 in
set_option maxRecDepth 100000 in
theorem okJ0_charAt_5068e {q i : Nat} (hq : q < 2) (hi : i < strN q) (h : qH) : Ok MJ0_charAt_5068e [.ref (2000 + q), .int (nI i)] (h) (some (.int (strC q i))) (h) := by
  refine ok_of (by decide +kernel) (Nat.zero_le _) (Nat.le_of_ble_eq_true rfl) ?_
  intro X C E
  show Ex X MJ0_charAt_5068e 0 [(0, .ref (2000 + q)), (1, .int (nI i))] [] (h)
  have hs := strC_char hq hi
  refine x_aload_n C dJ0_charAt_5068e_0 rfl ?_
  refine x_callK0i C (okJ0_isLatin1_aae02 hq _) lkJ0_492 miJ0_isLatin1_aae02 msJ0_isLatin1_aae02 maJ0_isLatin1_aae02 ⟨Nat.le_of_ble_eq_true rfl, Nat.le_of_ble_eq_true rfl⟩ (Nat.le_of_ble_eq_true rfl) hq rfl dJ0_charAt_5068e_1 ?_
  refine x_if_eqB C 16 dJ0_charAt_5068e_4 (by decide) (fun c4 => ?_) (fun c4 => ?_)
  · cases c4
  · refine x_aload_n C dJ0_charAt_5068e_7 rfl ?_
    refine x_strvalue C hq lfJ0_9 dJ0_charAt_5068e_8 ?_
    refine x_iload_n C dJ0_charAt_5068e_11 rfl ?_
    refine x_callS2i C (okJ1_charAt_3b067 hq hi _) lkJ0_495 miJ1_charAt_3b067 mtJ1_charAt_3b067 maJ1_charAt_3b067 ⟨Nat.le_of_ble_eq_true rfl, Nat.le_of_ble_eq_true rfl⟩ (Nat.le_of_ble_eq_true rfl) dJ0_charAt_5068e_12 ?_
    exact x_iret E .char dJ0_charAt_5068e_15 rfl hs.2 rfl rfl
set_option maxHeartbeats 4000000 in
set_option maxRecDepth 100000 in
theorem okJ1_canEncode_9a6ad {c : Nat} (hc : c < 256) (h : qH) : Ok MJ1_canEncode_9a6ad [.int (nI c)] (h) (some (.int (qb true))) (h) := by
  refine ok_of (by decide +kernel) (Nat.zero_le _) (Nat.le_of_ble_eq_true rfl) ?_
  intro X C E
  show Ex X MJ1_canEncode_9a6ad 0 [(0, .int (nI c))] [] (h)
  refine x_iload_n C dJ1_canEncode_9a6ad_0 rfl ?_
  refine x_if_ltN C 15 dJ1_canEncode_9a6ad_1 (by decide) (by omega) ?_
  refine x_iload_n C dJ1_canEncode_9a6ad_4 rfl ?_
  refine x_sipush C (v := nI 255) dJ1_canEncode_9a6ad_5 (by decide +kernel) ?_
  refine x_icmp_gtN C 15 dJ1_canEncode_9a6ad_8 (by decide) (by omega) (by omega) (fun c8 => ?_) (fun c8 => ?_)
  · exact absurd c8 (by omega)
  · refine x_iconst C (v := nI 1) dJ1_canEncode_9a6ad_11 (by decide +kernel) ?_
    refine x_goto C 16 dJ1_canEncode_9a6ad_12 (by decide) ?_
    exact x_iret E .boolean dJ1_canEncode_9a6ad_16 rfl rfl rfl rfl
theorem q_cats {ad : Nat → Nat} {st : List Value} {n R : Nat} (h : (st.map fun v => v.category).sum ≤ 8) (hR : 8 + n ≤ R) : ((st.map (q_v ad)).map fun v => v.category).sum + n ≤ R := by
  have e : (st.map (q_v ad)).map (fun v => v.category) = st.map (fun v => v.category) := by rw [List.map_map]; exact List.map_congr_left (fun v _ => q_v_cat ad v)
  rw [e]
  omega
theorem x_mmax {X : qX} {M : qM} (C : qC X M) {pc : Nat} {loc : List (Nat × Value)} {st : List Value} {h : qH} {idx : Nat} {x y : Int32} (hlk : Cond.methodLink M.1.cls idx yJ9_max_7cf53 ∈ qT) (hR : 1 ≤ M.2.2.2.2.frames ∧ 8 + 13 ≤ M.2.2.2.2.locals) (hw : (st.map fun v => v.category).sum ≤ 8) (hd : decode M.2.1 pc = .ok (.invokestatic idx, 3)) (kk : Ex X M (pc + 3) loc (.int (if x < y then y else x) :: st) h) : Ex X M pc loc (.int y :: .int x :: st) h := by
  obtain ⟨p, l, e, s, m, args, below, meth, c, ad, cy, D, A, cells, slots, len, Q⟩ := X
  obtain ⟨hx, hb, hml, hown, hts, hA, hG, hce, hso⟩ := C
  intro H locs ls hlen hP hD hS hl
  exact va_mmax hx hb (hml.trans hl.1.symm) hown (hts _ hlk) (hts _ mtJ9_max_7cf53) (hts _ miJ9_max_7cf53.2.1) (hts _ miJ9_max_7cf53.1) hR.1 (q_cats hw hR.2) hce hso hd (kk H locs ls hlen hP hD hS hl)
theorem x_mmin {X : qX} {M : qM} (C : qC X M) {pc : Nat} {loc : List (Nat × Value)} {st : List Value} {h : qH} {idx : Nat} {x y : Int32} (hlk : Cond.methodLink M.1.cls idx yJ9_min_7cf53 ∈ qT) (hR : 1 ≤ M.2.2.2.2.frames ∧ 8 + 13 ≤ M.2.2.2.2.locals) (hw : (st.map fun v => v.category).sum ≤ 8) (hd : decode M.2.1 pc = .ok (.invokestatic idx, 3)) (kk : Ex X M (pc + 3) loc (.int (if y < x then y else x) :: st) h) : Ex X M pc loc (.int y :: .int x :: st) h := by
  obtain ⟨p, l, e, s, m, args, below, meth, c, ad, cy, D, A, cells, slots, len, Q⟩ := X
  obtain ⟨hx, hb, hml, hown, hts, hA, hG, hce, hso⟩ := C
  intro H locs ls hlen hP hD hS hl
  exact va_mmin hx hb (hml.trans hl.1.symm) hown (hts _ hlk) (hts _ mtJ9_min_7cf53) (hts _ miJ9_min_7cf53.2.1) (hts _ miJ9_min_7cf53.1) hR.1 (q_cats hw hR.2) hce hso hd (kk H locs ls hlen hP hD hS hl)
theorem x_mabs {X : qX} {M : qM} (C : qC X M) {pc : Nat} {loc : List (Nat × Value)} {st : List Value} {h : qH} {idx : Nat} {x : Int32} (hlk : Cond.methodLink M.1.cls idx yJ9_abs_0f7a4 ∈ qT) (hR : 1 ≤ M.2.2.2.2.frames ∧ 8 + 13 ≤ M.2.2.2.2.locals) (hw : (st.map fun v => v.category).sum ≤ 8) (hd : decode M.2.1 pc = .ok (.invokestatic idx, 3)) (kk : Ex X M (pc + 3) loc (.int (if 0 ≤ x then x else 0 - x) :: st) h) : Ex X M pc loc (.int x :: st) h := by
  obtain ⟨p, l, e, s, m, args, below, meth, c, ad, cy, D, A, cells, slots, len, Q⟩ := X
  obtain ⟨hx, hb, hml, hown, hts, hA, hG, hce, hso⟩ := C
  intro H locs ls hlen hP hD hS hl
  exact va_mabs hx hb (hml.trans hl.1.symm) hown (hts _ hlk) (hts _ mtJ9_abs_0f7a4) (hts _ miJ9_abs_0f7a4.2.1) (hts _ miJ9_abs_0f7a4.1) hR.1 (q_cats hw hR.2) hce hso hd (kk H locs ls hlen hP hD hS hl)
/-- the first place of a code in the first String, from i on -/
def idx (c : Nat) : Nat → Nat → Int32
  | 0, _ => -1
  | n + 1, i => if strC 0 i = nI c then nI i else idx c n (i + 1)
theorem idx_n {c n i : Nat} (h : ¬ strC 0 i = nI c) : idx c (n + 1) i = idx c n (i + 1) := by rw [idx, if_neg h]
set_option maxHeartbeats 4000000 in
set_option maxRecDepth 100000 in
theorem okJ1_indexOfChar_4cfef {c : Nat} (hc : c < 128) (h : qH) : Ok MJ1_indexOfChar_4cfef [.ref (2010 + 0), .int (nI c), .int (nI 0), .int (nI 8)] (h) (some (.int (idx c 8 0))) (h) := by
  refine ok_of (by decide +kernel) (Nat.zero_le _) (Nat.le_of_ble_eq_true rfl) ?_
  intro X C E
  show Ex X MJ1_indexOfChar_4cfef 0 [(0, .ref (2010 + 0)), (1, .int (nI c)), (2, .int (nI 0)), (3, .int (nI 8))] [] (h)
  have hq : 0 < 2 := by decide
  have L : ∀ n i : Nat, i + n = 8 → idx c 8 0 = idx c n i → Ex X MJ1_indexOfChar_4cfef 7 [(0, .ref (2010 + 0)), (1, .int (nI c)), (2, .int (nI 0)), (3, .int (nI 8)), (4, .int (nI c)), (5, .int (nI i))] [] (h) := by
    intro n
    induction n with
    | zero =>
      intro i hin ht
      have e : i = 8 := by omega
      subst e
      refine x_iload C dJ1_indexOfChar_4cfef_7 rfl ?_
      refine x_iload_n C dJ1_indexOfChar_4cfef_9 rfl ?_
      refine x_icmp_geN C 31 dJ1_indexOfChar_4cfef_10 (by decide) (by omega) (by omega) (fun c10 => ?_) (fun c10 => ?_)
      · refine x_iconst C (v := (-1)) dJ1_indexOfChar_4cfef_31 (by decide +kernel) ?_
        exact x_iret E .int dJ1_indexOfChar_4cfef_32 rfl rfl (by rw [ht]; rfl) rfl
      · exact absurd c10 (by omega)
    | succ n ih =>
      intro i hin ht
      have hlt : i < 8 := by omega
      refine x_iload C dJ1_indexOfChar_4cfef_7 rfl ?_
      refine x_iload_n C dJ1_indexOfChar_4cfef_9 rfl ?_
      refine x_icmp_geN C 31 dJ1_indexOfChar_4cfef_10 (by decide) (by omega) (by omega) (fun c10 => ?_) (fun c10 => ?_)
      · exact absurd c10 (by omega)
      · refine x_aload_n C dJ1_indexOfChar_4cfef_13 rfl ?_
        refine x_iload C dJ1_indexOfChar_4cfef_14 rfl ?_
        refine x_bald C hq dJ1_indexOfChar_4cfef_16 hlt ?_
        refine x_iload C dJ1_indexOfChar_4cfef_17 rfl ?_
        refine x_icmp_ne C 25 dJ1_indexOfChar_4cfef_19 (by decide) (fun c19 => ?_) (fun c19 => ?_)
        · rw [idx_n (n := n) (i := i) (show ¬ strC 0 i = nI c from c19)] at ht
          refine x_iinc C _ dJ1_indexOfChar_4cfef_25 rfl (q_inc _) (by decide) [(5, _), (0, _), (1, _), (2, _), (3, _), (4, _)] rfl ?_
          refine x_goto C 7 dJ1_indexOfChar_4cfef_28 (by decide) ?_
          exact x_sub [1, 2, 3, 4, 5, 0] (ih (i + 1) (by omega) ht) rfl
        · refine x_iload C dJ1_indexOfChar_4cfef_22 rfl ?_
          exact x_iret E .int dJ1_indexOfChar_4cfef_24 rfl rfl (by rw [ht, idx, if_pos (show strC 0 i = nI c from c19)]) rfl
  refine x_iload_n C dJ1_indexOfChar_4cfef_0 rfl ?_
  refine x_i2b C dJ1_indexOfChar_4cfef_1 ?_
  rw [show (nI c).toInt8.toInt32 = nI c from (by decide +kernel : ∀ c : Fin 128, (nI c).toInt8.toInt32 = nI c) ⟨c, hc⟩]
  refine x_istore C dJ1_indexOfChar_4cfef_2 (by decide) [(4, _), (0, _), (1, _), (2, _), (3, _)] rfl ?_
  refine x_iload_n C dJ1_indexOfChar_4cfef_4 rfl ?_
  refine x_istore C dJ1_indexOfChar_4cfef_5 (by decide) [(5, _), (4, _), (0, _), (1, _), (2, _), (3, _)] rfl ?_
  exact x_sub [2, 3, 4, 5, 1, 0] (L 8 0 (by omega) rfl) rfl
set_option maxHeartbeats 4000000 in
set_option maxRecDepth 100000 in
theorem okJ1_indexOf_4cfef {c : Nat} (hc : c < 128) (h : qH) : Ok MJ1_indexOf_4cfef [.ref (2010 + 0), .int (nI c), .int (nI 0), .int (nI 8)] (h) (some (.int (idx c 8 0))) (h) := by
  refine ok_of (by decide +kernel) (Nat.zero_le _) (Nat.le_of_ble_eq_true rfl) ?_
  intro X C E
  show Ex X MJ1_indexOf_4cfef 0 [(0, .ref (2010 + 0)), (1, .int (nI c)), (2, .int (nI 0)), (3, .int (nI 8))] [] (h)
  have hq : 0 < 2 := by decide
  refine x_iload_n C dJ1_indexOf_4cfef_0 rfl ?_
  refine x_callS1i C (okJ1_canEncode_9a6ad (by omega) _) lkJ1_88 miJ1_canEncode_9a6ad mtJ1_canEncode_9a6ad maJ1_canEncode_9a6ad ⟨Nat.le_of_ble_eq_true rfl, Nat.le_of_ble_eq_true rfl⟩ (Nat.le_of_ble_eq_true rfl) dJ1_indexOf_4cfef_1 ?_
  refine x_if_neB C 9 dJ1_indexOf_4cfef_4 (by decide) (fun c4 => ?_) (fun c4 => ?_)
  · refine x_iload_n C dJ1_indexOf_4cfef_9 rfl ?_
    refine x_iconst C (v := nI 0) dJ1_indexOf_4cfef_10 (by decide +kernel) ?_
    refine x_mmax C lkJ1_92 ⟨Nat.le_of_ble_eq_true rfl, Nat.le_of_ble_eq_true rfl⟩ (Nat.le_of_ble_eq_true rfl) dJ1_indexOf_4cfef_11 ?_
    rw [show (if nI 0 < nI 0 then nI 0 else nI 0) = nI 0 from rfl]
    refine x_istore_n C dJ1_indexOf_4cfef_14 (by decide) [(2, _), (0, _), (1, _), (3, _)] rfl ?_
    refine x_iload_n C dJ1_indexOf_4cfef_15 rfl ?_
    refine x_aload_n C dJ1_indexOf_4cfef_16 rfl ?_
    refine x_balen C hq dJ1_indexOf_4cfef_17 ?_
    refine x_mmin C lkJ1_38 ⟨Nat.le_of_ble_eq_true rfl, Nat.le_of_ble_eq_true rfl⟩ (Nat.le_of_ble_eq_true rfl) dJ1_indexOf_4cfef_18 ?_
    rw [show (if nI (q_sl.getD 0 0) < nI 8 then nI (q_sl.getD 0 0) else nI 8) = nI 8 from rfl]
    refine x_istore_n C dJ1_indexOf_4cfef_21 (by decide) [(3, _), (2, _), (0, _), (1, _)] rfl ?_
    refine x_iload_n C dJ1_indexOf_4cfef_22 rfl ?_
    refine x_iload_n C dJ1_indexOf_4cfef_23 rfl ?_
    refine x_icmp_ltN C 29 dJ1_indexOf_4cfef_24 (by decide) (by omega) (by omega) (fun c24 => ?_) (fun c24 => ?_)
    · refine x_aload_n C dJ1_indexOf_4cfef_29 rfl ?_
      refine x_iload_n C dJ1_indexOf_4cfef_30 rfl ?_
      refine x_iload_n C dJ1_indexOf_4cfef_31 rfl ?_
      refine x_iload_n C dJ1_indexOf_4cfef_32 rfl ?_
      refine x_callS4i C (okJ1_indexOfChar_4cfef hc _) lkJ1_95 miJ1_indexOfChar_4cfef mtJ1_indexOfChar_4cfef maJ1_indexOfChar_4cfef ⟨Nat.le_of_ble_eq_true rfl, Nat.le_of_ble_eq_true rfl⟩ (Nat.le_of_ble_eq_true rfl) dJ1_indexOf_4cfef_33 ?_
      exact x_iret E .int dJ1_indexOf_4cfef_36 rfl rfl rfl rfl
    · exact absurd (by decide : 0 < 8) c24
  · cases c4
set_option maxHeartbeats 4000000 in
set_option maxRecDepth 100000 in
theorem okJ0_indexOf_7cf53 {c : Nat} (hc : c < 128) (h : qH) : Ok MJ0_indexOf_7cf53 [.ref (2000 + 0), .int (nI c), .int (nI 0)] (h) (some (.int (idx c 8 0))) (h) := by
  refine ok_of (by decide +kernel) (Nat.zero_le _) (Nat.le_of_ble_eq_true rfl) ?_
  intro X C E
  show Ex X MJ0_indexOf_7cf53 0 [(0, .ref (2000 + 0)), (1, .int (nI c)), (2, .int (nI 0))] [] (h)
  have hq : 0 < 2 := by decide
  refine x_aload_n C dJ0_indexOf_7cf53_0 rfl ?_
  refine x_callK0i C (okJ0_isLatin1_aae02 hq _) lkJ0_492 miJ0_isLatin1_aae02 msJ0_isLatin1_aae02 maJ0_isLatin1_aae02 ⟨Nat.le_of_ble_eq_true rfl, Nat.le_of_ble_eq_true rfl⟩ (Nat.le_of_ble_eq_true rfl) hq rfl dJ0_indexOf_7cf53_1 ?_
  refine x_if_eqB C 23 dJ0_indexOf_7cf53_4 (by decide) (fun c4 => ?_) (fun c4 => ?_)
  · cases c4
  · refine x_aload_n C dJ0_indexOf_7cf53_7 rfl ?_
    refine x_strvalue C hq lfJ0_9 dJ0_indexOf_7cf53_8 ?_
    refine x_iload_n C dJ0_indexOf_7cf53_11 rfl ?_
    refine x_iload_n C dJ0_indexOf_7cf53_12 rfl ?_
    refine x_aload_n C dJ0_indexOf_7cf53_13 rfl ?_
    refine x_callK0i C (okJ0_length_8abf5 hq _) lkJ0_505 miJ0_length_8abf5 msJ0_length_8abf5 maJ0_length_8abf5 ⟨Nat.le_of_ble_eq_true rfl, Nat.le_of_ble_eq_true rfl⟩ (Nat.le_of_ble_eq_true rfl) hq rfl dJ0_indexOf_7cf53_14 ?_
    refine x_callS4i C (okJ1_indexOf_4cfef hc _) lkJ0_637 miJ1_indexOf_4cfef mtJ1_indexOf_4cfef maJ1_indexOf_4cfef ⟨Nat.le_of_ble_eq_true rfl, Nat.le_of_ble_eq_true rfl⟩ (Nat.le_of_ble_eq_true rfl) dJ0_indexOf_7cf53_17 ?_
    refine x_goto C 36 dJ0_indexOf_7cf53_20 (by decide) ?_
    exact x_iret E .int dJ0_indexOf_7cf53_36 rfl rfl rfl rfl
set_option maxHeartbeats 4000000 in
set_option maxRecDepth 100000 in
theorem okJ0_indexOf_0f7a4 {c : Nat} (hc : c < 128) (h : qH) : Ok MJ0_indexOf_0f7a4 [.ref (2000 + 0), .int (nI c)] (h) (some (.int (idx c 8 0))) (h) := by
  refine ok_of (by decide +kernel) (Nat.zero_le _) (Nat.le_of_ble_eq_true rfl) ?_
  intro X C E
  show Ex X MJ0_indexOf_0f7a4 0 [(0, .ref (2000 + 0)), (1, .int (nI c))] [] (h)
  have hq : 0 < 2 := by decide
  refine x_aload_n C dJ0_indexOf_0f7a4_0 rfl ?_
  refine x_iload_n C dJ0_indexOf_0f7a4_1 rfl ?_
  refine x_iconst C (v := nI 0) dJ0_indexOf_0f7a4_2 (by decide +kernel) ?_
  refine x_callK2i C (okJ0_indexOf_7cf53 hc _) lkJ0_633 miJ0_indexOf_7cf53 msJ0_indexOf_7cf53 maJ0_indexOf_7cf53 ⟨Nat.le_of_ble_eq_true rfl, Nat.le_of_ble_eq_true rfl⟩ (Nat.le_of_ble_eq_true rfl) hq rfl dJ0_indexOf_0f7a4_3 ?_
  exact x_iret E .int dJ0_indexOf_0f7a4_6 rfl rfl rfl rfl
end
