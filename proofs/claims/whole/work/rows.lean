section
-- ===== PART A: goes FIRST, ahead of the names: the tables' words, and 'selects' of the private methods out of them =====
/-- a private method of a class that the tables say can be made, by its rows of tables_1 -/
def lw_okq (q : MethodName × Nat) : Prop := (q.1.cls ≠ "java/lang/invoke/MethodHandle" ∧ q.1.cls ≠ "java/lang/invoke/VarHandle") ∧ Cond.instantiable q.1.cls q.2 ∈ tables_1 ∧ Cond.privateMethod q.1 ∈ tables_1 ∧ Cond.instanceMethod q.1 ∈ tables_1
theorem lw_p0 : lw_okq (⟨"ParcelBall", "finding", "(I)I"⟩, 8) := ⟨⟨by decide +kernel, by decide +kernel⟩, List.mem_of_getElem? (i := 15) (by decide +kernel), List.mem_of_getElem? (i := 167) (by decide +kernel), List.mem_of_getElem? (i := 168) (by decide +kernel)⟩
theorem lw_p1 : lw_okq (⟨"ParcelBall$World", "pullOf", "(I)I"⟩, 11) := ⟨⟨by decide +kernel, by decide +kernel⟩, List.mem_of_getElem? (i := 23) (by decide +kernel), List.mem_of_getElem? (i := 207) (by decide +kernel), List.mem_of_getElem? (i := 208) (by decide +kernel)⟩
theorem lw_p2 : lw_okq (⟨"ParcelBall$World", "feltOf", "(II)I"⟩, 11) := ⟨⟨by decide +kernel, by decide +kernel⟩, List.mem_of_getElem? (i := 23) (by decide +kernel), List.mem_of_getElem? (i := 228) (by decide +kernel), List.mem_of_getElem? (i := 229) (by decide +kernel)⟩
theorem lw_p3 : lw_okq (⟨"ParcelBall$World", "emptySpotsOf", "(I)V"⟩, 11) := ⟨⟨by decide +kernel, by decide +kernel⟩, List.mem_of_getElem? (i := 23) (by decide +kernel), List.mem_of_getElem? (i := 257) (by decide +kernel), List.mem_of_getElem? (i := 258) (by decide +kernel)⟩
theorem lw_p4 : lw_okq (⟨"ParcelBall$World", "moveTo", "(I)V"⟩, 11) := ⟨⟨by decide +kernel, by decide +kernel⟩, List.mem_of_getElem? (i := 23) (by decide +kernel), List.mem_of_getElem? (i := 287) (by decide +kernel), List.mem_of_getElem? (i := 288) (by decide +kernel)⟩
theorem lw_p5 : lw_okq (⟨"ParcelBall$World", "goOffFirst", "()V"⟩, 11) := ⟨⟨by decide +kernel, by decide +kernel⟩, List.mem_of_getElem? (i := 23) (by decide +kernel), List.mem_of_getElem? (i := 296) (by decide +kernel), List.mem_of_getElem? (i := 297) (by decide +kernel)⟩
theorem lw_p6 : lw_okq (⟨"ParcelBall$World", "halveOutside", "(I)V"⟩, 11) := ⟨⟨by decide +kernel, by decide +kernel⟩, List.mem_of_getElem? (i := 23) (by decide +kernel), List.mem_of_getElem? (i := 300) (by decide +kernel), List.mem_of_getElem? (i := 301) (by decide +kernel)⟩
theorem lw_p7 : lw_okq (⟨"ParcelBall", "tryFact", "(III)V"⟩, 8) := ⟨⟨by decide +kernel, by decide +kernel⟩, List.mem_of_getElem? (i := 15) (by decide +kernel), List.mem_of_getElem? (i := 363) (by decide +kernel), List.mem_of_getElem? (i := 364) (by decide +kernel)⟩
theorem lw_p8 : lw_okq (⟨"ParcelBall", "waysOf", "(IIII)I"⟩, 8) := ⟨⟨by decide +kernel, by decide +kernel⟩, List.mem_of_getElem? (i := 15) (by decide +kernel), List.mem_of_getElem? (i := 394) (by decide +kernel), List.mem_of_getElem? (i := 395) (by decide +kernel)⟩
theorem lw_p9 : lw_okq (⟨"ParcelBall", "sheetFinding", "(I)I"⟩, 8) := ⟨⟨by decide +kernel, by decide +kernel⟩, List.mem_of_getElem? (i := 15) (by decide +kernel), List.mem_of_getElem? (i := 398) (by decide +kernel), List.mem_of_getElem? (i := 399) (by decide +kernel)⟩
theorem lw_p10 : lw_okq (⟨"ParcelBall", "trialFollows", "(I)Z"⟩, 8) := ⟨⟨by decide +kernel, by decide +kernel⟩, List.mem_of_getElem? (i := 15) (by decide +kernel), List.mem_of_getElem? (i := 415) (by decide +kernel), List.mem_of_getElem? (i := 416) (by decide +kernel)⟩
theorem lw_p11 : lw_okq (⟨"ParcelBall$TextReader", "takeToken", "()V"⟩, 6) := ⟨⟨by decide +kernel, by decide +kernel⟩, List.mem_of_getElem? (i := 90) (by decide +kernel), List.mem_of_getElem? (i := 482) (by decide +kernel), List.mem_of_getElem? (i := 483) (by decide +kernel)⟩
theorem lw_p12 : lw_okq (⟨"ParcelBall$TextReader", "takeWord", "()V"⟩, 6) := ⟨⟨by decide +kernel, by decide +kernel⟩, List.mem_of_getElem? (i := 90) (by decide +kernel), List.mem_of_getElem? (i := 493) (by decide +kernel), List.mem_of_getElem? (i := 494) (by decide +kernel)⟩
theorem lw_p13 : lw_okq (⟨"ParcelBall$TextReader", "takeNumber", "()V"⟩, 6) := ⟨⟨by decide +kernel, by decide +kernel⟩, List.mem_of_getElem? (i := 90) (by decide +kernel), List.mem_of_getElem? (i := 500) (by decide +kernel), List.mem_of_getElem? (i := 501) (by decide +kernel)⟩
theorem lw_p14 : lw_okq (⟨"ParcelBall$TextReader", "readItem", "()Z"⟩, 6) := ⟨⟨by decide +kernel, by decide +kernel⟩, List.mem_of_getElem? (i := 90) (by decide +kernel), List.mem_of_getElem? (i := 505) (by decide +kernel), List.mem_of_getElem? (i := 506) (by decide +kernel)⟩
theorem lw_p15 : lw_okq (⟨"ParcelBall$TextReader", "isWord", "(Ljava/lang/String;)Z"⟩, 6) := ⟨⟨by decide +kernel, by decide +kernel⟩, List.mem_of_getElem? (i := 90) (by decide +kernel), List.mem_of_getElem? (i := 520) (by decide +kernel), List.mem_of_getElem? (i := 521) (by decide +kernel)⟩
def lw_privs_1 : List (MethodName × Nat) := [(⟨"ParcelBall", "finding", "(I)I"⟩, 8), (⟨"ParcelBall$World", "pullOf", "(I)I"⟩, 11), (⟨"ParcelBall$World", "feltOf", "(II)I"⟩, 11), (⟨"ParcelBall$World", "emptySpotsOf", "(I)V"⟩, 11), (⟨"ParcelBall$World", "moveTo", "(I)V"⟩, 11), (⟨"ParcelBall$World", "goOffFirst", "()V"⟩, 11), (⟨"ParcelBall$World", "halveOutside", "(I)V"⟩, 11), (⟨"ParcelBall", "tryFact", "(III)V"⟩, 8), (⟨"ParcelBall", "waysOf", "(IIII)I"⟩, 8), (⟨"ParcelBall", "sheetFinding", "(I)I"⟩, 8), (⟨"ParcelBall", "trialFollows", "(I)Z"⟩, 8), (⟨"ParcelBall$TextReader", "takeToken", "()V"⟩, 6), (⟨"ParcelBall$TextReader", "takeWord", "()V"⟩, 6), (⟨"ParcelBall$TextReader", "takeNumber", "()V"⟩, 6), (⟨"ParcelBall$TextReader", "readItem", "()Z"⟩, 6), (⟨"ParcelBall$TextReader", "isWord", "(Ljava/lang/String;)Z"⟩, 6)]
theorem lw_r1 : ∀ q ∈ lw_privs_1, lw_okq q := List.forall_mem_cons.mpr ⟨lw_p0, List.forall_mem_cons.mpr ⟨lw_p1, List.forall_mem_cons.mpr ⟨lw_p2, List.forall_mem_cons.mpr ⟨lw_p3, List.forall_mem_cons.mpr ⟨lw_p4, List.forall_mem_cons.mpr ⟨lw_p5, List.forall_mem_cons.mpr ⟨lw_p6, List.forall_mem_cons.mpr ⟨lw_p7, List.forall_mem_cons.mpr ⟨lw_p8, List.forall_mem_cons.mpr ⟨lw_p9, List.forall_mem_cons.mpr ⟨lw_p10, List.forall_mem_cons.mpr ⟨lw_p11, List.forall_mem_cons.mpr ⟨lw_p12, List.forall_mem_cons.mpr ⟨lw_p13, List.forall_mem_cons.mpr ⟨lw_p14, List.forall_mem_cons.mpr ⟨lw_p15, fun _ h => absurd h List.not_mem_nil⟩⟩⟩⟩⟩⟩⟩⟩⟩⟩⟩⟩⟩⟩⟩⟩
theorem lw_p16 : lw_okq (⟨"ParcelBall$TextReader", "readPiece", "(I)Z"⟩, 6) := ⟨⟨by decide +kernel, by decide +kernel⟩, List.mem_of_getElem? (i := 90) (by decide +kernel), List.mem_of_getElem? (i := 572) (by decide +kernel), List.mem_of_getElem? (i := 573) (by decide +kernel)⟩
theorem lw_p17 : lw_okq (⟨"ParcelBall$TextReader", "readFact", "(Ljava/lang/String;II)Z"⟩, 6) := ⟨⟨by decide +kernel, by decide +kernel⟩, List.mem_of_getElem? (i := 90) (by decide +kernel), List.mem_of_getElem? (i := 579) (by decide +kernel), List.mem_of_getElem? (i := 580) (by decide +kernel)⟩
theorem lw_p18 : lw_okq (⟨"ParcelBall$TextReader", "readBall", "()Z"⟩, 6) := ⟨⟨by decide +kernel, by decide +kernel⟩, List.mem_of_getElem? (i := 90) (by decide +kernel), List.mem_of_getElem? (i := 588) (by decide +kernel), List.mem_of_getElem? (i := 589) (by decide +kernel)⟩
theorem lw_p19 : lw_okq (⟨"ParcelBall$TextReader", "isNumber", "(II)Z"⟩, 6) := ⟨⟨by decide +kernel, by decide +kernel⟩, List.mem_of_getElem? (i := 90) (by decide +kernel), List.mem_of_getElem? (i := 592) (by decide +kernel), List.mem_of_getElem? (i := 593) (by decide +kernel)⟩
theorem lw_p20 : lw_okq (⟨"ParcelBall$TextReader", "readDrag", "()Z"⟩, 6) := ⟨⟨by decide +kernel, by decide +kernel⟩, List.mem_of_getElem? (i := 90) (by decide +kernel), List.mem_of_getElem? (i := 598) (by decide +kernel), List.mem_of_getElem? (i := 599) (by decide +kernel)⟩
theorem lw_p21 : lw_okq (⟨"ParcelBallModel", "becomes", "(II)I"⟩, 17) := ⟨⟨by decide +kernel, by decide +kernel⟩, List.mem_of_getElem? (i := 693) (by decide +kernel), List.mem_of_getElem? (i := 762) (by decide +kernel), List.mem_of_getElem? (i := 763) (by decide +kernel)⟩
theorem lw_p22 : lw_okq (⟨"ParcelBallModel", "finds", "(I)I"⟩, 17) := ⟨⟨by decide +kernel, by decide +kernel⟩, List.mem_of_getElem? (i := 693) (by decide +kernel), List.mem_of_getElem? (i := 767) (by decide +kernel), List.mem_of_getElem? (i := 768) (by decide +kernel)⟩
theorem lw_p23 : lw_okq (⟨"ParcelBallModel", "adds", "(II)I"⟩, 17) := ⟨⟨by decide +kernel, by decide +kernel⟩, List.mem_of_getElem? (i := 693) (by decide +kernel), List.mem_of_getElem? (i := 785) (by decide +kernel), List.mem_of_getElem? (i := 786) (by decide +kernel)⟩
theorem lw_p24 : lw_okq (⟨"ParcelBallModel", "isPiece", "(I)Z"⟩, 17) := ⟨⟨by decide +kernel, by decide +kernel⟩, List.mem_of_getElem? (i := 693) (by decide +kernel), List.mem_of_getElem? (i := 796) (by decide +kernel), List.mem_of_getElem? (i := 797) (by decide +kernel)⟩
theorem lw_p25 : lw_okq (⟨"ParcelBallModel", "pullsOf", "(I)I"⟩, 17) := ⟨⟨by decide +kernel, by decide +kernel⟩, List.mem_of_getElem? (i := 693) (by decide +kernel), List.mem_of_getElem? (i := 801) (by decide +kernel), List.mem_of_getElem? (i := 802) (by decide +kernel)⟩
theorem lw_p26 : lw_okq (⟨"ParcelBallModel", "its", "(II)I"⟩, 17) := ⟨⟨by decide +kernel, by decide +kernel⟩, List.mem_of_getElem? (i := 693) (by decide +kernel), List.mem_of_getElem? (i := 805) (by decide +kernel), List.mem_of_getElem? (i := 806) (by decide +kernel)⟩
theorem lw_p27 : lw_okq (⟨"ParcelBallModel", "lastsOf", "(I)I"⟩, 17) := ⟨⟨by decide +kernel, by decide +kernel⟩, List.mem_of_getElem? (i := 693) (by decide +kernel), List.mem_of_getElem? (i := 815) (by decide +kernel), List.mem_of_getElem? (i := 816) (by decide +kernel)⟩
theorem lw_p28 : lw_okq (⟨"ParcelBallModel", "longFrom", "(I)I"⟩, 17) := ⟨⟨by decide +kernel, by decide +kernel⟩, List.mem_of_getElem? (i := 693) (by decide +kernel), List.mem_of_getElem? (i := 819) (by decide +kernel), List.mem_of_getElem? (i := 820) (by decide +kernel)⟩
theorem lw_p29 : lw_okq (⟨"ParcelBallModel", "feltOf", "(I)I"⟩, 17) := ⟨⟨by decide +kernel, by decide +kernel⟩, List.mem_of_getElem? (i := 693) (by decide +kernel), List.mem_of_getElem? (i := 823) (by decide +kernel), List.mem_of_getElem? (i := 824) (by decide +kernel)⟩
theorem lw_p30 : lw_okq (⟨"ParcelBallModel", "givesOf", "(I)I"⟩, 17) := ⟨⟨by decide +kernel, by decide +kernel⟩, List.mem_of_getElem? (i := 693) (by decide +kernel), List.mem_of_getElem? (i := 827) (by decide +kernel), List.mem_of_getElem? (i := 828) (by decide +kernel)⟩
theorem lw_p31 : lw_okq (⟨"ParcelBallModel", "feltAt", "(I)I"⟩, 17) := ⟨⟨by decide +kernel, by decide +kernel⟩, List.mem_of_getElem? (i := 693) (by decide +kernel), List.mem_of_getElem? (i := 850) (by decide +kernel), List.mem_of_getElem? (i := 851) (by decide +kernel)⟩
def lw_privs_2 : List (MethodName × Nat) := [(⟨"ParcelBall$TextReader", "readPiece", "(I)Z"⟩, 6), (⟨"ParcelBall$TextReader", "readFact", "(Ljava/lang/String;II)Z"⟩, 6), (⟨"ParcelBall$TextReader", "readBall", "()Z"⟩, 6), (⟨"ParcelBall$TextReader", "isNumber", "(II)Z"⟩, 6), (⟨"ParcelBall$TextReader", "readDrag", "()Z"⟩, 6), (⟨"ParcelBallModel", "becomes", "(II)I"⟩, 17), (⟨"ParcelBallModel", "finds", "(I)I"⟩, 17), (⟨"ParcelBallModel", "adds", "(II)I"⟩, 17), (⟨"ParcelBallModel", "isPiece", "(I)Z"⟩, 17), (⟨"ParcelBallModel", "pullsOf", "(I)I"⟩, 17), (⟨"ParcelBallModel", "its", "(II)I"⟩, 17), (⟨"ParcelBallModel", "lastsOf", "(I)I"⟩, 17), (⟨"ParcelBallModel", "longFrom", "(I)I"⟩, 17), (⟨"ParcelBallModel", "feltOf", "(I)I"⟩, 17), (⟨"ParcelBallModel", "givesOf", "(I)I"⟩, 17), (⟨"ParcelBallModel", "feltAt", "(I)I"⟩, 17)]
theorem lw_r2 : ∀ q ∈ lw_privs_2, lw_okq q := List.forall_mem_cons.mpr ⟨lw_p16, List.forall_mem_cons.mpr ⟨lw_p17, List.forall_mem_cons.mpr ⟨lw_p18, List.forall_mem_cons.mpr ⟨lw_p19, List.forall_mem_cons.mpr ⟨lw_p20, List.forall_mem_cons.mpr ⟨lw_p21, List.forall_mem_cons.mpr ⟨lw_p22, List.forall_mem_cons.mpr ⟨lw_p23, List.forall_mem_cons.mpr ⟨lw_p24, List.forall_mem_cons.mpr ⟨lw_p25, List.forall_mem_cons.mpr ⟨lw_p26, List.forall_mem_cons.mpr ⟨lw_p27, List.forall_mem_cons.mpr ⟨lw_p28, List.forall_mem_cons.mpr ⟨lw_p29, List.forall_mem_cons.mpr ⟨lw_p30, List.forall_mem_cons.mpr ⟨lw_p31, fun _ h => absurd h List.not_mem_nil⟩⟩⟩⟩⟩⟩⟩⟩⟩⟩⟩⟩⟩⟩⟩⟩
theorem lw_p32 : lw_okq (⟨"ParcelBallModel", "goesOn", "(I)V"⟩, 17) := ⟨⟨by decide +kernel, by decide +kernel⟩, List.mem_of_getElem? (i := 693) (by decide +kernel), List.mem_of_getElem? (i := 860) (by decide +kernel), List.mem_of_getElem? (i := 861) (by decide +kernel)⟩
theorem lw_p33 : lw_okq (⟨"ParcelBallModel", "day", "()V"⟩, 17) := ⟨⟨by decide +kernel, by decide +kernel⟩, List.mem_of_getElem? (i := 693) (by decide +kernel), List.mem_of_getElem? (i := 864) (by decide +kernel), List.mem_of_getElem? (i := 865) (by decide +kernel)⟩
theorem lw_p34 : lw_okq (⟨"ParcelBallModel", "pull", "(I)I"⟩, 17) := ⟨⟨by decide +kernel, by decide +kernel⟩, List.mem_of_getElem? (i := 693) (by decide +kernel), List.mem_of_getElem? (i := 868) (by decide +kernel), List.mem_of_getElem? (i := 869) (by decide +kernel)⟩
theorem lw_p35 : lw_okq (⟨"ParcelBallModel", "arrives", "()V"⟩, 17) := ⟨⟨by decide +kernel, by decide +kernel⟩, List.mem_of_getElem? (i := 693) (by decide +kernel), List.mem_of_getElem? (i := 872) (by decide +kernel), List.mem_of_getElem? (i := 873) (by decide +kernel)⟩
theorem lw_p36 : lw_okq (⟨"ParcelBallModel", "goesOff", "(I)V"⟩, 17) := ⟨⟨by decide +kernel, by decide +kernel⟩, List.mem_of_getElem? (i := 693) (by decide +kernel), List.mem_of_getElem? (i := 879) (by decide +kernel), List.mem_of_getElem? (i := 880) (by decide +kernel)⟩
theorem lw_p37 : lw_okq (⟨"ParcelBallModel", "drawn", "()I"⟩, 17) := ⟨⟨by decide +kernel, by decide +kernel⟩, List.mem_of_getElem? (i := 693) (by decide +kernel), List.mem_of_getElem? (i := 887) (by decide +kernel), List.mem_of_getElem? (i := 888) (by decide +kernel)⟩
theorem lw_p38 : lw_okq (⟨"ParcelBallModel", "mostFelt", "()I"⟩, 17) := ⟨⟨by decide +kernel, by decide +kernel⟩, List.mem_of_getElem? (i := 693) (by decide +kernel), List.mem_of_getElem? (i := 891) (by decide +kernel), List.mem_of_getElem? (i := 892) (by decide +kernel)⟩
theorem lw_p39 : lw_okq (⟨"ParcelBallModel", "laysAside", "()V"⟩, 17) := ⟨⟨by decide +kernel, by decide +kernel⟩, List.mem_of_getElem? (i := 693) (by decide +kernel), List.mem_of_getElem? (i := 901) (by decide +kernel), List.mem_of_getElem? (i := 902) (by decide +kernel)⟩
theorem lw_p40 : lw_okq (⟨"ParcelBallModel", "takesBack", "(I)I"⟩, 17) := ⟨⟨by decide +kernel, by decide +kernel⟩, List.mem_of_getElem? (i := 693) (by decide +kernel), List.mem_of_getElem? (i := 905) (by decide +kernel), List.mem_of_getElem? (i := 906) (by decide +kernel)⟩
theorem lw_p41 : lw_okq (⟨"ParcelBallModel", "behind", "(II)I"⟩, 17) := ⟨⟨by decide +kernel, by decide +kernel⟩, List.mem_of_getElem? (i := 693) (by decide +kernel), List.mem_of_getElem? (i := 913) (by decide +kernel), List.mem_of_getElem? (i := 914) (by decide +kernel)⟩
theorem lw_p42 : lw_okq (⟨"ParcelBallModel", "orNone", "(I)I"⟩, 17) := ⟨⟨by decide +kernel, by decide +kernel⟩, List.mem_of_getElem? (i := 693) (by decide +kernel), List.mem_of_getElem? (i := 921) (by decide +kernel), List.mem_of_getElem? (i := 922) (by decide +kernel)⟩
theorem lw_p43 : lw_okq (⟨"ParcelBallModel", "moreIn", "(I)I"⟩, 17) := ⟨⟨by decide +kernel, by decide +kernel⟩, List.mem_of_getElem? (i := 693) (by decide +kernel), List.mem_of_getElem? (i := 930) (by decide +kernel), List.mem_of_getElem? (i := 931) (by decide +kernel)⟩
theorem lw_p44 : lw_okq (⟨"ParcelBallModel", "toldBy", "(IIII)I"⟩, 17) := ⟨⟨by decide +kernel, by decide +kernel⟩, List.mem_of_getElem? (i := 693) (by decide +kernel), List.mem_of_getElem? (i := 979) (by decide +kernel), List.mem_of_getElem? (i := 980) (by decide +kernel)⟩
theorem lw_p45 : lw_okq (⟨"ParcelBallModel", "wrong", "(I)I"⟩, 17) := ⟨⟨by decide +kernel, by decide +kernel⟩, List.mem_of_getElem? (i := 693) (by decide +kernel), List.mem_of_getElem? (i := 983) (by decide +kernel), List.mem_of_getElem? (i := 984) (by decide +kernel)⟩
theorem lw_p46 : lw_okq (⟨"ParcelBallModel", "isTold", "(I)Z"⟩, 17) := ⟨⟨by decide +kernel, by decide +kernel⟩, List.mem_of_getElem? (i := 693) (by decide +kernel), List.mem_of_getElem? (i := 992) (by decide +kernel), List.mem_of_getElem? (i := 993) (by decide +kernel)⟩
theorem lw_p47 : lw_okq (⟨"ParcelBallModel", "draw", "()I"⟩, 17) := ⟨⟨by decide +kernel, by decide +kernel⟩, List.mem_of_getElem? (i := 693) (by decide +kernel), List.mem_of_getElem? (i := 1004) (by decide +kernel), List.mem_of_getElem? (i := 1005) (by decide +kernel)⟩
def lw_privs_3 : List (MethodName × Nat) := [(⟨"ParcelBallModel", "goesOn", "(I)V"⟩, 17), (⟨"ParcelBallModel", "day", "()V"⟩, 17), (⟨"ParcelBallModel", "pull", "(I)I"⟩, 17), (⟨"ParcelBallModel", "arrives", "()V"⟩, 17), (⟨"ParcelBallModel", "goesOff", "(I)V"⟩, 17), (⟨"ParcelBallModel", "drawn", "()I"⟩, 17), (⟨"ParcelBallModel", "mostFelt", "()I"⟩, 17), (⟨"ParcelBallModel", "laysAside", "()V"⟩, 17), (⟨"ParcelBallModel", "takesBack", "(I)I"⟩, 17), (⟨"ParcelBallModel", "behind", "(II)I"⟩, 17), (⟨"ParcelBallModel", "orNone", "(I)I"⟩, 17), (⟨"ParcelBallModel", "moreIn", "(I)I"⟩, 17), (⟨"ParcelBallModel", "toldBy", "(IIII)I"⟩, 17), (⟨"ParcelBallModel", "wrong", "(I)I"⟩, 17), (⟨"ParcelBallModel", "isTold", "(I)Z"⟩, 17), (⟨"ParcelBallModel", "draw", "()I"⟩, 17)]
theorem lw_r3 : ∀ q ∈ lw_privs_3, lw_okq q := List.forall_mem_cons.mpr ⟨lw_p32, List.forall_mem_cons.mpr ⟨lw_p33, List.forall_mem_cons.mpr ⟨lw_p34, List.forall_mem_cons.mpr ⟨lw_p35, List.forall_mem_cons.mpr ⟨lw_p36, List.forall_mem_cons.mpr ⟨lw_p37, List.forall_mem_cons.mpr ⟨lw_p38, List.forall_mem_cons.mpr ⟨lw_p39, List.forall_mem_cons.mpr ⟨lw_p40, List.forall_mem_cons.mpr ⟨lw_p41, List.forall_mem_cons.mpr ⟨lw_p42, List.forall_mem_cons.mpr ⟨lw_p43, List.forall_mem_cons.mpr ⟨lw_p44, List.forall_mem_cons.mpr ⟨lw_p45, List.forall_mem_cons.mpr ⟨lw_p46, List.forall_mem_cons.mpr ⟨lw_p47, fun _ h => absurd h List.not_mem_nil⟩⟩⟩⟩⟩⟩⟩⟩⟩⟩⟩⟩⟩⟩⟩⟩
theorem lw_p48 : lw_okq (⟨"ParcelBallModel", "saves", "()V"⟩, 17) := ⟨⟨by decide +kernel, by decide +kernel⟩, List.mem_of_getElem? (i := 693) (by decide +kernel), List.mem_of_getElem? (i := 1030) (by decide +kernel), List.mem_of_getElem? (i := 1031) (by decide +kernel)⟩
theorem lw_p49 : lw_okq (⟨"ParcelBallModel", "token", "()V"⟩, 17) := ⟨⟨by decide +kernel, by decide +kernel⟩, List.mem_of_getElem? (i := 693) (by decide +kernel), List.mem_of_getElem? (i := 1034) (by decide +kernel), List.mem_of_getElem? (i := 1035) (by decide +kernel)⟩
theorem lw_p50 : lw_okq (⟨"ParcelBallModel", "byteAt", "(I)I"⟩, 17) := ⟨⟨by decide +kernel, by decide +kernel⟩, List.mem_of_getElem? (i := 693) (by decide +kernel), List.mem_of_getElem? (i := 1038) (by decide +kernel), List.mem_of_getElem? (i := 1039) (by decide +kernel)⟩
theorem lw_p51 : lw_okq (⟨"ParcelBallModel", "item", "()V"⟩, 17) := ⟨⟨by decide +kernel, by decide +kernel⟩, List.mem_of_getElem? (i := 693) (by decide +kernel), List.mem_of_getElem? (i := 1052) (by decide +kernel), List.mem_of_getElem? (i := 1053) (by decide +kernel)⟩
theorem lw_p52 : lw_okq (⟨"ParcelBallModel", "kindHere", "()I"⟩, 17) := ⟨⟨by decide +kernel, by decide +kernel⟩, List.mem_of_getElem? (i := 693) (by decide +kernel), List.mem_of_getElem? (i := 1056) (by decide +kernel), List.mem_of_getElem? (i := 1057) (by decide +kernel)⟩
theorem lw_p53 : lw_okq (⟨"ParcelBallModel", "word", "()J"⟩, 17) := ⟨⟨by decide +kernel, by decide +kernel⟩, List.mem_of_getElem? (i := 693) (by decide +kernel), List.mem_of_getElem? (i := 1060) (by decide +kernel), List.mem_of_getElem? (i := 1061) (by decide +kernel)⟩
theorem lw_p54 : lw_okq (⟨"ParcelBallModel", "pieceItem", "(I)V"⟩, 17) := ⟨⟨by decide +kernel, by decide +kernel⟩, List.mem_of_getElem? (i := 693) (by decide +kernel), List.mem_of_getElem? (i := 1074) (by decide +kernel), List.mem_of_getElem? (i := 1075) (by decide +kernel)⟩
theorem lw_p55 : lw_okq (⟨"ParcelBallModel", "must", "(Z)V"⟩, 17) := ⟨⟨by decide +kernel, by decide +kernel⟩, List.mem_of_getElem? (i := 693) (by decide +kernel), List.mem_of_getElem? (i := 1078) (by decide +kernel), List.mem_of_getElem? (i := 1079) (by decide +kernel)⟩
theorem lw_p56 : lw_okq (⟨"ParcelBallModel", "partItem", "(JIII)V"⟩, 17) := ⟨⟨by decide +kernel, by decide +kernel⟩, List.mem_of_getElem? (i := 693) (by decide +kernel), List.mem_of_getElem? (i := 1083) (by decide +kernel), List.mem_of_getElem? (i := 1084) (by decide +kernel)⟩
theorem lw_p57 : lw_okq (⟨"ParcelBallModel", "number", "(II)V"⟩, 17) := ⟨⟨by decide +kernel, by decide +kernel⟩, List.mem_of_getElem? (i := 693) (by decide +kernel), List.mem_of_getElem? (i := 1087) (by decide +kernel), List.mem_of_getElem? (i := 1088) (by decide +kernel)⟩
theorem lw_p58 : lw_okq (⟨"ParcelBallModel", "putsBack", "()V"⟩, 17) := ⟨⟨by decide +kernel, by decide +kernel⟩, List.mem_of_getElem? (i := 693) (by decide +kernel), List.mem_of_getElem? (i := 1094) (by decide +kernel), List.mem_of_getElem? (i := 1095) (by decide +kernel)⟩
theorem lw_p59 : lw_okq (⟨"ParcelBallModel", "heldSpots", "()I"⟩, 17) := ⟨⟨by decide +kernel, by decide +kernel⟩, List.mem_of_getElem? (i := 693) (by decide +kernel), List.mem_of_getElem? (i := 1153) (by decide +kernel), List.mem_of_getElem? (i := 1154) (by decide +kernel)⟩
def lw_privs_4 : List (MethodName × Nat) := [(⟨"ParcelBallModel", "saves", "()V"⟩, 17), (⟨"ParcelBallModel", "token", "()V"⟩, 17), (⟨"ParcelBallModel", "byteAt", "(I)I"⟩, 17), (⟨"ParcelBallModel", "item", "()V"⟩, 17), (⟨"ParcelBallModel", "kindHere", "()I"⟩, 17), (⟨"ParcelBallModel", "word", "()J"⟩, 17), (⟨"ParcelBallModel", "pieceItem", "(I)V"⟩, 17), (⟨"ParcelBallModel", "must", "(Z)V"⟩, 17), (⟨"ParcelBallModel", "partItem", "(JIII)V"⟩, 17), (⟨"ParcelBallModel", "number", "(II)V"⟩, 17), (⟨"ParcelBallModel", "putsBack", "()V"⟩, 17), (⟨"ParcelBallModel", "heldSpots", "()I"⟩, 17)]
theorem lw_r4 : ∀ q ∈ lw_privs_4, lw_okq q := List.forall_mem_cons.mpr ⟨lw_p48, List.forall_mem_cons.mpr ⟨lw_p49, List.forall_mem_cons.mpr ⟨lw_p50, List.forall_mem_cons.mpr ⟨lw_p51, List.forall_mem_cons.mpr ⟨lw_p52, List.forall_mem_cons.mpr ⟨lw_p53, List.forall_mem_cons.mpr ⟨lw_p54, List.forall_mem_cons.mpr ⟨lw_p55, List.forall_mem_cons.mpr ⟨lw_p56, List.forall_mem_cons.mpr ⟨lw_p57, List.forall_mem_cons.mpr ⟨lw_p58, List.forall_mem_cons.mpr ⟨lw_p59, fun _ h => absurd h List.not_mem_nil⟩⟩⟩⟩⟩⟩⟩⟩⟩⟩⟩⟩
def lw_privs : List (MethodName × Nat) := lw_privs_1 ++ (lw_privs_2 ++ (lw_privs_3 ++ (lw_privs_4)))
def lw_tbl : List Cond := k2_sels lw_privs ++ tables_1
theorem lw_privs_ok : ∀ q ∈ lw_privs, lw_okq q := by
  show ∀ q ∈ lw_privs_1 ++ (lw_privs_2 ++ (lw_privs_3 ++ (lw_privs_4))), lw_okq q
  exact List.forall_mem_append.mpr ⟨lw_r1, List.forall_mem_append.mpr ⟨lw_r2, List.forall_mem_append.mpr ⟨lw_r3, lw_r4⟩⟩⟩
end
section
/-! ===== BEGIN words of one list among another's, by their places ===== -/
theorem goodIn_r {big : List Cond} (ws : List Cond) (ps : List Nat) (hp : ws = ps.filterMap (fun i => big[i]?)) (h : ws.all goodWord = true) : GoodIn big ws := by
  intro w hw
  have h1 := List.all_eq_true.mp h w hw
  rw [hp] at hw
  obtain ⟨i, -, hi⟩ := List.mem_filterMap.mp hw
  have hm : w ∈ big := by first | exact List.mem_of_getElem? hi | exact List.getElem?_mem hi
  exact ⟨hm, good_of_word h1⟩
theorem goodIn_app {big a b : List Cond} (ha : GoodIn big a) (hb : GoodIn big b) : GoodIn big (a ++ b) := fun w h => (List.mem_append.mp h).elim (ha w) (hb w)
theorem goodIn_ca {big a b : List Cond} {c : Cond} (ha : GoodIn big (c :: a)) (hb : GoodIn big b) : GoodIn big (c :: (a ++ b)) := fun w h => (List.mem_cons.mp h).elim (fun e => ha w (List.mem_cons.mpr (Or.inl e))) (fun h => (List.mem_append.mp h).elim (fun h => ha w (List.mem_cons.mpr (Or.inr h))) (hb w))
theorem goodIn_sub {big ws : List Cond} (hm : ∀ w ∈ ws, w ∈ big) (h : ws.all goodWord = true) : GoodIn big ws := fun w hw => ⟨hm w hw, good_of_word (List.all_eq_true.mp h w hw)⟩
/-! ===== END ===== -/

/-! ===== BEGIN printed: names, fields, word lists, decode rows ===== -/
def RX0 : String := "ParcelBall$Sheets"
def TX0 : u_T := fun k => match k with
  | 0 => ("ParcelBall$Sheets", "bits", "[I", true)
  | 1 => ("ParcelBall$Sheets", "sizes", "[I", true)
  | _ => ("ParcelBall$Sheets", "numbers", "[I", true)
def tyX0 : Nat → FieldType := fun k => match k with
  | 0 => .array .int
  | 1 => .array .int
  | _ => .array .int
abbrev wsX00 : List Cond := u_ws RX0 TX0 3
theorem nmX0 : ∀ a, a < 3 → ∀ b, b < 3 → a ≠ b → (TX0 a).2.1 ≠ (TX0 b).2.1 := by decide +kernel
theorem tyX0_ok : ∀ k, k < 3 → parseFieldDescriptor (TX0 k).2.2.1 = some (tyX0 k) := by decide +kernel
abbrev cX0_init : ByteArray := prog_2_method_1_code
def yX0_init : MethodName := ⟨RX0, "<init>", "()V"⟩
abbrev cX0_lay : ByteArray := prog_2_method_2_code
def yX0_lay : MethodName := ⟨RX0, "lay", "(III)V"⟩
abbrev cX0_bitsOf : ByteArray := prog_2_method_3_code
def yX0_bitsOf : MethodName := ⟨RX0, "bitsOf", "(I)I"⟩
abbrev cX0_sizeOf : ByteArray := prog_2_method_4_code
def yX0_sizeOf : MethodName := ⟨RX0, "sizeOf", "(I)I"⟩
abbrev cX0_isMissing : ByteArray := prog_2_method_5_code
def yX0_isMissing : MethodName := ⟨RX0, "isMissing", "(I)Z"⟩
abbrev cX0_number : ByteArray := prog_2_method_6_code
def yX0_number : MethodName := ⟨RX0, "number", "(II)I"⟩
abbrev cX0_put : ByteArray := prog_2_method_7_code
def yX0_put : MethodName := ⟨RX0, "put", "(III)V"⟩
abbrev cX0_hasRange : ByteArray := prog_2_method_8_code
def yX0_hasRange : MethodName := ⟨RX0, "hasRange", "(III)Z"⟩
abbrev cX0_move : ByteArray := prog_2_method_9_code
def yX0_move : MethodName := ⟨RX0, "move", "(IIIII)V"⟩
abbrev cX0_lowestBits : ByteArray := prog_2_method_10_code
def yX0_lowestBits : MethodName := ⟨RX0, "lowestBits", "(II)I"⟩
def RX1 : String := "ParcelBall$Tape"
def TX1 : u_T := fun k => match k with
  | 0 => ("ParcelBall$Tape", "size", "I", false)
  | _ => ("ParcelBall$Tape", "bytes", "[I", true)
def tyX1 : Nat → FieldType := fun k => match k with
  | 0 => .int
  | _ => .array .int
abbrev wsX10 : List Cond := u_ws RX1 TX1 2
theorem nmX1 : ∀ a, a < 2 → ∀ b, b < 2 → a ≠ b → (TX1 a).2.1 ≠ (TX1 b).2.1 := by decide +kernel
theorem tyX1_ok : ∀ k, k < 2 → parseFieldDescriptor (TX1 k).2.2.1 = some (tyX1 k) := by decide +kernel
abbrev cX1_init : ByteArray := prog_3_method_1_code
def yX1_init : MethodName := ⟨RX1, "<init>", "()V"⟩
abbrev cX1_add : ByteArray := prog_3_method_2_code
def yX1_add : MethodName := ⟨RX1, "add", "(I)V"⟩
abbrev cX1_byteAt : ByteArray := prog_3_method_3_code
def yX1_byteAt : MethodName := ⟨RX1, "byteAt", "(I)I"⟩
def RX2 : String := "ParcelBall$TextReader"
def TX2 : u_T := fun k => match k with
  | 0 => ("ParcelBall$TextReader", "tape", "LParcelBall$Tape;", true)
  | 1 => ("ParcelBall$TextReader", "world", "LParcelBall$World;", true)
  | 2 => ("ParcelBall$TextReader", "tokenSort", "I", false)
  | 3 => ("ParcelBall$TextReader", "tokenStart", "I", false)
  | 4 => ("ParcelBall$TextReader", "tokenEnd", "I", false)
  | _ => ("ParcelBall$TextReader", "tokenNumber", "I", false)
def tyX2 : Nat → FieldType := fun k => match k with
  | 0 => .object "ParcelBall$Tape"
  | 1 => .object "ParcelBall$World"
  | 2 => .int
  | 3 => .int
  | 4 => .int
  | _ => .int
abbrev wsX20 : List Cond := u_ws RX2 TX2 6
theorem nmX2 : ∀ a, a < 6 → ∀ b, b < 6 → a ≠ b → (TX2 a).2.1 ≠ (TX2 b).2.1 := by decide +kernel
theorem tyX2_ok : ∀ k, k < 6 → parseFieldDescriptor (TX2 k).2.2.1 = some (tyX2 k) := by decide +kernel
abbrev cX2_init : ByteArray := prog_4_method_1_code
def yX2_init : MethodName := ⟨RX2, "<init>", "(LParcelBall$Tape;LParcelBall$World;)V"⟩
abbrev cX2_readText : ByteArray := prog_4_method_2_code
def yX2_readText : MethodName := ⟨RX2, "readText", "()I"⟩
abbrev cX2_readItem : ByteArray := prog_4_method_3_code
def yX2_readItem : MethodName := ⟨RX2, "readItem", "()Z"⟩
abbrev cX2_readBall : ByteArray := prog_4_method_4_code
def yX2_readBall : MethodName := ⟨RX2, "readBall", "()Z"⟩
abbrev cX2_readDrag : ByteArray := prog_4_method_5_code
def yX2_readDrag : MethodName := ⟨RX2, "readDrag", "()Z"⟩
abbrev cX2_readPiece : ByteArray := prog_4_method_6_code
def yX2_readPiece : MethodName := ⟨RX2, "readPiece", "(I)Z"⟩
abbrev cX2_readFact : ByteArray := prog_4_method_7_code
def yX2_readFact : MethodName := ⟨RX2, "readFact", "(Ljava/lang/String;II)Z"⟩
abbrev cX2_isNumber : ByteArray := prog_4_method_8_code
def yX2_isNumber : MethodName := ⟨RX2, "isNumber", "(II)Z"⟩
abbrev cX2_isWord : ByteArray := prog_4_method_9_code
def yX2_isWord : MethodName := ⟨RX2, "isWord", "(Ljava/lang/String;)Z"⟩
abbrev cX2_takeToken : ByteArray := prog_4_method_10_code
def yX2_takeToken : MethodName := ⟨RX2, "takeToken", "()V"⟩
abbrev cX2_takeWord : ByteArray := prog_4_method_11_code
def yX2_takeWord : MethodName := ⟨RX2, "takeWord", "()V"⟩
abbrev cX2_takeNumber : ByteArray := prog_4_method_12_code
def yX2_takeNumber : MethodName := ⟨RX2, "takeNumber", "()V"⟩
abbrev cX2_isLetter : ByteArray := prog_4_method_13_code
def yX2_isLetter : MethodName := ⟨RX2, "isLetter", "(I)Z"⟩
abbrev cX2_isDigit : ByteArray := prog_4_method_14_code
def yX2_isDigit : MethodName := ⟨RX2, "isDigit", "(I)Z"⟩
abbrev cX2_wordOf : ByteArray := prog_4_method_15_code
def yX2_wordOf : MethodName := ⟨RX2, "wordOf", "(I)Ljava/lang/String;"⟩
def RX3 : String := "ParcelBall$World"
def TX3 : u_T := fun k => match k with
  | 0 => ("ParcelBall$World", "at", "I", false)
  | 1 => ("ParcelBall$World", "drag", "I", false)
  | 2 => ("ParcelBall$World", "day", "I", false)
  | 3 => ("ParcelBall$World", "wentOff", "I", false)
  | 4 => ("ParcelBall$World", "z", "I", false)
  | 5 => ("ParcelBall$World", "pieceCount", "I", false)
  | 6 => ("ParcelBall$World", "loose", "I", false)
  | 7 => ("ParcelBall$World", "up", "I", false)
  | 8 => ("ParcelBall$World", "down", "I", false)
  | 9 => ("ParcelBall$World", "facts", "[I", true)
  | _ => ("ParcelBall$World", "spots", "[I", true)
def tyX3 : Nat → FieldType := fun k => match k with
  | 0 => .int
  | 1 => .int
  | 2 => .int
  | 3 => .int
  | 4 => .int
  | 5 => .int
  | 6 => .int
  | 7 => .int
  | 8 => .int
  | 9 => .array .int
  | _ => .array .int
abbrev wsX30 : List Cond := u_ws RX3 TX3 11
theorem nmX3 : ∀ a, a < 11 → ∀ b, b < 11 → a ≠ b → (TX3 a).2.1 ≠ (TX3 b).2.1 := by decide +kernel
theorem tyX3_ok : ∀ k, k < 11 → parseFieldDescriptor (TX3 k).2.2.1 = some (tyX3 k) := by decide +kernel
abbrev cX3_init : ByteArray := prog_5_method_1_code
def yX3_init : MethodName := ⟨RX3, "<init>", "()V"⟩
abbrev cX3_becomeBall : ByteArray := prog_5_method_2_code
def yX3_becomeBall : MethodName := ⟨RX3, "becomeBall", "(LParcelBall$World;)V"⟩
abbrev cX3_becomeWhole : ByteArray := prog_5_method_3_code
def yX3_becomeWhole : MethodName := ⟨RX3, "becomeWhole", "(LParcelBall$World;)V"⟩
abbrev cX3_hasPiece : ByteArray := prog_5_method_4_code
def yX3_hasPiece : MethodName := ⟨RX3, "hasPiece", "(I)Z"⟩
abbrev cX3_isFull : ByteArray := prog_5_method_5_code
def yX3_isFull : MethodName := ⟨RX3, "isFull", "()Z"⟩
abbrev cX3_fact : ByteArray := prog_5_method_6_code
def yX3_fact : MethodName := ⟨RX3, "fact", "(II)I"⟩
abbrev cX3_setFact : ByteArray := prog_5_method_7_code
def yX3_setFact : MethodName := ⟨RX3, "setFact", "(III)V"⟩
abbrev cX3_raiseFact : ByteArray := prog_5_method_8_code
def yX3_raiseFact : MethodName := ⟨RX3, "raiseFact", "(II)V"⟩
abbrev cX3_spot : ByteArray := prog_5_method_9_code
def yX3_spot : MethodName := ⟨RX3, "spot", "(I)I"⟩
abbrev cX3_setSpot : ByteArray := prog_5_method_10_code
def yX3_setSpot : MethodName := ⟨RX3, "setSpot", "(II)V"⟩
abbrev cX3_spotsHolding : ByteArray := prog_5_method_11_code
def yX3_spotsHolding : MethodName := ⟨RX3, "spotsHolding", "()I"⟩
abbrev cX3_addPiece : ByteArray := prog_5_method_12_code
def yX3_addPiece : MethodName := ⟨RX3, "addPiece", "(II)I"⟩
abbrev cX3_cutOutermost : ByteArray := prog_5_method_13_code
def yX3_cutOutermost : MethodName := ⟨RX3, "cutOutermost", "(I)I"⟩
abbrev cX3_emptySpotsOf : ByteArray := prog_5_method_14_code
def yX3_emptySpotsOf : MethodName := ⟨RX3, "emptySpotsOf", "(I)V"⟩
abbrev cX3_nextDraw : ByteArray := prog_5_method_15_code
def yX3_nextDraw : MethodName := ⟨RX3, "nextDraw", "()I"⟩
abbrev cX3_tell : ByteArray := prog_5_method_16_code
def yX3_tell : MethodName := ⟨RX3, "tell", "(II)I"⟩
abbrev cX3_pullOf : ByteArray := prog_5_method_17_code
def yX3_pullOf : MethodName := ⟨RX3, "pullOf", "(I)I"⟩
abbrev cX3_lastsOf : ByteArray := prog_5_method_18_code
def yX3_lastsOf : MethodName := ⟨RX3, "lastsOf", "(I)I"⟩
abbrev cX3_givesOf : ByteArray := prog_5_method_19_code
def yX3_givesOf : MethodName := ⟨RX3, "givesOf", "(I)I"⟩
abbrev cX3_feltOf : ByteArray := prog_5_method_20_code
def yX3_feltOf : MethodName := ⟨RX3, "feltOf", "(II)I"⟩
abbrev cX3_longOutside : ByteArray := prog_5_method_21_code
def yX3_longOutside : MethodName := ⟨RX3, "longOutside", "(I)I"⟩
abbrev cX3_feltTo : ByteArray := prog_5_method_22_code
def yX3_feltTo : MethodName := ⟨RX3, "feltTo", "(I)I"⟩
abbrev cX3_placeSet : ByteArray := prog_5_method_23_code
def yX3_placeSet : MethodName := ⟨RX3, "placeSet", "()I"⟩
abbrev cX3_mostFelt : ByteArray := prog_5_method_24_code
def yX3_mostFelt : MethodName := ⟨RX3, "mostFelt", "()I"⟩
abbrev cX3_weigh : ByteArray := prog_5_method_25_code
def yX3_weigh : MethodName := ⟨RX3, "weigh", "()V"⟩
abbrev cX3_passDays : ByteArray := prog_5_method_26_code
def yX3_passDays : MethodName := ⟨RX3, "passDays", "(I)V"⟩
abbrev cX3_passDay : ByteArray := prog_5_method_27_code
def yX3_passDay : MethodName := ⟨RX3, "passDay", "()V"⟩
abbrev cX3_moveTo : ByteArray := prog_5_method_28_code
def yX3_moveTo : MethodName := ⟨RX3, "moveTo", "(I)V"⟩
abbrev cX3_goOffFirst : ByteArray := prog_5_method_29_code
def yX3_goOffFirst : MethodName := ⟨RX3, "goOffFirst", "()V"⟩
abbrev cX3_halveOutside : ByteArray := prog_5_method_30_code
def yX3_halveOutside : MethodName := ⟨RX3, "halveOutside", "(I)V"⟩
def RX4 : String := "ParcelBall"
def TX4 : u_T := fun k => match k with
  | 0 => ("ParcelBall", "current", "LParcelBall$World;", true)
  | 1 => ("ParcelBall", "trial", "LParcelBall$World;", true)
  | 2 => ("ParcelBall", "kept", "LParcelBall$World;", true)
  | 3 => ("ParcelBall", "isKept", "Z", false)
  | 4 => ("ParcelBall", "tape", "LParcelBall$Tape;", true)
  | 5 => ("ParcelBall", "reader", "LParcelBall$TextReader;", true)
  | 6 => ("ParcelBall", "sheets", "LParcelBall$Sheets;", true)
  | _ => ("ParcelBall", "findingsTold", "[I", true)
def tyX4 : Nat → FieldType := fun k => match k with
  | 0 => .object "ParcelBall$World"
  | 1 => .object "ParcelBall$World"
  | 2 => .object "ParcelBall$World"
  | 3 => .boolean
  | 4 => .object "ParcelBall$Tape"
  | 5 => .object "ParcelBall$TextReader"
  | 6 => .object "ParcelBall$Sheets"
  | _ => .array .int
abbrev wsX40 : List Cond := u_ws RX4 TX4 8
theorem nmX4 : ∀ a, a < 8 → ∀ b, b < 8 → a ≠ b → (TX4 a).2.1 ≠ (TX4 b).2.1 := by decide +kernel
theorem tyX4_ok : ∀ k, k < 8 → parseFieldDescriptor (TX4 k).2.2.1 = some (tyX4 k) := by decide +kernel
abbrev cX4_init : ByteArray := prog_1_method_1_code
def yX4_init : MethodName := ⟨RX4, "<init>", "()V"⟩
abbrev cX4_ball : ByteArray := prog_1_method_2_code
def yX4_ball : MethodName := ⟨RX4, "ball", "(I)I"⟩
abbrev cX4_drag : ByteArray := prog_1_method_3_code
def yX4_drag : MethodName := ⟨RX4, "drag", "(I)I"⟩
abbrev cX4_wind : ByteArray := prog_1_method_4_code
def yX4_wind : MethodName := ⟨RX4, "wind", "(II)I"⟩
abbrev cX4_of : ByteArray := prog_1_method_5_code
def yX4_of : MethodName := ⟨RX4, "of", "(II)I"⟩
abbrev cX4_change : ByteArray := prog_1_method_6_code
def yX4_change : MethodName := ⟨RX4, "change", "(III)I"⟩
abbrev cX4_lend : ByteArray := prog_1_method_7_code
def yX4_lend : MethodName := ⟨RX4, "lend", "(I)I"⟩
abbrev cX4_felt : ByteArray := prog_1_method_8_code
def yX4_felt : MethodName := ⟨RX4, "felt", "(I)I"⟩
abbrev cX4_go : ByteArray := prog_1_method_9_code
def yX4_go : MethodName := ⟨RX4, "go", "(I)I"⟩
abbrev cX4_now : ByteArray := prog_1_method_10_code
def yX4_now : MethodName := ⟨RX4, "now", "(I)I"⟩
abbrev cX4_ahead : ByteArray := prog_1_method_11_code
def yX4_ahead : MethodName := ⟨RX4, "ahead", "(III)I"⟩
abbrev cX4_where : ByteArray := prog_1_method_12_code
def yX4_where : MethodName := ⟨RX4, "where", "(I)I"⟩
abbrev cX4_when : ByteArray := prog_1_method_13_code
def yX4_when : MethodName := ⟨RX4, "when", "(I)I"⟩
abbrev cX4_comes : ByteArray := prog_1_method_14_code
def yX4_comes : MethodName := ⟨RX4, "comes", "(I)I"⟩
abbrev cX4_off : ByteArray := prog_1_method_15_code
def yX4_off : MethodName := ⟨RX4, "off", "()I"⟩
abbrev cX4_unwind : ByteArray := prog_1_method_16_code
def yX4_unwind : MethodName := ⟨RX4, "unwind", "(I)I"⟩
abbrev cX4_had : ByteArray := prog_1_method_17_code
def yX4_had : MethodName := ⟨RX4, "had", "(I)I"⟩
abbrev cX4_drawTo : ByteArray := prog_1_method_18_code
def yX4_drawTo : MethodName := ⟨RX4, "drawTo", "(III)I"⟩
abbrev cX4_longFor : ByteArray := prog_1_method_19_code
def yX4_longFor : MethodName := ⟨RX4, "longFor", "(III)I"⟩
abbrev cX4_kindFor : ByteArray := prog_1_method_20_code
def yX4_kindFor : MethodName := ⟨RX4, "kindFor", "(II)I"⟩
abbrev cX4_dragFor : ByteArray := prog_1_method_21_code
def yX4_dragFor : MethodName := ⟨RX4, "dragFor", "(II)I"⟩
abbrev cX4_loosen : ByteArray := prog_1_method_22_code
def yX4_loosen : MethodName := ⟨RX4, "loosen", "(II)I"⟩
abbrev cX4_fits : ByteArray := prog_1_method_23_code
def yX4_fits : MethodName := ⟨RX4, "fits", "(II)I"⟩
abbrev cX4_kinds : ByteArray := prog_1_method_24_code
def yX4_kinds : MethodName := ⟨RX4, "kinds", "(II)I"⟩
abbrev cX4_parcels : ByteArray := prog_1_method_25_code
def yX4_parcels : MethodName := ⟨RX4, "parcels", "(I)I"⟩
abbrev cX4_odds : ByteArray := prog_1_method_26_code
def yX4_odds : MethodName := ⟨RX4, "odds", "(II)J"⟩
abbrev cX4_seed : ByteArray := prog_1_method_27_code
def yX4_seed : MethodName := ⟨RX4, "seed", "(I)I"⟩
abbrev cX4_feed : ByteArray := prog_1_method_28_code
def yX4_feed : MethodName := ⟨RX4, "feed", "(II)I"⟩
abbrev cX4_wipe : ByteArray := prog_1_method_29_code
def yX4_wipe : MethodName := ⟨RX4, "wipe", "()I"⟩
abbrev cX4_text : ByteArray := prog_1_method_30_code
def yX4_text : MethodName := ⟨RX4, "text", "()I"⟩
abbrev cX4_hold : ByteArray := prog_1_method_31_code
def yX4_hold : MethodName := ⟨RX4, "hold", "(II)I"⟩
abbrev cX4_as : ByteArray := prog_1_method_32_code
def yX4_as : MethodName := ⟨RX4, "as", "(II)I"⟩
abbrev cX4_sheet : ByteArray := prog_1_method_33_code
def yX4_sheet : MethodName := ⟨RX4, "sheet", "(III)I"⟩
abbrev cX4_write : ByteArray := prog_1_method_34_code
def yX4_write : MethodName := ⟨RX4, "write", "(III)I"⟩
abbrev cX4_copy : ByteArray := prog_1_method_35_code
def yX4_copy : MethodName := ⟨RX4, "copy", "(IIIII)I"⟩
abbrev cX4_load : ByteArray := prog_1_method_36_code
def yX4_load : MethodName := ⟨RX4, "load", "(I)I"⟩
abbrev cX4_judge : ByteArray := prog_1_method_37_code
def yX4_judge : MethodName := ⟨RX4, "judge", "(I)I"⟩
abbrev cX4_image : ByteArray := prog_1_method_38_code
def yX4_image : MethodName := ⟨RX4, "image", "()I"⟩
abbrev cX4_undo : ByteArray := prog_1_method_39_code
def yX4_undo : MethodName := ⟨RX4, "undo", "()I"⟩
abbrev cX4_tear : ByteArray := prog_1_method_40_code
def yX4_tear : MethodName := ⟨RX4, "tear", "()I"⟩
abbrev cX4_count : ByteArray := prog_1_method_41_code
def yX4_count : MethodName := ⟨RX4, "count", "(I)I"⟩
abbrev cX4_status : ByteArray := prog_1_method_42_code
def yX4_status : MethodName := ⟨RX4, "status", "(I)I"⟩
abbrev cX4_finding : ByteArray := prog_1_method_43_code
def yX4_finding : MethodName := ⟨RX4, "finding", "(I)I"⟩
abbrev cX4_sheetFinding : ByteArray := prog_1_method_44_code
def yX4_sheetFinding : MethodName := ⟨RX4, "sheetFinding", "(I)I"⟩
abbrev cX4_tryFact : ByteArray := prog_1_method_45_code
def yX4_tryFact : MethodName := ⟨RX4, "tryFact", "(III)V"⟩
abbrev cX4_waysOf : ByteArray := prog_1_method_46_code
def yX4_waysOf : MethodName := ⟨RX4, "waysOf", "(IIII)I"⟩
abbrev cX4_trialFollows : ByteArray := prog_1_method_47_code
def yX4_trialFollows : MethodName := ⟨RX4, "trialFollows", "(I)Z"⟩
abbrev cX4_isWithin : ByteArray := prog_1_method_48_code
def yX4_isWithin : MethodName := ⟨RX4, "isWithin", "(III)Z"⟩
abbrev cX4_isPlace : ByteArray := prog_1_method_49_code
def yX4_isPlace : MethodName := ⟨RX4, "isPlace", "(I)Z"⟩
abbrev cX4_isKind : ByteArray := prog_1_method_50_code
def yX4_isKind : MethodName := ⟨RX4, "isKind", "(I)Z"⟩
abbrev cX4_isSpot : ByteArray := prog_1_method_51_code
def yX4_isSpot : MethodName := ⟨RX4, "isSpot", "(I)Z"⟩
abbrev cX4_isSheet : ByteArray := prog_1_method_52_code
def yX4_isSheet : MethodName := ⟨RX4, "isSheet", "(I)Z"⟩
abbrev cX4_isFactValue : ByteArray := prog_1_method_53_code
def yX4_isFactValue : MethodName := ⟨RX4, "isFactValue", "(II)Z"⟩
abbrev cX4_isKindUnder : ByteArray := prog_1_method_54_code
def yX4_isKindUnder : MethodName := ⟨RX4, "isKindUnder", "(II)Z"⟩
abbrev cX4_inLowestTerms : ByteArray := prog_1_method_55_code
def yX4_inLowestTerms : MethodName := ⟨RX4, "inLowestTerms", "(II)I"⟩
def RX5 : String := "ParcelBallModel"
def TX5 : u_T := fun k => match k with
  | 0 => ("ParcelBallModel", "s", "[I", true)
  | 1 => ("ParcelBallModel", "keptS", "[I", true)
  | 2 => ("ParcelBallModel", "other", "[I", true)
  | 3 => ("ParcelBallModel", "aside", "[I", true)
  | 4 => ("ParcelBallModel", "statuses", "[I", true)
  | 5 => ("ParcelBallModel", "isKept", "Z", false)
  | 6 => ("ParcelBallModel", "loose", "I", false)
  | 7 => ("ParcelBallModel", "tape", "[I", true)
  | 8 => ("ParcelBallModel", "taped", "I", false)
  | 9 => ("ParcelBallModel", "from", "I", false)
  | 10 => ("ParcelBallModel", "to", "I", false)
  | 11 => ("ParcelBallModel", "value", "I", false)
  | 12 => ("ParcelBallModel", "isWrong", "Z", false)
  | 13 => ("ParcelBallModel", "bitsOf", "[I", true)
  | 14 => ("ParcelBallModel", "sizeOf", "[I", true)
  | 15 => ("ParcelBallModel", "numbers", "[I", true)
  | _ => ("ParcelBallModel", "moved", "[I", true)
def tyX5 : Nat → FieldType := fun k => match k with
  | 0 => .array .int
  | 1 => .array .int
  | 2 => .array .int
  | 3 => .array .int
  | 4 => .array .int
  | 5 => .boolean
  | 6 => .int
  | 7 => .array .int
  | 8 => .int
  | 9 => .int
  | 10 => .int
  | 11 => .int
  | 12 => .boolean
  | 13 => .array .int
  | 14 => .array .int
  | 15 => .array .int
  | _ => .array .int
abbrev wsX50 : List Cond := u_ws RX5 TX5 17
theorem nmX5 : ∀ a, a < 17 → ∀ b, b < 17 → a ≠ b → (TX5 a).2.1 ≠ (TX5 b).2.1 := by decide +kernel
theorem tyX5_ok : ∀ k, k < 17 → parseFieldDescriptor (TX5 k).2.2.1 = some (tyX5 k) := by decide +kernel
abbrev cX5_init : ByteArray := prog_7_method_1_code
def yX5_init : MethodName := ⟨RX5, "<init>", "()V"⟩
abbrev cX5_in : ByteArray := prog_7_method_2_code
def yX5_in : MethodName := ⟨RX5, "in", "(JJJ)Z"⟩
abbrev cX5_finds : ByteArray := prog_7_method_3_code
def yX5_finds : MethodName := ⟨RX5, "finds", "(I)I"⟩
abbrev cX5_saves : ByteArray := prog_7_method_4_code
def yX5_saves : MethodName := ⟨RX5, "saves", "()V"⟩
abbrev cX5_putsBack : ByteArray := prog_7_method_5_code
def yX5_putsBack : MethodName := ⟨RX5, "putsBack", "()V"⟩
abbrev cX5_laysAside : ByteArray := prog_7_method_6_code
def yX5_laysAside : MethodName := ⟨RX5, "laysAside", "()V"⟩
abbrev cX5_takesBack : ByteArray := prog_7_method_7_code
def yX5_takesBack : MethodName := ⟨RX5, "takesBack", "(I)I"⟩
abbrev cX5_becomes : ByteArray := prog_7_method_8_code
def yX5_becomes : MethodName := ⟨RX5, "becomes", "(II)I"⟩
abbrev cX5_isPlace : ByteArray := prog_7_method_9_code
def yX5_isPlace : MethodName := ⟨RX5, "isPlace", "(I)Z"⟩
abbrev cX5_isPiece : ByteArray := prog_7_method_10_code
def yX5_isPiece : MethodName := ⟨RX5, "isPiece", "(I)Z"⟩
abbrev cX5_isKind : ByteArray := prog_7_method_11_code
def yX5_isKind : MethodName := ⟨RX5, "isKind", "(I)Z"⟩
abbrev cX5_place : ByteArray := prog_7_method_12_code
def yX5_place : MethodName := ⟨RX5, "place", "(II)I"⟩
abbrev cX5_its : ByteArray := prog_7_method_13_code
def yX5_its : MethodName := ⟨RX5, "its", "(II)I"⟩
abbrev cX5_heldTo : ByteArray := prog_7_method_14_code
def yX5_heldTo : MethodName := ⟨RX5, "heldTo", "(II)I"⟩
abbrev cX5_least0 : ByteArray := prog_7_method_15_code
def yX5_least0 : MethodName := ⟨RX5, "least0", "(I)I"⟩
abbrev cX5_distance : ByteArray := prog_7_method_16_code
def yX5_distance : MethodName := ⟨RX5, "distance", "(II)I"⟩
abbrev cX5_ones : ByteArray := prog_7_method_17_code
def yX5_ones : MethodName := ⟨RX5, "ones", "(I)I"⟩
abbrev cX5_ball : ByteArray := prog_7_method_18_code
def yX5_ball : MethodName := ⟨RX5, "ball", "(I)I"⟩
abbrev cX5_drag : ByteArray := prog_7_method_19_code
def yX5_drag : MethodName := ⟨RX5, "drag", "(I)I"⟩
abbrev cX5_adds : ByteArray := prog_7_method_20_code
def yX5_adds : MethodName := ⟨RX5, "adds", "(II)I"⟩
abbrev cX5_wind : ByteArray := prog_7_method_21_code
def yX5_wind : MethodName := ⟨RX5, "wind", "(II)I"⟩
abbrev cX5_pullsOf : ByteArray := prog_7_method_22_code
def yX5_pullsOf : MethodName := ⟨RX5, "pullsOf", "(I)I"⟩
abbrev cX5_lastsOf : ByteArray := prog_7_method_23_code
def yX5_lastsOf : MethodName := ⟨RX5, "lastsOf", "(I)I"⟩
abbrev cX5_givesOf : ByteArray := prog_7_method_24_code
def yX5_givesOf : MethodName := ⟨RX5, "givesOf", "(I)I"⟩
abbrev cX5_longFrom : ByteArray := prog_7_method_25_code
def yX5_longFrom : MethodName := ⟨RX5, "longFrom", "(I)I"⟩
abbrev cX5_feltOf : ByteArray := prog_7_method_26_code
def yX5_feltOf : MethodName := ⟨RX5, "feltOf", "(I)I"⟩
abbrev cX5_of : ByteArray := prog_7_method_27_code
def yX5_of : MethodName := ⟨RX5, "of", "(II)I"⟩
abbrev cX5_isPart : ByteArray := prog_7_method_28_code
def yX5_isPart : MethodName := ⟨RX5, "isPart", "(II)Z"⟩
abbrev cX5_change : ByteArray := prog_7_method_29_code
def yX5_change : MethodName := ⟨RX5, "change", "(III)I"⟩
abbrev cX5_lend : ByteArray := prog_7_method_30_code
def yX5_lend : MethodName := ⟨RX5, "lend", "(I)I"⟩
abbrev cX5_feltAt : ByteArray := prog_7_method_31_code
def yX5_feltAt : MethodName := ⟨RX5, "feltAt", "(I)I"⟩
abbrev cX5_felt : ByteArray := prog_7_method_32_code
def yX5_felt : MethodName := ⟨RX5, "felt", "(I)I"⟩
abbrev cX5_pull : ByteArray := prog_7_method_33_code
def yX5_pull : MethodName := ⟨RX5, "pull", "(I)I"⟩
abbrev cX5_arrives : ByteArray := prog_7_method_34_code
def yX5_arrives : MethodName := ⟨RX5, "arrives", "()V"⟩
abbrev cX5_goesOff : ByteArray := prog_7_method_35_code
def yX5_goesOff : MethodName := ⟨RX5, "goesOff", "(I)V"⟩
abbrev cX5_day : ByteArray := prog_7_method_36_code
def yX5_day : MethodName := ⟨RX5, "day", "()V"⟩
abbrev cX5_goesOn : ByteArray := prog_7_method_37_code
def yX5_goesOn : MethodName := ⟨RX5, "goesOn", "(I)V"⟩
abbrev cX5_go : ByteArray := prog_7_method_38_code
def yX5_go : MethodName := ⟨RX5, "go", "(I)I"⟩
abbrev cX5_drawn : ByteArray := prog_7_method_39_code
def yX5_drawn : MethodName := ⟨RX5, "drawn", "()I"⟩
abbrev cX5_mostFelt : ByteArray := prog_7_method_40_code
def yX5_mostFelt : MethodName := ⟨RX5, "mostFelt", "()I"⟩
abbrev cX5_now : ByteArray := prog_7_method_41_code
def yX5_now : MethodName := ⟨RX5, "now", "(I)I"⟩
abbrev cX5_ahead : ByteArray := prog_7_method_42_code
def yX5_ahead : MethodName := ⟨RX5, "ahead", "(III)I"⟩
abbrev cX5_behind : ByteArray := prog_7_method_43_code
def yX5_behind : MethodName := ⟨RX5, "behind", "(II)I"⟩
abbrev cX5_where : ByteArray := prog_7_method_44_code
def yX5_where : MethodName := ⟨RX5, "where", "(I)I"⟩
abbrev cX5_orNone : ByteArray := prog_7_method_45_code
def yX5_orNone : MethodName := ⟨RX5, "orNone", "(I)I"⟩
abbrev cX5_when : ByteArray := prog_7_method_46_code
def yX5_when : MethodName := ⟨RX5, "when", "(I)I"⟩
abbrev cX5_moreIn : ByteArray := prog_7_method_47_code
def yX5_moreIn : MethodName := ⟨RX5, "moreIn", "(I)I"⟩
abbrev cX5_comes : ByteArray := prog_7_method_48_code
def yX5_comes : MethodName := ⟨RX5, "comes", "(I)I"⟩
abbrev cX5_off : ByteArray := prog_7_method_49_code
def yX5_off : MethodName := ⟨RX5, "off", "()I"⟩
abbrev cX5_unwind : ByteArray := prog_7_method_50_code
def yX5_unwind : MethodName := ⟨RX5, "unwind", "(I)I"⟩
abbrev cX5_had : ByteArray := prog_7_method_51_code
def yX5_had : MethodName := ⟨RX5, "had", "(I)I"⟩
abbrev cX5_isSoon : ByteArray := prog_7_method_52_code
def yX5_isSoon : MethodName := ⟨RX5, "isSoon", "(I)Z"⟩
abbrev cX5_drawTo : ByteArray := prog_7_method_53_code
def yX5_drawTo : MethodName := ⟨RX5, "drawTo", "(III)I"⟩
abbrev cX5_longFor : ByteArray := prog_7_method_54_code
def yX5_longFor : MethodName := ⟨RX5, "longFor", "(III)I"⟩
abbrev cX5_kindFor : ByteArray := prog_7_method_55_code
def yX5_kindFor : MethodName := ⟨RX5, "kindFor", "(II)I"⟩
abbrev cX5_dragFor : ByteArray := prog_7_method_56_code
def yX5_dragFor : MethodName := ⟨RX5, "dragFor", "(II)I"⟩
abbrev cX5_loosen : ByteArray := prog_7_method_57_code
def yX5_loosen : MethodName := ⟨RX5, "loosen", "(II)I"⟩
abbrev cX5_isTold : ByteArray := prog_7_method_58_code
def yX5_isTold : MethodName := ⟨RX5, "isTold", "(I)Z"⟩
abbrev cX5_toldBy : ByteArray := prog_7_method_59_code
def yX5_toldBy : MethodName := ⟨RX5, "toldBy", "(IIII)I"⟩
abbrev cX5_fits : ByteArray := prog_7_method_60_code
def yX5_fits : MethodName := ⟨RX5, "fits", "(II)I"⟩
abbrev cX5_kinds : ByteArray := prog_7_method_61_code
def yX5_kinds : MethodName := ⟨RX5, "kinds", "(II)I"⟩
abbrev cX5_draw : ByteArray := prog_7_method_62_code
def yX5_draw : MethodName := ⟨RX5, "draw", "()I"⟩
abbrev cX5_parcels : ByteArray := prog_7_method_63_code
def yX5_parcels : MethodName := ⟨RX5, "parcels", "(I)I"⟩
abbrev cX5_odds : ByteArray := prog_7_method_64_code
def yX5_odds : MethodName := ⟨RX5, "odds", "(II)J"⟩
abbrev cX5_seed : ByteArray := prog_7_method_65_code
def yX5_seed : MethodName := ⟨RX5, "seed", "(I)I"⟩
abbrev cX5_feed : ByteArray := prog_7_method_66_code
def yX5_feed : MethodName := ⟨RX5, "feed", "(II)I"⟩
abbrev cX5_wipe : ByteArray := prog_7_method_67_code
def yX5_wipe : MethodName := ⟨RX5, "wipe", "()I"⟩
abbrev cX5_byteAt : ByteArray := prog_7_method_68_code
def yX5_byteAt : MethodName := ⟨RX5, "byteAt", "(I)I"⟩
abbrev cX5_isLetter : ByteArray := prog_7_method_69_code
def yX5_isLetter : MethodName := ⟨RX5, "isLetter", "(I)Z"⟩
abbrev cX5_isDigit : ByteArray := prog_7_method_70_code
def yX5_isDigit : MethodName := ⟨RX5, "isDigit", "(I)Z"⟩
abbrev cX5_token : ByteArray := prog_7_method_71_code
def yX5_token : MethodName := ⟨RX5, "token", "()V"⟩
abbrev cX5_must : ByteArray := prog_7_method_72_code
def yX5_must : MethodName := ⟨RX5, "must", "(Z)V"⟩
abbrev cX5_word : ByteArray := prog_7_method_73_code
def yX5_word : MethodName := ⟨RX5, "word", "()J"⟩
abbrev cX5_number : ByteArray := prog_7_method_74_code
def yX5_number : MethodName := ⟨RX5, "number", "(II)V"⟩
abbrev cX5_kindHere : ByteArray := prog_7_method_75_code
def yX5_kindHere : MethodName := ⟨RX5, "kindHere", "()I"⟩
abbrev cX5_partItem : ByteArray := prog_7_method_76_code
def yX5_partItem : MethodName := ⟨RX5, "partItem", "(JIII)V"⟩
abbrev cX5_pieceItem : ByteArray := prog_7_method_77_code
def yX5_pieceItem : MethodName := ⟨RX5, "pieceItem", "(I)V"⟩
abbrev cX5_item : ByteArray := prog_7_method_78_code
def yX5_item : MethodName := ⟨RX5, "item", "()V"⟩
abbrev cX5_text : ByteArray := prog_7_method_79_code
def yX5_text : MethodName := ⟨RX5, "text", "()I"⟩
abbrev cX5_isSpot : ByteArray := prog_7_method_80_code
def yX5_isSpot : MethodName := ⟨RX5, "isSpot", "(I)Z"⟩
abbrev cX5_hold : ByteArray := prog_7_method_81_code
def yX5_hold : MethodName := ⟨RX5, "hold", "(II)I"⟩
abbrev cX5_above : ByteArray := prog_7_method_82_code
def yX5_above : MethodName := ⟨RX5, "above", "(I)I"⟩
abbrev cX5_as : ByteArray := prog_7_method_83_code
def yX5_as : MethodName := ⟨RX5, "as", "(II)I"⟩
abbrev cX5_isOne : ByteArray := prog_7_method_84_code
def yX5_isOne : MethodName := ⟨RX5, "isOne", "(I)Z"⟩
abbrev cX5_sheet : ByteArray := prog_7_method_85_code
def yX5_sheet : MethodName := ⟨RX5, "sheet", "(III)I"⟩
abbrev cX5_narrowed : ByteArray := prog_7_method_86_code
def yX5_narrowed : MethodName := ⟨RX5, "narrowed", "(II)I"⟩
abbrev cX5_wrong : ByteArray := prog_7_method_87_code
def yX5_wrong : MethodName := ⟨RX5, "wrong", "(I)I"⟩
abbrev cX5_write : ByteArray := prog_7_method_88_code
def yX5_write : MethodName := ⟨RX5, "write", "(III)I"⟩
abbrev cX5_copy : ByteArray := prog_7_method_89_code
def yX5_copy : MethodName := ⟨RX5, "copy", "(IIIII)I"⟩
abbrev cX5_load : ByteArray := prog_7_method_90_code
def yX5_load : MethodName := ⟨RX5, "load", "(I)I"⟩
abbrev cX5_judge : ByteArray := prog_7_method_91_code
def yX5_judge : MethodName := ⟨RX5, "judge", "(I)I"⟩
abbrev cX5_image : ByteArray := prog_7_method_92_code
def yX5_image : MethodName := ⟨RX5, "image", "()I"⟩
abbrev cX5_undo : ByteArray := prog_7_method_93_code
def yX5_undo : MethodName := ⟨RX5, "undo", "()I"⟩
abbrev cX5_tear : ByteArray := prog_7_method_94_code
def yX5_tear : MethodName := ⟨RX5, "tear", "()I"⟩
abbrev cX5_heldSpots : ByteArray := prog_7_method_95_code
def yX5_heldSpots : MethodName := ⟨RX5, "heldSpots", "()I"⟩
abbrev cX5_count : ByteArray := prog_7_method_96_code
def yX5_count : MethodName := ⟨RX5, "count", "(I)I"⟩
abbrev cX5_status : ByteArray := prog_7_method_97_code
def yX5_status : MethodName := ⟨RX5, "status", "(I)I"⟩
def RJ6 : String := "java/lang/Integer"
def TJ6 : u_T := fun k => match k with
  | _ => ("", "", "", false)
def tyJ6 : Nat → FieldType := fun k => match k with
  | _ => .int
abbrev wsJ60 : List Cond := u_ws RJ6 TJ6 0
theorem nmJ6 : ∀ a, a < 0 → ∀ b, b < 0 → a ≠ b → (TJ6 a).2.1 ≠ (TJ6 b).2.1 := by decide +kernel
theorem tyJ6_ok : ∀ k, k < 0 → parseFieldDescriptor (TJ6 k).2.2.1 = some (tyJ6 k) := by decide +kernel
abbrev cJ6_bitCount_0f7a4 : ByteArray := prog_8_method_49_code
def yJ6_bitCount_0f7a4 : MethodName := ⟨RJ6, "bitCount", "(I)I"⟩
def RJ9 : String := "java/lang/Math"
def TJ9 : u_T := fun k => match k with
  | _ => ("", "", "", false)
def tyJ9 : Nat → FieldType := fun k => match k with
  | _ => .int
abbrev wsJ90 : List Cond := u_ws RJ9 TJ9 0
theorem nmJ9 : ∀ a, a < 0 → ∀ b, b < 0 → a ≠ b → (TJ9 a).2.1 ≠ (TJ9 b).2.1 := by decide +kernel
theorem tyJ9_ok : ∀ k, k < 0 → parseFieldDescriptor (TJ9 k).2.2.1 = some (tyJ9 k) := by decide +kernel
abbrev cJ9_abs_0f7a4 : ByteArray := prog_9_method_59_code
def yJ9_abs_0f7a4 : MethodName := ⟨RJ9, "abs", "(I)I"⟩
abbrev cJ9_max_7cf53 : ByteArray := prog_9_method_65_code
def yJ9_max_7cf53 : MethodName := ⟨RJ9, "max", "(II)I"⟩
abbrev cJ9_min_7cf53 : ByteArray := prog_9_method_69_code
def yJ9_min_7cf53 : MethodName := ⟨RJ9, "min", "(II)I"⟩
def RJ0 : String := "java/lang/String"
def TJ0 : u_T := fun k => match k with
  | _ => ("", "", "", false)
def tyJ0 : Nat → FieldType := fun k => match k with
  | _ => .int
abbrev wsJ00 : List Cond := u_ws RJ0 TJ0 0
theorem nmJ0 : ∀ a, a < 0 → ∀ b, b < 0 → a ≠ b → (TJ0 a).2.1 ≠ (TJ0 b).2.1 := by decide +kernel
theorem tyJ0_ok : ∀ k, k < 0 → parseFieldDescriptor (TJ0 k).2.2.1 = some (tyJ0 k) := by decide +kernel
abbrev cJ0_length_8abf5 : ByteArray := prog_10_method_54_code
def yJ0_length_8abf5 : MethodName := ⟨RJ0, "length", "()I"⟩
abbrev cJ0_charAt_5068e : ByteArray := prog_10_method_56_code
def yJ0_charAt_5068e : MethodName := ⟨RJ0, "charAt", "(I)C"⟩
abbrev cJ0_coder_7d493 : ByteArray := prog_10_method_152_code
def yJ0_coder_7d493 : MethodName := ⟨RJ0, "coder", "()B"⟩
abbrev cJ0_isLatin1_aae02 : ByteArray := prog_10_method_154_code
def yJ0_isLatin1_aae02 : MethodName := ⟨RJ0, "isLatin1", "()Z"⟩
abbrev cJ0_checkIndex_df160 : ByteArray := prog_10_method_155_code
def yJ0_checkIndex_df160 : MethodName := ⟨RJ0, "checkIndex", "(II)V"⟩
def RJ1 : String := "java/lang/StringLatin1"
def TJ1 : u_T := fun k => match k with
  | _ => ("", "", "", false)
def tyJ1 : Nat → FieldType := fun k => match k with
  | _ => .int
abbrev wsJ10 : List Cond := u_ws RJ1 TJ1 0
theorem nmJ1 : ∀ a, a < 0 → ∀ b, b < 0 → a ≠ b → (TJ1 a).2.1 ≠ (TJ1 b).2.1 := by decide +kernel
theorem tyJ1_ok : ∀ k, k < 0 → parseFieldDescriptor (TJ1 k).2.2.1 = some (tyJ1 k) := by decide +kernel
abbrev cJ1_charAt_3b067 : ByteArray := prog_11_method_2_code
def yJ1_charAt_3b067 : MethodName := ⟨RJ1, "charAt", "([BI)C"⟩
def RJ2 : String := "java/lang/StringUTF16"
def TJ2 : u_T := fun k => match k with
  | _ => ("", "", "", false)
def tyJ2 : Nat → FieldType := fun k => match k with
  | _ => .int
abbrev wsJ20 : List Cond := u_ws RJ2 TJ2 0
theorem nmJ2 : ∀ a, a < 0 → ∀ b, b < 0 → a ≠ b → (TJ2 a).2.1 ≠ (TJ2 b).2.1 := by decide +kernel
theorem tyJ2_ok : ∀ k, k < 0 → parseFieldDescriptor (TJ2 k).2.2.1 = some (tyJ2 k) := by decide +kernel
abbrev cJ2_getChar_3b067 : ByteArray := prog_12_method_5_code
def yJ2_getChar_3b067 : MethodName := ⟨RJ2, "getChar", "([BI)C"⟩
abbrev cJ2_length_9d52b : ByteArray := prog_12_method_6_code
def yJ2_length_9d52b : MethodName := ⟨RJ2, "length", "([B)I"⟩
abbrev cJ2_charAt_3b067 : ByteArray := prog_12_method_83_code
def yJ2_charAt_3b067 : MethodName := ⟨RJ2, "charAt", "([BI)C"⟩
abbrev cJ2_checkIndex_2214a : ByteArray := prog_12_method_91_code
def yJ2_checkIndex_2214a : MethodName := ⟨RJ2, "checkIndex", "(I[B)V"⟩
def RJ10 : String := "java/lang/System"
def TJ10 : u_T := fun k => match k with
  | _ => ("", "", "", false)
def tyJ10 : Nat → FieldType := fun k => match k with
  | _ => .int
abbrev wsJ100 : List Cond := u_ws RJ10 TJ10 0
theorem nmJ10 : ∀ a, a < 0 → ∀ b, b < 0 → a ≠ b → (TJ10 a).2.1 ≠ (TJ10 b).2.1 := by decide +kernel
theorem tyJ10_ok : ∀ k, k < 0 → parseFieldDescriptor (TJ10 k).2.2.1 = some (tyJ10 k) := by decide +kernel
def RJ3 : String := "jdk/internal/util/Preconditions"
def TJ3 : u_T := fun k => match k with
  | _ => ("", "", "", false)
def tyJ3 : Nat → FieldType := fun k => match k with
  | _ => .int
abbrev wsJ30 : List Cond := u_ws RJ3 TJ3 0
theorem nmJ3 : ∀ a, a < 0 → ∀ b, b < 0 → a ≠ b → (TJ3 a).2.1 ≠ (TJ3 b).2.1 := by decide +kernel
theorem tyJ3_ok : ∀ k, k < 0 → parseFieldDescriptor (TJ3 k).2.2.1 = some (tyJ3 k) := by decide +kernel
abbrev cJ3_checkIndex_8e157 : ByteArray := prog_14_method_11_code
def yJ3_checkIndex_8e157 : MethodName := ⟨RJ3, "checkIndex", "(IILjava/util/function/BiFunction;)I"⟩
def RL : String := "ParcelBallLaw"
abbrev cL_law : ByteArray := code
def yL_law : MethodName := ⟨RL, "law", "([I)Z"⟩
abbrev vwCl : List vw_C := [(RX0, TX0, 3), (RX1, TX1, 2), (RX2, TX2, 6), (RX3, TX3, 11), (RX4, TX4, 8), (RX5, TX5, 17)]
end
section
def TW : List Cond := lw_tbl.filter goodWord
theorem TW_of {w : Cond} (h : w ∈ lw_tbl) (hg : goodWord w = true) : w ∈ TW := List.mem_filter.mpr ⟨h, hg⟩
theorem LT_1 (i : Nat) {w : Cond} (h : tables_1_1[i]? = some w) : w ∈ lw_tbl := List.mem_append_right _ (List.mem_append_left _ (List.mem_of_getElem? h))
theorem TW_1 (i : Nat) {w : Cond} (h : tables_1_1[i]? = some w) (hg : goodWord w = true) : w ∈ TW := TW_of (List.mem_append_right _ (List.mem_append_left _ (List.mem_of_getElem? h))) hg
theorem LT_2 (i : Nat) {w : Cond} (h : tables_1_2[i]? = some w) : w ∈ lw_tbl := List.mem_append_right _ (List.mem_append_right _ (List.mem_append_left _ (List.mem_of_getElem? h)))
theorem TW_2 (i : Nat) {w : Cond} (h : tables_1_2[i]? = some w) (hg : goodWord w = true) : w ∈ TW := TW_of (List.mem_append_right _ (List.mem_append_right _ (List.mem_append_left _ (List.mem_of_getElem? h)))) hg
theorem LT_3 (i : Nat) {w : Cond} (h : tables_1_3[i]? = some w) : w ∈ lw_tbl := List.mem_append_right _ (List.mem_append_right _ (List.mem_append_right _ (List.mem_append_left _ (List.mem_of_getElem? h))))
theorem TW_3 (i : Nat) {w : Cond} (h : tables_1_3[i]? = some w) (hg : goodWord w = true) : w ∈ TW := TW_of (List.mem_append_right _ (List.mem_append_right _ (List.mem_append_right _ (List.mem_append_left _ (List.mem_of_getElem? h))))) hg
theorem LT_4 (i : Nat) {w : Cond} (h : tables_1_4[i]? = some w) : w ∈ lw_tbl := List.mem_append_right _ (List.mem_append_right _ (List.mem_append_right _ (List.mem_append_right _ (List.mem_append_left _ (List.mem_of_getElem? h)))))
theorem TW_4 (i : Nat) {w : Cond} (h : tables_1_4[i]? = some w) (hg : goodWord w = true) : w ∈ TW := TW_of (List.mem_append_right _ (List.mem_append_right _ (List.mem_append_right _ (List.mem_append_right _ (List.mem_append_left _ (List.mem_of_getElem? h)))))) hg
theorem LT_5 (i : Nat) {w : Cond} (h : tables_1_5[i]? = some w) : w ∈ lw_tbl := List.mem_append_right _ (List.mem_append_right _ (List.mem_append_right _ (List.mem_append_right _ (List.mem_append_right _ (List.mem_of_getElem? h)))))
theorem TW_5 (i : Nat) {w : Cond} (h : tables_1_5[i]? = some w) (hg : goodWord w = true) : w ∈ TW := TW_of (List.mem_append_right _ (List.mem_append_right _ (List.mem_append_right _ (List.mem_append_right _ (List.mem_append_right _ (List.mem_of_getElem? h)))))) hg
theorem TW_0 (i : Nat) {w : Cond} (h : (k2_sels lw_privs)[i]? = some w) (hg : goodWord w = true) : w ∈ TW := TW_of (List.mem_append_left _ (List.mem_of_getElem? h)) hg
theorem in_L : Cond.initialized "ParcelBallLaw" ∈ TW := TW_1 0 rfl rfl
theorem in_X4 : Cond.initialized "ParcelBall" ∈ TW := TW_1 1 rfl rfl
theorem in_X3 : Cond.initialized "ParcelBall$World" ∈ TW := TW_1 2 rfl rfl
theorem in_X1 : Cond.initialized "ParcelBall$Tape" ∈ TW := TW_1 3 rfl rfl
theorem in_X2 : Cond.initialized "ParcelBall$TextReader" ∈ TW := TW_1 4 rfl rfl
theorem in_X0 : Cond.initialized "ParcelBall$Sheets" ∈ TW := TW_1 5 rfl rfl
theorem in_X5 : Cond.initialized "ParcelBallModel" ∈ TW := TW_1 6 rfl rfl
theorem in_J9 : Cond.initialized "java/lang/Math" ∈ TW := TW_1 7 rfl rfl
theorem in_J10 : Cond.initialized "java/lang/System" ∈ TW := TW_1 8 rfl rfl
theorem in_J6 : Cond.initialized "java/lang/Integer" ∈ TW := TW_1 9 rfl rfl
theorem in_J0 : Cond.initialized "java/lang/String" ∈ TW := TW_1 10 rfl rfl
theorem in_J1 : Cond.initialized "java/lang/StringLatin1" ∈ TW := TW_1 11 rfl rfl
theorem in_J3 : Cond.initialized "jdk/internal/util/Preconditions" ∈ TW := TW_1 12 rfl rfl
theorem in_J2 : Cond.initialized "java/lang/StringUTF16" ∈ TW := TW_1 13 rfl rfl
theorem cl_L_7 : Cond.classLink "ParcelBallLaw" 7 "ParcelBall" ∈ TW := TW_1 14 rfl rfl
theorem is_X4 : Cond.instantiable "ParcelBall" 8 ∈ TW := TW_1 15 rfl rfl
theorem ml_L_9 : Cond.methodLink "ParcelBallLaw" 9 yX4_init ∈ TW := TW_1 16 rfl rfl
theorem im_yX4_init : Cond.instanceMethod yX4_init ∈ TW := TW_1 17 rfl rfl
theorem cd_yX4_init : Cond.code yX4_init prog_1_method_1_code 1 none ∈ TW := TW_1 18 rfl rfl
theorem ml_X4_3 : Cond.methodLink "ParcelBall" 3 objectInit ∈ TW := TW_1 19 rfl rfl
theorem im_objectInit : Cond.instanceMethod objectInit ∈ TW := TW_1 20 rfl rfl
theorem cd_objectInit : Cond.code objectInit object_method_1_code 1 none ∈ TW := TW_1 21 rfl rfl
theorem cl_X4_9 : Cond.classLink "ParcelBall" 9 "ParcelBall$World" ∈ TW := TW_1 22 rfl rfl
theorem is_X3 : Cond.instantiable "ParcelBall$World" 11 ∈ TW := TW_1 23 rfl rfl
theorem ml_X4_11 : Cond.methodLink "ParcelBall" 11 yX3_init ∈ TW := TW_1 24 rfl rfl
theorem im_yX3_init : Cond.instanceMethod yX3_init ∈ TW := TW_1 25 rfl rfl
theorem cd_yX3_init : Cond.code yX3_init prog_5_method_1_code 2 none ∈ TW := TW_1 26 rfl rfl
theorem ml_X3_3 : Cond.methodLink "ParcelBall$World" 3 objectInit ∈ TW := TW_1 27 rfl rfl
theorem fl_X3_9 : Cond.fieldLink "ParcelBall$World" 9 "ParcelBall$World" "at" "I" ∈ TW := TW_1 28 rfl rfl
theorem fl_X4_62 : Cond.fieldLink "ParcelBall" 62 "ParcelBall$World" "at" "I" ∈ TW := TW_1 29 rfl rfl
theorem fl_X2_65 : Cond.fieldLink "ParcelBall$TextReader" 65 "ParcelBall$World" "at" "I" ∈ TW := TW_1 30 rfl rfl
theorem fl_X3_15 : Cond.fieldLink "ParcelBall$World" 15 "ParcelBall$World" "drag" "I" ∈ TW := TW_1 31 rfl rfl
theorem fl_X4_70 : Cond.fieldLink "ParcelBall" 70 "ParcelBall$World" "drag" "I" ∈ TW := TW_1 32 rfl rfl
theorem fl_X2_70 : Cond.fieldLink "ParcelBall$TextReader" 70 "ParcelBall$World" "drag" "I" ∈ TW := TW_1 33 rfl rfl
theorem fl_X3_18 : Cond.fieldLink "ParcelBall$World" 18 "ParcelBall$World" "day" "I" ∈ TW := TW_1 34 rfl rfl
theorem fl_X4_112 : Cond.fieldLink "ParcelBall" 112 "ParcelBall$World" "day" "I" ∈ TW := TW_1 35 rfl rfl
theorem fl_X3_21 : Cond.fieldLink "ParcelBall$World" 21 "ParcelBall$World" "wentOff" "I" ∈ TW := TW_1 36 rfl rfl
theorem fl_X4_132 : Cond.fieldLink "ParcelBall" 132 "ParcelBall$World" "wentOff" "I" ∈ TW := TW_1 37 rfl rfl
theorem fl_X3_24 : Cond.fieldLink "ParcelBall$World" 24 "ParcelBall$World" "z" "I" ∈ TW := TW_1 38 rfl rfl
theorem fl_X4_176 : Cond.fieldLink "ParcelBall" 176 "ParcelBall$World" "z" "I" ∈ TW := TW_1 39 rfl rfl
theorem fl_X3_27 : Cond.fieldLink "ParcelBall$World" 27 "ParcelBall$World" "pieceCount" "I" ∈ TW := TW_1 40 rfl rfl
theorem fl_X4_102 : Cond.fieldLink "ParcelBall" 102 "ParcelBall$World" "pieceCount" "I" ∈ TW := TW_1 41 rfl rfl
theorem fl_X3_30 : Cond.fieldLink "ParcelBall$World" 30 "ParcelBall$World" "loose" "I" ∈ TW := TW_1 42 rfl rfl
theorem fl_X4_163 : Cond.fieldLink "ParcelBall" 163 "ParcelBall$World" "loose" "I" ∈ TW := TW_1 43 rfl rfl
theorem fl_X3_33 : Cond.fieldLink "ParcelBall$World" 33 "ParcelBall$World" "up" "I" ∈ TW := TW_1 44 rfl rfl
theorem fl_X4_123 : Cond.fieldLink "ParcelBall" 123 "ParcelBall$World" "up" "I" ∈ TW := TW_1 45 rfl rfl
theorem fl_X3_36 : Cond.fieldLink "ParcelBall$World" 36 "ParcelBall$World" "down" "I" ∈ TW := TW_1 46 rfl rfl
theorem fl_X4_126 : Cond.fieldLink "ParcelBall" 126 "ParcelBall$World" "down" "I" ∈ TW := TW_1 47 rfl rfl
theorem fl_X3_39 : Cond.fieldLink "ParcelBall$World" 39 "ParcelBall$World" "facts" "[I" ∈ TW := TW_1 48 rfl rfl
theorem fl_X3_43 : Cond.fieldLink "ParcelBall$World" 43 "ParcelBall$World" "spots" "[I" ∈ TW := TW_1 49 rfl rfl
theorem ly_X3_at : Cond.lays "ParcelBall$World" "ParcelBall$World" "at" "I" ∈ TW := TW_1 50 rfl rfl
theorem ly_X3_drag : Cond.lays "ParcelBall$World" "ParcelBall$World" "drag" "I" ∈ TW := TW_1 52 rfl rfl
theorem ly_X3_day : Cond.lays "ParcelBall$World" "ParcelBall$World" "day" "I" ∈ TW := TW_1 54 rfl rfl
theorem ly_X3_wentOff : Cond.lays "ParcelBall$World" "ParcelBall$World" "wentOff" "I" ∈ TW := TW_1 56 rfl rfl
theorem ly_X3_z : Cond.lays "ParcelBall$World" "ParcelBall$World" "z" "I" ∈ TW := TW_1 58 rfl rfl
theorem ly_X3_pieceCount : Cond.lays "ParcelBall$World" "ParcelBall$World" "pieceCount" "I" ∈ TW := TW_1 60 rfl rfl
theorem ly_X3_loose : Cond.lays "ParcelBall$World" "ParcelBall$World" "loose" "I" ∈ TW := TW_1 62 rfl rfl
theorem ly_X3_up : Cond.lays "ParcelBall$World" "ParcelBall$World" "up" "I" ∈ TW := TW_1 64 rfl rfl
theorem ly_X3_down : Cond.lays "ParcelBall$World" "ParcelBall$World" "down" "I" ∈ TW := TW_1 66 rfl rfl
theorem ly_X3_facts : Cond.laysFinal "ParcelBall$World" "ParcelBall$World" "facts" "[I" ∈ TW := TW_1 68 rfl rfl
theorem ly_X3_spots : Cond.laysFinal "ParcelBall$World" "ParcelBall$World" "spots" "[I" ∈ TW := TW_1 70 rfl rfl
theorem ac_int : Cond.arrayClass .int ∈ TW := TW_1 73 rfl rfl
theorem cl_X4_26 : Cond.classLink "ParcelBall" 26 "ParcelBall$Tape" ∈ TW := TW_1 74 rfl rfl
theorem is_X1 : Cond.instantiable "ParcelBall$Tape" 2 ∈ TW := TW_1 75 rfl rfl
theorem mn_X4_28 : Cond.methodLinkNest "ParcelBall" 28 yX1_init "ParcelBall" ∈ lw_tbl := LT_1 76 rfl
theorem im_yX1_init : Cond.instanceMethod yX1_init ∈ TW := TW_1 77 rfl rfl
theorem cd_yX1_init : Cond.code yX1_init prog_3_method_1_code 1 none ∈ TW := TW_1 78 rfl rfl
theorem ml_X1_3 : Cond.methodLink "ParcelBall$Tape" 3 objectInit ∈ TW := TW_1 79 rfl rfl
theorem fl_X1_9 : Cond.fieldLink "ParcelBall$Tape" 9 "ParcelBall$Tape" "size" "I" ∈ TW := TW_1 80 rfl rfl
theorem fl_X2_116 : Cond.fieldLink "ParcelBall$TextReader" 116 "ParcelBall$Tape" "size" "I" ∈ TW := TW_1 81 rfl rfl
theorem fl_X4_179 : Cond.fieldLink "ParcelBall" 179 "ParcelBall$Tape" "size" "I" ∈ TW := TW_1 82 rfl rfl
theorem fl_X1_15 : Cond.fieldLink "ParcelBall$Tape" 15 "ParcelBall$Tape" "bytes" "[I" ∈ TW := TW_1 83 rfl rfl
theorem ly_X1_size : Cond.lays "ParcelBall$Tape" "ParcelBall$Tape" "size" "I" ∈ TW := TW_1 84 rfl rfl
theorem ly_X1_bytes : Cond.laysFinal "ParcelBall$Tape" "ParcelBall$Tape" "bytes" "[I" ∈ TW := TW_1 86 rfl rfl
theorem cl_X4_33 : Cond.classLink "ParcelBall" 33 "ParcelBall$TextReader" ∈ TW := TW_1 89 rfl rfl
theorem is_X2 : Cond.instantiable "ParcelBall$TextReader" 6 ∈ TW := TW_1 90 rfl rfl
theorem ml_X4_35 : Cond.methodLink "ParcelBall" 35 yX2_init ∈ TW := TW_1 91 rfl rfl
theorem im_yX2_init : Cond.instanceMethod yX2_init ∈ TW := TW_1 92 rfl rfl
theorem cd_yX2_init : Cond.code yX2_init prog_4_method_1_code 3 none ∈ TW := TW_1 93 rfl rfl
theorem ml_X2_3 : Cond.methodLink "ParcelBall$TextReader" 3 objectInit ∈ TW := TW_1 94 rfl rfl
theorem fl_X2_24 : Cond.fieldLink "ParcelBall$TextReader" 24 "ParcelBall$TextReader" "tape" "LParcelBall$Tape;" ∈ TW := TW_1 95 rfl rfl
theorem fl_X2_28 : Cond.fieldLink "ParcelBall$TextReader" 28 "ParcelBall$TextReader" "world" "LParcelBall$World;" ∈ TW := TW_1 96 rfl rfl
theorem fl_X2_11 : Cond.fieldLink "ParcelBall$TextReader" 11 "ParcelBall$TextReader" "tokenSort" "I" ∈ TW := TW_1 97 rfl rfl
theorem fl_X2_15 : Cond.fieldLink "ParcelBall$TextReader" 15 "ParcelBall$TextReader" "tokenStart" "I" ∈ TW := TW_1 98 rfl rfl
theorem fl_X2_18 : Cond.fieldLink "ParcelBall$TextReader" 18 "ParcelBall$TextReader" "tokenEnd" "I" ∈ TW := TW_1 99 rfl rfl
theorem fl_X2_21 : Cond.fieldLink "ParcelBall$TextReader" 21 "ParcelBall$TextReader" "tokenNumber" "I" ∈ TW := TW_1 100 rfl rfl
theorem ly_X2_tape : Cond.laysFinal "ParcelBall$TextReader" "ParcelBall$TextReader" "tape" "LParcelBall$Tape;" ∈ TW := TW_1 101 rfl rfl
theorem ly_X2_world : Cond.laysFinal "ParcelBall$TextReader" "ParcelBall$TextReader" "world" "LParcelBall$World;" ∈ TW := TW_1 103 rfl rfl
theorem ly_X2_tokenSort : Cond.lays "ParcelBall$TextReader" "ParcelBall$TextReader" "tokenSort" "I" ∈ TW := TW_1 105 rfl rfl
theorem ly_X2_tokenStart : Cond.lays "ParcelBall$TextReader" "ParcelBall$TextReader" "tokenStart" "I" ∈ TW := TW_1 107 rfl rfl
theorem ly_X2_tokenEnd : Cond.lays "ParcelBall$TextReader" "ParcelBall$TextReader" "tokenEnd" "I" ∈ TW := TW_1 109 rfl rfl
theorem ly_X2_tokenNumber : Cond.lays "ParcelBall$TextReader" "ParcelBall$TextReader" "tokenNumber" "I" ∈ TW := TW_1 111 rfl rfl
theorem cl_X4_42 : Cond.classLink "ParcelBall" 42 "ParcelBall$Sheets" ∈ TW := TW_1 114 rfl rfl
theorem is_X0 : Cond.instantiable "ParcelBall$Sheets" 3 ∈ TW := TW_1 115 rfl rfl
theorem mn_X4_44 : Cond.methodLinkNest "ParcelBall" 44 yX0_init "ParcelBall" ∈ lw_tbl := LT_1 116 rfl
theorem im_yX0_init : Cond.instanceMethod yX0_init ∈ TW := TW_1 117 rfl rfl
theorem cd_yX0_init : Cond.code yX0_init prog_2_method_1_code 1 none ∈ TW := TW_1 118 rfl rfl
theorem ml_X0_3 : Cond.methodLink "ParcelBall$Sheets" 3 objectInit ∈ TW := TW_1 119 rfl rfl
theorem fl_X0_9 : Cond.fieldLink "ParcelBall$Sheets" 9 "ParcelBall$Sheets" "bits" "[I" ∈ TW := TW_1 120 rfl rfl
theorem fl_X0_15 : Cond.fieldLink "ParcelBall$Sheets" 15 "ParcelBall$Sheets" "sizes" "[I" ∈ TW := TW_1 121 rfl rfl
theorem fl_X0_18 : Cond.fieldLink "ParcelBall$Sheets" 18 "ParcelBall$Sheets" "numbers" "[I" ∈ TW := TW_1 122 rfl rfl
theorem ly_X0_bits : Cond.laysFinal "ParcelBall$Sheets" "ParcelBall$Sheets" "bits" "[I" ∈ TW := TW_1 123 rfl rfl
theorem ly_X0_sizes : Cond.laysFinal "ParcelBall$Sheets" "ParcelBall$Sheets" "sizes" "[I" ∈ TW := TW_1 125 rfl rfl
theorem ly_X0_numbers : Cond.laysFinal "ParcelBall$Sheets" "ParcelBall$Sheets" "numbers" "[I" ∈ TW := TW_1 127 rfl rfl
theorem fl_X4_12 : Cond.fieldLink "ParcelBall" 12 "ParcelBall" "current" "LParcelBall$World;" ∈ TW := TW_1 130 rfl rfl
theorem fl_X4_16 : Cond.fieldLink "ParcelBall" 16 "ParcelBall" "trial" "LParcelBall$World;" ∈ TW := TW_1 131 rfl rfl
theorem fl_X4_19 : Cond.fieldLink "ParcelBall" 19 "ParcelBall" "kept" "LParcelBall$World;" ∈ TW := TW_1 132 rfl rfl
theorem fl_X4_22 : Cond.fieldLink "ParcelBall" 22 "ParcelBall" "isKept" "Z" ∈ TW := TW_1 133 rfl rfl
theorem fl_X4_29 : Cond.fieldLink "ParcelBall" 29 "ParcelBall" "tape" "LParcelBall$Tape;" ∈ TW := TW_1 134 rfl rfl
theorem fl_X4_38 : Cond.fieldLink "ParcelBall" 38 "ParcelBall" "reader" "LParcelBall$TextReader;" ∈ TW := TW_1 135 rfl rfl
theorem fl_X4_45 : Cond.fieldLink "ParcelBall" 45 "ParcelBall" "sheets" "LParcelBall$Sheets;" ∈ TW := TW_1 136 rfl rfl
theorem fl_X4_49 : Cond.fieldLink "ParcelBall" 49 "ParcelBall" "findingsTold" "[I" ∈ TW := TW_1 137 rfl rfl
theorem ly_X4_current : Cond.laysFinal "ParcelBall" "ParcelBall" "current" "LParcelBall$World;" ∈ TW := TW_1 138 rfl rfl
theorem ly_X4_trial : Cond.laysFinal "ParcelBall" "ParcelBall" "trial" "LParcelBall$World;" ∈ TW := TW_1 140 rfl rfl
theorem ly_X4_kept : Cond.laysFinal "ParcelBall" "ParcelBall" "kept" "LParcelBall$World;" ∈ TW := TW_1 142 rfl rfl
theorem ly_X4_isKept : Cond.lays "ParcelBall" "ParcelBall" "isKept" "Z" ∈ TW := TW_1 144 rfl rfl
theorem ly_X4_tape : Cond.laysFinal "ParcelBall" "ParcelBall" "tape" "LParcelBall$Tape;" ∈ TW := TW_1 146 rfl rfl
theorem ly_X4_reader : Cond.laysFinal "ParcelBall" "ParcelBall" "reader" "LParcelBall$TextReader;" ∈ TW := TW_1 148 rfl rfl
theorem ly_X4_sheets : Cond.laysFinal "ParcelBall" "ParcelBall" "sheets" "LParcelBall$Sheets;" ∈ TW := TW_1 150 rfl rfl
theorem ly_X4_findingsTold : Cond.laysFinal "ParcelBall" "ParcelBall" "findingsTold" "[I" ∈ TW := TW_1 152 rfl rfl
theorem ml_L_13 : Cond.methodLink "ParcelBallLaw" 13 yX4_ball ∈ TW := TW_1 155 rfl rfl
theorem im_yX4_ball : Cond.instanceMethod yX4_ball ∈ TW := TW_1 156 rfl rfl
theorem se_yX4_ball : Cond.selects "ParcelBall" yX4_ball yX4_ball ∈ TW := TW_1 157 rfl rfl
theorem cd_yX4_ball : Cond.code yX4_ball prog_1_method_2_code 3 (some Jvm.ClassFile.FieldType.int) ∈ TW := TW_1 158 rfl rfl
theorem ml_X4_53 : Cond.methodLink "ParcelBall" 53 yX4_isPlace ∈ TW := TW_1 159 rfl rfl
theorem sm_yX4_isPlace : Cond.static yX4_isPlace ∈ TW := TW_1 160 rfl rfl
theorem cd_yX4_isPlace : Cond.code yX4_isPlace prog_1_method_49_code 1 (some Jvm.ClassFile.FieldType.boolean) ∈ TW := TW_1 161 rfl rfl
theorem ml_X4_66 : Cond.methodLink "ParcelBall" 66 yX4_isWithin ∈ TW := TW_1 162 rfl rfl
theorem sm_yX4_isWithin : Cond.static yX4_isWithin ∈ TW := TW_1 163 rfl rfl
theorem cd_yX4_isWithin : Cond.code yX4_isWithin prog_1_method_48_code 3 (some Jvm.ClassFile.FieldType.boolean) ∈ TW := TW_1 164 rfl rfl
theorem kc_X4_57 : Cond.constant "ParcelBall" 57 (-1000001) ∈ TW := TW_1 165 rfl rfl
theorem ml_X4_58 : Cond.methodLink "ParcelBall" 58 yX4_finding ∈ TW := TW_1 166 rfl rfl
theorem im_yX4_finding : Cond.instanceMethod yX4_finding ∈ TW := TW_1 168 rfl rfl
theorem cd_yX4_finding : Cond.code yX4_finding prog_1_method_43_code 3 (some Jvm.ClassFile.FieldType.int) ∈ TW := TW_1 169 rfl rfl
theorem ml_L_18 : Cond.methodLink "ParcelBallLaw" 18 yX4_drag ∈ TW := TW_1 170 rfl rfl
theorem im_yX4_drag : Cond.instanceMethod yX4_drag ∈ TW := TW_1 171 rfl rfl
theorem se_yX4_drag : Cond.selects "ParcelBall" yX4_drag yX4_drag ∈ TW := TW_1 172 rfl rfl
theorem cd_yX4_drag : Cond.code yX4_drag prog_1_method_3_code 3 (some Jvm.ClassFile.FieldType.int) ∈ TW := TW_1 173 rfl rfl
theorem ml_L_22 : Cond.methodLink "ParcelBallLaw" 22 yX4_wind ∈ TW := TW_1 174 rfl rfl
theorem im_yX4_wind : Cond.instanceMethod yX4_wind ∈ TW := TW_1 175 rfl rfl
theorem se_yX4_wind : Cond.selects "ParcelBall" yX4_wind yX4_wind ∈ TW := TW_1 176 rfl rfl
theorem cd_yX4_wind : Cond.code yX4_wind prog_1_method_4_code 3 (some Jvm.ClassFile.FieldType.int) ∈ TW := TW_1 177 rfl rfl
theorem ml_X4_73 : Cond.methodLink "ParcelBall" 73 yX4_isKind ∈ TW := TW_1 178 rfl rfl
theorem sm_yX4_isKind : Cond.static yX4_isKind ∈ TW := TW_1 179 rfl rfl
theorem cd_yX4_isKind : Cond.code yX4_isKind prog_1_method_50_code 1 (some Jvm.ClassFile.FieldType.boolean) ∈ TW := TW_1 180 rfl rfl
theorem ml_X4_76 : Cond.methodLink "ParcelBall" 76 yX3_isFull ∈ TW := TW_1 181 rfl rfl
theorem im_yX3_isFull : Cond.instanceMethod yX3_isFull ∈ TW := TW_1 182 rfl rfl
theorem se_yX3_isFull : Cond.selects "ParcelBall$World" yX3_isFull yX3_isFull ∈ TW := TW_1 183 rfl rfl
theorem cd_yX3_isFull : Cond.code yX3_isFull prog_5_method_5_code 1 (some Jvm.ClassFile.FieldType.boolean) ∈ TW := TW_1 184 rfl rfl
theorem kc_X4_80 : Cond.constant "ParcelBall" 80 (-1000002) ∈ TW := TW_1 185 rfl rfl
theorem ml_X4_81 : Cond.methodLink "ParcelBall" 81 yX3_addPiece ∈ TW := TW_1 186 rfl rfl
theorem im_yX3_addPiece : Cond.instanceMethod yX3_addPiece ∈ TW := TW_1 187 rfl rfl
theorem se_yX3_addPiece : Cond.selects "ParcelBall$World" yX3_addPiece yX3_addPiece ∈ TW := TW_1 188 rfl rfl
theorem cd_yX3_addPiece : Cond.code yX3_addPiece prog_5_method_12_code 4 (some Jvm.ClassFile.FieldType.int) ∈ TW := TW_1 189 rfl rfl
theorem ml_X3_64 : Cond.methodLink "ParcelBall$World" 64 yX3_setFact ∈ TW := TW_1 190 rfl rfl
theorem im_yX3_setFact : Cond.instanceMethod yX3_setFact ∈ TW := TW_1 191 rfl rfl
theorem se_yX3_setFact : Cond.selects "ParcelBall$World" yX3_setFact yX3_setFact ∈ TW := TW_1 192 rfl rfl
theorem cd_yX3_setFact : Cond.code yX3_setFact prog_5_method_7_code 4 none ∈ TW := TW_1 193 rfl rfl
theorem ml_L_27 : Cond.methodLink "ParcelBallLaw" 27 yX4_of ∈ TW := TW_1 194 rfl rfl
theorem im_yX4_of : Cond.instanceMethod yX4_of ∈ TW := TW_1 195 rfl rfl
theorem se_yX4_of : Cond.selects "ParcelBall" yX4_of yX4_of ∈ TW := TW_1 196 rfl rfl
theorem cd_yX4_of : Cond.code yX4_of prog_1_method_5_code 3 (some Jvm.ClassFile.FieldType.int) ∈ TW := TW_1 197 rfl rfl
theorem ml_X4_85 : Cond.methodLink "ParcelBall" 85 yX3_hasPiece ∈ TW := TW_1 198 rfl rfl
theorem im_yX3_hasPiece : Cond.instanceMethod yX3_hasPiece ∈ TW := TW_1 199 rfl rfl
theorem se_yX3_hasPiece : Cond.selects "ParcelBall$World" yX3_hasPiece yX3_hasPiece ∈ TW := TW_1 200 rfl rfl
theorem cd_yX3_hasPiece : Cond.code yX3_hasPiece prog_5_method_4_code 2 (some Jvm.ClassFile.FieldType.boolean) ∈ TW := TW_1 201 rfl rfl
theorem ml_X4_88 : Cond.methodLink "ParcelBall" 88 yX3_tell ∈ TW := TW_1 202 rfl rfl
theorem im_yX3_tell : Cond.instanceMethod yX3_tell ∈ TW := TW_1 203 rfl rfl
theorem se_yX3_tell : Cond.selects "ParcelBall$World" yX3_tell yX3_tell ∈ TW := TW_1 204 rfl rfl
theorem cd_yX3_tell : Cond.code yX3_tell prog_5_method_16_code 3 (some Jvm.ClassFile.FieldType.int) ∈ TW := TW_1 205 rfl rfl
theorem ml_X3_77 : Cond.methodLink "ParcelBall$World" 77 yX3_pullOf ∈ TW := TW_1 206 rfl rfl
theorem im_yX3_pullOf : Cond.instanceMethod yX3_pullOf ∈ TW := TW_1 208 rfl rfl
theorem cd_yX3_pullOf : Cond.code yX3_pullOf prog_5_method_17_code 5 (some Jvm.ClassFile.FieldType.int) ∈ TW := TW_1 209 rfl rfl
theorem ml_X3_56 : Cond.methodLink "ParcelBall$World" 56 yX3_fact ∈ TW := TW_1 210 rfl rfl
theorem im_yX3_fact : Cond.instanceMethod yX3_fact ∈ TW := TW_1 211 rfl rfl
theorem se_yX3_fact : Cond.selects "ParcelBall$World" yX3_fact yX3_fact ∈ TW := TW_1 212 rfl rfl
theorem cd_yX3_fact : Cond.code yX3_fact prog_5_method_6_code 3 (some Jvm.ClassFile.FieldType.int) ∈ TW := TW_1 213 rfl rfl
theorem ml_X3_90 : Cond.methodLink "ParcelBall$World" 90 yJ9_max_7cf53 ∈ TW := TW_1 214 rfl rfl
theorem sm_yJ9_max_7cf53 : Cond.static yJ9_max_7cf53 ∈ TW := TW_1 215 rfl rfl
theorem cd_yJ9_max_7cf53 : Cond.code yJ9_max_7cf53 prog_9_method_65_code 2 (some Jvm.ClassFile.FieldType.int) ∈ TW := TW_1 216 rfl rfl
theorem ml_X3_95 : Cond.methodLink "ParcelBall$World" 95 yJ9_abs_0f7a4 ∈ TW := TW_1 217 rfl rfl
theorem sm_yJ9_abs_0f7a4 : Cond.static yJ9_abs_0f7a4 ∈ TW := TW_1 218 rfl rfl
theorem cd_yJ9_abs_0f7a4 : Cond.code yJ9_abs_0f7a4 prog_9_method_59_code 1 (some Jvm.ClassFile.FieldType.int) ∈ TW := TW_1 219 rfl rfl
theorem ml_X3_81 : Cond.methodLink "ParcelBall$World" 81 yX3_lastsOf ∈ TW := TW_1 220 rfl rfl
theorem sm_yX3_lastsOf : Cond.static yX3_lastsOf ∈ TW := TW_1 221 rfl rfl
theorem cd_yX3_lastsOf : Cond.code yX3_lastsOf prog_5_method_18_code 1 (some Jvm.ClassFile.FieldType.int) ∈ TW := TW_1 222 rfl rfl
theorem ml_X3_84 : Cond.methodLink "ParcelBall$World" 84 yX3_longOutside ∈ TW := TW_1 223 rfl rfl
theorem im_yX3_longOutside : Cond.instanceMethod yX3_longOutside ∈ TW := TW_1 224 rfl rfl
theorem se_yX3_longOutside : Cond.selects "ParcelBall$World" yX3_longOutside yX3_longOutside ∈ TW := TW_1 225 rfl rfl
theorem cd_yX3_longOutside : Cond.code yX3_longOutside prog_5_method_21_code 4 (some Jvm.ClassFile.FieldType.int) ∈ TW := TW_1 226 rfl rfl
theorem ml_X3_87 : Cond.methodLink "ParcelBall$World" 87 yX3_feltOf ∈ TW := TW_1 227 rfl rfl
theorem im_yX3_feltOf : Cond.instanceMethod yX3_feltOf ∈ TW := TW_1 229 rfl rfl
theorem cd_yX3_feltOf : Cond.code yX3_feltOf prog_5_method_20_code 4 (some Jvm.ClassFile.FieldType.int) ∈ TW := TW_1 230 rfl rfl
theorem ml_X3_98 : Cond.methodLink "ParcelBall$World" 98 yX3_givesOf ∈ TW := TW_1 231 rfl rfl
theorem sm_yX3_givesOf : Cond.static yX3_givesOf ∈ TW := TW_1 232 rfl rfl
theorem cd_yX3_givesOf : Cond.code yX3_givesOf prog_5_method_19_code 1 (some Jvm.ClassFile.FieldType.int) ∈ TW := TW_1 233 rfl rfl
theorem ml_L_31 : Cond.methodLink "ParcelBallLaw" 31 yX4_change ∈ TW := TW_1 234 rfl rfl
theorem im_yX4_change : Cond.instanceMethod yX4_change ∈ TW := TW_1 235 rfl rfl
theorem se_yX4_change : Cond.selects "ParcelBall" yX4_change yX4_change ∈ TW := TW_1 236 rfl rfl
theorem cd_yX4_change : Cond.code yX4_change prog_1_method_6_code 5 (some Jvm.ClassFile.FieldType.int) ∈ TW := TW_1 237 rfl rfl
theorem ml_X4_91 : Cond.methodLink "ParcelBall" 91 yX4_isFactValue ∈ TW := TW_1 238 rfl rfl
theorem sm_yX4_isFactValue : Cond.static yX4_isFactValue ∈ TW := TW_1 239 rfl rfl
theorem cd_yX4_isFactValue : Cond.code yX4_isFactValue prog_1_method_53_code 2 (some Jvm.ClassFile.FieldType.boolean) ∈ TW := TW_2 0 rfl rfl
theorem fl_X4_247 : Cond.fieldLink "ParcelBall" 247 "ParcelBall" "FACT_LEAST" "[I" ∈ TW := TW_2 1 rfl rfl
theorem ls_FACT_LEAST : Cond.laysStatic "ParcelBall" "FACT_LEAST" "[I" ∈ lw_tbl := LT_2 2 rfl
theorem fl_X4_250 : Cond.fieldLink "ParcelBall" 250 "ParcelBall" "FACT_MOST" "[I" ∈ TW := TW_2 3 rfl rfl
theorem ls_FACT_MOST : Cond.laysStatic "ParcelBall" "FACT_MOST" "[I" ∈ lw_tbl := LT_2 4 rfl
theorem ml_X4_95 : Cond.methodLink "ParcelBall" 95 yX3_fact ∈ TW := TW_2 5 rfl rfl
theorem ml_X4_98 : Cond.methodLink "ParcelBall" 98 yX3_setFact ∈ TW := TW_2 6 rfl rfl
theorem ml_L_36 : Cond.methodLink "ParcelBallLaw" 36 yX4_lend ∈ TW := TW_2 7 rfl rfl
theorem im_yX4_lend : Cond.instanceMethod yX4_lend ∈ TW := TW_2 8 rfl rfl
theorem se_yX4_lend : Cond.selects "ParcelBall" yX4_lend yX4_lend ∈ TW := TW_2 9 rfl rfl
theorem cd_yX4_lend : Cond.code yX4_lend prog_1_method_7_code 2 (some Jvm.ClassFile.FieldType.int) ∈ TW := TW_2 10 rfl rfl
theorem kc_X4_105 : Cond.constant "ParcelBall" 105 (-1000005) ∈ TW := TW_2 11 rfl rfl
theorem ml_X4_106 : Cond.methodLink "ParcelBall" 106 yX3_cutOutermost ∈ TW := TW_2 12 rfl rfl
theorem im_yX3_cutOutermost : Cond.instanceMethod yX3_cutOutermost ∈ TW := TW_2 13 rfl rfl
theorem se_yX3_cutOutermost : Cond.selects "ParcelBall$World" yX3_cutOutermost yX3_cutOutermost ∈ TW := TW_2 14 rfl rfl
theorem cd_yX3_cutOutermost : Cond.code yX3_cutOutermost prog_5_method_13_code 4 (some Jvm.ClassFile.FieldType.int) ∈ TW := TW_2 15 rfl rfl
theorem ml_X3_72 : Cond.methodLink "ParcelBall$World" 72 yX3_emptySpotsOf ∈ TW := TW_2 16 rfl rfl
theorem im_yX3_emptySpotsOf : Cond.instanceMethod yX3_emptySpotsOf ∈ TW := TW_2 18 rfl rfl
theorem cd_yX3_emptySpotsOf : Cond.code yX3_emptySpotsOf prog_5_method_14_code 3 none ∈ TW := TW_2 19 rfl rfl
theorem ml_L_40 : Cond.methodLink "ParcelBallLaw" 40 yX4_felt ∈ TW := TW_2 20 rfl rfl
theorem im_yX4_felt : Cond.instanceMethod yX4_felt ∈ TW := TW_2 21 rfl rfl
theorem se_yX4_felt : Cond.selects "ParcelBall" yX4_felt yX4_felt ∈ TW := TW_2 22 rfl rfl
theorem cd_yX4_felt : Cond.code yX4_felt prog_1_method_8_code 2 (some Jvm.ClassFile.FieldType.int) ∈ TW := TW_2 23 rfl rfl
theorem ml_X4_109 : Cond.methodLink "ParcelBall" 109 yX3_feltTo ∈ TW := TW_2 24 rfl rfl
theorem im_yX3_feltTo : Cond.instanceMethod yX3_feltTo ∈ TW := TW_2 25 rfl rfl
theorem se_yX3_feltTo : Cond.selects "ParcelBall$World" yX3_feltTo yX3_feltTo ∈ TW := TW_2 26 rfl rfl
theorem cd_yX3_feltTo : Cond.code yX3_feltTo prog_5_method_22_code 4 (some Jvm.ClassFile.FieldType.int) ∈ TW := TW_2 27 rfl rfl
theorem ml_X3_101 : Cond.methodLink "ParcelBall$World" 101 yX3_tell ∈ TW := TW_2 28 rfl rfl
theorem ml_L_44 : Cond.methodLink "ParcelBallLaw" 44 yX4_go ∈ TW := TW_2 29 rfl rfl
theorem im_yX4_go : Cond.instanceMethod yX4_go ∈ TW := TW_2 30 rfl rfl
theorem se_yX4_go : Cond.selects "ParcelBall" yX4_go yX4_go ∈ TW := TW_2 31 rfl rfl
theorem cd_yX4_go : Cond.code yX4_go prog_1_method_9_code 2 (some Jvm.ClassFile.FieldType.int) ∈ TW := TW_2 32 rfl rfl
theorem kc_X4_115 : Cond.constant "ParcelBall" 115 (99999) ∈ TW := TW_2 33 rfl rfl
theorem ml_X4_116 : Cond.methodLink "ParcelBall" 116 yX3_passDays ∈ TW := TW_2 34 rfl rfl
theorem im_yX3_passDays : Cond.instanceMethod yX3_passDays ∈ TW := TW_2 35 rfl rfl
theorem se_yX3_passDays : Cond.selects "ParcelBall$World" yX3_passDays yX3_passDays ∈ TW := TW_2 36 rfl rfl
theorem cd_yX3_passDays : Cond.code yX3_passDays prog_5_method_26_code 3 none ∈ TW := TW_2 37 rfl rfl
theorem ml_X3_104 : Cond.methodLink "ParcelBall$World" 104 yX3_passDay ∈ TW := TW_2 38 rfl rfl
theorem im_yX3_passDay : Cond.instanceMethod yX3_passDay ∈ TW := TW_2 39 rfl rfl
theorem se_yX3_passDay : Cond.selects "ParcelBall$World" yX3_passDay yX3_passDay ∈ TW := TW_2 40 rfl rfl
theorem cd_yX3_passDay : Cond.code yX3_passDay prog_5_method_27_code 2 none ∈ TW := TW_2 41 rfl rfl
theorem ml_X3_107 : Cond.methodLink "ParcelBall$World" 107 yX3_weigh ∈ TW := TW_2 42 rfl rfl
theorem im_yX3_weigh : Cond.instanceMethod yX3_weigh ∈ TW := TW_2 43 rfl rfl
theorem se_yX3_weigh : Cond.selects "ParcelBall$World" yX3_weigh yX3_weigh ∈ TW := TW_2 44 rfl rfl
theorem cd_yX3_weigh : Cond.code yX3_weigh prog_5_method_25_code 4 none ∈ TW := TW_2 45 rfl rfl
theorem ml_X3_110 : Cond.methodLink "ParcelBall$World" 110 yX3_moveTo ∈ TW := TW_2 46 rfl rfl
theorem im_yX3_moveTo : Cond.instanceMethod yX3_moveTo ∈ TW := TW_2 48 rfl rfl
theorem cd_yX3_moveTo : Cond.code yX3_moveTo prog_5_method_28_code 3 none ∈ TW := TW_2 49 rfl rfl
theorem ml_X3_113 : Cond.methodLink "ParcelBall$World" 113 yX3_raiseFact ∈ TW := TW_2 50 rfl rfl
theorem im_yX3_raiseFact : Cond.instanceMethod yX3_raiseFact ∈ TW := TW_2 51 rfl rfl
theorem se_yX3_raiseFact : Cond.selects "ParcelBall$World" yX3_raiseFact yX3_raiseFact ∈ TW := TW_2 52 rfl rfl
theorem cd_yX3_raiseFact : Cond.code yX3_raiseFact prog_5_method_8_code 3 none ∈ TW := TW_2 53 rfl rfl
theorem mn_X3_60 : Cond.methodLinkNest "ParcelBall$World" 60 yX4_isFactValue "ParcelBall" ∈ lw_tbl := LT_2 54 rfl
theorem ml_X3_117 : Cond.methodLink "ParcelBall$World" 117 yX3_goOffFirst ∈ TW := TW_2 55 rfl rfl
theorem im_yX3_goOffFirst : Cond.instanceMethod yX3_goOffFirst ∈ TW := TW_2 57 rfl rfl
theorem cd_yX3_goOffFirst : Cond.code yX3_goOffFirst prog_5_method_29_code 3 none ∈ TW := TW_2 58 rfl rfl
theorem ml_X3_124 : Cond.methodLink "ParcelBall$World" 124 yX3_halveOutside ∈ TW := TW_2 59 rfl rfl
theorem im_yX3_halveOutside : Cond.instanceMethod yX3_halveOutside ∈ TW := TW_2 61 rfl rfl
theorem cd_yX3_halveOutside : Cond.code yX3_halveOutside prog_5_method_30_code 3 none ∈ TW := TW_2 62 rfl rfl
theorem kc_X3_120 : Cond.constant "ParcelBall$World" 120 (99999) ∈ TW := TW_2 63 rfl rfl
theorem ml_X3_121 : Cond.methodLink "ParcelBall$World" 121 yJ9_min_7cf53 ∈ TW := TW_2 64 rfl rfl
theorem sm_yJ9_min_7cf53 : Cond.static yJ9_min_7cf53 ∈ TW := TW_2 65 rfl rfl
theorem cd_yJ9_min_7cf53 : Cond.code yJ9_min_7cf53 prog_9_method_69_code 2 (some Jvm.ClassFile.FieldType.int) ∈ TW := TW_2 66 rfl rfl
theorem ml_L_48 : Cond.methodLink "ParcelBallLaw" 48 yX4_now ∈ TW := TW_2 67 rfl rfl
theorem im_yX4_now : Cond.instanceMethod yX4_now ∈ TW := TW_2 68 rfl rfl
theorem se_yX4_now : Cond.selects "ParcelBall" yX4_now yX4_now ∈ TW := TW_2 69 rfl rfl
theorem cd_yX4_now : Cond.code yX4_now prog_1_method_10_code 2 (some Jvm.ClassFile.FieldType.int) ∈ TW := TW_2 70 rfl rfl
theorem ml_X4_120 : Cond.methodLink "ParcelBall" 120 yX3_weigh ∈ TW := TW_2 71 rfl rfl
theorem ml_X4_129 : Cond.methodLink "ParcelBall" 129 yX3_longOutside ∈ TW := TW_2 72 rfl rfl
theorem ml_X4_135 : Cond.methodLink "ParcelBall" 135 yX3_placeSet ∈ TW := TW_2 73 rfl rfl
theorem im_yX3_placeSet : Cond.instanceMethod yX3_placeSet ∈ TW := TW_2 74 rfl rfl
theorem se_yX3_placeSet : Cond.selects "ParcelBall$World" yX3_placeSet yX3_placeSet ∈ TW := TW_2 75 rfl rfl
theorem cd_yX3_placeSet : Cond.code yX3_placeSet prog_5_method_23_code 3 (some Jvm.ClassFile.FieldType.int) ∈ TW := TW_2 76 rfl rfl
theorem ml_X4_139 : Cond.methodLink "ParcelBall" 139 yX3_mostFelt ∈ TW := TW_2 77 rfl rfl
theorem im_yX3_mostFelt : Cond.instanceMethod yX3_mostFelt ∈ TW := TW_2 78 rfl rfl
theorem se_yX3_mostFelt : Cond.selects "ParcelBall$World" yX3_mostFelt yX3_mostFelt ∈ TW := TW_2 79 rfl rfl
theorem cd_yX3_mostFelt : Cond.code yX3_mostFelt prog_5_method_24_code 5 (some Jvm.ClassFile.FieldType.int) ∈ TW := TW_2 80 rfl rfl
theorem ml_L_52 : Cond.methodLink "ParcelBallLaw" 52 yX4_ahead ∈ TW := TW_2 81 rfl rfl
theorem im_yX4_ahead : Cond.instanceMethod yX4_ahead ∈ TW := TW_2 82 rfl rfl
theorem se_yX4_ahead : Cond.selects "ParcelBall" yX4_ahead yX4_ahead ∈ TW := TW_2 83 rfl rfl
theorem cd_yX4_ahead : Cond.code yX4_ahead prog_1_method_11_code 5 (some Jvm.ClassFile.FieldType.int) ∈ TW := TW_2 84 rfl rfl
theorem ml_X4_142 : Cond.methodLink "ParcelBall" 142 yX3_becomeBall ∈ TW := TW_2 85 rfl rfl
theorem im_yX3_becomeBall : Cond.instanceMethod yX3_becomeBall ∈ TW := TW_2 86 rfl rfl
theorem se_yX3_becomeBall : Cond.selects "ParcelBall$World" yX3_becomeBall yX3_becomeBall ∈ TW := TW_2 87 rfl rfl
theorem cd_yX3_becomeBall : Cond.code yX3_becomeBall prog_5_method_2_code 2 none ∈ TW := TW_2 88 rfl rfl
theorem ml_X3_46 : Cond.methodLink "ParcelBall$World" 46 ⟨"java/lang/System", "arraycopy", "(Ljava/lang/Object;ILjava/lang/Object;II)V"⟩ ∈ TW := TW_2 89 rfl rfl
theorem sm_arraycopy : Cond.static ⟨"java/lang/System", "arraycopy", "(Ljava/lang/Object;ILjava/lang/Object;II)V"⟩ ∈ TW := TW_2 90 rfl rfl
theorem na_arraycopy : Cond.native ⟨"java/lang/System", "arraycopy", "(Ljava/lang/Object;ILjava/lang/Object;II)V"⟩ ∈ TW := TW_2 91 rfl rfl
theorem ml_L_56 : Cond.methodLink "ParcelBallLaw" 56 yX4_where ∈ TW := TW_2 92 rfl rfl
theorem im_yX4_where : Cond.instanceMethod yX4_where ∈ TW := TW_2 93 rfl rfl
theorem se_yX4_where : Cond.selects "ParcelBall" yX4_where yX4_where ∈ TW := TW_2 94 rfl rfl
theorem cd_yX4_where : Cond.code yX4_where prog_1_method_12_code 2 (some Jvm.ClassFile.FieldType.int) ∈ TW := TW_2 95 rfl rfl
theorem ml_L_60 : Cond.methodLink "ParcelBallLaw" 60 yX4_when ∈ TW := TW_2 96 rfl rfl
theorem im_yX4_when : Cond.instanceMethod yX4_when ∈ TW := TW_2 97 rfl rfl
theorem se_yX4_when : Cond.selects "ParcelBall" yX4_when yX4_when ∈ TW := TW_2 98 rfl rfl
theorem cd_yX4_when : Cond.code yX4_when prog_1_method_13_code 3 (some Jvm.ClassFile.FieldType.int) ∈ TW := TW_2 99 rfl rfl
theorem ml_X4_146 : Cond.methodLink "ParcelBall" 146 yX3_passDay ∈ TW := TW_2 100 rfl rfl
theorem kc_X4_149 : Cond.constant "ParcelBall" 149 (-1000004) ∈ TW := TW_2 101 rfl rfl
theorem ml_L_64 : Cond.methodLink "ParcelBallLaw" 64 yX4_comes ∈ TW := TW_2 102 rfl rfl
theorem im_yX4_comes : Cond.instanceMethod yX4_comes ∈ TW := TW_2 103 rfl rfl
theorem se_yX4_comes : Cond.selects "ParcelBall" yX4_comes yX4_comes ∈ TW := TW_2 104 rfl rfl
theorem cd_yX4_comes : Cond.code yX4_comes prog_1_method_14_code 3 (some Jvm.ClassFile.FieldType.int) ∈ TW := TW_2 105 rfl rfl
theorem ml_L_68 : Cond.methodLink "ParcelBallLaw" 68 yX4_off ∈ TW := TW_2 106 rfl rfl
theorem im_yX4_off : Cond.instanceMethod yX4_off ∈ TW := TW_2 107 rfl rfl
theorem se_yX4_off : Cond.selects "ParcelBall" yX4_off yX4_off ∈ TW := TW_2 108 rfl rfl
theorem cd_yX4_off : Cond.code yX4_off prog_1_method_15_code 2 (some Jvm.ClassFile.FieldType.int) ∈ TW := TW_2 109 rfl rfl
theorem ml_L_73 : Cond.methodLink "ParcelBallLaw" 73 yX4_unwind ∈ TW := TW_2 110 rfl rfl
theorem im_yX4_unwind : Cond.instanceMethod yX4_unwind ∈ TW := TW_2 111 rfl rfl
theorem se_yX4_unwind : Cond.selects "ParcelBall" yX4_unwind yX4_unwind ∈ TW := TW_2 112 rfl rfl
theorem cd_yX4_unwind : Cond.code yX4_unwind prog_1_method_16_code 3 (some Jvm.ClassFile.FieldType.int) ∈ TW := TW_2 113 rfl rfl
theorem ml_L_77 : Cond.methodLink "ParcelBallLaw" 77 yX4_had ∈ TW := TW_2 114 rfl rfl
theorem im_yX4_had : Cond.instanceMethod yX4_had ∈ TW := TW_2 115 rfl rfl
theorem se_yX4_had : Cond.selects "ParcelBall" yX4_had yX4_had ∈ TW := TW_2 116 rfl rfl
theorem cd_yX4_had : Cond.code yX4_had prog_1_method_17_code 4 (some Jvm.ClassFile.FieldType.int) ∈ TW := TW_2 117 rfl rfl
theorem ml_L_81 : Cond.methodLink "ParcelBallLaw" 81 yX4_drawTo ∈ TW := TW_2 118 rfl rfl
theorem im_yX4_drawTo : Cond.instanceMethod yX4_drawTo ∈ TW := TW_2 119 rfl rfl
theorem se_yX4_drawTo : Cond.selects "ParcelBall" yX4_drawTo yX4_drawTo ∈ TW := TW_2 120 rfl rfl
theorem cd_yX4_drawTo : Cond.code yX4_drawTo prog_1_method_18_code 8 (some Jvm.ClassFile.FieldType.int) ∈ TW := TW_2 121 rfl rfl
theorem ml_X4_150 : Cond.methodLink "ParcelBall" 150 yX4_tryFact ∈ TW := TW_2 122 rfl rfl
theorem im_yX4_tryFact : Cond.instanceMethod yX4_tryFact ∈ TW := TW_2 124 rfl rfl
theorem cd_yX4_tryFact : Cond.code yX4_tryFact prog_1_method_45_code 4 none ∈ TW := TW_2 125 rfl rfl
theorem ml_X4_153 : Cond.methodLink "ParcelBall" 153 yJ9_abs_0f7a4 ∈ TW := TW_2 126 rfl rfl
theorem ml_L_85 : Cond.methodLink "ParcelBallLaw" 85 yX4_longFor ∈ TW := TW_2 127 rfl rfl
theorem im_yX4_longFor : Cond.instanceMethod yX4_longFor ∈ TW := TW_2 128 rfl rfl
theorem se_yX4_longFor : Cond.selects "ParcelBall" yX4_longFor yX4_longFor ∈ TW := TW_2 129 rfl rfl
theorem cd_yX4_longFor : Cond.code yX4_longFor prog_1_method_19_code 5 (some Jvm.ClassFile.FieldType.int) ∈ TW := TW_2 130 rfl rfl
theorem ml_L_89 : Cond.methodLink "ParcelBallLaw" 89 yX4_kindFor ∈ TW := TW_2 131 rfl rfl
theorem im_yX4_kindFor : Cond.instanceMethod yX4_kindFor ∈ TW := TW_2 132 rfl rfl
theorem se_yX4_kindFor : Cond.selects "ParcelBall" yX4_kindFor yX4_kindFor ∈ TW := TW_2 133 rfl rfl
theorem cd_yX4_kindFor : Cond.code yX4_kindFor prog_1_method_20_code 7 (some Jvm.ClassFile.FieldType.int) ∈ TW := TW_2 134 rfl rfl
theorem ml_L_93 : Cond.methodLink "ParcelBallLaw" 93 yX4_dragFor ∈ TW := TW_2 135 rfl rfl
theorem im_yX4_dragFor : Cond.instanceMethod yX4_dragFor ∈ TW := TW_2 136 rfl rfl
theorem se_yX4_dragFor : Cond.selects "ParcelBall" yX4_dragFor yX4_dragFor ∈ TW := TW_2 137 rfl rfl
theorem cd_yX4_dragFor : Cond.code yX4_dragFor prog_1_method_21_code 4 (some Jvm.ClassFile.FieldType.int) ∈ TW := TW_2 138 rfl rfl
theorem ml_L_97 : Cond.methodLink "ParcelBallLaw" 97 yX4_loosen ∈ TW := TW_2 139 rfl rfl
theorem im_yX4_loosen : Cond.instanceMethod yX4_loosen ∈ TW := TW_2 140 rfl rfl
theorem se_yX4_loosen : Cond.selects "ParcelBall" yX4_loosen yX4_loosen ∈ TW := TW_2 141 rfl rfl
theorem cd_yX4_loosen : Cond.code yX4_loosen prog_1_method_22_code 6 (some Jvm.ClassFile.FieldType.int) ∈ TW := TW_2 142 rfl rfl
theorem ml_X4_158 : Cond.methodLink "ParcelBall" 158 yJ6_bitCount_0f7a4 ∈ TW := TW_2 143 rfl rfl
theorem sm_yJ6_bitCount_0f7a4 : Cond.static yJ6_bitCount_0f7a4 ∈ TW := TW_2 144 rfl rfl
theorem cd_yJ6_bitCount_0f7a4 : Cond.code yJ6_bitCount_0f7a4 prog_8_method_49_code 1 (some Jvm.ClassFile.FieldType.int) ∈ TW := TW_2 145 rfl rfl
theorem kc_J6_265 : Cond.constant "java/lang/Integer" 265 (1431655765) ∈ TW := TW_2 146 rfl rfl
theorem kc_J6_266 : Cond.constant "java/lang/Integer" 266 (858993459) ∈ TW := TW_2 147 rfl rfl
theorem kc_J6_267 : Cond.constant "java/lang/Integer" 267 (252645135) ∈ TW := TW_2 148 rfl rfl
theorem ml_L_101 : Cond.methodLink "ParcelBallLaw" 101 yX4_fits ∈ TW := TW_2 149 rfl rfl
theorem im_yX4_fits : Cond.instanceMethod yX4_fits ∈ TW := TW_2 150 rfl rfl
theorem se_yX4_fits : Cond.selects "ParcelBall" yX4_fits yX4_fits ∈ TW := TW_2 151 rfl rfl
theorem cd_yX4_fits : Cond.code yX4_fits prog_1_method_23_code 3 (some Jvm.ClassFile.FieldType.int) ∈ TW := TW_2 152 rfl rfl
theorem ml_X4_166 : Cond.methodLink "ParcelBall" 166 yX4_waysOf ∈ TW := TW_2 153 rfl rfl
theorem im_yX4_waysOf : Cond.instanceMethod yX4_waysOf ∈ TW := TW_2 155 rfl rfl
theorem cd_yX4_waysOf : Cond.code yX4_waysOf prog_1_method_46_code 8 (some Jvm.ClassFile.FieldType.int) ∈ TW := TW_2 156 rfl rfl
theorem ml_X4_213 : Cond.methodLink "ParcelBall" 213 yX4_sheetFinding ∈ TW := TW_2 157 rfl rfl
theorem im_yX4_sheetFinding : Cond.instanceMethod yX4_sheetFinding ∈ TW := TW_2 159 rfl rfl
theorem cd_yX4_sheetFinding : Cond.code yX4_sheetFinding prog_1_method_44_code 2 (some Jvm.ClassFile.FieldType.int) ∈ TW := TW_2 160 rfl rfl
theorem ml_X4_206 : Cond.methodLink "ParcelBall" 206 yX4_isSheet ∈ TW := TW_2 161 rfl rfl
theorem sm_yX4_isSheet : Cond.static yX4_isSheet ∈ TW := TW_2 162 rfl rfl
theorem cd_yX4_isSheet : Cond.code yX4_isSheet prog_1_method_52_code 1 (some Jvm.ClassFile.FieldType.boolean) ∈ TW := TW_2 163 rfl rfl
theorem ml_X4_222 : Cond.methodLink "ParcelBall" 222 yX0_isMissing ∈ TW := TW_2 164 rfl rfl
theorem im_yX0_isMissing : Cond.instanceMethod yX0_isMissing ∈ TW := TW_2 165 rfl rfl
theorem se_yX0_isMissing : Cond.selects "ParcelBall$Sheets" yX0_isMissing yX0_isMissing ∈ TW := TW_2 166 rfl rfl
theorem cd_yX0_isMissing : Cond.code yX0_isMissing prog_2_method_5_code 2 (some Jvm.ClassFile.FieldType.boolean) ∈ TW := TW_2 167 rfl rfl
theorem ml_X0_25 : Cond.methodLink "ParcelBall$Sheets" 25 yX0_bitsOf ∈ TW := TW_2 168 rfl rfl
theorem im_yX0_bitsOf : Cond.instanceMethod yX0_bitsOf ∈ TW := TW_2 169 rfl rfl
theorem se_yX0_bitsOf : Cond.selects "ParcelBall$Sheets" yX0_bitsOf yX0_bitsOf ∈ TW := TW_2 170 rfl rfl
theorem cd_yX0_bitsOf : Cond.code yX0_bitsOf prog_2_method_3_code 2 (some Jvm.ClassFile.FieldType.int) ∈ TW := TW_2 171 rfl rfl
theorem mn_X0_21 : Cond.methodLinkNest "ParcelBall$Sheets" 21 yX4_isSheet "ParcelBall" ∈ lw_tbl := LT_2 172 rfl
theorem kc_X4_201 : Cond.constant "ParcelBall" 201 (-1000006) ∈ TW := TW_2 173 rfl rfl
theorem ml_X4_244 : Cond.methodLink "ParcelBall" 244 yX4_trialFollows ∈ TW := TW_2 174 rfl rfl
theorem im_yX4_trialFollows : Cond.instanceMethod yX4_trialFollows ∈ TW := TW_2 176 rfl rfl
theorem cd_yX4_trialFollows : Cond.code yX4_trialFollows prog_1_method_47_code 4 (some Jvm.ClassFile.FieldType.boolean) ∈ TW := TW_2 177 rfl rfl
theorem ml_X4_216 : Cond.methodLink "ParcelBall" 216 yX0_sizeOf ∈ TW := TW_2 178 rfl rfl
theorem im_yX0_sizeOf : Cond.instanceMethod yX0_sizeOf ∈ TW := TW_2 179 rfl rfl
theorem se_yX0_sizeOf : Cond.selects "ParcelBall$Sheets" yX0_sizeOf yX0_sizeOf ∈ TW := TW_2 180 rfl rfl
theorem cd_yX0_sizeOf : Cond.code yX0_sizeOf prog_2_method_4_code 2 (some Jvm.ClassFile.FieldType.int) ∈ TW := TW_2 181 rfl rfl
theorem ml_X4_238 : Cond.methodLink "ParcelBall" 238 yX0_number ∈ TW := TW_2 182 rfl rfl
theorem im_yX0_number : Cond.instanceMethod yX0_number ∈ TW := TW_2 183 rfl rfl
theorem se_yX0_number : Cond.selects "ParcelBall$Sheets" yX0_number yX0_number ∈ TW := TW_2 184 rfl rfl
theorem cd_yX0_number : Cond.code yX0_number prog_2_method_6_code 3 (some Jvm.ClassFile.FieldType.int) ∈ TW := TW_2 185 rfl rfl
theorem ml_X0_29 : Cond.methodLink "ParcelBall$Sheets" 29 yX0_hasRange ∈ TW := TW_2 186 rfl rfl
theorem im_yX0_hasRange : Cond.instanceMethod yX0_hasRange ∈ TW := TW_2 187 rfl rfl
theorem se_yX0_hasRange : Cond.selects "ParcelBall$Sheets" yX0_hasRange yX0_hasRange ∈ TW := TW_2 188 rfl rfl
theorem cd_yX0_hasRange : Cond.code yX0_hasRange prog_2_method_8_code 5 (some Jvm.ClassFile.FieldType.boolean) ∈ TW := TW_2 189 rfl rfl
theorem ml_X0_37 : Cond.methodLink "ParcelBall$Sheets" 37 yX0_sizeOf ∈ TW := TW_2 190 rfl rfl
theorem ml_X0_40 : Cond.methodLink "ParcelBall$Sheets" 40 yJ9_min_7cf53 ∈ TW := TW_2 191 rfl rfl
theorem ml_L_105 : Cond.methodLink "ParcelBallLaw" 105 yX4_kinds ∈ TW := TW_2 192 rfl rfl
theorem im_yX4_kinds : Cond.instanceMethod yX4_kinds ∈ TW := TW_2 193 rfl rfl
theorem se_yX4_kinds : Cond.selects "ParcelBall" yX4_kinds yX4_kinds ∈ TW := TW_2 194 rfl rfl
theorem cd_yX4_kinds : Cond.code yX4_kinds prog_1_method_24_code 3 (some Jvm.ClassFile.FieldType.int) ∈ TW := TW_2 195 rfl rfl
theorem ml_L_109 : Cond.methodLink "ParcelBallLaw" 109 yX4_parcels ∈ TW := TW_2 196 rfl rfl
theorem im_yX4_parcels : Cond.instanceMethod yX4_parcels ∈ TW := TW_2 197 rfl rfl
theorem se_yX4_parcels : Cond.selects "ParcelBall" yX4_parcels yX4_parcels ∈ TW := TW_2 198 rfl rfl
theorem cd_yX4_parcels : Cond.code yX4_parcels prog_1_method_25_code 5 (some Jvm.ClassFile.FieldType.int) ∈ TW := TW_2 199 rfl rfl
theorem ml_X4_170 : Cond.methodLink "ParcelBall" 170 yX3_nextDraw ∈ TW := TW_2 200 rfl rfl
theorem im_yX3_nextDraw : Cond.instanceMethod yX3_nextDraw ∈ TW := TW_2 201 rfl rfl
theorem se_yX3_nextDraw : Cond.selects "ParcelBall$World" yX3_nextDraw yX3_nextDraw ∈ TW := TW_2 202 rfl rfl
theorem cd_yX3_nextDraw : Cond.code yX3_nextDraw prog_5_method_15_code 1 (some Jvm.ClassFile.FieldType.int) ∈ TW := TW_2 203 rfl rfl
theorem kc_X3_76 : Cond.constant "ParcelBall$World" 76 (1103515245) ∈ TW := TW_2 204 rfl rfl
theorem ml_L_113 : Cond.methodLink "ParcelBallLaw" 113 yX4_odds ∈ TW := TW_2 205 rfl rfl
theorem im_yX4_odds : Cond.instanceMethod yX4_odds ∈ TW := TW_2 206 rfl rfl
theorem se_yX4_odds : Cond.selects "ParcelBall" yX4_odds yX4_odds ∈ TW := TW_2 207 rfl rfl
theorem cd_yX4_odds : Cond.code yX4_odds prog_1_method_26_code 8 (some Jvm.ClassFile.FieldType.long) ∈ TW := TW_2 208 rfl rfl
theorem ml_X4_173 : Cond.methodLink "ParcelBall" 173 yX4_inLowestTerms ∈ TW := TW_2 209 rfl rfl
theorem sm_yX4_inLowestTerms : Cond.static yX4_inLowestTerms ∈ TW := TW_2 210 rfl rfl
theorem cd_yX4_inLowestTerms : Cond.code yX4_inLowestTerms prog_1_method_55_code 3 (some Jvm.ClassFile.FieldType.int) ∈ TW := TW_2 211 rfl rfl
theorem ml_L_118 : Cond.methodLink "ParcelBallLaw" 118 yX4_seed ∈ TW := TW_2 212 rfl rfl
theorem im_yX4_seed : Cond.instanceMethod yX4_seed ∈ TW := TW_2 213 rfl rfl
theorem se_yX4_seed : Cond.selects "ParcelBall" yX4_seed yX4_seed ∈ TW := TW_2 214 rfl rfl
theorem cd_yX4_seed : Cond.code yX4_seed prog_1_method_27_code 3 (some Jvm.ClassFile.FieldType.int) ∈ TW := TW_2 215 rfl rfl
theorem ml_L_122 : Cond.methodLink "ParcelBallLaw" 122 yX4_feed ∈ TW := TW_2 216 rfl rfl
theorem im_yX4_feed : Cond.instanceMethod yX4_feed ∈ TW := TW_2 217 rfl rfl
theorem se_yX4_feed : Cond.selects "ParcelBall" yX4_feed yX4_feed ∈ TW := TW_2 218 rfl rfl
theorem cd_yX4_feed : Cond.code yX4_feed prog_1_method_28_code 4 (some Jvm.ClassFile.FieldType.int) ∈ TW := TW_2 219 rfl rfl
theorem ml_X4_182 : Cond.methodLink "ParcelBall" 182 yX1_add ∈ TW := TW_2 220 rfl rfl
theorem im_yX1_add : Cond.instanceMethod yX1_add ∈ TW := TW_2 221 rfl rfl
theorem se_yX1_add : Cond.selects "ParcelBall$Tape" yX1_add yX1_add ∈ TW := TW_2 222 rfl rfl
theorem cd_yX1_add : Cond.code yX1_add prog_3_method_2_code 2 none ∈ TW := TW_2 223 rfl rfl
theorem ml_L_126 : Cond.methodLink "ParcelBallLaw" 126 yX4_wipe ∈ TW := TW_2 224 rfl rfl
theorem im_yX4_wipe : Cond.instanceMethod yX4_wipe ∈ TW := TW_2 225 rfl rfl
theorem se_yX4_wipe : Cond.selects "ParcelBall" yX4_wipe yX4_wipe ∈ TW := TW_2 226 rfl rfl
theorem cd_yX4_wipe : Cond.code yX4_wipe prog_1_method_29_code 2 (some Jvm.ClassFile.FieldType.int) ∈ TW := TW_2 227 rfl rfl
theorem ml_L_130 : Cond.methodLink "ParcelBallLaw" 130 yX4_text ∈ TW := TW_2 228 rfl rfl
theorem im_yX4_text : Cond.instanceMethod yX4_text ∈ TW := TW_2 229 rfl rfl
theorem se_yX4_text : Cond.selects "ParcelBall" yX4_text yX4_text ∈ TW := TW_2 230 rfl rfl
theorem cd_yX4_text : Cond.code yX4_text prog_1_method_30_code 2 (some Jvm.ClassFile.FieldType.int) ∈ TW := TW_2 231 rfl rfl
theorem ml_X4_185 : Cond.methodLink "ParcelBall" 185 yX3_becomeWhole ∈ TW := TW_2 232 rfl rfl
theorem im_yX3_becomeWhole : Cond.instanceMethod yX3_becomeWhole ∈ TW := TW_2 233 rfl rfl
theorem se_yX3_becomeWhole : Cond.selects "ParcelBall$World" yX3_becomeWhole yX3_becomeWhole ∈ TW := TW_2 234 rfl rfl
theorem cd_yX3_becomeWhole : Cond.code yX3_becomeWhole prog_5_method_3_code 2 none ∈ TW := TW_2 235 rfl rfl
theorem ml_X3_52 : Cond.methodLink "ParcelBall$World" 52 yX3_becomeBall ∈ TW := TW_2 236 rfl rfl
theorem ml_X4_188 : Cond.methodLink "ParcelBall" 188 yX2_readText ∈ TW := TW_2 237 rfl rfl
theorem im_yX2_readText : Cond.instanceMethod yX2_readText ∈ TW := TW_2 238 rfl rfl
theorem se_yX2_readText : Cond.selects "ParcelBall$TextReader" yX2_readText yX2_readText ∈ TW := TW_2 239 rfl rfl
theorem cd_yX2_readText : Cond.code yX2_readText prog_4_method_2_code 2 (some Jvm.ClassFile.FieldType.int) ∈ TW := TW_3 0 rfl rfl
theorem ml_X2_32 : Cond.methodLink "ParcelBall$TextReader" 32 yX2_takeToken ∈ TW := TW_3 1 rfl rfl
theorem im_yX2_takeToken : Cond.instanceMethod yX2_takeToken ∈ TW := TW_3 3 rfl rfl
theorem cd_yX2_takeToken : Cond.code yX2_takeToken prog_4_method_10_code 2 none ∈ TW := TW_3 4 rfl rfl
theorem ml_X2_110 : Cond.methodLink "ParcelBall$TextReader" 110 yX1_byteAt ∈ TW := TW_3 5 rfl rfl
theorem im_yX1_byteAt : Cond.instanceMethod yX1_byteAt ∈ TW := TW_3 6 rfl rfl
theorem se_yX1_byteAt : Cond.selects "ParcelBall$Tape" yX1_byteAt yX1_byteAt ∈ TW := TW_3 7 rfl rfl
theorem cd_yX1_byteAt : Cond.code yX1_byteAt prog_3_method_3_code 2 (some Jvm.ClassFile.FieldType.int) ∈ TW := TW_3 8 rfl rfl
theorem ml_X2_119 : Cond.methodLink "ParcelBall$TextReader" 119 yX2_isLetter ∈ TW := TW_3 9 rfl rfl
theorem sm_yX2_isLetter : Cond.static yX2_isLetter ∈ TW := TW_3 10 rfl rfl
theorem cd_yX2_isLetter : Cond.code yX2_isLetter prog_4_method_13_code 1 (some Jvm.ClassFile.FieldType.boolean) ∈ TW := TW_3 11 rfl rfl
theorem ml_X2_122 : Cond.methodLink "ParcelBall$TextReader" 122 yX2_takeWord ∈ TW := TW_3 12 rfl rfl
theorem im_yX2_takeWord : Cond.instanceMethod yX2_takeWord ∈ TW := TW_3 14 rfl rfl
theorem cd_yX2_takeWord : Cond.code yX2_takeWord prog_4_method_11_code 1 none ∈ TW := TW_3 15 rfl rfl
theorem ml_X2_125 : Cond.methodLink "ParcelBall$TextReader" 125 yX2_isDigit ∈ TW := TW_3 16 rfl rfl
theorem sm_yX2_isDigit : Cond.static yX2_isDigit ∈ TW := TW_3 17 rfl rfl
theorem cd_yX2_isDigit : Cond.code yX2_isDigit prog_4_method_14_code 1 (some Jvm.ClassFile.FieldType.boolean) ∈ TW := TW_3 18 rfl rfl
theorem ml_X2_128 : Cond.methodLink "ParcelBall$TextReader" 128 yX2_takeNumber ∈ TW := TW_3 19 rfl rfl
theorem im_yX2_takeNumber : Cond.instanceMethod yX2_takeNumber ∈ TW := TW_3 21 rfl rfl
theorem cd_yX2_takeNumber : Cond.code yX2_takeNumber prog_4_method_12_code 1 none ∈ TW := TW_3 22 rfl rfl
theorem ml_X2_131 : Cond.methodLink "ParcelBall$TextReader" 131 yJ9_min_7cf53 ∈ TW := TW_3 23 rfl rfl
theorem ml_X2_35 : Cond.methodLink "ParcelBall$TextReader" 35 yX2_readItem ∈ TW := TW_3 24 rfl rfl
theorem im_yX2_readItem : Cond.instanceMethod yX2_readItem ∈ TW := TW_3 26 rfl rfl
theorem cd_yX2_readItem : Cond.code yX2_readItem prog_4_method_3_code 2 (some Jvm.ClassFile.FieldType.boolean) ∈ TW := TW_3 27 rfl rfl
theorem ml_X2_39 : Cond.methodLink "ParcelBall$TextReader" 39 yX2_wordOf ∈ TW := TW_3 28 rfl rfl
theorem sm_yX2_wordOf : Cond.static yX2_wordOf ∈ TW := TW_3 29 rfl rfl
theorem cd_yX2_wordOf : Cond.code yX2_wordOf prog_4_method_15_code 1 (some (Jvm.ClassFile.FieldType.object "java/lang/String")) ∈ TW := TW_3 30 rfl rfl
theorem sr_X2_136 : Cond.stringRef "ParcelBall$TextReader" 136 "piece" ∈ lw_tbl := LT_3 31 rfl
theorem sr_X2_138 : Cond.stringRef "ParcelBall$TextReader" 138 "ticking" ∈ lw_tbl := LT_3 32 rfl
theorem sr_X2_140 : Cond.stringRef "ParcelBall$TextReader" 140 "birthday" ∈ lw_tbl := LT_3 33 rfl
theorem sr_X2_142 : Cond.stringRef "ParcelBall$TextReader" 142 "row" ∈ lw_tbl := LT_3 34 rfl
theorem sr_X2_144 : Cond.stringRef "ParcelBall$TextReader" 144 "letter" ∈ lw_tbl := LT_3 35 rfl
theorem sr_X2_146 : Cond.stringRef "ParcelBall$TextReader" 146 "hers" ∈ lw_tbl := LT_3 36 rfl
theorem sr_X2_148 : Cond.stringRef "ParcelBall$TextReader" 148 "fuse" ∈ lw_tbl := LT_3 37 rfl
theorem sr_X2_150 : Cond.stringRef "ParcelBall$TextReader" 150 "" ∈ lw_tbl := LT_3 38 rfl
theorem ml_X2_43 : Cond.methodLink "ParcelBall$TextReader" 43 yX2_isWord ∈ TW := TW_3 39 rfl rfl
theorem im_yX2_isWord : Cond.instanceMethod yX2_isWord ∈ TW := TW_3 41 rfl rfl
theorem cd_yX2_isWord : Cond.code yX2_isWord prog_4_method_9_code 3 (some Jvm.ClassFile.FieldType.boolean) ∈ TW := TW_3 42 rfl rfl
theorem ml_X2_100 : Cond.methodLink "ParcelBall$TextReader" 100 yJ0_length_8abf5 ∈ TW := TW_3 43 rfl rfl
theorem im_yJ0_length_8abf5 : Cond.instanceMethod yJ0_length_8abf5 ∈ TW := TW_3 44 rfl rfl
theorem se_yJ0_length_8abf5 : Cond.selects "java/lang/String" yJ0_length_8abf5 yJ0_length_8abf5 ∈ TW := TW_3 45 rfl rfl
theorem cd_yJ0_length_8abf5 : Cond.code yJ0_length_8abf5 prog_10_method_54_code 1 (some Jvm.ClassFile.FieldType.int) ∈ TW := TW_3 46 rfl rfl
theorem ml_J0_335 : Cond.methodLink "java/lang/String" 335 yJ0_coder_7d493 ∈ TW := TW_3 47 rfl rfl
theorem im_yJ0_coder_7d493 : Cond.instanceMethod yJ0_coder_7d493 ∈ TW := TW_3 48 rfl rfl
theorem se_yJ0_coder_7d493 : Cond.selects "java/lang/String" yJ0_coder_7d493 yJ0_coder_7d493 ∈ TW := TW_3 49 rfl rfl
theorem cd_yJ0_coder_7d493 : Cond.code yJ0_coder_7d493 prog_10_method_152_code 1 (some Jvm.ClassFile.FieldType.byte) ∈ TW := TW_3 50 rfl rfl
theorem fl_J0_38 : Cond.fieldLink "java/lang/String" 38 "java/lang/String" "COMPACT_STRINGS" "Z" ∈ TW := TW_3 51 rfl rfl
theorem ls_COMPACT_STRINGS : Cond.laysStatic "java/lang/String" "COMPACT_STRINGS" "Z" ∈ lw_tbl := LT_3 52 rfl
theorem ml_X2_106 : Cond.methodLink "ParcelBall$TextReader" 106 yJ0_charAt_5068e ∈ TW := TW_3 53 rfl rfl
theorem im_yJ0_charAt_5068e : Cond.instanceMethod yJ0_charAt_5068e ∈ TW := TW_3 54 rfl rfl
theorem se_yJ0_charAt_5068e : Cond.selects "java/lang/String" yJ0_charAt_5068e yJ0_charAt_5068e ∈ TW := TW_3 55 rfl rfl
theorem cd_yJ0_charAt_5068e : Cond.code yJ0_charAt_5068e prog_10_method_56_code 2 (some Jvm.ClassFile.FieldType.char) ∈ TW := TW_3 56 rfl rfl
theorem ml_J0_492 : Cond.methodLink "java/lang/String" 492 yJ0_isLatin1_aae02 ∈ TW := TW_3 57 rfl rfl
theorem im_yJ0_isLatin1_aae02 : Cond.instanceMethod yJ0_isLatin1_aae02 ∈ TW := TW_3 58 rfl rfl
theorem se_yJ0_isLatin1_aae02 : Cond.selects "java/lang/String" yJ0_isLatin1_aae02 yJ0_isLatin1_aae02 ∈ TW := TW_3 59 rfl rfl
theorem cd_yJ0_isLatin1_aae02 : Cond.code yJ0_isLatin1_aae02 prog_10_method_154_code 1 (some Jvm.ClassFile.FieldType.boolean) ∈ TW := TW_3 60 rfl rfl
theorem ml_J0_495 : Cond.methodLink "java/lang/String" 495 yJ1_charAt_3b067 ∈ TW := TW_3 61 rfl rfl
theorem sm_yJ1_charAt_3b067 : Cond.static yJ1_charAt_3b067 ∈ TW := TW_3 62 rfl rfl
theorem cd_yJ1_charAt_3b067 : Cond.code yJ1_charAt_3b067 prog_11_method_2_code 2 (some Jvm.ClassFile.FieldType.char) ∈ TW := TW_3 63 rfl rfl
theorem ml_J1_9 : Cond.methodLink "java/lang/StringLatin1" 9 yJ0_checkIndex_df160 ∈ TW := TW_3 64 rfl rfl
theorem sm_yJ0_checkIndex_df160 : Cond.static yJ0_checkIndex_df160 ∈ TW := TW_3 65 rfl rfl
theorem cd_yJ0_checkIndex_df160 : Cond.code yJ0_checkIndex_df160 prog_10_method_155_code 2 none ∈ TW := TW_3 66 rfl rfl
theorem fl_J0_1053 : Cond.fieldLink "java/lang/String" 1053 "jdk/internal/util/Preconditions" "SIOOBE_FORMATTER" "Ljava/util/function/BiFunction;" ∈ TW := TW_3 67 rfl rfl
theorem ls_SIOOBE_FORMATTER : Cond.laysStatic "jdk/internal/util/Preconditions" "SIOOBE_FORMATTER" "Ljava/util/function/BiFunction;" ∈ lw_tbl := LT_3 68 rfl
theorem ml_J0_1059 : Cond.methodLink "java/lang/String" 1059 yJ3_checkIndex_8e157 ∈ TW := TW_3 69 rfl rfl
theorem sm_yJ3_checkIndex_8e157 : Cond.static yJ3_checkIndex_8e157 ∈ TW := TW_3 70 rfl rfl
theorem cd_yJ3_checkIndex_8e157 : Cond.code yJ3_checkIndex_8e157 prog_14_method_11_code 3 (some Jvm.ClassFile.FieldType.int) ∈ TW := TW_3 71 rfl rfl
theorem ml_J0_498 : Cond.methodLink "java/lang/String" 498 yJ2_charAt_3b067 ∈ TW := TW_3 72 rfl rfl
theorem sm_yJ2_charAt_3b067 : Cond.static yJ2_charAt_3b067 ∈ TW := TW_3 73 rfl rfl
theorem cd_yJ2_charAt_3b067 : Cond.code yJ2_charAt_3b067 prog_12_method_83_code 2 (some Jvm.ClassFile.FieldType.char) ∈ TW := TW_3 74 rfl rfl
theorem ml_J2_67 : Cond.methodLink "java/lang/StringUTF16" 67 yJ2_checkIndex_2214a ∈ TW := TW_3 75 rfl rfl
theorem sm_yJ2_checkIndex_2214a : Cond.static yJ2_checkIndex_2214a ∈ TW := TW_3 76 rfl rfl
theorem cd_yJ2_checkIndex_2214a : Cond.code yJ2_checkIndex_2214a prog_12_method_91_code 2 none ∈ TW := TW_3 77 rfl rfl
theorem ml_J2_48 : Cond.methodLink "java/lang/StringUTF16" 48 yJ2_length_9d52b ∈ TW := TW_3 78 rfl rfl
theorem sm_yJ2_length_9d52b : Cond.static yJ2_length_9d52b ∈ TW := TW_3 79 rfl rfl
theorem cd_yJ2_length_9d52b : Cond.code yJ2_length_9d52b prog_12_method_6_code 1 (some Jvm.ClassFile.FieldType.int) ∈ TW := TW_3 80 rfl rfl
theorem ml_J2_414 : Cond.methodLink "java/lang/StringUTF16" 414 yJ0_checkIndex_df160 ∈ TW := TW_3 81 rfl rfl
theorem ml_J2_71 : Cond.methodLink "java/lang/StringUTF16" 71 yJ2_getChar_3b067 ∈ TW := TW_3 82 rfl rfl
theorem sm_yJ2_getChar_3b067 : Cond.static yJ2_getChar_3b067 ∈ TW := TW_3 83 rfl rfl
theorem cd_yJ2_getChar_3b067 : Cond.code yJ2_getChar_3b067 prog_12_method_5_code 2 (some Jvm.ClassFile.FieldType.char) ∈ TW := TW_3 84 rfl rfl
theorem fl_J2_44 : Cond.fieldLink "java/lang/StringUTF16" 44 "java/lang/StringUTF16" "$assertionsDisabled" "Z" ∈ TW := TW_3 85 rfl rfl
theorem ls_assertionsDisabled : Cond.laysStatic "java/lang/StringUTF16" "$assertionsDisabled" "Z" ∈ lw_tbl := LT_3 86 rfl
theorem fl_J2_59 : Cond.fieldLink "java/lang/StringUTF16" 59 "java/lang/StringUTF16" "HI_BYTE_SHIFT" "I" ∈ TW := TW_3 87 rfl rfl
theorem ls_HI_BYTE_SHIFT : Cond.laysStatic "java/lang/StringUTF16" "HI_BYTE_SHIFT" "I" ∈ lw_tbl := LT_3 88 rfl
theorem fl_J2_63 : Cond.fieldLink "java/lang/StringUTF16" 63 "java/lang/StringUTF16" "LO_BYTE_SHIFT" "I" ∈ TW := TW_3 89 rfl rfl
theorem ls_LO_BYTE_SHIFT : Cond.laysStatic "java/lang/StringUTF16" "LO_BYTE_SHIFT" "I" ∈ lw_tbl := LT_3 90 rfl
theorem ml_X2_47 : Cond.methodLink "ParcelBall$TextReader" 47 yX2_readPiece ∈ TW := TW_3 91 rfl rfl
theorem im_yX2_readPiece : Cond.instanceMethod yX2_readPiece ∈ TW := TW_3 93 rfl rfl
theorem cd_yX2_readPiece : Cond.code yX2_readPiece prog_4_method_6_code 3 (some Jvm.ClassFile.FieldType.boolean) ∈ TW := TW_3 94 rfl rfl
theorem ml_X2_72 : Cond.methodLink "ParcelBall$TextReader" 72 yX3_isFull ∈ TW := TW_3 95 rfl rfl
theorem ml_X2_75 : Cond.methodLink "ParcelBall$TextReader" 75 yX3_addPiece ∈ TW := TW_3 96 rfl rfl
theorem sr_X2_79 : Cond.stringRef "ParcelBall$TextReader" 79 "to" ∈ lw_tbl := LT_3 97 rfl
theorem ml_X2_81 : Cond.methodLink "ParcelBall$TextReader" 81 yX2_readFact ∈ TW := TW_3 98 rfl rfl
theorem im_yX2_readFact : Cond.instanceMethod yX2_readFact ∈ TW := TW_3 100 rfl rfl
theorem cd_yX2_readFact : Cond.code yX2_readFact prog_4_method_7_code 4 (some Jvm.ClassFile.FieldType.boolean) ∈ TW := TW_3 101 rfl rfl
theorem mn_X2_89 : Cond.methodLinkNest "ParcelBall$TextReader" 89 yX4_isFactValue "ParcelBall" ∈ lw_tbl := LT_3 102 rfl
theorem ml_X2_92 : Cond.methodLink "ParcelBall$TextReader" 92 yX3_setFact ∈ TW := TW_3 103 rfl rfl
theorem sr_X2_85 : Cond.stringRef "ParcelBall$TextReader" 85 "long" ∈ lw_tbl := LT_3 104 rfl
theorem sr_X2_87 : Cond.stringRef "ParcelBall$TextReader" 87 "knots" ∈ lw_tbl := LT_3 105 rfl
theorem sr_X2_51 : Cond.stringRef "ParcelBall$TextReader" 51 "ball" ∈ lw_tbl := LT_3 106 rfl
theorem ml_X2_53 : Cond.methodLink "ParcelBall$TextReader" 53 yX2_readBall ∈ TW := TW_3 107 rfl rfl
theorem im_yX2_readBall : Cond.instanceMethod yX2_readBall ∈ TW := TW_3 109 rfl rfl
theorem cd_yX2_readBall : Cond.code yX2_readBall prog_4_method_4_code 1 (some Jvm.ClassFile.FieldType.boolean) ∈ TW := TW_3 110 rfl rfl
theorem ml_X2_61 : Cond.methodLink "ParcelBall$TextReader" 61 yX2_isNumber ∈ TW := TW_3 111 rfl rfl
theorem im_yX2_isNumber : Cond.instanceMethod yX2_isNumber ∈ TW := TW_3 113 rfl rfl
theorem cd_yX2_isNumber : Cond.code yX2_isNumber prog_4_method_8_code 3 (some Jvm.ClassFile.FieldType.boolean) ∈ TW := TW_3 114 rfl rfl
theorem mn_X2_96 : Cond.methodLinkNest "ParcelBall$TextReader" 96 yX4_isWithin "ParcelBall" ∈ lw_tbl := LT_3 115 rfl
theorem sr_X2_56 : Cond.stringRef "ParcelBall$TextReader" 56 "drag" ∈ lw_tbl := LT_3 116 rfl
theorem ml_X2_58 : Cond.methodLink "ParcelBall$TextReader" 58 yX2_readDrag ∈ TW := TW_3 117 rfl rfl
theorem im_yX2_readDrag : Cond.instanceMethod yX2_readDrag ∈ TW := TW_3 119 rfl rfl
theorem cd_yX2_readDrag : Cond.code yX2_readDrag prog_4_method_5_code 1 (some Jvm.ClassFile.FieldType.boolean) ∈ TW := TW_3 120 rfl rfl
theorem ac_byte : Cond.arrayClass .byte ∈ TW := TW_3 121 rfl rfl
theorem ml_L_134 : Cond.methodLink "ParcelBallLaw" 134 yX4_hold ∈ TW := TW_3 122 rfl rfl
theorem im_yX4_hold : Cond.instanceMethod yX4_hold ∈ TW := TW_3 123 rfl rfl
theorem se_yX4_hold : Cond.selects "ParcelBall" yX4_hold yX4_hold ∈ TW := TW_3 124 rfl rfl
theorem cd_yX4_hold : Cond.code yX4_hold prog_1_method_31_code 3 (some Jvm.ClassFile.FieldType.int) ∈ TW := TW_3 125 rfl rfl
theorem ml_X4_191 : Cond.methodLink "ParcelBall" 191 yX4_isSpot ∈ TW := TW_3 126 rfl rfl
theorem sm_yX4_isSpot : Cond.static yX4_isSpot ∈ TW := TW_3 127 rfl rfl
theorem cd_yX4_isSpot : Cond.code yX4_isSpot prog_1_method_51_code 1 (some Jvm.ClassFile.FieldType.boolean) ∈ TW := TW_3 128 rfl rfl
theorem ml_X4_194 : Cond.methodLink "ParcelBall" 194 yX3_setSpot ∈ TW := TW_3 129 rfl rfl
theorem im_yX3_setSpot : Cond.instanceMethod yX3_setSpot ∈ TW := TW_3 130 rfl rfl
theorem se_yX3_setSpot : Cond.selects "ParcelBall$World" yX3_setSpot yX3_setSpot ∈ TW := TW_3 131 rfl rfl
theorem cd_yX3_setSpot : Cond.code yX3_setSpot prog_5_method_10_code 3 none ∈ TW := TW_3 132 rfl rfl
theorem mn_X3_68 : Cond.methodLinkNest "ParcelBall$World" 68 yX4_isSpot "ParcelBall" ∈ lw_tbl := LT_3 133 rfl
theorem ml_L_138 : Cond.methodLink "ParcelBallLaw" 138 yX4_as ∈ TW := TW_3 134 rfl rfl
theorem im_yX4_as : Cond.instanceMethod yX4_as ∈ TW := TW_3 135 rfl rfl
theorem se_yX4_as : Cond.selects "ParcelBall" yX4_as yX4_as ∈ TW := TW_3 136 rfl rfl
theorem cd_yX4_as : Cond.code yX4_as prog_1_method_32_code 4 (some Jvm.ClassFile.FieldType.int) ∈ TW := TW_3 137 rfl rfl
theorem ml_X4_198 : Cond.methodLink "ParcelBall" 198 yX3_spot ∈ TW := TW_3 138 rfl rfl
theorem im_yX3_spot : Cond.instanceMethod yX3_spot ∈ TW := TW_3 139 rfl rfl
theorem se_yX3_spot : Cond.selects "ParcelBall$World" yX3_spot yX3_spot ∈ TW := TW_3 140 rfl rfl
theorem cd_yX3_spot : Cond.code yX3_spot prog_5_method_9_code 2 (some Jvm.ClassFile.FieldType.int) ∈ TW := TW_3 141 rfl rfl
theorem ml_X4_202 : Cond.methodLink "ParcelBall" 202 yX4_isKindUnder ∈ TW := TW_3 142 rfl rfl
theorem sm_yX4_isKindUnder : Cond.static yX4_isKindUnder ∈ TW := TW_3 143 rfl rfl
theorem cd_yX4_isKindUnder : Cond.code yX4_isKindUnder prog_1_method_54_code 4 (some Jvm.ClassFile.FieldType.boolean) ∈ TW := TW_3 144 rfl rfl
theorem fl_X4_253 : Cond.fieldLink "ParcelBall" 253 "ParcelBall" "KIND_ABOVE" "[I" ∈ TW := TW_3 145 rfl rfl
theorem ls_KIND_ABOVE : Cond.laysStatic "ParcelBall" "KIND_ABOVE" "[I" ∈ lw_tbl := LT_3 146 rfl
theorem kc_X4_205 : Cond.constant "ParcelBall" 205 (-1000003) ∈ TW := TW_3 147 rfl rfl
theorem ml_L_142 : Cond.methodLink "ParcelBallLaw" 142 yX4_sheet ∈ TW := TW_3 148 rfl rfl
theorem im_yX4_sheet : Cond.instanceMethod yX4_sheet ∈ TW := TW_3 149 rfl rfl
theorem se_yX4_sheet : Cond.selects "ParcelBall" yX4_sheet yX4_sheet ∈ TW := TW_3 150 rfl rfl
theorem cd_yX4_sheet : Cond.code yX4_sheet prog_1_method_33_code 5 (some Jvm.ClassFile.FieldType.int) ∈ TW := TW_3 151 rfl rfl
theorem kc_X4_209 : Cond.constant "ParcelBall" 209 (-1000007) ∈ TW := TW_3 152 rfl rfl
theorem ml_X4_210 : Cond.methodLink "ParcelBall" 210 yX0_lay ∈ TW := TW_3 153 rfl rfl
theorem im_yX0_lay : Cond.instanceMethod yX0_lay ∈ TW := TW_3 154 rfl rfl
theorem se_yX0_lay : Cond.selects "ParcelBall$Sheets" yX0_lay yX0_lay ∈ TW := TW_3 155 rfl rfl
theorem cd_yX0_lay : Cond.code yX0_lay prog_2_method_2_code 5 none ∈ TW := TW_3 156 rfl rfl
theorem ml_L_146 : Cond.methodLink "ParcelBallLaw" 146 yX4_write ∈ TW := TW_3 157 rfl rfl
theorem im_yX4_write : Cond.instanceMethod yX4_write ∈ TW := TW_3 158 rfl rfl
theorem se_yX4_write : Cond.selects "ParcelBall" yX4_write yX4_write ∈ TW := TW_3 159 rfl rfl
theorem cd_yX4_write : Cond.code yX4_write prog_1_method_34_code 5 (some Jvm.ClassFile.FieldType.int) ∈ TW := TW_3 160 rfl rfl
theorem ml_X4_219 : Cond.methodLink "ParcelBall" 219 yX0_put ∈ TW := TW_3 161 rfl rfl
theorem im_yX0_put : Cond.instanceMethod yX0_put ∈ TW := TW_3 162 rfl rfl
theorem se_yX0_put : Cond.selects "ParcelBall$Sheets" yX0_put yX0_put ∈ TW := TW_3 163 rfl rfl
theorem cd_yX0_put : Cond.code yX0_put prog_2_method_7_code 4 none ∈ TW := TW_3 164 rfl rfl
theorem ml_X0_33 : Cond.methodLink "ParcelBall$Sheets" 33 yX0_lowestBits ∈ TW := TW_3 165 rfl rfl
theorem sm_yX0_lowestBits : Cond.static yX0_lowestBits ∈ TW := TW_3 166 rfl rfl
theorem cd_yX0_lowestBits : Cond.code yX0_lowestBits prog_2_method_10_code 2 (some Jvm.ClassFile.FieldType.int) ∈ TW := TW_3 167 rfl rfl
theorem ml_L_150 : Cond.methodLink "ParcelBallLaw" 150 yX4_copy ∈ TW := TW_3 168 rfl rfl
theorem im_yX4_copy : Cond.instanceMethod yX4_copy ∈ TW := TW_3 169 rfl rfl
theorem se_yX4_copy : Cond.selects "ParcelBall" yX4_copy yX4_copy ∈ TW := TW_3 170 rfl rfl
theorem cd_yX4_copy : Cond.code yX4_copy prog_1_method_35_code 6 (some Jvm.ClassFile.FieldType.int) ∈ TW := TW_3 171 rfl rfl
theorem ml_X4_225 : Cond.methodLink "ParcelBall" 225 yX0_bitsOf ∈ TW := TW_3 172 rfl rfl
theorem ml_X4_228 : Cond.methodLink "ParcelBall" 228 yX0_hasRange ∈ TW := TW_3 173 rfl rfl
theorem ml_X4_231 : Cond.methodLink "ParcelBall" 231 yX0_move ∈ TW := TW_3 174 rfl rfl
theorem im_yX0_move : Cond.instanceMethod yX0_move ∈ TW := TW_3 175 rfl rfl
theorem se_yX0_move : Cond.selects "ParcelBall$Sheets" yX0_move yX0_move ∈ TW := TW_3 176 rfl rfl
theorem cd_yX0_move : Cond.code yX0_move prog_2_method_9_code 6 none ∈ TW := TW_3 177 rfl rfl
theorem ml_X0_45 : Cond.methodLink "ParcelBall$Sheets" 45 ⟨"java/lang/System", "arraycopy", "(Ljava/lang/Object;ILjava/lang/Object;II)V"⟩ ∈ TW := TW_3 178 rfl rfl
theorem ml_L_155 : Cond.methodLink "ParcelBallLaw" 155 yX4_load ∈ TW := TW_3 179 rfl rfl
theorem im_yX4_load : Cond.instanceMethod yX4_load ∈ TW := TW_3 180 rfl rfl
theorem se_yX4_load : Cond.selects "ParcelBall" yX4_load yX4_load ∈ TW := TW_3 181 rfl rfl
theorem cd_yX4_load : Cond.code yX4_load prog_1_method_36_code 6 (some Jvm.ClassFile.FieldType.int) ∈ TW := TW_3 182 rfl rfl
theorem ml_X4_235 : Cond.methodLink "ParcelBall" 235 yJ9_min_7cf53 ∈ TW := TW_3 183 rfl rfl
theorem ml_L_159 : Cond.methodLink "ParcelBallLaw" 159 yX4_judge ∈ TW := TW_3 184 rfl rfl
theorem im_yX4_judge : Cond.instanceMethod yX4_judge ∈ TW := TW_3 185 rfl rfl
theorem se_yX4_judge : Cond.selects "ParcelBall" yX4_judge yX4_judge ∈ TW := TW_3 186 rfl rfl
theorem cd_yX4_judge : Cond.code yX4_judge prog_1_method_37_code 4 (some Jvm.ClassFile.FieldType.int) ∈ TW := TW_3 187 rfl rfl
theorem ml_L_163 : Cond.methodLink "ParcelBallLaw" 163 yX4_image ∈ TW := TW_3 188 rfl rfl
theorem im_yX4_image : Cond.instanceMethod yX4_image ∈ TW := TW_3 189 rfl rfl
theorem se_yX4_image : Cond.selects "ParcelBall" yX4_image yX4_image ∈ TW := TW_3 190 rfl rfl
theorem cd_yX4_image : Cond.code yX4_image prog_1_method_38_code 1 (some Jvm.ClassFile.FieldType.int) ∈ TW := TW_3 191 rfl rfl
theorem ml_L_167 : Cond.methodLink "ParcelBallLaw" 167 yX4_undo ∈ TW := TW_3 192 rfl rfl
theorem im_yX4_undo : Cond.instanceMethod yX4_undo ∈ TW := TW_3 193 rfl rfl
theorem se_yX4_undo : Cond.selects "ParcelBall" yX4_undo yX4_undo ∈ TW := TW_3 194 rfl rfl
theorem cd_yX4_undo : Cond.code yX4_undo prog_1_method_39_code 1 (some Jvm.ClassFile.FieldType.int) ∈ TW := TW_3 195 rfl rfl
theorem ml_L_171 : Cond.methodLink "ParcelBallLaw" 171 yX4_tear ∈ TW := TW_3 196 rfl rfl
theorem im_yX4_tear : Cond.instanceMethod yX4_tear ∈ TW := TW_3 197 rfl rfl
theorem se_yX4_tear : Cond.selects "ParcelBall" yX4_tear yX4_tear ∈ TW := TW_3 198 rfl rfl
theorem cd_yX4_tear : Cond.code yX4_tear prog_1_method_40_code 2 (some Jvm.ClassFile.FieldType.int) ∈ TW := TW_3 199 rfl rfl
theorem ml_L_175 : Cond.methodLink "ParcelBallLaw" 175 yX4_count ∈ TW := TW_3 200 rfl rfl
theorem im_yX4_count : Cond.instanceMethod yX4_count ∈ TW := TW_3 201 rfl rfl
theorem se_yX4_count : Cond.selects "ParcelBall" yX4_count yX4_count ∈ TW := TW_3 202 rfl rfl
theorem cd_yX4_count : Cond.code yX4_count prog_1_method_41_code 2 (some Jvm.ClassFile.FieldType.int) ∈ TW := TW_3 203 rfl rfl
theorem ml_X4_241 : Cond.methodLink "ParcelBall" 241 yX3_spotsHolding ∈ TW := TW_3 204 rfl rfl
theorem im_yX3_spotsHolding : Cond.instanceMethod yX3_spotsHolding ∈ TW := TW_3 205 rfl rfl
theorem se_yX3_spotsHolding : Cond.selects "ParcelBall$World" yX3_spotsHolding yX3_spotsHolding ∈ TW := TW_3 206 rfl rfl
theorem cd_yX3_spotsHolding : Cond.code yX3_spotsHolding prog_5_method_11_code 3 (some Jvm.ClassFile.FieldType.int) ∈ TW := TW_3 207 rfl rfl
theorem ml_L_179 : Cond.methodLink "ParcelBallLaw" 179 yX4_status ∈ TW := TW_3 208 rfl rfl
theorem im_yX4_status : Cond.instanceMethod yX4_status ∈ TW := TW_3 209 rfl rfl
theorem se_yX4_status : Cond.selects "ParcelBall" yX4_status yX4_status ∈ TW := TW_3 210 rfl rfl
theorem cd_yX4_status : Cond.code yX4_status prog_1_method_42_code 4 (some Jvm.ClassFile.FieldType.int) ∈ TW := TW_3 211 rfl rfl
theorem cl_L_10 : Cond.classLink "ParcelBallLaw" 10 "ParcelBallModel" ∈ TW := TW_3 212 rfl rfl
theorem is_X5 : Cond.instantiable "ParcelBallModel" 17 ∈ TW := TW_3 213 rfl rfl
theorem ml_L_12 : Cond.methodLink "ParcelBallLaw" 12 yX5_init ∈ TW := TW_3 214 rfl rfl
theorem im_yX5_init : Cond.instanceMethod yX5_init ∈ TW := TW_3 215 rfl rfl
theorem cd_yX5_init : Cond.code yX5_init prog_7_method_1_code 2 none ∈ TW := TW_3 216 rfl rfl
theorem ml_X5_1 : Cond.methodLink "ParcelBallModel" 1 objectInit ∈ TW := TW_3 217 rfl rfl
theorem fl_X5_7 : Cond.fieldLink "ParcelBallModel" 7 "ParcelBallModel" "s" "[I" ∈ TW := TW_3 218 rfl rfl
theorem fl_X5_13 : Cond.fieldLink "ParcelBallModel" 13 "ParcelBallModel" "keptS" "[I" ∈ TW := TW_3 219 rfl rfl
theorem fl_X5_16 : Cond.fieldLink "ParcelBallModel" 16 "ParcelBallModel" "other" "[I" ∈ TW := TW_3 220 rfl rfl
theorem fl_X5_19 : Cond.fieldLink "ParcelBallModel" 19 "ParcelBallModel" "aside" "[I" ∈ TW := TW_3 221 rfl rfl
theorem fl_X5_22 : Cond.fieldLink "ParcelBallModel" 22 "ParcelBallModel" "statuses" "[I" ∈ TW := TW_3 222 rfl rfl
theorem fl_X5_309 : Cond.fieldLink "ParcelBallModel" 309 "ParcelBallModel" "isKept" "Z" ∈ TW := TW_3 223 rfl rfl
theorem fl_X5_85 : Cond.fieldLink "ParcelBallModel" 85 "ParcelBallModel" "loose" "I" ∈ TW := TW_3 224 rfl rfl
theorem fl_X5_25 : Cond.fieldLink "ParcelBallModel" 25 "ParcelBallModel" "tape" "[I" ∈ TW := TW_3 225 rfl rfl
theorem fl_X5_197 : Cond.fieldLink "ParcelBallModel" 197 "ParcelBallModel" "taped" "I" ∈ TW := TW_3 226 rfl rfl
theorem fl_X5_211 : Cond.fieldLink "ParcelBallModel" 211 "ParcelBallModel" "from" "I" ∈ TW := TW_3 227 rfl rfl
theorem fl_X5_208 : Cond.fieldLink "ParcelBallModel" 208 "ParcelBallModel" "to" "I" ∈ TW := TW_3 228 rfl rfl
theorem fl_X5_234 : Cond.fieldLink "ParcelBallModel" 234 "ParcelBallModel" "value" "I" ∈ TW := TW_3 229 rfl rfl
theorem fl_X5_223 : Cond.fieldLink "ParcelBallModel" 223 "ParcelBallModel" "isWrong" "Z" ∈ TW := TW_3 230 rfl rfl
theorem fl_X5_28 : Cond.fieldLink "ParcelBallModel" 28 "ParcelBallModel" "bitsOf" "[I" ∈ TW := TW_3 231 rfl rfl
theorem fl_X5_31 : Cond.fieldLink "ParcelBallModel" 31 "ParcelBallModel" "sizeOf" "[I" ∈ TW := TW_3 232 rfl rfl
theorem fl_X5_34 : Cond.fieldLink "ParcelBallModel" 34 "ParcelBallModel" "numbers" "[I" ∈ TW := TW_3 233 rfl rfl
theorem fl_X5_37 : Cond.fieldLink "ParcelBallModel" 37 "ParcelBallModel" "moved" "[I" ∈ TW := TW_3 234 rfl rfl
theorem ly_X5_s : Cond.laysFinal "ParcelBallModel" "ParcelBallModel" "s" "[I" ∈ TW := TW_3 235 rfl rfl
theorem ly_X5_keptS : Cond.laysFinal "ParcelBallModel" "ParcelBallModel" "keptS" "[I" ∈ TW := TW_3 237 rfl rfl
theorem ly_X5_other : Cond.laysFinal "ParcelBallModel" "ParcelBallModel" "other" "[I" ∈ TW := TW_3 239 rfl rfl
theorem ly_X5_aside : Cond.laysFinal "ParcelBallModel" "ParcelBallModel" "aside" "[I" ∈ TW := TW_4 1 rfl rfl
theorem ly_X5_statuses : Cond.laysFinal "ParcelBallModel" "ParcelBallModel" "statuses" "[I" ∈ TW := TW_4 3 rfl rfl
theorem ly_X5_isKept : Cond.lays "ParcelBallModel" "ParcelBallModel" "isKept" "Z" ∈ TW := TW_4 5 rfl rfl
theorem ly_X5_loose : Cond.lays "ParcelBallModel" "ParcelBallModel" "loose" "I" ∈ TW := TW_4 7 rfl rfl
theorem ly_X5_tape : Cond.laysFinal "ParcelBallModel" "ParcelBallModel" "tape" "[I" ∈ TW := TW_4 9 rfl rfl
theorem ly_X5_taped : Cond.lays "ParcelBallModel" "ParcelBallModel" "taped" "I" ∈ TW := TW_4 11 rfl rfl
theorem ly_X5_from : Cond.lays "ParcelBallModel" "ParcelBallModel" "from" "I" ∈ TW := TW_4 13 rfl rfl
theorem ly_X5_to : Cond.lays "ParcelBallModel" "ParcelBallModel" "to" "I" ∈ TW := TW_4 15 rfl rfl
theorem ly_X5_value : Cond.lays "ParcelBallModel" "ParcelBallModel" "value" "I" ∈ TW := TW_4 17 rfl rfl
theorem ly_X5_isWrong : Cond.lays "ParcelBallModel" "ParcelBallModel" "isWrong" "Z" ∈ TW := TW_4 19 rfl rfl
theorem ly_X5_bitsOf : Cond.laysFinal "ParcelBallModel" "ParcelBallModel" "bitsOf" "[I" ∈ TW := TW_4 21 rfl rfl
theorem ly_X5_sizeOf : Cond.laysFinal "ParcelBallModel" "ParcelBallModel" "sizeOf" "[I" ∈ TW := TW_4 23 rfl rfl
theorem ly_X5_numbers : Cond.laysFinal "ParcelBallModel" "ParcelBallModel" "numbers" "[I" ∈ TW := TW_4 25 rfl rfl
theorem ly_X5_moved : Cond.laysFinal "ParcelBallModel" "ParcelBallModel" "moved" "[I" ∈ TW := TW_4 27 rfl rfl
theorem ml_L_17 : Cond.methodLink "ParcelBallLaw" 17 yX5_ball ∈ TW := TW_4 30 rfl rfl
theorem im_yX5_ball : Cond.instanceMethod yX5_ball ∈ TW := TW_4 31 rfl rfl
theorem se_yX5_ball : Cond.selects "ParcelBallModel" yX5_ball yX5_ball ∈ TW := TW_4 32 rfl rfl
theorem cd_yX5_ball : Cond.code yX5_ball prog_7_method_18_code 2 (some Jvm.ClassFile.FieldType.int) ∈ TW := TW_4 33 rfl rfl
theorem ml_X5_53 : Cond.methodLink "ParcelBallModel" 53 yX5_isPlace ∈ TW := TW_4 34 rfl rfl
theorem sm_yX5_isPlace : Cond.static yX5_isPlace ∈ TW := TW_4 35 rfl rfl
theorem cd_yX5_isPlace : Cond.code yX5_isPlace prog_7_method_9_code 1 (some Jvm.ClassFile.FieldType.boolean) ∈ TW := TW_4 36 rfl rfl
theorem kl_X5_41 : Cond.constantLong "ParcelBallModel" 41 (11) ∈ TW := TW_4 37 rfl rfl
theorem ml_X5_43 : Cond.methodLink "ParcelBallModel" 43 yX5_in ∈ TW := TW_4 38 rfl rfl
theorem sm_yX5_in : Cond.static yX5_in ∈ TW := TW_4 39 rfl rfl
theorem cd_yX5_in : Cond.code yX5_in prog_7_method_2_code 6 (some Jvm.ClassFile.FieldType.boolean) ∈ TW := TW_4 40 rfl rfl
theorem ml_X5_57 : Cond.methodLink "ParcelBallModel" 57 yX5_becomes ∈ TW := TW_4 41 rfl rfl
theorem im_yX5_becomes : Cond.instanceMethod yX5_becomes ∈ TW := TW_4 43 rfl rfl
theorem cd_yX5_becomes : Cond.code yX5_becomes prog_7_method_8_code 4 (some Jvm.ClassFile.FieldType.int) ∈ TW := TW_4 44 rfl rfl
theorem kc_X5_40 : Cond.constant "ParcelBallModel" 40 (-1000001) ∈ TW := TW_4 45 rfl rfl
theorem ml_X5_60 : Cond.methodLink "ParcelBallModel" 60 yX5_finds ∈ TW := TW_4 46 rfl rfl
theorem im_yX5_finds : Cond.instanceMethod yX5_finds ∈ TW := TW_4 48 rfl rfl
theorem cd_yX5_finds : Cond.code yX5_finds prog_7_method_3_code 2 (some Jvm.ClassFile.FieldType.int) ∈ TW := TW_4 49 rfl rfl
theorem ml_L_21 : Cond.methodLink "ParcelBallLaw" 21 yX5_drag ∈ TW := TW_4 50 rfl rfl
theorem im_yX5_drag : Cond.instanceMethod yX5_drag ∈ TW := TW_4 51 rfl rfl
theorem se_yX5_drag : Cond.selects "ParcelBallModel" yX5_drag yX5_drag ∈ TW := TW_4 52 rfl rfl
theorem cd_yX5_drag : Cond.code yX5_drag prog_7_method_19_code 2 (some Jvm.ClassFile.FieldType.int) ∈ TW := TW_4 53 rfl rfl
theorem kl_X5_64 : Cond.constantLong "ParcelBallModel" 64 (99) ∈ TW := TW_4 54 rfl rfl
theorem ml_L_26 : Cond.methodLink "ParcelBallLaw" 26 yX5_wind ∈ TW := TW_4 55 rfl rfl
theorem im_yX5_wind : Cond.instanceMethod yX5_wind ∈ TW := TW_4 56 rfl rfl
theorem se_yX5_wind : Cond.selects "ParcelBallModel" yX5_wind yX5_wind ∈ TW := TW_4 57 rfl rfl
theorem cd_yX5_wind : Cond.code yX5_wind prog_7_method_21_code 3 (some Jvm.ClassFile.FieldType.int) ∈ TW := TW_4 58 rfl rfl
theorem ml_X5_66 : Cond.methodLink "ParcelBallModel" 66 yX5_isKind ∈ TW := TW_4 59 rfl rfl
theorem sm_yX5_isKind : Cond.static yX5_isKind ∈ TW := TW_4 60 rfl rfl
theorem cd_yX5_isKind : Cond.code yX5_isKind prog_7_method_11_code 1 (some Jvm.ClassFile.FieldType.boolean) ∈ TW := TW_4 61 rfl rfl
theorem kl_X5_47 : Cond.constantLong "ParcelBallModel" 47 (6) ∈ TW := TW_4 62 rfl rfl
theorem kc_X5_69 : Cond.constant "ParcelBallModel" 69 (-1000002) ∈ TW := TW_4 63 rfl rfl
theorem ml_X5_70 : Cond.methodLink "ParcelBallModel" 70 yX5_adds ∈ TW := TW_4 64 rfl rfl
theorem im_yX5_adds : Cond.instanceMethod yX5_adds ∈ TW := TW_4 66 rfl rfl
theorem cd_yX5_adds : Cond.code yX5_adds prog_7_method_20_code 5 (some Jvm.ClassFile.FieldType.int) ∈ TW := TW_4 67 rfl rfl
theorem ml_X5_49 : Cond.methodLink "ParcelBallModel" 49 yX5_place ∈ TW := TW_4 68 rfl rfl
theorem sm_yX5_place : Cond.static yX5_place ∈ TW := TW_4 69 rfl rfl
theorem cd_yX5_place : Cond.code yX5_place prog_7_method_12_code 2 (some Jvm.ClassFile.FieldType.int) ∈ TW := TW_4 70 rfl rfl
theorem ml_L_30 : Cond.methodLink "ParcelBallLaw" 30 yX5_of ∈ TW := TW_4 71 rfl rfl
theorem im_yX5_of : Cond.instanceMethod yX5_of ∈ TW := TW_4 72 rfl rfl
theorem se_yX5_of : Cond.selects "ParcelBallModel" yX5_of yX5_of ∈ TW := TW_4 73 rfl rfl
theorem cd_yX5_of : Cond.code yX5_of prog_7_method_27_code 3 (some Jvm.ClassFile.FieldType.int) ∈ TW := TW_4 74 rfl rfl
theorem ml_X5_95 : Cond.methodLink "ParcelBallModel" 95 yX5_isPiece ∈ TW := TW_4 75 rfl rfl
theorem im_yX5_isPiece : Cond.instanceMethod yX5_isPiece ∈ TW := TW_4 77 rfl rfl
theorem cd_yX5_isPiece : Cond.code yX5_isPiece prog_7_method_10_code 2 (some Jvm.ClassFile.FieldType.boolean) ∈ TW := TW_4 78 rfl rfl
theorem kl_X5_98 : Cond.constantLong "ParcelBallModel" 98 (9) ∈ TW := TW_4 79 rfl rfl
theorem ml_X5_89 : Cond.methodLink "ParcelBallModel" 89 yX5_pullsOf ∈ TW := TW_4 80 rfl rfl
theorem im_yX5_pullsOf : Cond.instanceMethod yX5_pullsOf ∈ TW := TW_4 82 rfl rfl
theorem cd_yX5_pullsOf : Cond.code yX5_pullsOf prog_7_method_22_code 6 (some Jvm.ClassFile.FieldType.int) ∈ TW := TW_4 83 rfl rfl
theorem ml_X5_73 : Cond.methodLink "ParcelBallModel" 73 yX5_its ∈ TW := TW_4 84 rfl rfl
theorem im_yX5_its : Cond.instanceMethod yX5_its ∈ TW := TW_4 86 rfl rfl
theorem cd_yX5_its : Cond.code yX5_its prog_7_method_13_code 3 (some Jvm.ClassFile.FieldType.int) ∈ TW := TW_4 87 rfl rfl
theorem ml_X5_76 : Cond.methodLink "ParcelBallModel" 76 yX5_least0 ∈ TW := TW_4 88 rfl rfl
theorem sm_yX5_least0 : Cond.static yX5_least0 ∈ TW := TW_4 89 rfl rfl
theorem cd_yX5_least0 : Cond.code yX5_least0 prog_7_method_15_code 1 (some Jvm.ClassFile.FieldType.int) ∈ TW := TW_4 90 rfl rfl
theorem ml_X5_79 : Cond.methodLink "ParcelBallModel" 79 yX5_distance ∈ TW := TW_4 91 rfl rfl
theorem sm_yX5_distance : Cond.static yX5_distance ∈ TW := TW_4 92 rfl rfl
theorem cd_yX5_distance : Cond.code yX5_distance prog_7_method_16_code 2 (some Jvm.ClassFile.FieldType.int) ∈ TW := TW_4 93 rfl rfl
theorem ml_X5_100 : Cond.methodLink "ParcelBallModel" 100 yX5_lastsOf ∈ TW := TW_4 94 rfl rfl
theorem im_yX5_lastsOf : Cond.instanceMethod yX5_lastsOf ∈ TW := TW_4 96 rfl rfl
theorem cd_yX5_lastsOf : Cond.code yX5_lastsOf prog_7_method_23_code 2 (some Jvm.ClassFile.FieldType.int) ∈ TW := TW_4 97 rfl rfl
theorem ml_X5_92 : Cond.methodLink "ParcelBallModel" 92 yX5_longFrom ∈ TW := TW_4 98 rfl rfl
theorem im_yX5_longFrom : Cond.instanceMethod yX5_longFrom ∈ TW := TW_4 100 rfl rfl
theorem cd_yX5_longFrom : Cond.code yX5_longFrom prog_7_method_25_code 4 (some Jvm.ClassFile.FieldType.int) ∈ TW := TW_4 101 rfl rfl
theorem ml_X5_103 : Cond.methodLink "ParcelBallModel" 103 yX5_feltOf ∈ TW := TW_4 102 rfl rfl
theorem im_yX5_feltOf : Cond.instanceMethod yX5_feltOf ∈ TW := TW_4 104 rfl rfl
theorem cd_yX5_feltOf : Cond.code yX5_feltOf prog_7_method_26_code 3 (some Jvm.ClassFile.FieldType.int) ∈ TW := TW_4 105 rfl rfl
theorem ml_X5_82 : Cond.methodLink "ParcelBallModel" 82 yX5_givesOf ∈ TW := TW_4 106 rfl rfl
theorem im_yX5_givesOf : Cond.instanceMethod yX5_givesOf ∈ TW := TW_4 108 rfl rfl
theorem cd_yX5_givesOf : Cond.code yX5_givesOf prog_7_method_24_code 3 (some Jvm.ClassFile.FieldType.int) ∈ TW := TW_4 109 rfl rfl
theorem ml_L_35 : Cond.methodLink "ParcelBallLaw" 35 yX5_change ∈ TW := TW_4 110 rfl rfl
theorem im_yX5_change : Cond.instanceMethod yX5_change ∈ TW := TW_4 111 rfl rfl
theorem se_yX5_change : Cond.selects "ParcelBallModel" yX5_change yX5_change ∈ TW := TW_4 112 rfl rfl
theorem cd_yX5_change : Cond.code yX5_change prog_7_method_29_code 4 (some Jvm.ClassFile.FieldType.int) ∈ TW := TW_4 113 rfl rfl
theorem ml_X5_112 : Cond.methodLink "ParcelBallModel" 112 yX5_isPart ∈ TW := TW_4 114 rfl rfl
theorem sm_yX5_isPart : Cond.static yX5_isPart ∈ TW := TW_4 115 rfl rfl
theorem cd_yX5_isPart : Cond.code yX5_isPart prog_7_method_28_code 2 (some Jvm.ClassFile.FieldType.boolean) ∈ TW := TW_4 116 rfl rfl
theorem kl_X5_106 : Cond.constantLong "ParcelBallModel" 106 (4) ∈ TW := TW_4 117 rfl rfl
theorem kl_X5_108 : Cond.constantLong "ParcelBallModel" 108 (5) ∈ TW := TW_4 118 rfl rfl
theorem kl_X5_110 : Cond.constantLong "ParcelBallModel" 110 (9999) ∈ TW := TW_4 119 rfl rfl
theorem ml_L_39 : Cond.methodLink "ParcelBallLaw" 39 yX5_lend ∈ TW := TW_4 120 rfl rfl
theorem im_yX5_lend : Cond.instanceMethod yX5_lend ∈ TW := TW_4 121 rfl rfl
theorem se_yX5_lend : Cond.selects "ParcelBallModel" yX5_lend yX5_lend ∈ TW := TW_4 122 rfl rfl
theorem cd_yX5_lend : Cond.code yX5_lend prog_7_method_30_code 5 (some Jvm.ClassFile.FieldType.int) ∈ TW := TW_4 123 rfl rfl
theorem kc_X5_116 : Cond.constant "ParcelBallModel" 116 (-1000005) ∈ TW := TW_4 124 rfl rfl
theorem ml_L_43 : Cond.methodLink "ParcelBallLaw" 43 yX5_felt ∈ TW := TW_4 125 rfl rfl
theorem im_yX5_felt : Cond.instanceMethod yX5_felt ∈ TW := TW_4 126 rfl rfl
theorem se_yX5_felt : Cond.selects "ParcelBallModel" yX5_felt yX5_felt ∈ TW := TW_4 127 rfl rfl
theorem cd_yX5_felt : Cond.code yX5_felt prog_7_method_32_code 2 (some Jvm.ClassFile.FieldType.int) ∈ TW := TW_4 128 rfl rfl
theorem ml_X5_117 : Cond.methodLink "ParcelBallModel" 117 yX5_feltAt ∈ TW := TW_4 129 rfl rfl
theorem im_yX5_feltAt : Cond.instanceMethod yX5_feltAt ∈ TW := TW_4 131 rfl rfl
theorem cd_yX5_feltAt : Cond.code yX5_feltAt prog_7_method_31_code 4 (some Jvm.ClassFile.FieldType.int) ∈ TW := TW_4 132 rfl rfl
theorem ml_L_47 : Cond.methodLink "ParcelBallLaw" 47 yX5_go ∈ TW := TW_4 133 rfl rfl
theorem im_yX5_go : Cond.instanceMethod yX5_go ∈ TW := TW_4 134 rfl rfl
theorem se_yX5_go : Cond.selects "ParcelBallModel" yX5_go yX5_go ∈ TW := TW_4 135 rfl rfl
theorem cd_yX5_go : Cond.code yX5_go prog_7_method_38_code 2 (some Jvm.ClassFile.FieldType.int) ∈ TW := TW_4 136 rfl rfl
theorem kl_X5_137 : Cond.constantLong "ParcelBallModel" 137 (60) ∈ TW := TW_4 137 rfl rfl
theorem kc_X5_123 : Cond.constant "ParcelBallModel" 123 (99999) ∈ TW := TW_4 138 rfl rfl
theorem ml_X5_139 : Cond.methodLink "ParcelBallModel" 139 yX5_goesOn ∈ TW := TW_4 139 rfl rfl
theorem im_yX5_goesOn : Cond.instanceMethod yX5_goesOn ∈ TW := TW_4 141 rfl rfl
theorem cd_yX5_goesOn : Cond.code yX5_goesOn prog_7_method_37_code 3 none ∈ TW := TW_4 142 rfl rfl
theorem ml_X5_134 : Cond.methodLink "ParcelBallModel" 134 yX5_day ∈ TW := TW_4 143 rfl rfl
theorem im_yX5_day : Cond.instanceMethod yX5_day ∈ TW := TW_4 145 rfl rfl
theorem cd_yX5_day : Cond.code yX5_day prog_7_method_36_code 6 none ∈ TW := TW_4 146 rfl rfl
theorem ml_X5_124 : Cond.methodLink "ParcelBallModel" 124 yX5_pull ∈ TW := TW_4 147 rfl rfl
theorem im_yX5_pull : Cond.instanceMethod yX5_pull ∈ TW := TW_4 149 rfl rfl
theorem cd_yX5_pull : Cond.code yX5_pull prog_7_method_33_code 5 (some Jvm.ClassFile.FieldType.int) ∈ TW := TW_4 150 rfl rfl
theorem ml_X5_127 : Cond.methodLink "ParcelBallModel" 127 yX5_arrives ∈ TW := TW_4 151 rfl rfl
theorem im_yX5_arrives : Cond.instanceMethod yX5_arrives ∈ TW := TW_4 153 rfl rfl
theorem cd_yX5_arrives : Cond.code yX5_arrives prog_7_method_34_code 2 none ∈ TW := TW_4 154 rfl rfl
theorem ml_X5_120 : Cond.methodLink "ParcelBallModel" 120 yX5_heldTo ∈ TW := TW_4 155 rfl rfl
theorem sm_yX5_heldTo : Cond.static yX5_heldTo ∈ TW := TW_4 156 rfl rfl
theorem cd_yX5_heldTo : Cond.code yX5_heldTo prog_7_method_14_code 2 (some Jvm.ClassFile.FieldType.int) ∈ TW := TW_4 157 rfl rfl
theorem ml_X5_130 : Cond.methodLink "ParcelBallModel" 130 yX5_goesOff ∈ TW := TW_4 158 rfl rfl
theorem im_yX5_goesOff : Cond.instanceMethod yX5_goesOff ∈ TW := TW_4 160 rfl rfl
theorem cd_yX5_goesOff : Cond.code yX5_goesOff prog_7_method_35_code 3 none ∈ TW := TW_4 161 rfl rfl
theorem ml_L_51 : Cond.methodLink "ParcelBallLaw" 51 yX5_now ∈ TW := TW_4 162 rfl rfl
theorem im_yX5_now : Cond.instanceMethod yX5_now ∈ TW := TW_4 163 rfl rfl
theorem se_yX5_now : Cond.selects "ParcelBallModel" yX5_now yX5_now ∈ TW := TW_4 164 rfl rfl
theorem cd_yX5_now : Cond.code yX5_now prog_7_method_41_code 2 (some Jvm.ClassFile.FieldType.int) ∈ TW := TW_4 165 rfl rfl
theorem ml_X5_142 : Cond.methodLink "ParcelBallModel" 142 yX5_drawn ∈ TW := TW_4 166 rfl rfl
theorem im_yX5_drawn : Cond.instanceMethod yX5_drawn ∈ TW := TW_4 168 rfl rfl
theorem cd_yX5_drawn : Cond.code yX5_drawn prog_7_method_39_code 3 (some Jvm.ClassFile.FieldType.int) ∈ TW := TW_4 169 rfl rfl
theorem ml_X5_146 : Cond.methodLink "ParcelBallModel" 146 yX5_mostFelt ∈ TW := TW_4 170 rfl rfl
theorem im_yX5_mostFelt : Cond.instanceMethod yX5_mostFelt ∈ TW := TW_4 172 rfl rfl
theorem cd_yX5_mostFelt : Cond.code yX5_mostFelt prog_7_method_40_code 3 (some Jvm.ClassFile.FieldType.int) ∈ TW := TW_4 173 rfl rfl
theorem ml_L_55 : Cond.methodLink "ParcelBallLaw" 55 yX5_ahead ∈ TW := TW_4 174 rfl rfl
theorem im_yX5_ahead : Cond.instanceMethod yX5_ahead ∈ TW := TW_4 175 rfl rfl
theorem se_yX5_ahead : Cond.selects "ParcelBallModel" yX5_ahead yX5_ahead ∈ TW := TW_4 176 rfl rfl
theorem cd_yX5_ahead : Cond.code yX5_ahead prog_7_method_42_code 4 (some Jvm.ClassFile.FieldType.int) ∈ TW := TW_4 177 rfl rfl
theorem kl_X5_149 : Cond.constantLong "ParcelBallModel" 149 (2) ∈ TW := TW_4 178 rfl rfl
theorem kl_X5_151 : Cond.constantLong "ParcelBallModel" 151 (100) ∈ TW := TW_4 179 rfl rfl
theorem ml_X5_153 : Cond.methodLink "ParcelBallModel" 153 yX5_laysAside ∈ TW := TW_4 180 rfl rfl
theorem im_yX5_laysAside : Cond.instanceMethod yX5_laysAside ∈ TW := TW_4 182 rfl rfl
theorem cd_yX5_laysAside : Cond.code yX5_laysAside prog_7_method_6_code 2 none ∈ TW := TW_4 183 rfl rfl
theorem ml_X5_156 : Cond.methodLink "ParcelBallModel" 156 yX5_takesBack ∈ TW := TW_4 184 rfl rfl
theorem im_yX5_takesBack : Cond.instanceMethod yX5_takesBack ∈ TW := TW_4 186 rfl rfl
theorem cd_yX5_takesBack : Cond.code yX5_takesBack prog_7_method_7_code 3 (some Jvm.ClassFile.FieldType.int) ∈ TW := TW_4 187 rfl rfl
theorem ml_L_59 : Cond.methodLink "ParcelBallLaw" 59 yX5_where ∈ TW := TW_4 188 rfl rfl
theorem im_yX5_where : Cond.instanceMethod yX5_where ∈ TW := TW_4 189 rfl rfl
theorem se_yX5_where : Cond.selects "ParcelBallModel" yX5_where yX5_where ∈ TW := TW_4 190 rfl rfl
theorem cd_yX5_where : Cond.code yX5_where prog_7_method_44_code 2 (some Jvm.ClassFile.FieldType.int) ∈ TW := TW_4 191 rfl rfl
theorem ml_X5_159 : Cond.methodLink "ParcelBallModel" 159 yX5_behind ∈ TW := TW_4 192 rfl rfl
theorem im_yX5_behind : Cond.instanceMethod yX5_behind ∈ TW := TW_4 194 rfl rfl
theorem cd_yX5_behind : Cond.code yX5_behind prog_7_method_43_code 3 (some Jvm.ClassFile.FieldType.int) ∈ TW := TW_4 195 rfl rfl
theorem ml_L_63 : Cond.methodLink "ParcelBallLaw" 63 yX5_when ∈ TW := TW_4 196 rfl rfl
theorem im_yX5_when : Cond.instanceMethod yX5_when ∈ TW := TW_4 197 rfl rfl
theorem se_yX5_when : Cond.selects "ParcelBallModel" yX5_when yX5_when ∈ TW := TW_4 198 rfl rfl
theorem cd_yX5_when : Cond.code yX5_when prog_7_method_46_code 3 (some Jvm.ClassFile.FieldType.int) ∈ TW := TW_4 199 rfl rfl
theorem ml_X5_163 : Cond.methodLink "ParcelBallModel" 163 yX5_orNone ∈ TW := TW_4 200 rfl rfl
theorem im_yX5_orNone : Cond.instanceMethod yX5_orNone ∈ TW := TW_4 202 rfl rfl
theorem cd_yX5_orNone : Cond.code yX5_orNone prog_7_method_45_code 2 (some Jvm.ClassFile.FieldType.int) ∈ TW := TW_4 203 rfl rfl
theorem kc_X5_162 : Cond.constant "ParcelBallModel" 162 (-1000004) ∈ TW := TW_4 204 rfl rfl
theorem ml_L_67 : Cond.methodLink "ParcelBallLaw" 67 yX5_comes ∈ TW := TW_4 205 rfl rfl
theorem im_yX5_comes : Cond.instanceMethod yX5_comes ∈ TW := TW_4 206 rfl rfl
theorem se_yX5_comes : Cond.selects "ParcelBallModel" yX5_comes yX5_comes ∈ TW := TW_4 207 rfl rfl
theorem cd_yX5_comes : Cond.code yX5_comes prog_7_method_48_code 2 (some Jvm.ClassFile.FieldType.int) ∈ TW := TW_4 208 rfl rfl
theorem ml_X5_166 : Cond.methodLink "ParcelBallModel" 166 yX5_moreIn ∈ TW := TW_4 209 rfl rfl
theorem im_yX5_moreIn : Cond.instanceMethod yX5_moreIn ∈ TW := TW_4 211 rfl rfl
theorem cd_yX5_moreIn : Cond.code yX5_moreIn prog_7_method_47_code 4 (some Jvm.ClassFile.FieldType.int) ∈ TW := TW_4 212 rfl rfl
theorem ml_L_72 : Cond.methodLink "ParcelBallLaw" 72 yX5_off ∈ TW := TW_4 213 rfl rfl
theorem im_yX5_off : Cond.instanceMethod yX5_off ∈ TW := TW_4 214 rfl rfl
theorem se_yX5_off : Cond.selects "ParcelBallModel" yX5_off yX5_off ∈ TW := TW_4 215 rfl rfl
theorem cd_yX5_off : Cond.code yX5_off prog_7_method_49_code 1 (some Jvm.ClassFile.FieldType.int) ∈ TW := TW_4 216 rfl rfl
theorem ml_L_76 : Cond.methodLink "ParcelBallLaw" 76 yX5_unwind ∈ TW := TW_4 217 rfl rfl
theorem im_yX5_unwind : Cond.instanceMethod yX5_unwind ∈ TW := TW_4 218 rfl rfl
theorem se_yX5_unwind : Cond.selects "ParcelBallModel" yX5_unwind yX5_unwind ∈ TW := TW_4 219 rfl rfl
theorem cd_yX5_unwind : Cond.code yX5_unwind prog_7_method_50_code 3 (some Jvm.ClassFile.FieldType.int) ∈ TW := TW_4 220 rfl rfl
theorem ml_L_80 : Cond.methodLink "ParcelBallLaw" 80 yX5_had ∈ TW := TW_4 221 rfl rfl
theorem im_yX5_had : Cond.instanceMethod yX5_had ∈ TW := TW_4 222 rfl rfl
theorem se_yX5_had : Cond.selects "ParcelBallModel" yX5_had yX5_had ∈ TW := TW_4 223 rfl rfl
theorem cd_yX5_had : Cond.code yX5_had prog_7_method_51_code 3 (some Jvm.ClassFile.FieldType.int) ∈ TW := TW_4 224 rfl rfl
theorem kl_X5_169 : Cond.constantLong "ParcelBallModel" 169 (999) ∈ TW := TW_4 225 rfl rfl
theorem ml_L_84 : Cond.methodLink "ParcelBallLaw" 84 yX5_drawTo ∈ TW := TW_4 226 rfl rfl
theorem im_yX5_drawTo : Cond.instanceMethod yX5_drawTo ∈ TW := TW_4 227 rfl rfl
theorem se_yX5_drawTo : Cond.selects "ParcelBallModel" yX5_drawTo yX5_drawTo ∈ TW := TW_4 228 rfl rfl
theorem cd_yX5_drawTo : Cond.code yX5_drawTo prog_7_method_53_code 9 (some Jvm.ClassFile.FieldType.int) ∈ TW := TW_4 229 rfl rfl
theorem ml_X5_173 : Cond.methodLink "ParcelBallModel" 173 yX5_isSoon ∈ TW := TW_4 230 rfl rfl
theorem sm_yX5_isSoon : Cond.static yX5_isSoon ∈ TW := TW_4 231 rfl rfl
theorem cd_yX5_isSoon : Cond.code yX5_isSoon prog_7_method_52_code 1 (some Jvm.ClassFile.FieldType.boolean) ∈ TW := TW_4 232 rfl rfl
theorem kl_X5_171 : Cond.constantLong "ParcelBallModel" 171 (40) ∈ TW := TW_4 233 rfl rfl
theorem ml_L_88 : Cond.methodLink "ParcelBallLaw" 88 yX5_longFor ∈ TW := TW_4 234 rfl rfl
theorem im_yX5_longFor : Cond.instanceMethod yX5_longFor ∈ TW := TW_4 235 rfl rfl
theorem se_yX5_longFor : Cond.selects "ParcelBallModel" yX5_longFor yX5_longFor ∈ TW := TW_4 236 rfl rfl
theorem cd_yX5_longFor : Cond.code yX5_longFor prog_7_method_54_code 7 (some Jvm.ClassFile.FieldType.int) ∈ TW := TW_4 237 rfl rfl
theorem ml_L_92 : Cond.methodLink "ParcelBallLaw" 92 yX5_kindFor ∈ TW := TW_4 238 rfl rfl
theorem im_yX5_kindFor : Cond.instanceMethod yX5_kindFor ∈ TW := TW_4 239 rfl rfl
theorem se_yX5_kindFor : Cond.selects "ParcelBallModel" yX5_kindFor yX5_kindFor ∈ TW := TW_5 0 rfl rfl
theorem cd_yX5_kindFor : Cond.code yX5_kindFor prog_7_method_55_code 8 (some Jvm.ClassFile.FieldType.int) ∈ TW := TW_5 1 rfl rfl
theorem ml_L_96 : Cond.methodLink "ParcelBallLaw" 96 yX5_dragFor ∈ TW := TW_5 2 rfl rfl
theorem im_yX5_dragFor : Cond.instanceMethod yX5_dragFor ∈ TW := TW_5 3 rfl rfl
theorem se_yX5_dragFor : Cond.selects "ParcelBallModel" yX5_dragFor yX5_dragFor ∈ TW := TW_5 4 rfl rfl
theorem cd_yX5_dragFor : Cond.code yX5_dragFor prog_7_method_56_code 6 (some Jvm.ClassFile.FieldType.int) ∈ TW := TW_5 5 rfl rfl
theorem ml_L_100 : Cond.methodLink "ParcelBallLaw" 100 yX5_loosen ∈ TW := TW_5 6 rfl rfl
theorem im_yX5_loosen : Cond.instanceMethod yX5_loosen ∈ TW := TW_5 7 rfl rfl
theorem se_yX5_loosen : Cond.selects "ParcelBallModel" yX5_loosen yX5_loosen ∈ TW := TW_5 8 rfl rfl
theorem cd_yX5_loosen : Cond.code yX5_loosen prog_7_method_57_code 5 (some Jvm.ClassFile.FieldType.int) ∈ TW := TW_5 9 rfl rfl
theorem kl_X5_176 : Cond.constantLong "ParcelBallModel" 176 (20) ∈ TW := TW_5 10 rfl rfl
theorem ml_X5_178 : Cond.methodLink "ParcelBallModel" 178 yX5_ones ∈ TW := TW_5 11 rfl rfl
theorem sm_yX5_ones : Cond.static yX5_ones ∈ TW := TW_5 12 rfl rfl
theorem cd_yX5_ones : Cond.code yX5_ones prog_7_method_17_code 3 (some Jvm.ClassFile.FieldType.int) ∈ TW := TW_5 13 rfl rfl
theorem ml_L_104 : Cond.methodLink "ParcelBallLaw" 104 yX5_fits ∈ TW := TW_5 14 rfl rfl
theorem im_yX5_fits : Cond.instanceMethod yX5_fits ∈ TW := TW_5 15 rfl rfl
theorem se_yX5_fits : Cond.selects "ParcelBallModel" yX5_fits yX5_fits ∈ TW := TW_5 16 rfl rfl
theorem cd_yX5_fits : Cond.code yX5_fits prog_7_method_60_code 3 (some Jvm.ClassFile.FieldType.int) ∈ TW := TW_5 17 rfl rfl
theorem ml_X5_187 : Cond.methodLink "ParcelBallModel" 187 yX5_toldBy ∈ TW := TW_5 18 rfl rfl
theorem im_yX5_toldBy : Cond.instanceMethod yX5_toldBy ∈ TW := TW_5 20 rfl rfl
theorem cd_yX5_toldBy : Cond.code yX5_toldBy prog_7_method_59_code 9 (some Jvm.ClassFile.FieldType.int) ∈ TW := TW_5 21 rfl rfl
theorem ml_X5_181 : Cond.methodLink "ParcelBallModel" 181 yX5_wrong ∈ TW := TW_5 22 rfl rfl
theorem im_yX5_wrong : Cond.instanceMethod yX5_wrong ∈ TW := TW_5 24 rfl rfl
theorem cd_yX5_wrong : Cond.code yX5_wrong prog_7_method_87_code 2 (some Jvm.ClassFile.FieldType.int) ∈ TW := TW_5 25 rfl rfl
theorem ml_X5_302 : Cond.methodLink "ParcelBallModel" 302 yX5_isOne ∈ TW := TW_5 26 rfl rfl
theorem sm_yX5_isOne : Cond.static yX5_isOne ∈ TW := TW_5 27 rfl rfl
theorem cd_yX5_isOne : Cond.code yX5_isOne prog_7_method_84_code 1 (some Jvm.ClassFile.FieldType.boolean) ∈ TW := TW_5 28 rfl rfl
theorem kl_X5_300 : Cond.constantLong "ParcelBallModel" 300 (3) ∈ TW := TW_5 29 rfl rfl
theorem kc_X5_295 : Cond.constant "ParcelBallModel" 295 (-1000006) ∈ TW := TW_5 30 rfl rfl
theorem ml_X5_184 : Cond.methodLink "ParcelBallModel" 184 yX5_isTold ∈ TW := TW_5 31 rfl rfl
theorem im_yX5_isTold : Cond.instanceMethod yX5_isTold ∈ TW := TW_5 33 rfl rfl
theorem cd_yX5_isTold : Cond.code yX5_isTold prog_7_method_58_code 5 (some Jvm.ClassFile.FieldType.boolean) ∈ TW := TW_5 34 rfl rfl
theorem ml_L_108 : Cond.methodLink "ParcelBallLaw" 108 yX5_kinds ∈ TW := TW_5 35 rfl rfl
theorem im_yX5_kinds : Cond.instanceMethod yX5_kinds ∈ TW := TW_5 36 rfl rfl
theorem se_yX5_kinds : Cond.selects "ParcelBallModel" yX5_kinds yX5_kinds ∈ TW := TW_5 37 rfl rfl
theorem cd_yX5_kinds : Cond.code yX5_kinds prog_7_method_61_code 3 (some Jvm.ClassFile.FieldType.int) ∈ TW := TW_5 38 rfl rfl
theorem ml_L_112 : Cond.methodLink "ParcelBallLaw" 112 yX5_parcels ∈ TW := TW_5 39 rfl rfl
theorem im_yX5_parcels : Cond.instanceMethod yX5_parcels ∈ TW := TW_5 40 rfl rfl
theorem se_yX5_parcels : Cond.selects "ParcelBallModel" yX5_parcels yX5_parcels ∈ TW := TW_5 41 rfl rfl
theorem cd_yX5_parcels : Cond.code yX5_parcels prog_7_method_63_code 5 (some Jvm.ClassFile.FieldType.int) ∈ TW := TW_5 42 rfl rfl
theorem ml_X5_192 : Cond.methodLink "ParcelBallModel" 192 yX5_draw ∈ TW := TW_5 43 rfl rfl
theorem im_yX5_draw : Cond.instanceMethod yX5_draw ∈ TW := TW_5 45 rfl rfl
theorem cd_yX5_draw : Cond.code yX5_draw prog_7_method_62_code 1 (some Jvm.ClassFile.FieldType.int) ∈ TW := TW_5 46 rfl rfl
theorem kc_X5_191 : Cond.constant "ParcelBallModel" 191 (1103515245) ∈ TW := TW_5 47 rfl rfl
theorem ml_L_117 : Cond.methodLink "ParcelBallLaw" 117 yX5_odds ∈ TW := TW_5 48 rfl rfl
theorem im_yX5_odds : Cond.instanceMethod yX5_odds ∈ TW := TW_5 49 rfl rfl
theorem se_yX5_odds : Cond.selects "ParcelBallModel" yX5_odds yX5_odds ∈ TW := TW_5 50 rfl rfl
theorem cd_yX5_odds : Cond.code yX5_odds prog_7_method_64_code 8 (some Jvm.ClassFile.FieldType.long) ∈ TW := TW_5 51 rfl rfl
theorem kl_X5_195 : Cond.constantLong "ParcelBallModel" 195 (17) ∈ TW := TW_5 52 rfl rfl
theorem ml_L_121 : Cond.methodLink "ParcelBallLaw" 121 yX5_seed ∈ TW := TW_5 53 rfl rfl
theorem im_yX5_seed : Cond.instanceMethod yX5_seed ∈ TW := TW_5 54 rfl rfl
theorem se_yX5_seed : Cond.selects "ParcelBallModel" yX5_seed yX5_seed ∈ TW := TW_5 55 rfl rfl
theorem cd_yX5_seed : Cond.code yX5_seed prog_7_method_65_code 2 (some Jvm.ClassFile.FieldType.int) ∈ TW := TW_5 56 rfl rfl
theorem ml_L_125 : Cond.methodLink "ParcelBallLaw" 125 yX5_feed ∈ TW := TW_5 57 rfl rfl
theorem im_yX5_feed : Cond.instanceMethod yX5_feed ∈ TW := TW_5 58 rfl rfl
theorem se_yX5_feed : Cond.selects "ParcelBallModel" yX5_feed yX5_feed ∈ TW := TW_5 59 rfl rfl
theorem cd_yX5_feed : Cond.code yX5_feed prog_7_method_66_code 4 (some Jvm.ClassFile.FieldType.int) ∈ TW := TW_5 60 rfl rfl
theorem ml_L_129 : Cond.methodLink "ParcelBallLaw" 129 yX5_wipe ∈ TW := TW_5 61 rfl rfl
theorem im_yX5_wipe : Cond.instanceMethod yX5_wipe ∈ TW := TW_5 62 rfl rfl
theorem se_yX5_wipe : Cond.selects "ParcelBallModel" yX5_wipe yX5_wipe ∈ TW := TW_5 63 rfl rfl
theorem cd_yX5_wipe : Cond.code yX5_wipe prog_7_method_67_code 2 (some Jvm.ClassFile.FieldType.int) ∈ TW := TW_5 64 rfl rfl
theorem ml_L_133 : Cond.methodLink "ParcelBallLaw" 133 yX5_text ∈ TW := TW_5 65 rfl rfl
theorem im_yX5_text : Cond.instanceMethod yX5_text ∈ TW := TW_5 66 rfl rfl
theorem se_yX5_text : Cond.selects "ParcelBallModel" yX5_text yX5_text ∈ TW := TW_5 67 rfl rfl
theorem cd_yX5_text : Cond.code yX5_text prog_7_method_79_code 2 (some Jvm.ClassFile.FieldType.int) ∈ TW := TW_5 68 rfl rfl
theorem ml_X5_283 : Cond.methodLink "ParcelBallModel" 283 yX5_saves ∈ TW := TW_5 69 rfl rfl
theorem im_yX5_saves : Cond.instanceMethod yX5_saves ∈ TW := TW_5 71 rfl rfl
theorem cd_yX5_saves : Cond.code yX5_saves prog_7_method_4_code 2 none ∈ TW := TW_5 72 rfl rfl
theorem ml_X5_227 : Cond.methodLink "ParcelBallModel" 227 yX5_token ∈ TW := TW_5 73 rfl rfl
theorem im_yX5_token : Cond.instanceMethod yX5_token ∈ TW := TW_5 75 rfl rfl
theorem cd_yX5_token : Cond.code yX5_token prog_7_method_71_code 3 none ∈ TW := TW_5 76 rfl rfl
theorem ml_X5_214 : Cond.methodLink "ParcelBallModel" 214 yX5_byteAt ∈ TW := TW_5 77 rfl rfl
theorem im_yX5_byteAt : Cond.instanceMethod yX5_byteAt ∈ TW := TW_5 79 rfl rfl
theorem cd_yX5_byteAt : Cond.code yX5_byteAt prog_7_method_68_code 2 (some Jvm.ClassFile.FieldType.int) ∈ TW := TW_5 80 rfl rfl
theorem ml_X5_217 : Cond.methodLink "ParcelBallModel" 217 yX5_isLetter ∈ TW := TW_5 81 rfl rfl
theorem sm_yX5_isLetter : Cond.static yX5_isLetter ∈ TW := TW_5 82 rfl rfl
theorem cd_yX5_isLetter : Cond.code yX5_isLetter prog_7_method_69_code 1 (some Jvm.ClassFile.FieldType.boolean) ∈ TW := TW_5 83 rfl rfl
theorem kl_X5_200 : Cond.constantLong "ParcelBallModel" 200 (97) ∈ TW := TW_5 84 rfl rfl
theorem kl_X5_202 : Cond.constantLong "ParcelBallModel" 202 (122) ∈ TW := TW_5 85 rfl rfl
theorem ml_X5_220 : Cond.methodLink "ParcelBallModel" 220 yX5_isDigit ∈ TW := TW_5 86 rfl rfl
theorem sm_yX5_isDigit : Cond.static yX5_isDigit ∈ TW := TW_5 87 rfl rfl
theorem cd_yX5_isDigit : Cond.code yX5_isDigit prog_7_method_70_code 1 (some Jvm.ClassFile.FieldType.boolean) ∈ TW := TW_5 88 rfl rfl
theorem kl_X5_204 : Cond.constantLong "ParcelBallModel" 204 (48) ∈ TW := TW_5 89 rfl rfl
theorem kl_X5_206 : Cond.constantLong "ParcelBallModel" 206 (57) ∈ TW := TW_5 90 rfl rfl
theorem ml_X5_286 : Cond.methodLink "ParcelBallModel" 286 yX5_item ∈ TW := TW_5 91 rfl rfl
theorem im_yX5_item : Cond.instanceMethod yX5_item ∈ TW := TW_5 93 rfl rfl
theorem cd_yX5_item : Cond.code yX5_item prog_7_method_78_code 4 none ∈ TW := TW_5 94 rfl rfl
theorem ml_X5_273 : Cond.methodLink "ParcelBallModel" 273 yX5_kindHere ∈ TW := TW_5 95 rfl rfl
theorem im_yX5_kindHere : Cond.instanceMethod yX5_kindHere ∈ TW := TW_5 97 rfl rfl
theorem cd_yX5_kindHere : Cond.code yX5_kindHere prog_7_method_75_code 3 (some Jvm.ClassFile.FieldType.int) ∈ TW := TW_5 98 rfl rfl
theorem ml_X5_241 : Cond.methodLink "ParcelBallModel" 241 yX5_word ∈ TW := TW_5 99 rfl rfl
theorem im_yX5_word : Cond.instanceMethod yX5_word ∈ TW := TW_5 101 rfl rfl
theorem cd_yX5_word : Cond.code yX5_word prog_7_method_73_code 4 (some Jvm.ClassFile.FieldType.long) ∈ TW := TW_5 102 rfl rfl
theorem kl_X5_230 : Cond.constantLong "ParcelBallModel" 230 (36028797018963967) ∈ TW := TW_5 103 rfl rfl
theorem kl_X5_232 : Cond.constantLong "ParcelBallModel" 232 (32) ∈ TW := TW_5 104 rfl rfl
theorem kl_X5_245 : Cond.constantLong "ParcelBallModel" 245 (17077349) ∈ TW := TW_5 105 rfl rfl
theorem kl_X5_247 : Cond.constantLong "ParcelBallModel" 247 (21780342215) ∈ TW := TW_5 106 rfl rfl
theorem kl_X5_249 : Cond.constantLong "ParcelBallModel" 249 (79008370745) ∈ TW := TW_5 107 rfl rfl
theorem kl_X5_251 : Cond.constantLong "ParcelBallModel" 251 (18935) ∈ TW := TW_5 108 rfl rfl
theorem kl_X5_253 : Cond.constantLong "ParcelBallModel" 253 (408572082) ∈ TW := TW_5 109 rfl rfl
theorem kl_X5_255 : Cond.constantLong "ParcelBallModel" 255 (267859) ∈ TW := TW_5 110 rfl rfl
theorem kl_X5_257 : Cond.constantLong "ParcelBallModel" 257 (218725) ∈ TW := TW_5 111 rfl rfl
theorem kl_X5_276 : Cond.constantLong "ParcelBallModel" 276 (66956) ∈ TW := TW_5 112 rfl rfl
theorem ml_X5_278 : Cond.methodLink "ParcelBallModel" 278 yX5_pieceItem ∈ TW := TW_5 113 rfl rfl
theorem im_yX5_pieceItem : Cond.instanceMethod yX5_pieceItem ∈ TW := TW_5 115 rfl rfl
theorem cd_yX5_pieceItem : Cond.code yX5_pieceItem prog_7_method_77_code 3 none ∈ TW := TW_5 116 rfl rfl
theorem ml_X5_237 : Cond.methodLink "ParcelBallModel" 237 yX5_must ∈ TW := TW_5 117 rfl rfl
theorem im_yX5_must : Cond.instanceMethod yX5_must ∈ TW := TW_5 119 rfl rfl
theorem cd_yX5_must : Cond.code yX5_must prog_7_method_72_code 2 none ∈ TW := TW_5 120 rfl rfl
theorem kl_X5_263 : Cond.constantLong "ParcelBallModel" 263 (655) ∈ TW := TW_5 121 rfl rfl
theorem ml_X5_265 : Cond.methodLink "ParcelBallModel" 265 yX5_partItem ∈ TW := TW_5 122 rfl rfl
theorem im_yX5_partItem : Cond.instanceMethod yX5_partItem ∈ TW := TW_5 124 rfl rfl
theorem cd_yX5_partItem : Cond.code yX5_partItem prog_7_method_76_code 6 none ∈ TW := TW_5 125 rfl rfl
theorem ml_X5_259 : Cond.methodLink "ParcelBallModel" 259 yX5_number ∈ TW := TW_5 126 rfl rfl
theorem im_yX5_number : Cond.instanceMethod yX5_number ∈ TW := TW_5 128 rfl rfl
theorem cd_yX5_number : Cond.code yX5_number prog_7_method_74_code 6 none ∈ TW := TW_5 129 rfl rfl
theorem kl_X5_269 : Cond.constantLong "ParcelBallModel" 269 (409031) ∈ TW := TW_5 130 rfl rfl
theorem kl_X5_271 : Cond.constantLong "ParcelBallModel" 271 (12009107) ∈ TW := TW_5 131 rfl rfl
theorem kl_X5_281 : Cond.constantLong "ParcelBallModel" 281 (149543) ∈ TW := TW_5 132 rfl rfl
theorem ml_X5_289 : Cond.methodLink "ParcelBallModel" 289 yX5_putsBack ∈ TW := TW_5 133 rfl rfl
theorem im_yX5_putsBack : Cond.instanceMethod yX5_putsBack ∈ TW := TW_5 135 rfl rfl
theorem cd_yX5_putsBack : Cond.code yX5_putsBack prog_7_method_5_code 2 none ∈ TW := TW_5 136 rfl rfl
theorem ml_L_137 : Cond.methodLink "ParcelBallLaw" 137 yX5_hold ∈ TW := TW_5 137 rfl rfl
theorem im_yX5_hold : Cond.instanceMethod yX5_hold ∈ TW := TW_5 138 rfl rfl
theorem se_yX5_hold : Cond.selects "ParcelBallModel" yX5_hold yX5_hold ∈ TW := TW_5 139 rfl rfl
theorem cd_yX5_hold : Cond.code yX5_hold prog_7_method_81_code 3 (some Jvm.ClassFile.FieldType.int) ∈ TW := TW_5 140 rfl rfl
theorem ml_X5_292 : Cond.methodLink "ParcelBallModel" 292 yX5_isSpot ∈ TW := TW_5 141 rfl rfl
theorem sm_yX5_isSpot : Cond.static yX5_isSpot ∈ TW := TW_5 142 rfl rfl
theorem cd_yX5_isSpot : Cond.code yX5_isSpot prog_7_method_80_code 1 (some Jvm.ClassFile.FieldType.boolean) ∈ TW := TW_5 143 rfl rfl
theorem ml_L_141 : Cond.methodLink "ParcelBallLaw" 141 yX5_as ∈ TW := TW_5 144 rfl rfl
theorem im_yX5_as : Cond.instanceMethod yX5_as ∈ TW := TW_5 145 rfl rfl
theorem se_yX5_as : Cond.selects "ParcelBallModel" yX5_as yX5_as ∈ TW := TW_5 146 rfl rfl
theorem cd_yX5_as : Cond.code yX5_as prog_7_method_83_code 5 (some Jvm.ClassFile.FieldType.int) ∈ TW := TW_5 147 rfl rfl
theorem ml_X5_296 : Cond.methodLink "ParcelBallModel" 296 yX5_above ∈ TW := TW_5 148 rfl rfl
theorem sm_yX5_above : Cond.static yX5_above ∈ TW := TW_5 149 rfl rfl
theorem cd_yX5_above : Cond.code yX5_above prog_7_method_82_code 1 (some Jvm.ClassFile.FieldType.int) ∈ TW := TW_5 150 rfl rfl
theorem kc_X5_299 : Cond.constant "ParcelBallModel" 299 (-1000003) ∈ TW := TW_5 151 rfl rfl
theorem ml_L_145 : Cond.methodLink "ParcelBallLaw" 145 yX5_sheet ∈ TW := TW_5 152 rfl rfl
theorem im_yX5_sheet : Cond.instanceMethod yX5_sheet ∈ TW := TW_5 153 rfl rfl
theorem se_yX5_sheet : Cond.selects "ParcelBallModel" yX5_sheet yX5_sheet ∈ TW := TW_5 154 rfl rfl
theorem cd_yX5_sheet : Cond.code yX5_sheet prog_7_method_85_code 5 (some Jvm.ClassFile.FieldType.int) ∈ TW := TW_5 155 rfl rfl
theorem kc_X5_305 : Cond.constant "ParcelBallModel" 305 (-1000007) ∈ TW := TW_5 156 rfl rfl
theorem ml_L_149 : Cond.methodLink "ParcelBallLaw" 149 yX5_write ∈ TW := TW_5 157 rfl rfl
theorem im_yX5_write : Cond.instanceMethod yX5_write ∈ TW := TW_5 158 rfl rfl
theorem se_yX5_write : Cond.selects "ParcelBallModel" yX5_write yX5_write ∈ TW := TW_5 159 rfl rfl
theorem cd_yX5_write : Cond.code yX5_write prog_7_method_88_code 5 (some Jvm.ClassFile.FieldType.int) ∈ TW := TW_5 160 rfl rfl
theorem ml_X5_306 : Cond.methodLink "ParcelBallModel" 306 yX5_narrowed ∈ TW := TW_5 161 rfl rfl
theorem sm_yX5_narrowed : Cond.static yX5_narrowed ∈ TW := TW_5 162 rfl rfl
theorem cd_yX5_narrowed : Cond.code yX5_narrowed prog_7_method_86_code 2 (some Jvm.ClassFile.FieldType.int) ∈ TW := TW_5 163 rfl rfl
theorem ml_L_154 : Cond.methodLink "ParcelBallLaw" 154 yX5_copy ∈ TW := TW_5 164 rfl rfl
theorem im_yX5_copy : Cond.instanceMethod yX5_copy ∈ TW := TW_5 165 rfl rfl
theorem se_yX5_copy : Cond.selects "ParcelBallModel" yX5_copy yX5_copy ∈ TW := TW_5 166 rfl rfl
theorem cd_yX5_copy : Cond.code yX5_copy prog_7_method_89_code 7 (some Jvm.ClassFile.FieldType.int) ∈ TW := TW_5 167 rfl rfl
theorem ml_L_158 : Cond.methodLink "ParcelBallLaw" 158 yX5_load ∈ TW := TW_5 168 rfl rfl
theorem im_yX5_load : Cond.instanceMethod yX5_load ∈ TW := TW_5 169 rfl rfl
theorem se_yX5_load : Cond.selects "ParcelBallModel" yX5_load yX5_load ∈ TW := TW_5 170 rfl rfl
theorem cd_yX5_load : Cond.code yX5_load prog_7_method_90_code 4 (some Jvm.ClassFile.FieldType.int) ∈ TW := TW_5 171 rfl rfl
theorem ml_L_162 : Cond.methodLink "ParcelBallLaw" 162 yX5_judge ∈ TW := TW_5 172 rfl rfl
theorem im_yX5_judge : Cond.instanceMethod yX5_judge ∈ TW := TW_5 173 rfl rfl
theorem se_yX5_judge : Cond.selects "ParcelBallModel" yX5_judge yX5_judge ∈ TW := TW_5 174 rfl rfl
theorem cd_yX5_judge : Cond.code yX5_judge prog_7_method_91_code 4 (some Jvm.ClassFile.FieldType.int) ∈ TW := TW_5 175 rfl rfl
theorem ml_L_166 : Cond.methodLink "ParcelBallLaw" 166 yX5_image ∈ TW := TW_5 176 rfl rfl
theorem im_yX5_image : Cond.instanceMethod yX5_image ∈ TW := TW_5 177 rfl rfl
theorem se_yX5_image : Cond.selects "ParcelBallModel" yX5_image yX5_image ∈ TW := TW_5 178 rfl rfl
theorem cd_yX5_image : Cond.code yX5_image prog_7_method_92_code 2 (some Jvm.ClassFile.FieldType.int) ∈ TW := TW_5 179 rfl rfl
theorem ml_L_170 : Cond.methodLink "ParcelBallLaw" 170 yX5_undo ∈ TW := TW_5 180 rfl rfl
theorem im_yX5_undo : Cond.instanceMethod yX5_undo ∈ TW := TW_5 181 rfl rfl
theorem se_yX5_undo : Cond.selects "ParcelBallModel" yX5_undo yX5_undo ∈ TW := TW_5 182 rfl rfl
theorem cd_yX5_undo : Cond.code yX5_undo prog_7_method_93_code 2 (some Jvm.ClassFile.FieldType.int) ∈ TW := TW_5 183 rfl rfl
theorem ml_L_174 : Cond.methodLink "ParcelBallLaw" 174 yX5_tear ∈ TW := TW_5 184 rfl rfl
theorem im_yX5_tear : Cond.instanceMethod yX5_tear ∈ TW := TW_5 185 rfl rfl
theorem se_yX5_tear : Cond.selects "ParcelBallModel" yX5_tear yX5_tear ∈ TW := TW_5 186 rfl rfl
theorem cd_yX5_tear : Cond.code yX5_tear prog_7_method_94_code 2 (some Jvm.ClassFile.FieldType.int) ∈ TW := TW_5 187 rfl rfl
theorem ml_L_178 : Cond.methodLink "ParcelBallLaw" 178 yX5_count ∈ TW := TW_5 188 rfl rfl
theorem im_yX5_count : Cond.instanceMethod yX5_count ∈ TW := TW_5 189 rfl rfl
theorem se_yX5_count : Cond.selects "ParcelBallModel" yX5_count yX5_count ∈ TW := TW_5 190 rfl rfl
theorem cd_yX5_count : Cond.code yX5_count prog_7_method_96_code 2 (some Jvm.ClassFile.FieldType.int) ∈ TW := TW_5 191 rfl rfl
theorem ml_X5_312 : Cond.methodLink "ParcelBallModel" 312 yX5_heldSpots ∈ TW := TW_5 192 rfl rfl
theorem im_yX5_heldSpots : Cond.instanceMethod yX5_heldSpots ∈ TW := TW_5 194 rfl rfl
theorem cd_yX5_heldSpots : Cond.code yX5_heldSpots prog_7_method_95_code 3 (some Jvm.ClassFile.FieldType.int) ∈ TW := TW_5 195 rfl rfl
theorem ml_L_182 : Cond.methodLink "ParcelBallLaw" 182 yX5_status ∈ TW := TW_5 196 rfl rfl
theorem im_yX5_status : Cond.instanceMethod yX5_status ∈ TW := TW_5 197 rfl rfl
theorem se_yX5_status : Cond.selects "ParcelBallModel" yX5_status yX5_status ∈ TW := TW_5 198 rfl rfl
theorem cd_yX5_status : Cond.code yX5_status prog_7_method_97_code 4 (some Jvm.ClassFile.FieldType.int) ∈ TW := TW_5 199 rfl rfl
theorem kl_X5_315 : Cond.constantLong "ParcelBallModel" 315 (-1) ∈ TW := TW_5 200 rfl rfl
theorem fl_J0_9 : Cond.fieldLink "java/lang/String" 9 "java/lang/String" "value" "[B" ∈ TW := TW_5 201 rfl rfl
theorem fl_J0_15 : Cond.fieldLink "java/lang/String" 15 "java/lang/String" "coder" "B" ∈ TW := TW_5 202 rfl rfl
theorem se_yX4_finding : Cond.selects "ParcelBall" yX4_finding yX4_finding ∈ TW := TW_0 0 rfl rfl
theorem se_yX3_pullOf : Cond.selects "ParcelBall$World" yX3_pullOf yX3_pullOf ∈ TW := TW_0 1 rfl rfl
theorem se_yX3_feltOf : Cond.selects "ParcelBall$World" yX3_feltOf yX3_feltOf ∈ TW := TW_0 2 rfl rfl
theorem se_yX3_emptySpotsOf : Cond.selects "ParcelBall$World" yX3_emptySpotsOf yX3_emptySpotsOf ∈ TW := TW_0 3 rfl rfl
theorem se_yX3_moveTo : Cond.selects "ParcelBall$World" yX3_moveTo yX3_moveTo ∈ TW := TW_0 4 rfl rfl
theorem se_yX3_goOffFirst : Cond.selects "ParcelBall$World" yX3_goOffFirst yX3_goOffFirst ∈ TW := TW_0 5 rfl rfl
theorem se_yX3_halveOutside : Cond.selects "ParcelBall$World" yX3_halveOutside yX3_halveOutside ∈ TW := TW_0 6 rfl rfl
theorem se_yX4_tryFact : Cond.selects "ParcelBall" yX4_tryFact yX4_tryFact ∈ TW := TW_0 7 rfl rfl
theorem se_yX4_waysOf : Cond.selects "ParcelBall" yX4_waysOf yX4_waysOf ∈ TW := TW_0 8 rfl rfl
theorem se_yX4_sheetFinding : Cond.selects "ParcelBall" yX4_sheetFinding yX4_sheetFinding ∈ TW := TW_0 9 rfl rfl
theorem se_yX4_trialFollows : Cond.selects "ParcelBall" yX4_trialFollows yX4_trialFollows ∈ TW := TW_0 10 rfl rfl
theorem se_yX2_takeToken : Cond.selects "ParcelBall$TextReader" yX2_takeToken yX2_takeToken ∈ TW := TW_0 11 rfl rfl
theorem se_yX2_takeWord : Cond.selects "ParcelBall$TextReader" yX2_takeWord yX2_takeWord ∈ TW := TW_0 12 rfl rfl
theorem se_yX2_takeNumber : Cond.selects "ParcelBall$TextReader" yX2_takeNumber yX2_takeNumber ∈ TW := TW_0 13 rfl rfl
theorem se_yX2_readItem : Cond.selects "ParcelBall$TextReader" yX2_readItem yX2_readItem ∈ TW := TW_0 14 rfl rfl
theorem se_yX2_isWord : Cond.selects "ParcelBall$TextReader" yX2_isWord yX2_isWord ∈ TW := TW_0 15 rfl rfl
theorem se_yX2_readPiece : Cond.selects "ParcelBall$TextReader" yX2_readPiece yX2_readPiece ∈ TW := TW_0 16 rfl rfl
theorem se_yX2_readFact : Cond.selects "ParcelBall$TextReader" yX2_readFact yX2_readFact ∈ TW := TW_0 17 rfl rfl
theorem se_yX2_readBall : Cond.selects "ParcelBall$TextReader" yX2_readBall yX2_readBall ∈ TW := TW_0 18 rfl rfl
theorem se_yX2_isNumber : Cond.selects "ParcelBall$TextReader" yX2_isNumber yX2_isNumber ∈ TW := TW_0 19 rfl rfl
theorem se_yX2_readDrag : Cond.selects "ParcelBall$TextReader" yX2_readDrag yX2_readDrag ∈ TW := TW_0 20 rfl rfl
theorem se_yX5_becomes : Cond.selects "ParcelBallModel" yX5_becomes yX5_becomes ∈ TW := TW_0 21 rfl rfl
theorem se_yX5_finds : Cond.selects "ParcelBallModel" yX5_finds yX5_finds ∈ TW := TW_0 22 rfl rfl
theorem se_yX5_adds : Cond.selects "ParcelBallModel" yX5_adds yX5_adds ∈ TW := TW_0 23 rfl rfl
theorem se_yX5_isPiece : Cond.selects "ParcelBallModel" yX5_isPiece yX5_isPiece ∈ TW := TW_0 24 rfl rfl
theorem se_yX5_pullsOf : Cond.selects "ParcelBallModel" yX5_pullsOf yX5_pullsOf ∈ TW := TW_0 25 rfl rfl
theorem se_yX5_its : Cond.selects "ParcelBallModel" yX5_its yX5_its ∈ TW := TW_0 26 rfl rfl
theorem se_yX5_lastsOf : Cond.selects "ParcelBallModel" yX5_lastsOf yX5_lastsOf ∈ TW := TW_0 27 rfl rfl
theorem se_yX5_longFrom : Cond.selects "ParcelBallModel" yX5_longFrom yX5_longFrom ∈ TW := TW_0 28 rfl rfl
theorem se_yX5_feltOf : Cond.selects "ParcelBallModel" yX5_feltOf yX5_feltOf ∈ TW := TW_0 29 rfl rfl
theorem se_yX5_givesOf : Cond.selects "ParcelBallModel" yX5_givesOf yX5_givesOf ∈ TW := TW_0 30 rfl rfl
theorem se_yX5_feltAt : Cond.selects "ParcelBallModel" yX5_feltAt yX5_feltAt ∈ TW := TW_0 31 rfl rfl
theorem se_yX5_goesOn : Cond.selects "ParcelBallModel" yX5_goesOn yX5_goesOn ∈ TW := TW_0 32 rfl rfl
theorem se_yX5_day : Cond.selects "ParcelBallModel" yX5_day yX5_day ∈ TW := TW_0 33 rfl rfl
theorem se_yX5_pull : Cond.selects "ParcelBallModel" yX5_pull yX5_pull ∈ TW := TW_0 34 rfl rfl
theorem se_yX5_arrives : Cond.selects "ParcelBallModel" yX5_arrives yX5_arrives ∈ TW := TW_0 35 rfl rfl
theorem se_yX5_goesOff : Cond.selects "ParcelBallModel" yX5_goesOff yX5_goesOff ∈ TW := TW_0 36 rfl rfl
theorem se_yX5_drawn : Cond.selects "ParcelBallModel" yX5_drawn yX5_drawn ∈ TW := TW_0 37 rfl rfl
theorem se_yX5_mostFelt : Cond.selects "ParcelBallModel" yX5_mostFelt yX5_mostFelt ∈ TW := TW_0 38 rfl rfl
theorem se_yX5_laysAside : Cond.selects "ParcelBallModel" yX5_laysAside yX5_laysAside ∈ TW := TW_0 39 rfl rfl
theorem se_yX5_takesBack : Cond.selects "ParcelBallModel" yX5_takesBack yX5_takesBack ∈ TW := TW_0 40 rfl rfl
theorem se_yX5_behind : Cond.selects "ParcelBallModel" yX5_behind yX5_behind ∈ TW := TW_0 41 rfl rfl
theorem se_yX5_orNone : Cond.selects "ParcelBallModel" yX5_orNone yX5_orNone ∈ TW := TW_0 42 rfl rfl
theorem se_yX5_moreIn : Cond.selects "ParcelBallModel" yX5_moreIn yX5_moreIn ∈ TW := TW_0 43 rfl rfl
theorem se_yX5_toldBy : Cond.selects "ParcelBallModel" yX5_toldBy yX5_toldBy ∈ TW := TW_0 44 rfl rfl
theorem se_yX5_wrong : Cond.selects "ParcelBallModel" yX5_wrong yX5_wrong ∈ TW := TW_0 45 rfl rfl
theorem se_yX5_isTold : Cond.selects "ParcelBallModel" yX5_isTold yX5_isTold ∈ TW := TW_0 46 rfl rfl
theorem se_yX5_draw : Cond.selects "ParcelBallModel" yX5_draw yX5_draw ∈ TW := TW_0 47 rfl rfl
theorem se_yX5_saves : Cond.selects "ParcelBallModel" yX5_saves yX5_saves ∈ TW := TW_0 48 rfl rfl
theorem se_yX5_token : Cond.selects "ParcelBallModel" yX5_token yX5_token ∈ TW := TW_0 49 rfl rfl
theorem se_yX5_byteAt : Cond.selects "ParcelBallModel" yX5_byteAt yX5_byteAt ∈ TW := TW_0 50 rfl rfl
theorem se_yX5_item : Cond.selects "ParcelBallModel" yX5_item yX5_item ∈ TW := TW_0 51 rfl rfl
theorem se_yX5_kindHere : Cond.selects "ParcelBallModel" yX5_kindHere yX5_kindHere ∈ TW := TW_0 52 rfl rfl
theorem se_yX5_word : Cond.selects "ParcelBallModel" yX5_word yX5_word ∈ TW := TW_0 53 rfl rfl
theorem se_yX5_pieceItem : Cond.selects "ParcelBallModel" yX5_pieceItem yX5_pieceItem ∈ TW := TW_0 54 rfl rfl
theorem se_yX5_must : Cond.selects "ParcelBallModel" yX5_must yX5_must ∈ TW := TW_0 55 rfl rfl
theorem se_yX5_partItem : Cond.selects "ParcelBallModel" yX5_partItem yX5_partItem ∈ TW := TW_0 56 rfl rfl
theorem se_yX5_number : Cond.selects "ParcelBallModel" yX5_number yX5_number ∈ TW := TW_0 57 rfl rfl
theorem se_yX5_putsBack : Cond.selects "ParcelBallModel" yX5_putsBack yX5_putsBack ∈ TW := TW_0 58 rfl rfl
theorem se_yX5_heldSpots : Cond.selects "ParcelBallModel" yX5_heldSpots yX5_heldSpots ∈ TW := TW_0 59 rfl rfl
end
section
/-! ===== the state as banks of ints; the fixed layout of the 29 cells; a method's judgement G over it ===== -/
abbrev Hp : Type := Nat → Nat → Int32
def bset (σ : Hp) (b : Nat) (S : Nat → Int32) : Hp := fun b' => if b' = b then S else σ b'
def hset (σ : Hp) (b i : Nat) (v : Int32) : Hp := bset σ b (upd (σ b) i v)
theorem bset_s (σ : Hp) (b : Nat) (S : Nat → Int32) : bset σ b S b = S := if_pos rfl
theorem bset_n {σ : Hp} {b b' : Nat} {S : Nat → Int32} (h : b' ≠ b) : bset σ b S b' = σ b' := if_neg h
theorem bset_bset (σ : Hp) (b : Nat) (S T : Nat → Int32) : bset (bset σ b S) b T = bset σ b T := by
  funext b'; unfold bset; by_cases h : b' = b <;> simp [h]
theorem bset_id (σ : Hp) (b : Nat) : bset σ b (σ b) = σ := by
  funext b'; unfold bset; by_cases h : b' = b <;> simp [h]
theorem bset_comm {σ : Hp} {b c : Nat} {S T : Nat → Int32} (h : b ≠ c) : bset (bset σ b S) c T = bset (bset σ c T) b S := by
  funext x; unfold bset
  by_cases h1 : x = c
  · by_cases h2 : x = b
    · exact absurd (h2.symm.trans h1) h
    · simp [h1, h2]; intro h3; exact absurd h3.symm h
  · by_cases h2 : x = b
    · subst h2; simp [h]
    · simp [h1, h2]
theorem hset_e (σ : Hp) (b i : Nat) (v : Int32) : hset σ b i v = bset σ b (upd (σ b) i v) := rfl
theorem hset_at (σ : Hp) (b i b' i' : Nat) (v : Int32) : hset σ b i v b' i' = if b' = b ∧ i' = i then v else σ b' i' := by
  unfold hset bset upd
  by_cases h : b' = b
  · subst h; by_cases h2 : i' = i <;> simp [h2]
  · simp [h]
abbrev Fl : Type := Nat ⊕ (Nat × Nat)
def layW (k : Nat) : List Fl := [.inr (k, 2), .inr (k, 3), .inr (k, 0), .inr (k, 4), .inr (k, 5), .inr (k, 1), .inr (k, 64), .inr (3, 10 + 2 * k), .inr (3, 11 + 2 * k), .inl (3 * k + 2), .inl (3 * k + 3)]
/-- a cell: an object (its class's number, its fields: another cell, or an int by bank and place), or an array of ints (bank, first place, length) -/
def lay : Nat → (Nat × List Fl) ⊕ (Nat × Nat × Nat)
  | 0 => .inl (4, [.inl 1, .inl 4, .inl 7, .inr (3, 0), .inl 10, .inl 12, .inl 13, .inl 17])
  | 1 => .inl (3, layW 0)
  | 2 => .inr (0, 6, 48)
  | 3 => .inr (0, 54, 10)
  | 4 => .inl (3, layW 1)
  | 5 => .inr (1, 6, 48)
  | 6 => .inr (1, 54, 10)
  | 7 => .inl (3, layW 2)
  | 8 => .inr (2, 6, 48)
  | 9 => .inr (2, 54, 10)
  | 10 => .inl (1, [.inr (3, 1), .inl 11])
  | 11 => .inr (9, 0, 120)
  | 12 => .inl (2, [.inl 10, .inl 4, .inr (3, 2), .inr (3, 3), .inr (3, 4), .inr (3, 5)])
  | 13 => .inl (0, [.inl 14, .inl 15, .inl 16])
  | 14 => .inr (11, 0, 4)
  | 15 => .inr (11, 4, 4)
  | 16 => .inr (11, 8, 160)
  | 17 => .inr (13, 0, 7)
  | 18 => .inl (5, [.inl 19, .inl 20, .inl 21, .inl 22, .inl 23, .inr (8, 0), .inr (4, 64), .inl 24, .inr (8, 1), .inr (8, 2), .inr (8, 3), .inr (8, 4), .inr (8, 5), .inl 25, .inl 26, .inl 27, .inl 28])
  | 19 => .inr (4, 0, 64)
  | 20 => .inr (5, 0, 64)
  | 21 => .inr (6, 0, 64)
  | 22 => .inr (7, 0, 64)
  | 23 => .inr (14, 0, 7)
  | 24 => .inr (10, 0, 120)
  | 25 => .inr (12, 0, 4)
  | 26 => .inr (12, 4, 4)
  | 27 => .inr (12, 8, 160)
  | _ => .inr (15, 0, 40)
theorem lay_w {k : Nat} (hk : k < 3) : lay (3 * k + 1) = .inl (3, layW k) := by
  rcases (show k = 0 ∨ k = 1 ∨ k = 2 by omega) with rfl | rfl | rfl <;> rfl
theorem lay_f {k : Nat} (hk : k < 3) : lay (3 * k + 2) = .inr (k, 6, 48) := by
  rcases (show k = 0 ∨ k = 1 ∨ k = 2 by omega) with rfl | rfl | rfl <;> rfl
theorem lay_s {k : Nat} (hk : k < 3) : lay (3 * k + 3) = .inr (k, 54, 10) := by
  rcases (show k = 0 ∨ k = 1 ∨ k = 2 by omega) with rfl | rfl | rfl <;> rfl
def reg1 : Fl → Option (Nat × Nat × Nat)
  | .inl _ => none
  | .inr (b, i) => some (b, i, 1)
def regs (k : Nat) : List (Nat × Nat × Nat) := match lay k with
  | .inl (_, fs) => fs.filterMap reg1
  | .inr r => [r]
def sepB (r q : Nat × Nat × Nat) : Bool := r.1 != q.1 || decide (r.2.1 + r.2.2 ≤ q.2.1) || decide (q.2.1 + q.2.2 ≤ r.2.1)
def sepAll : Bool := (List.range 29).all fun k => (List.range 29).all fun k' => k == k' || (regs k).all fun r => (regs k').all fun q => sepB r q
theorem sepAll_ok : sepAll = true := by decide +kernel
def dupNone : Bool := (List.range 29).all fun k => match lay k with
  | .inl (_, fs) => (List.range fs.length).all fun i => (List.range fs.length).all fun j => i == j || !(decide (fs[i]? = fs[j]?))
  | .inr _ => true
theorem dupNone_ok : dupNone = true := by decide +kernel
theorem lay_sep {k k' : Nat} (hk : k < 29) (hk' : k' < 29) (hn : k ≠ k') {r q : Nat × Nat × Nat} (hr : r ∈ regs k) (hq : q ∈ regs k') : sepB r q = true := by
  have h := List.all_eq_true.mp (List.all_eq_true.mp sepAll_ok k (List.mem_range.mpr hk)) k' (List.mem_range.mpr hk')
  rcases Bool.or_eq_true _ _ ▸ h with h | h
  · exact absurd (by simpa using h) hn
  · exact List.all_eq_true.mp (List.all_eq_true.mp h r hr) q hq
theorem lay_dup {k ci : Nat} {fs : List Fl} (hk : k < 29) (hl : lay k = .inl (ci, fs)) {i j : Nat} {x : Fl} (hi : fs[i]? = some x) (hj : fs[j]? = some x) : i = j := by
  have h := List.all_eq_true.mp dupNone_ok k (List.mem_range.mpr hk)
  rw [hl] at h
  have hi' := (List.getElem?_eq_some_iff.mp hi).1
  have hj' := (List.getElem?_eq_some_iff.mp hj).1
  have h2 := List.all_eq_true.mp (List.all_eq_true.mp h i (List.mem_range.mpr hi')) j (List.mem_range.mpr hj')
  rcases Bool.or_eq_true _ _ ▸ h2 with h2 | h2
  · simpa using h2
  · rw [hi, hj] at h2; simp at h2
def evF (ad : Nat → Nat) (σ : Hp) : Fl → Value
  | .inl c => .ref (ad c)
  | .inr (b, i) => .int (σ b i)
def arF (σ : Hp) (b o n : Nat) : Nat → Int32 := fun j => if j < n then σ b (o + j) else 0
def cellE (ad : Nat → Nat) (cA : ClassId) (σ : Hp) (k : Nat) : va_E := match lay k with
  | .inl (c, fs) => .inr (c, fs.map (evF ad σ))
  | .inr (b, o, n) => .inl (cA, n, .inl (arF σ b o n))
def wsOf (ad : Nat → Nat) (cA : ClassId) (σ : Hp) : va_W := (List.range 29).map fun k => (ad k, cellE ad cA σ k)
theorem ws_at {ad : Nat → Nat} {cA : ClassId} {σ : Hp} {k : Nat} (hk : k < 29) : (wsOf ad cA σ)[k]? = some (ad k, cellE ad cA σ k) := by
  simp [wsOf, hk]
theorem cell_o {ad : Nat → Nat} {cA : ClassId} {σ : Hp} {k ci : Nat} {fs : List Fl} (h : lay k = .inl (ci, fs)) : cellE ad cA σ k = .inr (ci, fs.map (evF ad σ)) := by
  unfold cellE; rw [h]
theorem cell_a {ad : Nat → Nat} {cA : ClassId} {σ : Hp} {k b o n : Nat} (h : lay k = .inr (b, o, n)) : cellE ad cA σ k = .inl (cA, n, .inl (arF σ b o n)) := by
  unfold cellE; rw [h]
theorem ws_set {ad : Nat → Nat} {cA : ClassId} {σ τ : Hp} {k : Nat} {c : va_E} (hk : k < 29) (hc : c = cellE ad cA τ k) (h : ∀ k', k' < 29 → k' ≠ k → cellE ad cA τ k' = cellE ad cA σ k') : (wsOf ad cA σ).set k (ad k, c) = wsOf ad cA τ := by
  apply List.ext_getElem?
  intro i
  rw [List.getElem?_set]
  by_cases hi : i < 29
  · rw [ws_at hi, ws_at hi]
    by_cases h2 : k = i
    · subst h2; rw [if_pos rfl, if_pos (by simp [wsOf, hk]), hc]
    · rw [if_neg h2, h i hi (fun e => h2 e.symm)]
  · have e1 : (wsOf ad cA σ)[i]? = none := by simp [wsOf]; omega
    have e2 : (wsOf ad cA τ)[i]? = none := by simp [wsOf]; omega
    rw [e1, e2, if_neg (by omega)]
/-- a write at a place of a region leaves what lies apart from it -/
theorem cell_keep {ad : Nat → Nat} {cA : ClassId} {σ : Hp} {k k' b i : Nat} {v : Int32} {r : Nat × Nat × Nat} (hk : k < 29) (hk' : k' < 29) (hn : k' ≠ k) (hr : r ∈ regs k) (hb : r.1 = b) (h1 : r.2.1 ≤ i) (h2 : i < r.2.1 + r.2.2) : cellE ad cA (hset σ b i v) k' = cellE ad cA σ k' := by
  have hs : ∀ q ∈ regs k', sepB r q = true := fun q hq => lay_sep hk hk' (fun e => hn e.symm) hr hq
  unfold cellE
  unfold regs at hs
  split
  · rename_i c fs hl
    rw [hl] at hs
    refine congrArg (fun l => Sum.inr (c, l)) (List.map_congr_left fun x hx => ?_)
    match x, hx with
    | .inl _, _ => rfl
    | .inr (b', i'), hx =>
      have h3 := hs (b', i', 1) (List.mem_filterMap.mpr ⟨_, hx, rfl⟩)
      simp only [evF, hset_at]
      rw [if_neg]
      rintro ⟨e1, e2⟩
      simp [sepB] at h3
      omega
  · rename_i b' o n hl
    rw [hl] at hs
    have h3 := hs (b', o, n) List.mem_cons_self
    refine congrArg (fun f => Sum.inl (cA, n, Sum.inl f)) ?_
    funext j
    unfold arF
    by_cases hj : j < n
    · rw [if_pos hj, if_pos hj, hset_at, if_neg]
      rintro ⟨e1, e2⟩
      simp [sepB] at h3
      omega
    · rw [if_neg hj, if_neg hj]
theorem ws_put {ad : Nat → Nat} {cA : ClassId} {σ : Hp} {k ci b i j : Nat} {fs : List Fl} {v : Int32} (hk : k < 29) (hl : lay k = .inl (ci, fs)) (hj : fs[j]? = some (.inr (b, i))) : (wsOf ad cA σ).set k (ad k, .inr (ci, (fs.map (evF ad σ)).set j (.int v))) = wsOf ad cA (hset σ b i v) := by
  have hr : (b, i, 1) ∈ regs k := by
    unfold regs; rw [hl]
    exact List.mem_filterMap.mpr ⟨_, List.mem_of_getElem? hj, rfl⟩
  refine ws_set hk ?_ (fun k' hk' hn => cell_keep hk hk' hn hr rfl (Nat.le_refl _) (Nat.lt_succ_self _))
  rw [cell_o hl]
  refine congrArg (fun l => Sum.inr (ci, l)) ?_
  apply List.ext_getElem?
  intro x
  rw [List.getElem?_set, List.getElem?_map, List.getElem?_map]
  by_cases h2 : j = x
  · subst h2
    have hj' := (List.getElem?_eq_some_iff.mp hj).1
    rw [if_pos rfl, if_pos (by simpa using hj'), hj]
    simp [evF, hset_at]
  · rw [if_neg h2]
    cases hx : fs[x]? with
    | none => rfl
    | some y =>
      simp only [Option.map_some]
      match y, hx with
      | .inl _, _ => rfl
      | .inr (b', i'), hx =>
        simp only [evF, hset_at]
        rw [if_neg]
        rintro ⟨e1, e2⟩
        subst e1; subst e2
        exact h2 (lay_dup hk hl hj hx)
theorem ws_ast {ad : Nat → Nat} {cA : ClassId} {σ : Hp} {k b o n j : Nat} {v : Int32} (hk : k < 29) (hl : lay k = .inr (b, o, n)) (hj : j < n) : (wsOf ad cA σ).set k (ad k, .inl (cA, n, .inl (upd (arF σ b o n) j v))) = wsOf ad cA (hset σ b (o + j) v) := by
  have hr : (b, o, n) ∈ regs k := by
    unfold regs; rw [hl]; exact List.mem_cons_self
  refine ws_set hk ?_ (fun k' hk' hn => cell_keep hk hk' hn hr rfl (Nat.le_add_right _ _) (by show o + j < o + n; omega))
  rw [cell_a hl]
  refine congrArg (fun f => Sum.inl (cA, n, Sum.inl f)) ?_
  funext x
  unfold upd arF
  by_cases h1 : x = j
  · subst h1; simp [hj, hset_at]
  · rw [if_neg h1]
    by_cases h2 : x < n
    · rw [if_pos h2, if_pos h2, hset_at, if_neg]; rintro ⟨-, e⟩; omega
    · rw [if_neg h2, if_neg h2]
/-- a run of places of a bank gets new values (arraycopy) -/
def rset (σ : Hp) (b o n : Nat) (f : Nat → Int32) : Hp := bset σ b (fun i => if o ≤ i ∧ i < o + n then f (i - o) else σ b i)
theorem rset_at (σ : Hp) (b o n b' i' : Nat) (f : Nat → Int32) : rset σ b o n f b' i' = if b' = b ∧ o ≤ i' ∧ i' < o + n then f (i' - o) else σ b' i' := by
  unfold rset bset
  by_cases h : b' = b
  · subst h; by_cases h2 : o ≤ i' ∧ i' < o + n <;> simp [h2]
  · simp [h]
theorem cell_keepR {ad : Nat → Nat} {cA : ClassId} {σ : Hp} {k k' b o n : Nat} {f : Nat → Int32} {r : Nat × Nat × Nat} (hk : k < 29) (hk' : k' < 29) (hn : k' ≠ k) (hr : r ∈ regs k) (hb : r.1 = b) (h1 : r.2.1 ≤ o) (h2 : o + n ≤ r.2.1 + r.2.2) : cellE ad cA (rset σ b o n f) k' = cellE ad cA σ k' := by
  have hs : ∀ q ∈ regs k', sepB r q = true := fun q hq => lay_sep hk hk' (fun e => hn e.symm) hr hq
  unfold cellE
  unfold regs at hs
  split
  · rename_i c fs hl
    rw [hl] at hs
    refine congrArg (fun l => Sum.inr (c, l)) (List.map_congr_left fun x hx => ?_)
    match x, hx with
    | .inl _, _ => rfl
    | .inr (b', i'), hx =>
      have h3 := hs (b', i', 1) (List.mem_filterMap.mpr ⟨_, hx, rfl⟩)
      simp only [evF, rset_at]
      rw [if_neg]
      rintro ⟨e1, e2, e3⟩
      simp [sepB] at h3
      omega
  · rename_i b' o' n' hl
    rw [hl] at hs
    have h3 := hs (b', o', n') List.mem_cons_self
    refine congrArg (fun f => Sum.inl (cA, n', Sum.inl f)) ?_
    funext j
    unfold arF
    by_cases hj : j < n'
    · rw [if_pos hj, if_pos hj, rset_at, if_neg]
      rintro ⟨e1, e2, e3⟩
      simp [sepB] at h3
      omega
    · rw [if_neg hj, if_neg hj]
theorem ws_cpy {ad : Nat → Nat} {cA : ClassId} {σ : Hp} {k b o N d n : Nat} {f : Nat → Int32} (hk : k < 29) (hl : lay k = .inr (b, o, N)) (hd : d + n ≤ N) {g : Nat → Int32} (hg : ∀ j, g j = if d ≤ j ∧ j < d + n then f (j - d) else arF σ b o N j) : (wsOf ad cA σ).set k (ad k, .inl (cA, N, .inl g)) = wsOf ad cA (rset σ b (o + d) n f) := by
  have hr : (b, o, N) ∈ regs k := by
    unfold regs; rw [hl]; exact List.mem_cons_self
  refine ws_set hk ?_ (fun k' hk' hn => cell_keepR hk hk' hn hr rfl (Nat.le_add_right _ _) (by show o + d + n ≤ o + N; omega))
  rw [cell_a hl]
  refine congrArg (fun f => Sum.inl (cA, N, Sum.inl f)) ?_
  funext x
  rw [hg x]
  unfold arF
  by_cases h2 : x < N
  · rw [if_pos h2, if_pos h2, rset_at]
    by_cases h1 : d ≤ x ∧ x < d + n
    · rw [if_pos h1, if_pos ⟨rfl, by omega, by omega⟩]; congr 1; omega
    · rw [if_neg h1, if_neg]; rintro ⟨-, e1, e2⟩; omega
  · rw [if_neg h2, if_neg h2, if_neg (by omega)]
end
section
def fv (ad : Nat → Nat) : Value → Value
  | .ref k => .ref (ad k)
  | v => v
def Aof (ad : Nat → Nat) : Nat → Prop := fun q => ∃ k, k < 29 ∧ ad k = q
def kaT (j : Nat) : Int32 := ([-1, 0, 0, 2, 3, 0, 1] : List Int32).getD j 0
def flT (j : Nat) : Int32 := ([0, 0, 1, 0, 0, 0] : List Int32).getD j 0
def fmT (j : Nat) : Int32 := ([6, 11, 99, 9, 9999, 9999] : List Int32).getD j 0
/-- arrays that nobody writes: by their number, length and contents -/
def roS : Nat → Option (Nat × (Nat → Int32))
  | 40 => some (7, kaT)
  | 41 => some (6, flT)
  | 42 => some (6, fmT)
  | _ => none
def sTx : List String := ["piece", "ticking", "birthday", "row", "letter", "hers", "fuse", "", "ball", "drag", "to", "long", "knots"]
def sIx : List Nat := [136, 138, 140, 142, 144, 146, 148, 150, 51, 56, 79, 85, 87]
def sLn : List Nat := [5, 7, 8, 3, 6, 4, 4, 0, 4, 4, 2, 4, 5]
def sBy : List (List Int32) := [[112, 105, 101, 99, 101], [116, 105, 99, 107, 105, 110, 103], [98, 105, 114, 116, 104, 100, 97, 121], [114, 111, 119], [108, 101, 116, 116, 101, 114], [104, 101, 114, 115], [102, 117, 115, 101], [], [98, 97, 108, 108], [100, 114, 97, 103], [116, 111], [108, 111, 110, 103], [107, 110, 111, 116, 115]]
/-- calls of the host's private static methods out of nested classes -/
def NW : List (String × Nat × MethodName) := [(RX3, 60, yX4_isFactValue), (RX0, 21, yX4_isSheet), (RX2, 89, yX4_isFactValue), (RX2, 96, yX4_isWithin), (RX3, 68, yX4_isSpot)]
theorem nw_X3_60 : (RX3, 60, yX4_isFactValue) ∈ NW := List.mem_of_getElem? (i := 0) rfl
theorem nw_X0_21 : (RX0, 21, yX4_isSheet) ∈ NW := List.mem_of_getElem? (i := 1) rfl
theorem nw_X2_89 : (RX2, 89, yX4_isFactValue) ∈ NW := List.mem_of_getElem? (i := 2) rfl
theorem nw_X2_96 : (RX2, 96, yX4_isWithin) ∈ NW := List.mem_of_getElem? (i := 3) rfl
theorem nw_X3_68 : (RX3, 68, yX4_isSpot) ∈ NW := List.mem_of_getElem? (i := 4) rfl
def En (ad : Nat → Nat) (D : va_G) (cA : ClassId) (A : Nat → Prop) (U : State) (H : Heap) : Prop :=
  va_K D vwCl [(cA, .int)] U ∧ (∀ i j, i < 29 → j < 29 → ad i = ad j → i = j) ∧
  (va_Z "ParcelBall" "KIND_ABOVE" "[I" (.ref (ad 40)) A U H ∧ va_Z "ParcelBall" "FACT_LEAST" "[I" (.ref (ad 41)) A U H ∧ va_Z "ParcelBall" "FACT_MOST" "[I" (.ref (ad 42)) A U H ∧ va_Z "java/lang/String" "COMPACT_STRINGS" "Z" (.int 1) A U H) ∧
  (∀ t N f, roS t = some (N, f) → va_T .int (ad t) N (fun j => .int (f j)) A U H) ∧
  vk_S 13 sLn sBy (fun i => ad (50 + i)) (fun i => ad (70 + i)) A U H ∧
  (∀ i, i < 13 → vk_R RX2 (sIx.getD i 0) (sTx.getD i "") (ad (50 + i)) U) ∧
  ∀ q ∈ NW, va_Nw (.methodLinkNest q.1 q.2.1 q.2.2 "ParcelBall") U
theorem En.next {ad : Nat → Nat} {D : va_G} {cA : ClassId} {A B : Nat → Prop} {s U : State} {H : Heap} (h : En ad D cA A s s.heap) (hW : s.WarmedH U.vm) (hH : ∀ a : Nat, a < s.heap.size → ¬ A a → H[a]? = s.heap[a]?) (hB : ∀ q, B q → A q) : En ad D cA B U H := by
  obtain ⟨h1, h2, ⟨z1, z2, z3, z4⟩, h4, h5, h6, h7⟩ := h
  have hv := hW.alike
  exact ⟨va_K.moved hv h1, h2, ⟨((z1.kept hH).moved hv).narrow hB, ((z2.kept hH).moved hv).narrow hB, ((z3.kept hH).moved hv).narrow hB, ((z4.kept hH).moved hv).narrow hB⟩, fun t N f e => (((h4 t N f e).kept hH).moved hv).narrow hB, ((h5.kept hH).moved hv).narrow hB, fun i hi => (h6 i hi).warm hW, fun q hq => (h7 q hq).warmM hW⟩
theorem En.same {ad : Nat → Nat} {D : va_G} {cA : ClassId} {A : Nat → Prop} {s U : State} {H : Heap} (h : En ad D cA A s H) (hv : U.vm = s.vm) : En ad D cA A U H := by
  obtain ⟨h1, h2, ⟨z1, z2, z3, z4⟩, h4, h5, h6, h7⟩ := h
  have hv2 : s.vm.Alike U.vm := by rw [hv]; exact Vm.Alike.refl s.vm
  exact ⟨va_K.moved hv2 h1, h2, ⟨z1.moved hv2, z2.moved hv2, z3.moved hv2, z4.moved hv2⟩, fun t N f e => (h4 t N f e).moved hv2, h5.moved hv2, fun i hi => (h6 i hi).same hv, fun q hq => (h7 q hq).same rfl hv.symm⟩
theorem ws_D {ad : Nat → Nat} {cA : ClassId} {σ : Hp} {A : Nat → Prop} (hj : ∀ i j, i < 29 → j < 29 → ad i = ad j → i = j) (hA : ∀ k, k < 29 → A (ad k)) : va_D A (wsOf ad cA σ) := by
  have key : ∀ (i : Nat) (p : Nat × va_E), (wsOf ad cA σ)[i]? = some p → i < 29 ∧ p.1 = ad i := by
    intro i p h
    by_cases hi : i < 29
    · rw [ws_at hi] at h; cases h; exact ⟨hi, rfl⟩
    · have e1 : (wsOf ad cA σ)[i]? = none := by simp [wsOf]; omega
      rw [e1] at h; cases h
  refine ⟨fun i j p q h1 h2 e => ?_, fun k q h => ?_⟩
  · obtain ⟨a1, a2⟩ := key i p h1
    obtain ⟨b1, b2⟩ := key j q h2
    exact hj i j a1 b1 (by rw [← a2, ← b2]; exact e)
  · obtain ⟨a1, a2⟩ := key k q h
    rw [a2]; exact hA k a1
def Lv (ad : Nat → Nat) (la : Array Slot) (nL : Nat) (ls : List (Option Value)) : Prop := la.size = nL ∧ ls.length = nL ∧ lv_wf la ∧ ∀ (i : Nat) (v : Value), ls[i]? = some (some v) → la[i]? = some (.val (fv ad v))
def rmL (lev : Nat) : Room := { frames := lev, cells := 0, slots := 0, locals := 36 * lev }
def Gof (p : Program) (l : Launch) (e : Env) (R : Room) (s : State) (m : MethodId) (args : Array Value) (below : List Frame) (meth : Method) (c : Code) (ad : Nat → Nat) (D : va_G) (cA : ClassId) (A0 : Nat → Prop) (cells slots nL : Nat) (Q : State → Prop) : Nat → List (Option Value) → List Value → Hp → Prop :=
  fun pc ls st σ => ∀ (H : Heap) (locs : List Loc) (la : Array Slot), va_P D vwCl (wsOf ad cA σ) H → va_S A0 s.heap H locs → Lv ad la nL ls → W p l e R s m args below meth c H locs cells slots Q (F0 m pc la (st.map (fv ad)))
def Ctx (cc : ByteArray) (own : String) (lev nL : Nat) (ro : Nat → Option (Nat × (Nat → Int32))) (p : Program) (R : Room) (s : State) (m : MethodId) (args : Array Value) (c : Code) (ad : Nat → Nat) (D : va_G) (cA : ClassId) (A0 : Nat → Prop) (cells slots : Nat) : Prop :=
  p.tables.exec = Jvm.exec ∧ c.code = cc ∧ c.maxLocals = nL ∧ s.vm.findClass own = some m.cls ∧ (∀ w ∈ TW, w.before args s = true) ∧ En ad D cA A0 s s.heap ∧ (∀ k, k < 29 → A0 (ad k)) ∧ (lev ≤ R.frames ∧ 36 * lev ≤ R.locals ∧ cells ≤ R.cells ∧ slots ≤ R.slots) ∧ (∀ t N f, ro t = some (N, f) → va_T .int (ad t) N (fun j => .int (f j)) A0 s s.heap)
/-- G is the machine's judgement at one frame of a method with code cc -/
def Rules (cc : ByteArray) (own : String) (lev nL : Nat) (ro : Nat → Option (Nat × (Nat → Int32))) (G : Nat → List (Option Value) → List Value → Hp → Prop) : Prop :=
  ∃ (p : Program) (l : Launch) (e : Env) (R : Room) (s : State) (m : MethodId) (args : Array Value) (below : List Frame) (meth : Method) (c : Code) (ad : Nat → Nat) (D : va_G) (cA : ClassId) (A0 : Nat → Prop) (cells slots : Nat) (Q : State → Prop),
    Ctx cc own lev nL ro p R s m args c ad D cA A0 cells slots ∧ G = Gof p l e R s m args below meth c ad D cA A0 cells slots nL Q
def Qg (ad : Nat → Nat) (D : va_G) (cA : ClassId) (post : Option Value → Hp → Prop) : Array Value → State → Outcome → State → Prop := fun _ st oc t => (∃ (r : Option Value) (σ' : Hp), oc = .returned (r.map (fv ad)) ∧ post r σ' ∧ va_P D vwCl (wsOf ad cA σ') t.heap) ∧ va_F (Aof ad) st t
def PcG (ad : Nat → Nat) (D : va_G) (cA : ClassId) (as : List Value) (σ : Hp) : Array Value → State → Prop := va_Pc (as.map (fv ad)) (fun U => va_P D vwCl (wsOf ad cA σ) U.heap ∧ En ad D cA (Aof ad) U U.heap)
/-- a method's contract: from the state σ, with these arguments, it returns as 'post' says; nothing but the 29 cells changes -/
def Ct (y : MethodName) (ws : List Cond) (lev : Nat) (as : List Value) (σ : Hp) (post : Option Value → Hp → Prop) : Prop :=
  ∀ (l : Launch) (ad : Nat → Nat) (D : va_G) (cA : ClassId), Met l y ws (rmL lev) (PcG ad D cA as σ) (Qg ad D cA post) 0 0 (Aof ad)
def CtI (y : MethodName) (ws : List Cond) (lev : Nat) (as : List Value) (σ : Hp) (v : Int32) (τ : Hp) : Prop := Ct y ws lev as σ (fun r σ' => r = some (.int v) ∧ σ' = τ)
def CtL (y : MethodName) (ws : List Cond) (lev : Nat) (as : List Value) (σ : Hp) (v : Int64) (τ : Hp) : Prop := Ct y ws lev as σ (fun r σ' => r = some (.long v) ∧ σ' = τ)
def CtV (y : MethodName) (ws : List Cond) (lev : Nat) (as : List Value) (σ : Hp) (τ : Hp) : Prop := Ct y ws lev as σ (fun r σ' => r = none ∧ σ' = τ)
def CtR (y : MethodName) (ws : List Cond) (lev : Nat) (as : List Value) (σ : Hp) (k : Nat) (τ : Hp) : Prop := Ct y ws lev as σ (fun r σ' => r = some (.ref k) ∧ σ' = τ)
def wsM (y : MethodName) (cc : ByteArray) (n : Nat) (ret : Option FieldType) : List Cond := Cond.code y cc n ret :: TW
/-- the locals at a method's entry -/
def lsIn : List Value → List (Option Value)
  | [] => []
  | v :: t => if v.category = 2 then some v :: none :: lsIn t else some v :: lsIn t
theorem fv_cat (ad : Nat → Nat) (v : Value) : (fv ad v).category = v.category := by cases v <;> rfl
theorem lsIn_len : ∀ (ad : Nat → Nat) (as : List Value), (lg_sl (as.map (fv ad))).length = (lsIn as).length := by
  intro ad as
  induction as with
  | nil => rfl
  | cons v t ih =>
    simp only [List.map_cons, lg_sl, List.flatMap_cons, List.length_append, lsIn, fv_cat] at ih ⊢
    rw [ih]
    by_cases h : v.category = 2 <;> simp [h] <;> omega
theorem lsIn_at (ad : Nat → Nat) : ∀ (as : List Value) (i : Nat) (v : Value), (lsIn as)[i]? = some (some v) → (lg_sl (as.map (fv ad)))[i]? = some (.val (fv ad v)) := by
  intro as
  induction as with
  | nil => intro i v h; simp [lsIn] at h
  | cons w t ih =>
    intro i v h
    simp only [List.map_cons, lg_sl, List.flatMap_cons, fv_cat, lsIn] at h ⊢
    by_cases hc : w.category = 2
    · rw [if_pos hc] at h ⊢
      match i, h with
      | 0, h => simp at h; subst h; rfl
      | 1, h => simp at h
      | i + 2, h =>
        simp only [List.getElem?_cons_succ] at h
        have := ih i v h
        simpa [lg_sl] using this
    · rw [if_neg hc] at h ⊢
      match i, h with
      | 0, h => simp at h; subst h; rfl
      | i + 1, h =>
        simp only [List.getElem?_cons_succ] at h
        have := ih i v h
        simpa [lg_sl] using this
theorem Lv_entry (ad : Nat → Nat) (as : List Value) {nL : Nat} (h : (lsIn as).length ≤ nL) : Lv ad ((lg_sl (as.map (fv ad)) ++ List.replicate (nL - (lg_sl (as.map (fv ad))).length) Slot.unset).toArray) nL (lsIn as ++ List.replicate (nL - (lsIn as).length) none) := by
  have h0 := lsIn_len ad as
  obtain ⟨e1, e2, -⟩ := lv_entry (as.map (fv ad)) (n := nL) (by rw [h0]; exact h)
  refine ⟨e1, by simp; omega, e2, fun i v hi => ?_⟩
  rw [List.getElem?_append] at hi
  by_cases hlt : i < (lsIn as).length
  · rw [if_pos hlt] at hi
    have := lsIn_at ad as i v hi
    simp only [List.getElem?_toArray]
    rw [List.getElem?_append, if_pos (by omega)]
    exact this
  · rw [if_neg hlt] at hi
    have := List.mem_of_getElem? hi
    simp at this
end
section
section GR
variable {cc : ByteArray} {own : String} {lev nL : Nat} {ro : Nat → Option (Nat × (Nat → Int32))} {G : Nat → List (Option Value) → List Value → Hp → Prop} {pc : Nat} {ls : List (Option Value)} {st : List Value} {σ : Hp}
/-- a step that leaves heap and locals -/
theorem g_step (h : Rules cc own lev nL ro G) {pc' : Nat} {st' : List Value}
    (hs : ∀ {p : Program} {l : Launch} {e : Env} {R : Room} {s : State} {m : MethodId} {args : Array Value} {below : List Frame} {meth : Method} {c : Code} {H : Heap} {locs : List Loc} {cells slots : Nat} {Q : State → Prop} {la : Array Slot} {ad : Nat → Nat}, p.tables.exec = Jvm.exec → c.code = cc → s.vm.findClass own = some m.cls → (∀ w ∈ TW, w.before args s = true) → Lv ad la nL ls → W p l e R s m args below meth c H locs cells slots Q (F0 m pc' la (st'.map (fv ad))) → W p l e R s m args below meth c H locs cells slots Q (F0 m pc la (st.map (fv ad))))
    (k : G pc' ls st' σ) : G pc ls st σ := by
  obtain ⟨p, l, e, R, s, m, args, below, meth, c, ad, D, cA, A0, cells, slots, Q, ⟨hx, hb, hml, hown, hts, -⟩, rfl⟩ := h
  intro H locs la hP hS hl
  exact hs hx hb hown hts hl (k H locs la hP hS hl)
theorem g_br (h : Rules cc own lev nL ro G) {pt pf : Nat} {st' : List Value} {C : Prop}
    (hs : ∀ {p : Program} {l : Launch} {e : Env} {R : Room} {s : State} {m : MethodId} {args : Array Value} {below : List Frame} {meth : Method} {c : Code} {H : Heap} {locs : List Loc} {cells slots : Nat} {Q : State → Prop} {la : Array Slot} {ad : Nat → Nat}, p.tables.exec = Jvm.exec → c.code = cc → (C → W p l e R s m args below meth c H locs cells slots Q (F0 m pt la (st'.map (fv ad)))) → (¬ C → W p l e R s m args below meth c H locs cells slots Q (F0 m pf la (st'.map (fv ad)))) → W p l e R s m args below meth c H locs cells slots Q (F0 m pc la (st.map (fv ad))))
    (kt : C → G pt ls st' σ) (kf : ¬ C → G pf ls st' σ) : G pc ls st σ := by
  obtain ⟨p, l, e, R, s, m, args, below, meth, c, ad, D, cA, A0, cells, slots, Q, ⟨hx, hb, -⟩, rfl⟩ := h
  intro H locs la hP hS hl
  exact hs hx hb (fun c => kt c H locs la hP hS hl) (fun c => kf c H locs la hP hS hl)
theorem g_eq {τ : Hp} (e : σ = τ) (k : G pc ls st τ) : G pc ls st σ := e ▸ k
theorem g_top {v w : Int32} (e : v = w) (k : G pc ls (.int w :: st) σ) : G pc ls (.int v :: st) σ := e ▸ k
theorem g_pc {pc' : Nat} (e : pc = pc') (k : G pc' ls st σ) : G pc ls st σ := e ▸ k
-- constants
theorem g_iconst (h : Rules cc own lev nL ro G) {n : Int} {v : Int32} (hd : decode cc pc = .ok (.iconst n, 1)) (hv : Int32.ofInt n = v) (k : G (pc + 1) ls (.int v :: st) σ) : G pc ls st σ := g_step h (fun hx hb _ _ _ k => lv_iconst hx hb hd hv k) k
theorem g_bipush (h : Rules cc own lev nL ro G) {n : Int} {v : Int32} (hd : decode cc pc = .ok (.bipush n, 2)) (hv : (Int8.ofInt n).toInt32 = v) (k : G (pc + 2) ls (.int v :: st) σ) : G pc ls st σ := g_step h (fun hx hb _ _ _ k => lv_bipush hx hb hd hv k) k
theorem g_sipush (h : Rules cc own lev nL ro G) {n : Int} {v : Int32} (hd : decode cc pc = .ok (.sipush n, 3)) (hv : (Int16.ofInt n).toInt32 = v) (k : G (pc + 3) ls (.int v :: st) σ) : G pc ls st σ := g_step h (fun hx hb _ _ _ k => lv_sipush hx hb hd hv k) k
theorem g_lconst (h : Rules cc own lev nL ro G) {n : Fin 2} {v : Int64} (hd : decode cc pc = .ok (.lconst n, 1)) (hv : Int64.ofNat (n : Nat) = v) (k : G (pc + 1) ls (.long v :: st) σ) : G pc ls st σ := g_step h (fun hx hb _ _ _ k => lv_lconst hx hb hd hv k) k
theorem g_ldc (h : Rules cc own lev nL ro G) {i : Nat} {v : Int32} (hd : decode cc pc = .ok (.ldc i, 2)) (hw : Cond.constant own i v ∈ TW) (k : G (pc + 2) ls (.int v :: st) σ) : G pc ls st σ := g_step h (fun hx hb ho ht _ k => lv_ldc hx hb ho (ht _ hw) hd k) k
theorem g_ldcw (h : Rules cc own lev nL ro G) {i : Nat} {v : Int32} (hd : decode cc pc = .ok (.ldc_w i, 3)) (hw : Cond.constant own i v ∈ TW) (k : G (pc + 3) ls (.int v :: st) σ) : G pc ls st σ := g_step h (fun hx hb ho ht _ k => lv_ldcw hx hb ho (ht _ hw) hd k) k
theorem g_ldc2 (h : Rules cc own lev nL ro G) {i : Nat} {v : Int64} (hd : decode cc pc = .ok (.ldc2_w i, 3)) (hw : Cond.constantLong own i v ∈ TW) (k : G (pc + 3) ls (.long v :: st) σ) : G pc ls st σ := g_step h (fun hx hb ho ht _ k => lv_ldc2 hx hb ho (ht _ hw) hd k) k
-- loads
theorem g_iload_n (h : Rules cc own lev nL ro G) {k : Fin 4} {x : Int32} (hd : decode cc pc = .ok (.iload_n k, 1)) (hl : ls[(k : Nat)]? = some (some (.int x))) (kk : G (pc + 1) ls (.int x :: st) σ) : G pc ls st σ := g_step h (fun hx hb _ _ L k => lv_iload_n hx hb hd rfl (L.2.2.2 _ _ hl) k) kk
theorem g_iload (h : Rules cc own lev nL ro G) {i : Nat} {x : Int32} (hd : decode cc pc = .ok (.iload i, 2)) (hl : ls[i]? = some (some (.int x))) (kk : G (pc + 2) ls (.int x :: st) σ) : G pc ls st σ := g_step h (fun hx hb _ _ L k => lv_iload hx hb hd (L.2.2.2 _ _ hl) k) kk
theorem g_lload_n (h : Rules cc own lev nL ro G) {k : Fin 4} {x : Int64} (hd : decode cc pc = .ok (.lload_n k, 1)) (hl : ls[(k : Nat)]? = some (some (.long x))) (kk : G (pc + 1) ls (.long x :: st) σ) : G pc ls st σ := g_step h (fun hx hb _ _ L k => lv_lload_n hx hb hd rfl (L.2.2.2 _ _ hl) k) kk
theorem g_lload (h : Rules cc own lev nL ro G) {i : Nat} {x : Int64} (hd : decode cc pc = .ok (.lload i, 2)) (hl : ls[i]? = some (some (.long x))) (kk : G (pc + 2) ls (.long x :: st) σ) : G pc ls st σ := g_step h (fun hx hb _ _ L k => lv_lload hx hb hd (L.2.2.2 _ _ hl) k) kk
theorem g_aload_n (h : Rules cc own lev nL ro G) {k : Fin 4} {x : Nat} (hd : decode cc pc = .ok (.aload_n k, 1)) (hl : ls[(k : Nat)]? = some (some (.ref x))) (kk : G (pc + 1) ls (.ref x :: st) σ) : G pc ls st σ := g_step h (fun {p l e R s m args below meth c H locs cells slots Q la ad} hx hb _ _ L k => lv_aload_n (x := ad x) hx hb hd rfl (L.2.2.2 _ _ hl) k) kk
-- arithmetic
theorem g_iadd (h : Rules cc own lev nL ro G) {x y : Int32} (hd : decode cc pc = .ok (.iadd, 1)) (k : G (pc + 1) ls (.int (x + y) :: st) σ) : G pc ls (.int y :: .int x :: st) σ := g_step h (fun hx hb _ _ _ k => lv_iadd hx hb hd k) k
theorem g_isub (h : Rules cc own lev nL ro G) {x y : Int32} (hd : decode cc pc = .ok (.isub, 1)) (k : G (pc + 1) ls (.int (x - y) :: st) σ) : G pc ls (.int y :: .int x :: st) σ := g_step h (fun hx hb _ _ _ k => lv_isub hx hb hd k) k
theorem g_imul (h : Rules cc own lev nL ro G) {x y : Int32} (hd : decode cc pc = .ok (.imul, 1)) (k : G (pc + 1) ls (.int (x * y) :: st) σ) : G pc ls (.int y :: .int x :: st) σ := g_step h (fun hx hb _ _ _ k => lv_imul hx hb hd k) k
theorem g_iand (h : Rules cc own lev nL ro G) {x y : Int32} (hd : decode cc pc = .ok (.iand, 1)) (k : G (pc + 1) ls (.int (x &&& y) :: st) σ) : G pc ls (.int y :: .int x :: st) σ := g_step h (fun hx hb _ _ _ k => lv_iand hx hb hd k) k
theorem g_ior (h : Rules cc own lev nL ro G) {x y : Int32} (hd : decode cc pc = .ok (.ior, 1)) (k : G (pc + 1) ls (.int (x ||| y) :: st) σ) : G pc ls (.int y :: .int x :: st) σ := g_step h (fun hx hb _ _ _ k => lv_ior hx hb hd k) k
theorem g_idiv (h : Rules cc own lev nL ro G) {x y : Int32} (hd : decode cc pc = .ok (.idiv, 1)) (hn : ¬ y = 0) (k : G (pc + 1) ls (.int (x / y) :: st) σ) : G pc ls (.int y :: .int x :: st) σ := g_step h (fun hx hb _ _ _ k => lv_idiv hx hb hd hn k) k
theorem g_irem (h : Rules cc own lev nL ro G) {x y : Int32} (hd : decode cc pc = .ok (.irem, 1)) (hn : ¬ y = 0) (k : G (pc + 1) ls (.int (x - x / y * y) :: st) σ) : G pc ls (.int y :: .int x :: st) σ := g_step h (fun hx hb _ _ _ k => lv_irem hx hb hd hn k) k
theorem g_ineg (h : Rules cc own lev nL ro G) {x : Int32} (hd : decode cc pc = .ok (.ineg, 1)) (k : G (pc + 1) ls (.int (-x) :: st) σ) : G pc ls (.int x :: st) σ := g_step h (fun hx hb _ _ _ k => lv_ineg hx hb hd k) k
theorem g_ishl (h : Rules cc own lev nL ro G) {x y : Int32} (hd : decode cc pc = .ok (.ishl, 1)) (k : G (pc + 1) ls (.int (x <<< (y &&& 31)) :: st) σ) : G pc ls (.int y :: .int x :: st) σ := g_step h (fun hx hb _ _ _ k => lv_ishl hx hb hd k) k
theorem g_ishr (h : Rules cc own lev nL ro G) {x y : Int32} (hd : decode cc pc = .ok (.ishr, 1)) (k : G (pc + 1) ls (.int (x >>> (y &&& 31)) :: st) σ) : G pc ls (.int y :: .int x :: st) σ := g_step h (fun hx hb _ _ _ k => lv_ishr hx hb hd k) k
theorem g_iushr (h : Rules cc own lev nL ro G) {x y : Int32} (hd : decode cc pc = .ok (.iushr, 1)) (k : G (pc + 1) ls (.int ((x.toUInt32 >>> (y.toUInt32 &&& Int32.toUInt32 31)).toInt32) :: st) σ) : G pc ls (.int y :: .int x :: st) σ := g_step h (fun hx hb _ _ _ k => lv_iushr hx hb hd rfl k) k
theorem g_ladd (h : Rules cc own lev nL ro G) {x y : Int64} (hd : decode cc pc = .ok (.ladd, 1)) (k : G (pc + 1) ls (.long (x + y) :: st) σ) : G pc ls (.long y :: .long x :: st) σ := g_step h (fun hx hb _ _ _ k => lv_ladd hx hb hd k) k
theorem g_lmul (h : Rules cc own lev nL ro G) {x y : Int64} (hd : decode cc pc = .ok (.lmul, 1)) (k : G (pc + 1) ls (.long (x * y) :: st) σ) : G pc ls (.long y :: .long x :: st) σ := g_step h (fun hx hb _ _ _ k => lv_lmul hx hb hd k) k
theorem g_i2l (h : Rules cc own lev nL ro G) {x : Int32} (hd : decode cc pc = .ok (.i2l, 1)) (k : G (pc + 1) ls (.long x.toInt64 :: st) σ) : G pc ls (.int x :: st) σ := g_step h (fun hx hb _ _ _ k => lv_i2l hx hb hd rfl k) k
theorem g_i2b (h : Rules cc own lev nL ro G) {x : Int32} (hd : decode cc pc = .ok (.i2b, 1)) (k : G (pc + 1) ls (.int x.toInt8.toInt32 :: st) σ) : G pc ls (.int x :: st) σ := g_step h (fun hx hb _ _ _ k => lv_i2b hx hb hd rfl k) k
theorem g_i2s (h : Rules cc own lev nL ro G) {x : Int32} (hd : decode cc pc = .ok (.i2s, 1)) (k : G (pc + 1) ls (.int x.toInt16.toInt32 :: st) σ) : G pc ls (.int x :: st) σ := g_step h (fun hx hb _ _ _ k => lv_i2s hx hb hd rfl k) k
theorem g_lcmp (h : Rules cc own lev nL ro G) {x y : Int64} (hd : decode cc pc = .ok (.lcmp, 1)) (k : G (pc + 1) ls (.int (lg_cmp x y) :: st) σ) : G pc ls (.long y :: .long x :: st) σ := g_step h (fun hx hb _ _ _ k => W.lcmp hx hb hd k) k
theorem g_dup (h : Rules cc own lev nL ro G) {v : Value} (hd : decode cc pc = .ok (.dup, 1)) (hc : v.category = 1) (k : G (pc + 1) ls (v :: v :: st) σ) : G pc ls (v :: st) σ := g_step h (fun hx hb _ _ _ k => lv_dup hx hb hd (by rw [fv_cat]; exact hc) k) k
theorem g_dup2 (h : Rules cc own lev nL ro G) {v w : Value} (hd : decode cc pc = .ok (.dup2, 1)) (hc : v.category = 1) (hc2 : w.category = 1) (k : G (pc + 1) ls (v :: w :: v :: w :: st) σ) : G pc ls (v :: w :: st) σ := g_step h (fun hx hb _ _ _ k => lv_dup2_11 hx hb hd (by rw [fv_cat]; exact hc) (by rw [fv_cat]; exact hc2) k) k
theorem g_goto (h : Rules cc own lev nL ro G) {off : Int} {tgt : Nat} (hd : decode cc pc = .ok (.goto off, 3)) (ht : (pc : Int) + off = (tgt : Int)) (k : G tgt ls st σ) : G pc ls st σ := g_step h (fun hx hb _ _ _ k => lv_goto hx hb hd ht k) k
-- branches
theorem g_icmp_eq (h : Rules cc own lev nL ro G) {x y : Int32} {off : Int} {tgt : Nat} (hd : decode cc pc = .ok (.if_icmp .eq off, 3)) (ht : (pc : Int) + off = (tgt : Int)) (kt : x = y → G tgt ls st σ) (kf : ¬ x = y → G (pc + 3) ls st σ) : G pc ls (.int y :: .int x :: st) σ := g_br h (fun hx hb a b => lv_icmp_eq hx hb hd ht a b) kt kf
theorem g_icmp_ne (h : Rules cc own lev nL ro G) {x y : Int32} {off : Int} {tgt : Nat} (hd : decode cc pc = .ok (.if_icmp .ne off, 3)) (ht : (pc : Int) + off = (tgt : Int)) (kt : ¬ x = y → G tgt ls st σ) (kf : x = y → G (pc + 3) ls st σ) : G pc ls (.int y :: .int x :: st) σ := g_br h (fun hx hb a b => lv_icmp_ne hx hb hd ht a (fun c => b (fun n => n c))) kt (fun c => kf (Classical.not_not.mp c))
theorem g_icmp_lt (h : Rules cc own lev nL ro G) {x y : Int32} {off : Int} {tgt : Nat} (hd : decode cc pc = .ok (.if_icmp .lt off, 3)) (ht : (pc : Int) + off = (tgt : Int)) (kt : x < y → G tgt ls st σ) (kf : ¬ x < y → G (pc + 3) ls st σ) : G pc ls (.int y :: .int x :: st) σ := g_br h (fun hx hb a b => lv_icmp_lt hx hb hd ht a b) kt kf
theorem g_icmp_ge (h : Rules cc own lev nL ro G) {x y : Int32} {off : Int} {tgt : Nat} (hd : decode cc pc = .ok (.if_icmp .ge off, 3)) (ht : (pc : Int) + off = (tgt : Int)) (kt : y ≤ x → G tgt ls st σ) (kf : ¬ y ≤ x → G (pc + 3) ls st σ) : G pc ls (.int y :: .int x :: st) σ := g_br h (fun hx hb a b => lv_icmp_ge hx hb hd ht a b) kt kf
theorem g_icmp_gt (h : Rules cc own lev nL ro G) {x y : Int32} {off : Int} {tgt : Nat} (hd : decode cc pc = .ok (.if_icmp .gt off, 3)) (ht : (pc : Int) + off = (tgt : Int)) (kt : y < x → G tgt ls st σ) (kf : ¬ y < x → G (pc + 3) ls st σ) : G pc ls (.int y :: .int x :: st) σ := g_br h (fun hx hb a b => lv_icmp_gt hx hb hd ht a b) kt kf
theorem g_icmp_le (h : Rules cc own lev nL ro G) {x y : Int32} {off : Int} {tgt : Nat} (hd : decode cc pc = .ok (.if_icmp .le off, 3)) (ht : (pc : Int) + off = (tgt : Int)) (kt : x ≤ y → G tgt ls st σ) (kf : ¬ x ≤ y → G (pc + 3) ls st σ) : G pc ls (.int y :: .int x :: st) σ := g_br h (fun hx hb a b => lv_icmp_le hx hb hd ht a b) kt kf
theorem g_if_eq (h : Rules cc own lev nL ro G) {x : Int32} {off : Int} {tgt : Nat} (hd : decode cc pc = .ok (.ifCond .eq off, 3)) (ht : (pc : Int) + off = (tgt : Int)) (kt : x = 0 → G tgt ls st σ) (kf : ¬ x = 0 → G (pc + 3) ls st σ) : G pc ls (.int x :: st) σ := g_br h (fun hx hb a b => lv_if_eq hx hb hd ht a b) kt kf
theorem g_if_ne (h : Rules cc own lev nL ro G) {x : Int32} {off : Int} {tgt : Nat} (hd : decode cc pc = .ok (.ifCond .ne off, 3)) (ht : (pc : Int) + off = (tgt : Int)) (kt : ¬ x = 0 → G tgt ls st σ) (kf : x = 0 → G (pc + 3) ls st σ) : G pc ls (.int x :: st) σ := g_br h (fun hx hb a b => lv_if_ne hx hb hd ht a (fun c => b (fun n => n c))) kt (fun c => kf (Classical.not_not.mp c))
theorem g_if_lt (h : Rules cc own lev nL ro G) {x : Int32} {off : Int} {tgt : Nat} (hd : decode cc pc = .ok (.ifCond .lt off, 3)) (ht : (pc : Int) + off = (tgt : Int)) (kt : x < 0 → G tgt ls st σ) (kf : ¬ x < 0 → G (pc + 3) ls st σ) : G pc ls (.int x :: st) σ := g_br h (fun hx hb a b => lv_if_lt hx hb hd ht a b) kt kf
theorem g_if_ge (h : Rules cc own lev nL ro G) {x : Int32} {off : Int} {tgt : Nat} (hd : decode cc pc = .ok (.ifCond .ge off, 3)) (ht : (pc : Int) + off = (tgt : Int)) (kt : 0 ≤ x → G tgt ls st σ) (kf : ¬ 0 ≤ x → G (pc + 3) ls st σ) : G pc ls (.int x :: st) σ := g_br h (fun hx hb a b => lv_if_ge hx hb hd ht a b) kt kf
theorem g_if_gt (h : Rules cc own lev nL ro G) {x : Int32} {off : Int} {tgt : Nat} (hd : decode cc pc = .ok (.ifCond .gt off, 3)) (ht : (pc : Int) + off = (tgt : Int)) (kt : 0 < x → G tgt ls st σ) (kf : ¬ 0 < x → G (pc + 3) ls st σ) : G pc ls (.int x :: st) σ := g_br h (fun hx hb a b => lv_if_gt hx hb hd ht a b) kt kf
theorem g_if_le (h : Rules cc own lev nL ro G) {x : Int32} {off : Int} {tgt : Nat} (hd : decode cc pc = .ok (.ifCond .le off, 3)) (ht : (pc : Int) + off = (tgt : Int)) (kt : x ≤ 0 → G tgt ls st σ) (kf : ¬ x ≤ 0 → G (pc + 3) ls st σ) : G pc ls (.int x :: st) σ := g_br h (fun hx hb a b => lv_if_le hx hb hd ht a b) kt kf
theorem g_tin (h : Rules cc own lev nL ro G) {dflt lo hi : Int} {offs : Array Int} {len : Nat} {x : Int32} {off : Int} {tgt : Nat} (hd : decode cc pc = .ok (.tableswitch dflt lo hi offs, len)) (h1 : ¬ x.toInt < lo) (h2 : ¬ hi < x.toInt) (ho : offs[(x.toInt - lo).toNat]? = some off) (ht : (pc : Int) + off = (tgt : Int)) (k : G tgt ls st σ) : G pc ls (.int x :: st) σ := g_step h (fun hx hb _ _ _ k => lv_tableIn hx hb hd h1 h2 ho ht k) k
theorem g_tout (h : Rules cc own lev nL ro G) {dflt lo hi : Int} {offs : Array Int} {len : Nat} {x : Int32} {tgt : Nat} (hd : decode cc pc = .ok (.tableswitch dflt lo hi offs, len)) (h1 : x.toInt < lo ∨ hi < x.toInt) (ht : (pc : Int) + dflt = (tgt : Int)) (k : G tgt ls st σ) : G pc ls (.int x :: st) σ := g_step h (fun hx hb _ _ _ k => lv_tableOut hx hb hd h1 ht k) k
theorem g_look (h : Rules cc own lev nL ro G) {dflt : Int} {ps : Array (Int × Int)} {len : Nat} {x : Int32} {off : Int} {tgt : Nat} (hd : decode cc pc = .ok (.lookupswitch dflt ps, len)) (hp : (ps.toList.zip (ps.toList.drop 1)).all (fun (a, next) => a.1 < next.1) = true) (ho : Op.lookupswitch.offset ps.toList dflt x.toInt = off) (ht : (pc : Int) + off = (tgt : Int)) (k : G tgt ls st σ) : G pc ls (.int x :: st) σ := g_step h (fun hx hb _ _ _ k => lv_lookup hx hb hd hp ho ht k) k
end GR
end
section
section GS
variable {cc : ByteArray} {own : String} {lev nL : Nat} {ro : Nat → Option (Nat × (Nat → Int32))} {G : Nat → List (Option Value) → List Value → Hp → Prop} {pc : Nat} {ls : List (Option Value)} {st : List Value} {σ : Hp}
/-- the locals as the kit lists them -/
def lvL (ad : Nat → Nat) (ls : List (Option Value)) : List (Nat × Value) := (List.range ls.length).filterMap fun j => match ls[j]? with
  | some (some w) => some (j, fv ad w)
  | _ => none
theorem lvL_mem {ad : Nat → Nat} {ls : List (Option Value)} {j : Nat} {w : Value} (h : ls[j]? = some (some w)) : (j, fv ad w) ∈ lvL ad ls := by
  unfold lvL
  refine List.mem_filterMap.mpr ⟨j, List.mem_range.mpr (List.getElem?_eq_some_iff.mp h).1, ?_⟩
  rw [h]
theorem lvL_of {ad : Nat → Nat} {ls : List (Option Value)} {q : Nat × Value} (h : q ∈ lvL ad ls) : ∃ w, ls[q.1]? = some (some w) ∧ q.2 = fv ad w := by
  unfold lvL at h
  obtain ⟨j, -, hj⟩ := List.mem_filterMap.mp h
  split at hj
  · rename_i w hw
    cases hj
    exact ⟨w, hw, rfl⟩
  · cases hj
theorem Lv.has {ad : Nat → Nat} {la : Array Slot} {ls : List (Option Value)} (h : Lv ad la nL ls) : lv_has la nL (lvL ad ls) := by
  refine ⟨h.1, h.2.2.1, fun q hq => ?_⟩
  obtain ⟨w, h1, h2⟩ := lvL_of hq
  rw [h2]; exact h.2.2.2 _ _ h1
def notL : Option Value → Prop
  | some (.long _) => False
  | some (.double _) => False
  | _ => True
theorem notL_cat {w : Value} (h : notL (some w)) : w.category = 1 := by cases w <;> first | rfl | exact h.elim
/-- the place ahead of i holds no long -/
def okS (ls : List (Option Value)) : Nat → Prop
  | 0 => True
  | i + 1 => notL ((ls[i]?).getD none)
theorem Lv.store {ad : Nat → Nat} {la la' : Array Slot} {ls : List (Option Value)} {i : Nat} {v : Value} (h : Lv ad la nL ls) (ok : okS ls i) (hi : i < nL) (h' : lv_has la' nL ((i, fv ad v) :: (lvL ad ls).filter (fun q => !(q.1 == i) && !(q.1 + 1 == i && q.2.category == 2)))) : Lv ad la' nL (ls.set i (some v)) := by
  refine ⟨h'.1, by rw [List.length_set]; exact h.2.1, h'.2.1, fun j w hj => ?_⟩
  rw [List.getElem?_set] at hj
  by_cases e : i = j
  · subst e
    rw [if_pos rfl, if_pos (by rw [h.2.1]; exact hi)] at hj
    cases hj
    exact h'.2.2 (i, fv ad v) List.mem_cons_self
  · rw [if_neg e] at hj
    refine h'.2.2 (j, fv ad w) (List.mem_cons_of_mem _ (List.mem_filter.mpr ⟨lvL_mem hj, ?_⟩))
    have c1 : (j == i) = false := by simp; omega
    have c2 : (j + 1 == i && (fv ad w).category == 2) = false := by
      by_cases e2 : j + 1 = i
      · subst e2
        simp only [okS, hj, Option.getD_some] at ok
        rw [fv_cat, notL_cat ok]; simp
      · simp [e2]
    simp only [c1, c2]; rfl
theorem g_store (h : Rules cc own lev nL ro G) {i len : Nat} {v : Value} (ok : okS ls i) (hi : i < ls.length)
    (hs : ∀ {p : Program} {l : Launch} {e : Env} {R : Room} {s : State} {m : MethodId} {args : Array Value} {below : List Frame} {meth : Method} {c : Code} {H : Heap} {locs : List Loc} {cells slots : Nat} {Q : State → Prop} {la : Array Slot} {ad : Nat → Nat} {lv : List (Nat × Value)}, p.tables.exec = Jvm.exec → c.code = cc → lv_has la nL lv → i < nL → (∀ la' : Array Slot, lv_has la' nL ((i, fv ad v) :: lv.filter (fun q => !(q.1 == i) && !(q.1 + 1 == i && q.2.category == 2))) → W p l e R s m args below meth c H locs cells slots Q (F0 m (pc + len) la' (st.map (fv ad)))) → W p l e R s m args below meth c H locs cells slots Q (F0 m pc la ((v :: st).map (fv ad))))
    (k : G (pc + len) (ls.set i (some v)) st σ) : G pc ls (v :: st) σ := by
  obtain ⟨p, l, e, R, s, m, args, below, meth, c, ad, D, cA, A0, cells, slots, Q, ⟨hx, hb, -⟩, rfl⟩ := h
  intro H locs la hP hS hl
  have hi' : i < nL := by rw [← hl.2.1]; exact hi
  exact hs hx hb hl.has hi' (fun la' h' => k H locs la' hP hS (hl.store ok hi' h'))
theorem g_istore_n (h : Rules cc own lev nL ro G) {k : Fin 4} {x : Int32} {ls' : List (Option Value)} (hd : decode cc pc = .ok (.istore_n k, 1)) (ok : okS ls k) (hi : (k : Nat) < ls.length) (e : ls.set k (some (.int x)) = ls') (kk : G (pc + 1) ls' st σ) : G pc ls (.int x :: st) σ := by
  subst e; exact g_store h ok hi (fun hx hb hl hi k => lv_istore_n hx hb hd rfl hl hi rfl k) kk
theorem g_istore (h : Rules cc own lev nL ro G) {i : Nat} {x : Int32} {ls' : List (Option Value)} (hd : decode cc pc = .ok (.istore i, 2)) (ok : okS ls i) (hi : i < ls.length) (e : ls.set i (some (.int x)) = ls') (kk : G (pc + 2) ls' st σ) : G pc ls (.int x :: st) σ := by
  subst e; exact g_store h ok hi (fun hx hb hl hi k => lv_istore hx hb hd hl hi rfl k) kk
theorem g_iinc (h : Rules cc own lev nL ro G) {i : Nat} {n : Int} {x v : Int32} {ls' : List (Option Value)} (hd : decode cc pc = .ok (.iinc i n, 3)) (hl : ls[i]? = some (some (.int x))) (hv : x + Int32.ofInt n = v) (ok : okS ls i) (e : ls.set i (some (.int v)) = ls') (kk : G (pc + 3) ls' st σ) : G pc ls st σ := by
  subst e
  obtain ⟨p, l, e, R, s, m, args, below, meth, c, ad, D, cA, A0, cells, slots, Q, ⟨hx, hb, -⟩, rfl⟩ := h
  intro H locs la hP hS hl0
  have hi : i < nL := by rw [← hl0.2.1]; exact (List.getElem?_eq_some_iff.mp hl).1
  obtain ⟨k, hk⟩ := List.getElem?_of_mem (lvL_mem (ad := ad) hl)
  exact lv_iinc hx hb hd hl0.has hk hv hi rfl (fun la' h' => kk H locs la' hP hS (hl0.store ok hi h'))
theorem Lv.storeL {ad : Nat → Nat} {la la' : Array Slot} {ls : List (Option Value)} {i : Nat} {v : Value} (h : Lv ad la nL ls) (ok : okS ls i) (hi : i + 1 < nL) (h' : lv_has la' nL ((i, fv ad v) :: (lvL ad ls).filter (fun q => !(q.1 == i) && (!(q.1 == i + 1) && !(q.1 + 1 == i && q.2.category == 2))))) : Lv ad la' nL ((ls.set i (some v)).set (i + 1) none) := by
  refine ⟨h'.1, by rw [List.length_set, List.length_set]; exact h.2.1, h'.2.1, fun j w hj => ?_⟩
  rw [List.getElem?_set, List.getElem?_set] at hj
  by_cases e1 : i + 1 = j
  · subst e1
    rw [if_pos rfl, List.length_set, if_pos (by rw [h.2.1]; exact hi)] at hj
    cases hj
  rw [if_neg e1] at hj
  by_cases e : i = j
  · subst e
    rw [if_pos rfl, if_pos (by rw [h.2.1]; omega)] at hj
    cases hj
    exact h'.2.2 (i, fv ad v) List.mem_cons_self
  · rw [if_neg e] at hj
    refine h'.2.2 (j, fv ad w) (List.mem_cons_of_mem _ (List.mem_filter.mpr ⟨lvL_mem hj, ?_⟩))
    have c1 : (j == i) = false := by simp; omega
    have c3 : (j == i + 1) = false := by simp; omega
    have c2 : (j + 1 == i && (fv ad w).category == 2) = false := by
      by_cases e2 : j + 1 = i
      · subst e2
        simp only [okS, hj, Option.getD_some] at ok
        rw [fv_cat, notL_cat ok]; simp
      · simp [e2]
    simp only [c1, c2, c3]; rfl
theorem g_lstore_n (h : Rules cc own lev nL ro G) {k : Fin 4} {x : Int64} {ls' : List (Option Value)} (hd : decode cc pc = .ok (.lstore_n k, 1)) (ok : okS ls k) (hi : (k : Nat) + 1 < ls.length) (e : (ls.set k (some (.long x))).set (k + 1) none = ls') (kk : G (pc + 1) ls' st σ) : G pc ls (.long x :: st) σ := by
  subst e
  obtain ⟨p, l, e, R, s, m, args, below, meth, c, ad, D, cA, A0, cells, slots, Q, ⟨hx, hb, -⟩, rfl⟩ := h
  intro H locs la hP hS hl0
  have hi' : (k : Nat) + 1 < nL := by rw [← hl0.2.1]; exact hi
  exact lv_lstore_n hx hb hd rfl hl0.has hi' rfl (fun la' h' => kk H locs la' hP hS (hl0.storeL ok hi' h'))
theorem g_lstore (h : Rules cc own lev nL ro G) {i : Nat} {x : Int64} {ls' : List (Option Value)} (hd : decode cc pc = .ok (.lstore i, 2)) (ok : okS ls i) (hi : i + 1 < ls.length) (e : (ls.set i (some (.long x))).set (i + 1) none = ls') (kk : G (pc + 2) ls' st σ) : G pc ls (.long x :: st) σ := by
  subst e
  obtain ⟨p, l, e, R, s, m, args, below, meth, c, ad, D, cA, A0, cells, slots, Q, ⟨hx, hb, -⟩, rfl⟩ := h
  intro H locs la hP hS hl0
  have hi' : i + 1 < nL := by rw [← hl0.2.1]; exact hi
  exact lv_lstore hx hb hd hl0.has hi' rfl (fun la' h' => kk H locs la' hP hS (hl0.storeL ok hi' h'))
-- fields
theorem u_in0 : ∀ w ∈ u_ws RX0 TX0 3, w ∈ TW := by
  intro w hw
  have h : w ∈ [Cond.laysFinal RX0 "ParcelBall$Sheets" "bits" "[I", Cond.laysFinal RX0 "ParcelBall$Sheets" "sizes" "[I", Cond.laysFinal RX0 "ParcelBall$Sheets" "numbers" "[I"] := hw
  simp only [List.mem_cons, List.not_mem_nil, or_false] at h
  rcases h with rfl | rfl | rfl
  · exact ly_X0_bits
  · exact ly_X0_sizes
  · exact ly_X0_numbers
theorem u_in1 : ∀ w ∈ u_ws RX1 TX1 2, w ∈ TW := by
  intro w hw
  have h : w ∈ [Cond.lays RX1 "ParcelBall$Tape" "size" "I", Cond.laysFinal RX1 "ParcelBall$Tape" "bytes" "[I"] := hw
  simp only [List.mem_cons, List.not_mem_nil, or_false] at h
  rcases h with rfl | rfl
  · exact ly_X1_size
  · exact ly_X1_bytes
theorem u_in2 : ∀ w ∈ u_ws RX2 TX2 6, w ∈ TW := by
  intro w hw
  have h : w ∈ [Cond.laysFinal RX2 "ParcelBall$TextReader" "tape" "LParcelBall$Tape;", Cond.laysFinal RX2 "ParcelBall$TextReader" "world" "LParcelBall$World;", Cond.lays RX2 "ParcelBall$TextReader" "tokenSort" "I", Cond.lays RX2 "ParcelBall$TextReader" "tokenStart" "I", Cond.lays RX2 "ParcelBall$TextReader" "tokenEnd" "I", Cond.lays RX2 "ParcelBall$TextReader" "tokenNumber" "I"] := hw
  simp only [List.mem_cons, List.not_mem_nil, or_false] at h
  rcases h with rfl | rfl | rfl | rfl | rfl | rfl
  · exact ly_X2_tape
  · exact ly_X2_world
  · exact ly_X2_tokenSort
  · exact ly_X2_tokenStart
  · exact ly_X2_tokenEnd
  · exact ly_X2_tokenNumber
theorem u_in3 : ∀ w ∈ u_ws RX3 TX3 11, w ∈ TW := by
  intro w hw
  have h : w ∈ [Cond.lays RX3 "ParcelBall$World" "at" "I", Cond.lays RX3 "ParcelBall$World" "drag" "I", Cond.lays RX3 "ParcelBall$World" "day" "I", Cond.lays RX3 "ParcelBall$World" "wentOff" "I", Cond.lays RX3 "ParcelBall$World" "z" "I", Cond.lays RX3 "ParcelBall$World" "pieceCount" "I", Cond.lays RX3 "ParcelBall$World" "loose" "I", Cond.lays RX3 "ParcelBall$World" "up" "I", Cond.lays RX3 "ParcelBall$World" "down" "I", Cond.laysFinal RX3 "ParcelBall$World" "facts" "[I", Cond.laysFinal RX3 "ParcelBall$World" "spots" "[I"] := hw
  simp only [List.mem_cons, List.not_mem_nil, or_false] at h
  rcases h with rfl | rfl | rfl | rfl | rfl | rfl | rfl | rfl | rfl | rfl | rfl
  · exact ly_X3_at
  · exact ly_X3_drag
  · exact ly_X3_day
  · exact ly_X3_wentOff
  · exact ly_X3_z
  · exact ly_X3_pieceCount
  · exact ly_X3_loose
  · exact ly_X3_up
  · exact ly_X3_down
  · exact ly_X3_facts
  · exact ly_X3_spots
theorem u_in4 : ∀ w ∈ u_ws RX4 TX4 8, w ∈ TW := by
  intro w hw
  have h : w ∈ [Cond.laysFinal RX4 "ParcelBall" "current" "LParcelBall$World;", Cond.laysFinal RX4 "ParcelBall" "trial" "LParcelBall$World;", Cond.laysFinal RX4 "ParcelBall" "kept" "LParcelBall$World;", Cond.lays RX4 "ParcelBall" "isKept" "Z", Cond.laysFinal RX4 "ParcelBall" "tape" "LParcelBall$Tape;", Cond.laysFinal RX4 "ParcelBall" "reader" "LParcelBall$TextReader;", Cond.laysFinal RX4 "ParcelBall" "sheets" "LParcelBall$Sheets;", Cond.laysFinal RX4 "ParcelBall" "findingsTold" "[I"] := hw
  simp only [List.mem_cons, List.not_mem_nil, or_false] at h
  rcases h with rfl | rfl | rfl | rfl | rfl | rfl | rfl | rfl
  · exact ly_X4_current
  · exact ly_X4_trial
  · exact ly_X4_kept
  · exact ly_X4_isKept
  · exact ly_X4_tape
  · exact ly_X4_reader
  · exact ly_X4_sheets
  · exact ly_X4_findingsTold
theorem u_in5 : ∀ w ∈ u_ws RX5 TX5 17, w ∈ TW := by
  intro w hw
  have h : w ∈ [Cond.laysFinal RX5 "ParcelBallModel" "s" "[I", Cond.laysFinal RX5 "ParcelBallModel" "keptS" "[I", Cond.laysFinal RX5 "ParcelBallModel" "other" "[I", Cond.laysFinal RX5 "ParcelBallModel" "aside" "[I", Cond.laysFinal RX5 "ParcelBallModel" "statuses" "[I", Cond.lays RX5 "ParcelBallModel" "isKept" "Z", Cond.lays RX5 "ParcelBallModel" "loose" "I", Cond.laysFinal RX5 "ParcelBallModel" "tape" "[I", Cond.lays RX5 "ParcelBallModel" "taped" "I", Cond.lays RX5 "ParcelBallModel" "from" "I", Cond.lays RX5 "ParcelBallModel" "to" "I", Cond.lays RX5 "ParcelBallModel" "value" "I", Cond.lays RX5 "ParcelBallModel" "isWrong" "Z", Cond.laysFinal RX5 "ParcelBallModel" "bitsOf" "[I", Cond.laysFinal RX5 "ParcelBallModel" "sizeOf" "[I", Cond.laysFinal RX5 "ParcelBallModel" "numbers" "[I", Cond.laysFinal RX5 "ParcelBallModel" "moved" "[I"] := hw
  simp only [List.mem_cons, List.not_mem_nil, or_false] at h
  rcases h with rfl | rfl | rfl | rfl | rfl | rfl | rfl | rfl | rfl | rfl | rfl | rfl | rfl | rfl | rfl | rfl | rfl
  · exact ly_X5_s
  · exact ly_X5_keptS
  · exact ly_X5_other
  · exact ly_X5_aside
  · exact ly_X5_statuses
  · exact ly_X5_isKept
  · exact ly_X5_loose
  · exact ly_X5_tape
  · exact ly_X5_taped
  · exact ly_X5_from
  · exact ly_X5_to
  · exact ly_X5_value
  · exact ly_X5_isWrong
  · exact ly_X5_bitsOf
  · exact ly_X5_sizeOf
  · exact ly_X5_numbers
  · exact ly_X5_moved
/-- of a class: its number, name, fields; what is needed to read and write them -/
def Kl (ci : Nat) (C : String) (T : u_T) (N : Nat) : Prop := vwCl[ci]? = some (C, T, N) ∧ (∀ w ∈ u_ws C T N, w ∈ TW) ∧ (∃ ty0 : Nat → FieldType, ∀ k, k < N → parseFieldDescriptor (T k).2.2.1 = some (ty0 k)) ∧ (∀ a, a < N → ∀ b, b < N → a ≠ b → (T a).2.1 ≠ (T b).2.1) ∧ ∀ k, k < N → (T k).1 = C
theorem Kl0 : Kl 0 RX0 TX0 3 := ⟨rfl, u_in0, ⟨tyX0, tyX0_ok⟩, nmX0, by decide +kernel⟩
theorem Kl1 : Kl 1 RX1 TX1 2 := ⟨rfl, u_in1, ⟨tyX1, tyX1_ok⟩, nmX1, by decide +kernel⟩
theorem Kl2 : Kl 2 RX2 TX2 6 := ⟨rfl, u_in2, ⟨tyX2, tyX2_ok⟩, nmX2, by decide +kernel⟩
theorem Kl3 : Kl 3 RX3 TX3 11 := ⟨rfl, u_in3, ⟨tyX3, tyX3_ok⟩, nmX3, by decide +kernel⟩
theorem Kl4 : Kl 4 RX4 TX4 8 := ⟨rfl, u_in4, ⟨tyX4, tyX4_ok⟩, nmX4, by decide +kernel⟩
theorem Kl5 : Kl 5 RX5 TX5 17 := ⟨rfl, u_in5, ⟨tyX5, tyX5_ok⟩, nmX5, by decide +kernel⟩
theorem g_getI (h : Rules cc own lev nL ro G) {ci N : Nat} {C : String} {T : u_T} (K : Kl ci C T N) {k j b i idx : Nat} {fs : List Fl} (hk : k < 29) (hl : lay k = .inl (ci, fs)) (hj : fs[j]? = some (.inr (b, i))) (hjN : j < N) (hw : Cond.fieldLink own idx C (T j).2.1 (T j).2.2.1 ∈ TW) (hd : decode cc pc = .ok (.getfield idx, 3)) (kk : G (pc + 3) ls (.int (σ b i) :: st) σ) : G pc ls (.ref k :: st) σ := by
  obtain ⟨p, l, e, R, s, m, args, below, meth, c, ad, D, cA, A0, cells, slots, Q, ⟨hx, hb, hml, hown, hts, hE, -⟩, rfl⟩ := h
  intro H locs la hP hS hl0
  have he : (wsOf ad cA σ)[k]? = some (ad k, .inr (ci, fs.map (evF ad σ))) := by rw [ws_at hk, cell_o hl]
  exact va_get (v := .int (σ b i)) hx hb hts K.2.1 hown hE.1 hP k he K.1 j hjN (hts _ hw) (fun _ h9 => by rw [← K.2.2.2.2 j hjN]; exact h9) (by rw [List.getElem?_map, hj]; rfl) hd (kk H locs la hP hS hl0)
theorem g_getR (h : Rules cc own lev nL ro G) {ci N : Nat} {C : String} {T : u_T} (K : Kl ci C T N) {k j r idx : Nat} {fs : List Fl} (hk : k < 29) (hl : lay k = .inl (ci, fs)) (hj : fs[j]? = some (.inl r)) (hjN : j < N) (hw : Cond.fieldLink own idx C (T j).2.1 (T j).2.2.1 ∈ TW) (hd : decode cc pc = .ok (.getfield idx, 3)) (kk : G (pc + 3) ls (.ref r :: st) σ) : G pc ls (.ref k :: st) σ := by
  obtain ⟨p, l, e, R, s, m, args, below, meth, c, ad, D, cA, A0, cells, slots, Q, ⟨hx, hb, hml, hown, hts, hE, -⟩, rfl⟩ := h
  intro H locs la hP hS hl0
  have he : (wsOf ad cA σ)[k]? = some (ad k, .inr (ci, fs.map (evF ad σ))) := by rw [ws_at hk, cell_o hl]
  exact va_get (v := .ref (ad r)) hx hb hts K.2.1 hown hE.1 hP k he K.1 j hjN (hts _ hw) (fun _ h9 => by rw [← K.2.2.2.2 j hjN]; exact h9) (by rw [List.getElem?_map, hj]; rfl) hd (kk H locs la hP hS hl0)
theorem g_put (h : Rules cc own lev nL ro G) {ci N : Nat} {C : String} {T : u_T} (K : Kl ci C T N) {k j b i idx : Nat} {fs : List Fl} {v : Int32} {ty : FieldType} (hk : k < 29) (hl : lay k = .inl (ci, fs)) (hj : fs[j]? = some (.inr (b, i))) (hjN : j < N) (hw : Cond.fieldLink own idx C (T j).2.1 (T j).2.2.1 ∈ TW) (hfin : (T j).2.2.2 = false) (hty : parseFieldDescriptor (T j).2.2.1 = some ty) (hn : narrow ty (.int v) = .int v) (hfit : fits ty (.int v) = true) (hd : decode cc pc = .ok (.putfield idx, 3)) (kk : G (pc + 3) ls st (hset σ b i v)) : G pc ls (.int v :: .ref k :: st) σ := by
  obtain ⟨p, l, e, R, s, m, args, below, meth, c, ad, D, cA, A0, cells, slots, Q, ⟨hx, hb, hml, hown, hts, hE, hA, -⟩, rfl⟩ := h
  intro H locs la hP hS hl0
  have he : (wsOf ad cA σ)[k]? = some (ad k, .inr (ci, fs.map (evF ad σ))) := by rw [ws_at hk, cell_o hl]
  obtain ⟨ty0, hty0⟩ := K.2.2.1
  refine va_put (v := .int v) (ty := ty) hx hb hts K.2.1 ty0 hty0 K.2.2.2.1 hown hE.1 hP (ws_D hE.2.1 hA) hS k he K.1 j hjN (hts _ hw) (fun _ h9 => by rw [← K.2.2.2.2 j hjN]; exact h9) hfin hty hn hfit (by rw [List.length_map]; exact (List.getElem?_eq_some_iff.mp hj).1) hd (fun H1 locs1 hP1 hD1 hS1 => ?_)
  rw [ws_put hk hl hj] at hP1
  exact kk H1 locs1 la hP1 hS1 hl0
-- arrays
theorem g_iald (h : Rules cc own lev nL ro G) {k b o n : Nat} {x : Int32} (j : Nat) (hk : k < 29) (hl : lay k = .inr (b, o, n)) (hn : n < 2 ^ 31) (hj : j < n) (hx0 : x = nI j) (hd : decode cc pc = .ok (.iaload, 1)) (kk : G (pc + 1) ls (.int (σ b (o + j)) :: st) σ) : G pc ls (.int x :: .ref k :: st) σ := by
  subst hx0
  obtain ⟨p, l, e, R, s, m, args, below, meth, c, ad, D, cA, A0, cells, slots, Q, ⟨hx, hb, hml, hown, hts, hE, -⟩, rfl⟩ := h
  intro H locs la hP hS hl0
  have he : (wsOf ad cA σ)[k]? = some (ad k, .inl (cA, n, .inl (arF σ b o n))) := by rw [ws_at hk, cell_a hl]
  refine va_iald hx hb hE.1 hP k 0 he rfl (vp_in_nI hj hn) hd ?_
  rw [nI_clamp (by omega), show arF σ b o n j = σ b (o + j) from if_pos hj]
  exact kk H locs la hP hS hl0
theorem g_iast (h : Rules cc own lev nL ro G) {k b o n : Nat} {x v : Int32} (j : Nat) (hk : k < 29) (hl : lay k = .inr (b, o, n)) (hn : n < 2 ^ 31) (hj : j < n) (hx0 : x = nI j) (hd : decode cc pc = .ok (.iastore, 1)) (kk : G (pc + 1) ls st (hset σ b (o + j) v)) : G pc ls (.int v :: .int x :: .ref k :: st) σ := by
  subst hx0
  obtain ⟨p, l, e, R, s, m, args, below, meth, c, ad, D, cA, A0, cells, slots, Q, ⟨hx, hb, hml, hown, hts, hE, hA, -⟩, rfl⟩ := h
  intro H locs la hP hS hl0
  have he : (wsOf ad cA σ)[k]? = some (ad k, .inl (cA, n, .inl (arF σ b o n))) := by rw [ws_at hk, cell_a hl]
  refine va_iast hx hb hE.1 hP (ws_D hE.2.1 hA) hS k 0 he rfl (vp_in_nI hj hn) hd (fun H1 locs1 hP1 hD1 hS1 => ?_)
  rw [nI_clamp (by omega), ws_ast hk hl hj] at hP1
  exact kk H1 locs1 la hP1 hS1 hl0
theorem g_alen (h : Rules cc own lev nL ro G) {k b o n : Nat} (hk : k < 29) (hl : lay k = .inr (b, o, n)) (hd : decode cc pc = .ok (.arraylength, 1)) (kk : G (pc + 1) ls (.int (nI n) :: st) σ) : G pc ls (.ref k :: st) σ := by
  obtain ⟨p, l, e, R, s, m, args, below, meth, c, ad, D, cA, A0, cells, slots, Q, ⟨hx, hb, hml, hown, hts, hE, -⟩, rfl⟩ := h
  intro H locs la hP hS hl0
  have he : (wsOf ad cA σ)[k]? = some (ad k, .inl (cA, n, .inl (arF σ b o n))) := by rw [ws_at hk, cell_a hl]
  exact va_alen hx hb hE.1 hP k 0 he rfl rfl hd (kk H locs la hP hS hl0)
/-- an array that nobody writes -/
theorem g_roald (h : Rules cc own lev nL ro G) {t n : Nat} {f : Nat → Int32} {x : Int32} (j : Nat) (hr : ro t = some (n, f)) (hn : n < 2 ^ 31) (hj : j < n) (hx0 : x = nI j) (hd : decode cc pc = .ok (.iaload, 1)) (kk : G (pc + 1) ls (.int (f j) :: st) σ) : G pc ls (.int x :: .ref t :: st) σ := by
  subst hx0
  obtain ⟨p, l, e, R, s, m, args, below, meth, c, ad, D, cA, A0, cells, slots, Q, ⟨hx, hb, hml, hown, hts, hE, hA, hR, hT⟩, rfl⟩ := h
  intro H locs la hP hS hl0
  exact va_ti hx hb (hT t n f hr) hS (vp_in_nI hj hn) (show Value.int (f (nI j).toNatClampNeg) = .int (f j) by rw [nI_clamp (by omega)]) hd (kk H locs la hP hS hl0)
end GS
end
section
section GC
variable {cc : ByteArray} {own : String} {lev nL : Nat} {ro : Nat → Option (Nat × (Nat → Int32))} {G : Nat → List (Option Value) → List Value → Hp → Prop} {pc : Nat} {ls : List (Option Value)} {st : List Value} {σ : Hp}
theorem g_gets (h : Rules cc own lev nL ro G) {idx t : Nat} {n : String} (hZ : ∀ {ad : Nat → Nat} {D : va_G} {cA : ClassId} {A : Nat → Prop} {U : State} {H : Heap}, En ad D cA A U H → va_Z "ParcelBall" n "[I" (.ref (ad t)) A U H) (hw : Cond.fieldLink own idx "ParcelBall" n "[I" ∈ TW) (hd : decode cc pc = .ok (.getstatic idx, 3)) (kk : G (pc + 3) ls (.ref t :: st) σ) : G pc ls st σ := by
  obtain ⟨p, l, e, R, s, m, args, below, meth, c, ad, D, cA, A0, cells, slots, Q, ⟨hx, hb, hml, hown, hts, hE, -⟩, rfl⟩ := h
  intro H locs la hP hS hl0
  exact va_gets hx hb (hZ hE) hS hown (hts _ hw) (fun _ h9 => h9) hd (kk H locs la hP hS hl0)
theorem z_KA {ad : Nat → Nat} {D : va_G} {cA : ClassId} {A : Nat → Prop} {U : State} {H : Heap} (h : En ad D cA A U H) : va_Z "ParcelBall" "KIND_ABOVE" "[I" (.ref (ad 40)) A U H := h.2.2.1.1
theorem z_FL {ad : Nat → Nat} {D : va_G} {cA : ClassId} {A : Nat → Prop} {U : State} {H : Heap} (h : En ad D cA A U H) : va_Z "ParcelBall" "FACT_LEAST" "[I" (.ref (ad 41)) A U H := h.2.2.1.2.1
theorem z_FM {ad : Nat → Nat} {D : va_G} {cA : ClassId} {A : Nat → Prop} {U : State} {H : Heap} (h : En ad D cA A U H) : va_Z "ParcelBall" "FACT_MOST" "[I" (.ref (ad 42)) A U H := h.2.2.1.2.2.1
theorem g_max (h : Rules cc own lev nL ro G) {idx : Nat} {x y : Int32} (hl : 1 ≤ lev) (hw : Cond.methodLink own idx Lib.Math.max.name ∈ TW) (hd : decode cc pc = .ok (.invokestatic idx, 3)) (hst : (st.map fun v => v.category).sum ≤ 8) (kk : G (pc + 3) ls (.int (if x < y then y else x) :: st) σ) : G pc ls (.int y :: .int x :: st) σ := by
  obtain ⟨p, l, e, R, s, m, args, below, meth, c, ad, D, cA, A0, cells, slots, Q, ⟨hx, hb, hml, hown, hts, hE, hA, ⟨r1, r2, r3, r4⟩, -⟩, rfl⟩ := h
  intro H locs la hP hS hl0
  have e1 : ((st.map (fv ad)).map fun v => v.category) = st.map fun v => v.category := by rw [List.map_map]; exact List.map_congr_left fun v _ => fv_cat ad v
  exact va_mmax hx hb (hml.trans hl0.1.symm) hown (hts _ hw) (hts _ sm_yJ9_max_7cf53) (hts _ in_J9) (hts _ cd_yJ9_max_7cf53) (by omega) (by rw [e1]; omega) r3 r4 hd (kk H locs la hP hS hl0)
theorem g_min (h : Rules cc own lev nL ro G) {idx : Nat} {x y : Int32} (hl : 1 ≤ lev) (hw : Cond.methodLink own idx Lib.Math.min.name ∈ TW) (hd : decode cc pc = .ok (.invokestatic idx, 3)) (hst : (st.map fun v => v.category).sum ≤ 8) (kk : G (pc + 3) ls (.int (if y < x then y else x) :: st) σ) : G pc ls (.int y :: .int x :: st) σ := by
  obtain ⟨p, l, e, R, s, m, args, below, meth, c, ad, D, cA, A0, cells, slots, Q, ⟨hx, hb, hml, hown, hts, hE, hA, ⟨r1, r2, r3, r4⟩, -⟩, rfl⟩ := h
  intro H locs la hP hS hl0
  have e1 : ((st.map (fv ad)).map fun v => v.category) = st.map fun v => v.category := by rw [List.map_map]; exact List.map_congr_left fun v _ => fv_cat ad v
  exact va_mmin hx hb (hml.trans hl0.1.symm) hown (hts _ hw) (hts _ sm_yJ9_min_7cf53) (hts _ in_J9) (hts _ cd_yJ9_min_7cf53) (by omega) (by rw [e1]; omega) r3 r4 hd (kk H locs la hP hS hl0)
theorem g_abs (h : Rules cc own lev nL ro G) {idx : Nat} {x : Int32} (hl : 1 ≤ lev) (hw : Cond.methodLink own idx Lib.Math.abs.name ∈ TW) (hd : decode cc pc = .ok (.invokestatic idx, 3)) (hst : (st.map fun v => v.category).sum ≤ 8) (kk : G (pc + 3) ls (.int (if 0 ≤ x then x else 0 - x) :: st) σ) : G pc ls (.int x :: st) σ := by
  obtain ⟨p, l, e, R, s, m, args, below, meth, c, ad, D, cA, A0, cells, slots, Q, ⟨hx, hb, hml, hown, hts, hE, hA, ⟨r1, r2, r3, r4⟩, -⟩, rfl⟩ := h
  intro H locs la hP hS hl0
  have e1 : ((st.map (fv ad)).map fun v => v.category) = st.map fun v => v.category := by rw [List.map_map]; exact List.map_congr_left fun v _ => fv_cat ad v
  exact va_mabs hx hb (hml.trans hl0.1.symm) hown (hts _ hw) (hts _ sm_yJ9_abs_0f7a4) (hts _ in_J9) (hts _ cd_yJ9_abs_0f7a4) (by omega) (by rw [e1]; omega) r3 r4 hd (kk H locs la hP hS hl0)
/-- System.arraycopy of n numbers from place sp of the row k0 to place dp of the row k1 -/
theorem g_cpy (h : Rules cc own lev nL ro G) {idx k0 k1 b0 o0 n0 b1 o1 n1 : Nat} {xs xd xn : Int32} (sp dp n : Nat) (hl : 1 ≤ lev) (hk0 : k0 < 29) (hk1 : k1 < 29) (hl0 : lay k0 = .inr (b0, o0, n0)) (hl1 : lay k1 = .inr (b1, o1, n1)) (h0 : sp + n ≤ n0) (h1 : dp + n ≤ n1) (hn0 : n0 < 2 ^ 31) (hn1 : n1 < 2 ^ 31) (es : xs = nI sp) (ed : xd = nI dp) (en : xn = nI n) (hw : Cond.methodLink own idx arraycopyName ∈ TW) (hd : decode cc pc = .ok (.invokestatic idx, 3)) (hst : (st.map fun v => v.category).sum ≤ 8) (kk : G (pc + 3) ls st (rset σ b1 (o1 + dp) n (fun j => σ b0 (o0 + sp + j)))) : G pc ls (.int xn :: .int xd :: .ref k1 :: .int xs :: .ref k0 :: st) σ := by
  subst es; subst ed; subst en
  obtain ⟨p, l, e, R, s, m, args, below, meth, c, ad, D, cA, A0, cells, slots, Q, ⟨hx, hb, hml, hown, hts, hE, hA, ⟨r1, r2, r3, r4⟩, -⟩, rfl⟩ := h
  intro H locs la hP hS hlv
  have e1 : ((st.map (fv ad)).map fun v => v.category) = st.map fun v => v.category := by rw [List.map_map]; exact List.map_congr_left fun v _ => fv_cat ad v
  have he0 : (wsOf ad cA σ)[k0]? = some (ad k0, .inl (cA, n0, .inl (arF σ b0 o0 n0))) := by rw [ws_at hk0, cell_a hl0]
  have he1 : (wsOf ad cA σ)[k1]? = some (ad k1, .inl (cA, n1, .inl (arF σ b1 o1 n1))) := by rw [ws_at hk1, cell_a hl1]
  have q1 : (nI sp).toNatClampNeg = sp := nI_clamp (by omega)
  have q2 : (nI dp).toNatClampNeg = dp := nI_clamp (by omega)
  have q3 : (nI n).toNatClampNeg = n := nI_clamp (by omega)
  refine va_copyi (ty := .int) hx hb (hml.trans hlv.1.symm) hown (hts _ hw) (hts _ na_arraycopy) (hts _ sm_arraycopy) (hts _ in_J10) hE.1 hP (ws_D hE.2.1 hA) hS k0 k1 0 0 he0 he1 rfl rfl rfl (nI_pos (by omega)) (nI_pos (by omega)) (nI_pos (by omega)) (by rw [q1, q3]; exact h0) (by rw [q2, q3]; exact h1) (fun _ _ => rfl) (by omega) (Nat.le_trans (m := 8 + (nativeFrameWords "java/lang/System" "arraycopy" 5 + 11)) (by rw [e1]; omega) (Nat.le_trans (m := 36) (by decide +kernel) (by omega))) hd (fun H1 locs1 hP1 hD1 hS1 => ?_)
  rw [q1, q2, q3] at hP1
  rw [ws_cpy (σ := σ) (d := dp) (n := n) (f := fun j => σ b0 (o0 + sp + j)) hk1 hl1 h1 (fun j => ?_)] at hP1
  · exact kk H1 locs1 la hP1 hS1 hlv
  · unfold va_cpy
    by_cases hj : dp ≤ j ∧ j < dp + n
    · rw [if_pos hj, if_pos hj]
      unfold arF
      rw [if_pos (by omega)]
      congr 1; omega
    · rw [if_neg hj, if_neg hj]
-- calls
theorem va_callG {p : Program} {l : Launch} {e : Env} {R : Room} {s : State} {m : MethodId} {args : Array Value} {below : List Frame} {meth : Method} {c : Code} {H : Heap} {locs : List Loc} {cells slots : Nat} {Q : State → Prop} {pc : Nat} {la : Array Slot} {rest st0 : List Value} {a : Array Value} {A0 : Nat → Prop} {ad : Nat → Nat} {D : va_G} {cA : ClassId} {post : Option Value → Hp → Prop}
    (hr : va_Run p l e R s m args below meth c H locs cells slots 0 0 (F0 m pc la st0) rest (Qg ad D cA post a) (Aof ad)) (hS : va_S A0 s.heap H locs) (hA : ∀ k, k < 29 → A0 (ad k))
    (kk : ∀ (r : Option Value) (σ' : Hp) (H1 : Heap) (locs1 : List Loc), post r σ' → va_P D vwCl (wsOf ad cA σ') H1 → va_S A0 s.heap H1 locs1 → W p l e R s m args below meth c H1 locs1 cells slots Q (F0 m (pc + 3) la ((r.map (fv ad)).toList ++ rest))) : W p l e R s m args below meth c H locs cells slots Q (F0 m pc la st0) := by
  intro T hT X
  obtain ⟨v, st₀, t, T', L, h0, X', hL, e1, e2, ⟨⟨r, σ', hv, hp, hb⟩, hz, hk⟩, st⟩ := hr T hT X
  cases hv
  rw [h0] at hz hk
  have hA' : ∀ q, Aof ad q → A0 q := by rintro q ⟨k, hk, rfl⟩; exact hA k hk
  obtain ⟨t2, a1, b1⟩ := kk r σ' T'.heap (locs ++ L) hp (by rw [e1]; exact hb)
    ⟨Nat.le_trans hS.1 (by rw [e1]; exact hz), fun q h1 h2 => by rw [e1, hk q (Nat.lt_of_lt_of_le h1 hS.1) (fun z => h2 (hA' q z))]; exact hS.2.1 q h1 h2, fun q hq => by
      rcases List.mem_append.mp hq with h | h
      · exact hS.2.2 q h
      · exact hA' _ (hL q h)⟩ T' rfl X'
  exact ⟨t2, st t2 a1, b1⟩
theorem PcG_blind {ad : Nat → Nat} {D : va_G} {cA : ClassId} {as : List Value} {σ : Hp} : FrameBlind (PcG ad D cA as σ) := fun _ _ _ _ h => ⟨h.1, h.2.1, h.2.2.same rfl⟩
/-- what a call must know of the method that it calls -/
def CI (y : MethodName) (bytes : ByteArray) (maxL : Nat) (ret : Option FieldType) (n : Nat) : Prop := (y.cls ≠ "java/lang/invoke/MethodHandle" ∧ y.cls ≠ "java/lang/invoke/VarHandle" ∧ (parseMethodDescriptor y.desc).map (fun d => d.parameters.length) = some n) ∧ maxL ≤ 17 ∧ Cond.code y bytes maxL ret ∈ TW ∧ Cond.initialized y.cls ∈ TW
def CIV (y : MethodName) (bytes : ByteArray) (maxL : Nat) (ret : Option FieldType) (n : Nat) : Prop := CI y bytes maxL ret n ∧ Cond.instanceMethod y ∈ TW ∧ Cond.selects y.cls y y ∈ TW
def CIS (y : MethodName) (bytes : ByteArray) (maxL : Nat) (ret : Option FieldType) (n : Nat) : Prop := CI y bytes maxL ret n ∧ Cond.static y ∈ TW
theorem TW_good : GoodIn TW TW := fun w h => ⟨h, good_of_word (List.mem_filter.mp h).2⟩
theorem wsM_good {y : MethodName} {bytes : ByteArray} {maxL : Nat} {ret : Option FieldType} (h : Cond.code y bytes maxL ret ∈ TW) : GoodIn TW (wsM y bytes maxL ret) := by
  intro w hw
  rcases List.mem_cons.mp hw with rfl | hw
  · exact TW_good _ h
  · exact TW_good _ hw
theorem callB_G {R : Room} {s : State} {args : Array Value} {own : String} {idx lev lev' n maxL : Nat} {y : MethodName} {bytes : ByteArray} {ret : Option FieldType} (hts : ∀ w ∈ TW, w.before args s = true) (ci : CI y bytes maxL ret n) (hlink : Cond.methodLink own idx y ∈ TW) (hlev : lev' + 1 ≤ lev) (hr : lev ≤ R.frames ∧ 36 * lev ≤ R.locals) : CallB R s args own idx y bytes maxL ret (wsM y bytes maxL ret) (rmL lev') 0 0 n :=
  callB_of n hts (wsM_good ci.2.2.1) rfl rfl rfl (hts _ ci.2.2.2) (hts _ hlink) ci.1 ⟨by show lev' + 1 ≤ R.frames; omega, by show 8 + (maxL + 11) + 36 * lev' ≤ R.locals; have := ci.2.1; omega⟩
theorem st_room {ad : Nat → Nat} {m : MethodId} {la : Array Slot} {st0 : List Value} (hst : (st.map fun v => v.category).sum ≤ 8) : 2 * (F0 m pc la st0).monitorRoom + ((st.map (fv ad)).map fun v => v.category).sum ≤ 8 := by
  have e1 : ((st.map (fv ad)).map fun v => v.category) = st.map fun v => v.category := by rw [List.map_map]; exact List.map_congr_left fun v _ => fv_cat ad v
  exact lv_room (by rw [e1]; exact hst)
theorem r_toList {ad : Nat → Nat} (r : Option Value) : (r.map (fv ad)).toList = r.toList.map (fv ad) := by cases r <;> rfl
theorem g_cv (h : Rules cc own lev nL ro G) {y : MethodName} {bytes : ByteArray} {maxL n idx lev' k ci : Nat} {ret : Option FieldType} {q : vw_C} {fs : List Fl} {as stk : List Value} {post : Option Value → Hp → Prop} (civ : CIV y bytes maxL ret n) (hd : decode cc pc = .ok (.invokevirtual idx, 3)) (hlink : Cond.methodLink own idx y ∈ TW) (hlev : lev' + 1 ≤ lev) (hk : k < 29) (hl : lay k = .inl (ci, fs)) (hc : vwCl[ci]? = some q) (hq : q.1 = y.cls) (ct : Ct y (wsM y bytes maxL ret) lev' (.ref k :: as) σ post) (hn : as.length = n) (hst : (st.map fun v => v.category).sum ≤ 8) (hs : stk = as.reverse ++ .ref k :: st) (kk : ∀ r σ', post r σ' → G (pc + 3) ls (r.toList ++ st) σ') : G pc ls stk σ := by
  subst hs
  obtain ⟨p, l, e, R, s, m, args, below, meth, c, ad, D, cA, A0, cells, slots, Q, ⟨hx, hb, hml, hown, hts, hE, hA, ⟨r1, r2, r3, r4⟩, -⟩, rfl⟩ := h
  intro H locs la hP hS hl0
  have he : (wsOf ad cA σ)[k]? = some (ad k, .inr (ci, fs.map (evF ad σ))) := by rw [ws_at hk, cell_o hl]
  have hA' : ∀ q, Aof ad q → A0 q := by rintro q ⟨k, hk, rfl⟩; exact hA k hk
  have hcw : CallW R s args own y.cls idx y bytes maxL ret (wsM y bytes maxL ret) (rmL lev') 0 0 n := ⟨callB_G hts civ.1 hlink hlev ⟨r1, r2⟩, hts _ civ.2.1, hts _ civ.2.2⟩
  refine va_callG (va_runV (As := as.map (fv ad)) (rest := st.map (fv ad)) (b := ad k) (Ts := TW) ⟨hx, hb, hml, hown, hts⟩ (ct l ad D cA) hcw ⟨PcG_blind, by rw [← hq]; exact va_recv hE.1 hP hc he, fun U hU hW => ⟨rfl, by rw [hU]; exact hP, by rw [hU]; exact hE.next hW (fun a h1 h2 => hS.2.1 a h1 h2) hA'⟩⟩ rfl (by rw [List.length_map]; exact hn) hl0.1 (by simp [fv]) (st_room hst) hd ⟨by omega, by omega⟩) hS hA (fun r σ' H1 locs1 hp hP1 hS1 => ?_)
  have := kk r σ' hp H1 locs1 la hP1 hS1 hl0
  rw [List.map_append] at this
  rw [r_toList]
  exact this
theorem g_cs (h : Rules cc own lev nL ro G) {y : MethodName} {bytes : ByteArray} {maxL n idx lev' : Nat} {ret : Option FieldType} {as stk : List Value} {post : Option Value → Hp → Prop} (cis : CIS y bytes maxL ret n) (hd : decode cc pc = .ok (.invokestatic idx, 3)) (hlink : Cond.methodLink own idx y ∈ TW) (hlev : lev' + 1 ≤ lev) (ct : Ct y (wsM y bytes maxL ret) lev' as σ post) (hn : as.length = n) (hst : (st.map fun v => v.category).sum ≤ 8) (hs : stk = as.reverse ++ st) (kk : ∀ r σ', post r σ' → G (pc + 3) ls (r.toList ++ st) σ') : G pc ls stk σ := by
  subst hs
  obtain ⟨p, l, e, R, s, m, args, below, meth, c, ad, D, cA, A0, cells, slots, Q, ⟨hx, hb, hml, hown, hts, hE, hA, ⟨r1, r2, r3, r4⟩, -⟩, rfl⟩ := h
  intro H locs la hP hS hl0
  have hA' : ∀ q, Aof ad q → A0 q := by rintro q ⟨k, hk, rfl⟩; exact hA k hk
  refine va_callG (va_runS (As := as.map (fv ad)) (rest := st.map (fv ad)) (Ts := TW) ⟨hx, hb, hml, hown, hts⟩ (ct l ad D cA) ⟨callB_G hts cis.1 hlink hlev ⟨r1, r2⟩, hts _ cis.2⟩ ⟨PcG_blind, fun U hU hW => ⟨rfl, by rw [hU]; exact hP, by rw [hU]; exact hE.next hW (fun a h1 h2 => hS.2.1 a h1 h2) hA'⟩⟩ rfl (by rw [List.length_map]; exact hn) hl0.1 (by simp) (st_room hst) hd ⟨by omega, by omega⟩) hS hA (fun r σ' H1 locs1 hp hP1 hS1 => ?_)
  have := kk r σ' hp H1 locs1 la hP1 hS1 hl0
  rw [List.map_append] at this
  rw [r_toList]
  exact this
/-- a private static method of the host, out of a nested class -/
theorem g_cn (h : Rules cc own lev nL ro G) {y : MethodName} {bytes : ByteArray} {maxL n idx lev' : Nat} {ret : Option FieldType} {as stk : List Value} {post : Option Value → Hp → Prop} (cis : CIS y bytes maxL ret n) (hd : decode cc pc = .ok (.invokestatic idx, 3)) (hlink : (own, idx, y) ∈ NW) (hlev : lev' + 1 ≤ lev) (ct : Ct y (wsM y bytes maxL ret) lev' as σ post) (hn : as.length = n) (hst : (st.map fun v => v.category).sum ≤ 8) (hs : stk = as.reverse ++ st) (kk : ∀ r σ', post r σ' → G (pc + 3) ls (r.toList ++ st) σ') : G pc ls stk σ := by
  subst hs
  obtain ⟨p, l, e, R, s, m, args, below, meth, c, ad, D, cA, A0, cells, slots, Q, ⟨hx, hb, hml, hown, hts, hE, hA, ⟨r1, r2, r3, r4⟩, -⟩, rfl⟩ := h
  intro H locs la hP hS hl0
  have hA' : ∀ q, Aof ad q → A0 q := by rintro q ⟨k, hk, rfl⟩; exact hA k hk
  have cn := va_cnB (R := R) (own := own) (index := idx) (host := "ParcelBall") (rm := rmL lev') (mc := 0) (ms := 0) n hts (wsM_good cis.1.2.2.1) rfl rfl rfl (hE.2.2.2.2.2.2 _ hlink) (hts _ cis.1.2.2.2) cis.1.1 ⟨by show lev' + 1 ≤ R.frames; omega, by show 8 + (maxL + 11) + 36 * lev' ≤ R.locals; have := cis.1.2.1; omega⟩
  refine va_callG (va_runSN (As := as.map (fv ad)) (rest := st.map (fv ad)) (Ts := TW) ⟨hx, hb, hml, hown, hts⟩ (ct l ad D cA) ⟨cn, hts _ cis.2, trivial⟩ ⟨PcG_blind, fun U hU hW => ⟨rfl, by rw [hU]; exact hP, by rw [hU]; exact hE.next hW (fun a h1 h2 => hS.2.1 a h1 h2) hA'⟩⟩ rfl (by rw [List.length_map]; exact hn) hl0.1 (by simp) (st_room hst) hd ⟨by omega, by omega⟩) hS hA (fun r σ' H1 locs1 hp hP1 hS1 => ?_)
  have := kk r σ' hp H1 locs1 la hP1 hS1 hl0
  rw [List.map_append] at this
  rw [r_toList]
  exact this
/-- a method's contract out of its judgement -/
theorem Ct.of {y : MethodName} {bytes : ByteArray} {maxL lev : Nat} {ret : Option FieldType} {as : List Value} {σ : Hp} {post : Option Value → Hp → Prop} (hy : plainName y.cls = true) (hlen : (lsIn as).length ≤ maxL)
    (body : ∀ G : Nat → List (Option Value) → List Value → Hp → Prop, Rules bytes y.cls lev maxL roS G →
      (∀ pc ls v σ' ty, ret = some ty → narrow ty (.int v) = .int v → decode bytes pc = .ok (.ireturn, 1) → post (some (.int v)) σ' → G pc ls [.int v] σ') →
      (∀ pc ls v σ', ret = some .long → decode bytes pc = .ok (.lreturn, 1) → post (some (.long v)) σ' → G pc ls [.long v] σ') →
      (∀ pc ls v σ', ((∃ n, ret = some (.object n)) ∨ ∃ t, ret = some (.array t)) → decode bytes pc = .ok (.areturn, 1) → post (some (.ref v)) σ' → G pc ls [.ref v] σ') →
      (∀ pc ls σ', ret = none → decode bytes pc = .ok (.return_, 1) → post none σ' → G pc ls [] σ') →
      G 0 (lsIn as ++ List.replicate (maxL - (lsIn as).length) none) [] σ) : Ct y (wsM y bytes maxL ret) lev as σ post := by
  intro l ad D cA
  refine Met.ofW (cc := bytes) (maxL := maxL) (ret := ret) hy rfl ?_
  intro p e s m args below meth c s₁ B hml hv
  obtain ⟨rfl, hP, hE⟩ := hv
  have hx := B.exec
  have hb := B.bytes
  have hr := B.returns
  have hts0 := atoms_spec (ws := wsM y bytes maxL ret) B.pre
  have hts : ∀ w ∈ TW, w.before ((as.map (fv ad)).toArray) s = true := fun w h => hts0 w (List.mem_cons_of_mem _ h)
  have hown : s.vm.findClass y.cls = some m.cls := findClass_of_methodNamed B.named
  have hlocks := B.notSynchronized
  have hA : ∀ k, k < 29 → Aof ad (ad k) := fun k hk => ⟨k, hk, rfl⟩
  rw [lg_entry_eq]
  refine body (Gof p l e (rmL lev) s m (as.map (fv ad)).toArray below meth c ad D cA (Aof ad) 0 0 maxL (MQ below (Qg ad D cA post) (as.map (fv ad)).toArray s 0 0 (Aof ad))) ⟨p, l, e, rmL lev, s, m, _, below, meth, c, ad, D, cA, Aof ad, 0, 0, _, ⟨hx, hb, hml, hown, hts, hE, hA, ⟨Nat.le_refl _, Nat.le_refl _, Nat.zero_le _, Nat.zero_le _⟩, hE.2.2.2.1⟩, rfl⟩ ?_ ?_ ?_ ?_ s.heap [] _ hP va_S.rf (Lv_entry ad as hlen)
  · intro pc ls v σ' ty h1 h2 h3 h4 H locs la hP hS hl
    exact W.zret hx hb (hr.trans h1) h2 (fun t ht hW => ⟨⟨some (.int v), σ', rfl, h4, by rw [ht]; exact hP⟩, hS.F ht⟩) hS.2.2 h3
  · intro pc ls v σ' h1 h3 h4 H locs la hP hS hl
    exact W.lret hx hb (hr.trans h1) (fun t ht hW => ⟨⟨some (.long v), σ', rfl, h4, by rw [ht]; exact hP⟩, hS.F ht⟩) hS.2.2 h3
  · intro pc ls v σ' h1 h3 h4 H locs la hP hS hl
    rcases h1 with ⟨n, h1⟩ | ⟨n, h1⟩
    · exact W.aret (v := .ref (ad v)) hx hb (hr.trans h1) (Or.inl ⟨n, rfl⟩) (Or.inr ⟨_, rfl⟩) (fun t ht hW => ⟨⟨some (.ref v), σ', rfl, h4, by rw [ht]; exact hP⟩, hS.F ht⟩) hS.2.2 h3
    · exact W.aret (v := .ref (ad v)) hx hb (hr.trans h1) (Or.inr ⟨n, rfl⟩) (Or.inr ⟨_, rfl⟩) (fun t ht hW => ⟨⟨some (.ref v), σ', rfl, h4, by rw [ht]; exact hP⟩, hS.F ht⟩) hS.2.2 h3
  · intro pc ls σ' h1 h3 h4 H locs la hP hS hl
    exact W.vret hx hb (hr.trans h1) (fun t ht hW => ⟨⟨none, σ', rfl, h4, by rw [ht]; exact hP⟩, hS.F ht⟩) hS.2.2 h3
end GC
end
