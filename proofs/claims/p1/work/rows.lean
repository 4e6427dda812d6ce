section
-- ===== PART A: goes FIRST, ahead of the names: the tables' words, and 'selects' of the private methods out of them =====
/-- a private method of a class that the tables say can be made, by its rows of tables_1 -/
def lw_okq (q : MethodName × Nat) : Prop := (q.1.cls ≠ "java/lang/invoke/MethodHandle" ∧ q.1.cls ≠ "java/lang/invoke/VarHandle") ∧ Cond.instantiable q.1.cls q.2 ∈ tables_1 ∧ Cond.privateMethod q.1 ∈ tables_1 ∧ Cond.instanceMethod q.1 ∈ tables_1
theorem lw_p0 : lw_okq (⟨"TurfHeaps$Tape", "put", "(I)V"⟩, 7) := ⟨⟨by decide +kernel, by decide +kernel⟩, List.mem_of_getElem? (i := 27) (by decide +kernel), List.mem_of_getElem? (i := 403) (by decide +kernel), List.mem_of_getElem? (i := 404) (by decide +kernel)⟩
theorem lw_p1 : lw_okq (⟨"TurfHeaps$Tape", "readInto", "(LTurfHeaps$Moor;)Z"⟩, 7) := ⟨⟨by decide +kernel, by decide +kernel⟩, List.mem_of_getElem? (i := 27) (by decide +kernel), List.mem_of_getElem? (i := 415) (by decide +kernel), List.mem_of_getElem? (i := 416) (by decide +kernel)⟩
theorem lw_p2 : lw_okq (⟨"TurfHeaps$Moor", "clear", "()V"⟩, 13) := ⟨⟨by decide +kernel, by decide +kernel⟩, List.mem_of_getElem? (i := 59) (by decide +kernel), List.mem_of_getElem? (i := 419) (by decide +kernel), List.mem_of_getElem? (i := 420) (by decide +kernel)⟩
theorem lw_p3 : lw_okq (⟨"TurfHeaps$Tape", "nextToken", "()V"⟩, 7) := ⟨⟨by decide +kernel, by decide +kernel⟩, List.mem_of_getElem? (i := 27) (by decide +kernel), List.mem_of_getElem? (i := 423) (by decide +kernel), List.mem_of_getElem? (i := 424) (by decide +kernel)⟩
theorem lw_p4 : lw_okq (⟨"TurfHeaps$Tape", "readLine", "(LTurfHeaps$Moor;)V"⟩, 7) := ⟨⟨by decide +kernel, by decide +kernel⟩, List.mem_of_getElem? (i := 27) (by decide +kernel), List.mem_of_getElem? (i := 436) (by decide +kernel), List.mem_of_getElem? (i := 437) (by decide +kernel)⟩
theorem lw_p5 : lw_okq (⟨"TurfHeaps$Tape", "readFirst", "(LTurfHeaps$Moor;)V"⟩, 7) := ⟨⟨by decide +kernel, by decide +kernel⟩, List.mem_of_getElem? (i := 27) (by decide +kernel), List.mem_of_getElem? (i := 440) (by decide +kernel), List.mem_of_getElem? (i := 441) (by decide +kernel)⟩
theorem lw_p6 : lw_okq (⟨"TurfHeaps$Tape", "isWord", "(Ljava/lang/String;)Z"⟩, 7) := ⟨⟨by decide +kernel, by decide +kernel⟩, List.mem_of_getElem? (i := 27) (by decide +kernel), List.mem_of_getElem? (i := 445) (by decide +kernel), List.mem_of_getElem? (i := 446) (by decide +kernel)⟩
theorem lw_p7 : lw_okq (⟨"TurfHeaps$Tape", "expect", "(Z)V"⟩, 7) := ⟨⟨by decide +kernel, by decide +kernel⟩, List.mem_of_getElem? (i := 27) (by decide +kernel), List.mem_of_getElem? (i := 497) (by decide +kernel), List.mem_of_getElem? (i := 498) (by decide +kernel)⟩
theorem lw_p8 : lw_okq (⟨"TurfHeaps$Tape", "fail", "(I)V"⟩, 7) := ⟨⟨by decide +kernel, by decide +kernel⟩, List.mem_of_getElem? (i := 27) (by decide +kernel), List.mem_of_getElem? (i := 501) (by decide +kernel), List.mem_of_getElem? (i := 502) (by decide +kernel)⟩
theorem lw_p9 : lw_okq (⟨"TurfHeaps$Tape", "expectNumber", "(II)I"⟩, 7) := ⟨⟨by decide +kernel, by decide +kernel⟩, List.mem_of_getElem? (i := 27) (by decide +kernel), List.mem_of_getElem? (i := 506) (by decide +kernel), List.mem_of_getElem? (i := 507) (by decide +kernel)⟩
theorem lw_p10 : lw_okq (⟨"TurfHeaps$Tape", "number", "()I"⟩, 7) := ⟨⟨by decide +kernel, by decide +kernel⟩, List.mem_of_getElem? (i := 27) (by decide +kernel), List.mem_of_getElem? (i := 510) (by decide +kernel), List.mem_of_getElem? (i := 511) (by decide +kernel)⟩
theorem lw_p11 : lw_okq (⟨"TurfHeaps$Tape", "readHeap", "(LTurfHeaps$Moor;)V"⟩, 7) := ⟨⟨by decide +kernel, by decide +kernel⟩, List.mem_of_getElem? (i := 27) (by decide +kernel), List.mem_of_getElem? (i := 520) (by decide +kernel), List.mem_of_getElem? (i := 521) (by decide +kernel)⟩
theorem lw_p12 : lw_okq (⟨"TurfHeaps$Tape", "readCart", "(LTurfHeaps$Moor;)V"⟩, 7) := ⟨⟨by decide +kernel, by decide +kernel⟩, List.mem_of_getElem? (i := 27) (by decide +kernel), List.mem_of_getElem? (i := 526) (by decide +kernel), List.mem_of_getElem? (i := 527) (by decide +kernel)⟩
theorem lw_p13 : lw_okq (⟨"TurfHeaps$Moor", "become", "(LTurfHeaps$Moor;)V"⟩, 13) := ⟨⟨by decide +kernel, by decide +kernel⟩, List.mem_of_getElem? (i := 59) (by decide +kernel), List.mem_of_getElem? (i := 531) (by decide +kernel), List.mem_of_getElem? (i := 532) (by decide +kernel)⟩
theorem lw_p14 : lw_okq (⟨"TurfHeaps", "forget", "()V"⟩, 16) := ⟨⟨by decide +kernel, by decide +kernel⟩, List.mem_of_getElem? (i := 19) (by decide +kernel), List.mem_of_getElem? (i := 538) (by decide +kernel), List.mem_of_getElem? (i := 539) (by decide +kernel)⟩
theorem lw_p15 : lw_okq (⟨"TurfHeaps", "isTold", "(I)Z"⟩, 16) := ⟨⟨by decide +kernel, by decide +kernel⟩, List.mem_of_getElem? (i := 19) (by decide +kernel), List.mem_of_getElem? (i := 550) (by decide +kernel), List.mem_of_getElem? (i := 551) (by decide +kernel)⟩
def lw_privs_1 : List (MethodName × Nat) := [(⟨"TurfHeaps$Tape", "put", "(I)V"⟩, 7), (⟨"TurfHeaps$Tape", "readInto", "(LTurfHeaps$Moor;)Z"⟩, 7), (⟨"TurfHeaps$Moor", "clear", "()V"⟩, 13), (⟨"TurfHeaps$Tape", "nextToken", "()V"⟩, 7), (⟨"TurfHeaps$Tape", "readLine", "(LTurfHeaps$Moor;)V"⟩, 7), (⟨"TurfHeaps$Tape", "readFirst", "(LTurfHeaps$Moor;)V"⟩, 7), (⟨"TurfHeaps$Tape", "isWord", "(Ljava/lang/String;)Z"⟩, 7), (⟨"TurfHeaps$Tape", "expect", "(Z)V"⟩, 7), (⟨"TurfHeaps$Tape", "fail", "(I)V"⟩, 7), (⟨"TurfHeaps$Tape", "expectNumber", "(II)I"⟩, 7), (⟨"TurfHeaps$Tape", "number", "()I"⟩, 7), (⟨"TurfHeaps$Tape", "readHeap", "(LTurfHeaps$Moor;)V"⟩, 7), (⟨"TurfHeaps$Tape", "readCart", "(LTurfHeaps$Moor;)V"⟩, 7), (⟨"TurfHeaps$Moor", "become", "(LTurfHeaps$Moor;)V"⟩, 13), (⟨"TurfHeaps", "forget", "()V"⟩, 16), (⟨"TurfHeaps", "isTold", "(I)Z"⟩, 16)]
theorem lw_r1 : ∀ q ∈ lw_privs_1, lw_okq q := List.forall_mem_cons.mpr ⟨lw_p0, List.forall_mem_cons.mpr ⟨lw_p1, List.forall_mem_cons.mpr ⟨lw_p2, List.forall_mem_cons.mpr ⟨lw_p3, List.forall_mem_cons.mpr ⟨lw_p4, List.forall_mem_cons.mpr ⟨lw_p5, List.forall_mem_cons.mpr ⟨lw_p6, List.forall_mem_cons.mpr ⟨lw_p7, List.forall_mem_cons.mpr ⟨lw_p8, List.forall_mem_cons.mpr ⟨lw_p9, List.forall_mem_cons.mpr ⟨lw_p10, List.forall_mem_cons.mpr ⟨lw_p11, List.forall_mem_cons.mpr ⟨lw_p12, List.forall_mem_cons.mpr ⟨lw_p13, List.forall_mem_cons.mpr ⟨lw_p14, List.forall_mem_cons.mpr ⟨lw_p15, fun _ h => absurd h List.not_mem_nil⟩⟩⟩⟩⟩⟩⟩⟩⟩⟩⟩⟩⟩⟩⟩⟩
theorem lw_p16 : lw_okq (⟨"TurfHeaps", "isCart", "(I)Z"⟩, 16) := ⟨⟨by decide +kernel, by decide +kernel⟩, List.mem_of_getElem? (i := 19) (by decide +kernel), List.mem_of_getElem? (i := 558) (by decide +kernel), List.mem_of_getElem? (i := 559) (by decide +kernel)⟩
theorem lw_p17 : lw_okq (⟨"TurfHeaps", "isDay", "(I)Z"⟩, 16) := ⟨⟨by decide +kernel, by decide +kernel⟩, List.mem_of_getElem? (i := 19) (by decide +kernel), List.mem_of_getElem? (i := 569) (by decide +kernel), List.mem_of_getElem? (i := 570) (by decide +kernel)⟩
theorem lw_p18 : lw_okq (⟨"TurfHeaps", "noMoor", "()Z"⟩, 16) := ⟨⟨by decide +kernel, by decide +kernel⟩, List.mem_of_getElem? (i := 19) (by decide +kernel), List.mem_of_getElem? (i := 573) (by decide +kernel), List.mem_of_getElem? (i := 574) (by decide +kernel)⟩
theorem lw_p19 : lw_okq (⟨"TurfHeaps", "rowOfDay", "(I)LTurfHeaps$Row;"⟩, 16) := ⟨⟨by decide +kernel, by decide +kernel⟩, List.mem_of_getElem? (i := 19) (by decide +kernel), List.mem_of_getElem? (i := 577) (by decide +kernel), List.mem_of_getElem? (i := 578) (by decide +kernel)⟩
theorem lw_p20 : lw_okq (⟨"TurfHeaps$Season", "asTold", "(LTurfHeaps$Moor;)V"⟩, 9) := ⟨⟨by decide +kernel, by decide +kernel⟩, List.mem_of_getElem? (i := 140) (by decide +kernel), List.mem_of_getElem? (i := 581) (by decide +kernel), List.mem_of_getElem? (i := 582) (by decide +kernel)⟩
theorem lw_p21 : lw_okq (⟨"TurfHeaps$Season", "pass", "(LTurfHeaps$Moor;)V"⟩, 9) := ⟨⟨by decide +kernel, by decide +kernel⟩, List.mem_of_getElem? (i := 140) (by decide +kernel), List.mem_of_getElem? (i := 585) (by decide +kernel), List.mem_of_getElem? (i := 586) (by decide +kernel)⟩
theorem lw_p22 : lw_okq (⟨"TurfHeaps$Season", "begin", "(LTurfHeaps$Moor;)V"⟩, 9) := ⟨⟨by decide +kernel, by decide +kernel⟩, List.mem_of_getElem? (i := 140) (by decide +kernel), List.mem_of_getElem? (i := 589) (by decide +kernel), List.mem_of_getElem? (i := 590) (by decide +kernel)⟩
theorem lw_p23 : lw_okq (⟨"TurfHeaps$Row", "clear", "()V"⟩, 5) := ⟨⟨by decide +kernel, by decide +kernel⟩, List.mem_of_getElem? (i := 147) (by decide +kernel), List.mem_of_getElem? (i := 593) (by decide +kernel), List.mem_of_getElem? (i := 594) (by decide +kernel)⟩
theorem lw_p24 : lw_okq (⟨"TurfHeaps$Row", "lay", "(I)V"⟩, 5) := ⟨⟨by decide +kernel, by decide +kernel⟩, List.mem_of_getElem? (i := 147) (by decide +kernel), List.mem_of_getElem? (i := 597) (by decide +kernel), List.mem_of_getElem? (i := 598) (by decide +kernel)⟩
theorem lw_p25 : lw_okq (⟨"TurfHeaps$Season", "arrive", "(LTurfHeaps$Moor;I)V"⟩, 9) := ⟨⟨by decide +kernel, by decide +kernel⟩, List.mem_of_getElem? (i := 140) (by decide +kernel), List.mem_of_getElem? (i := 602) (by decide +kernel), List.mem_of_getElem? (i := 603) (by decide +kernel)⟩
theorem lw_p26 : lw_okq (⟨"TurfHeaps$Season", "at", "(I)LTurfHeaps$Row;"⟩, 9) := ⟨⟨by decide +kernel, by decide +kernel⟩, List.mem_of_getElem? (i := 140) (by decide +kernel), List.mem_of_getElem? (i := 606) (by decide +kernel), List.mem_of_getElem? (i := 607) (by decide +kernel)⟩
theorem lw_p27 : lw_okq (⟨"TurfHeaps$Row", "dropHighest", "()I"⟩, 5) := ⟨⟨by decide +kernel, by decide +kernel⟩, List.mem_of_getElem? (i := 147) (by decide +kernel), List.mem_of_getElem? (i := 610) (by decide +kernel), List.mem_of_getElem? (i := 611) (by decide +kernel)⟩
theorem lw_p28 : lw_okq (⟨"TurfHeaps$Season", "next", "(LTurfHeaps$Moor;I)V"⟩, 9) := ⟨⟨by decide +kernel, by decide +kernel⟩, List.mem_of_getElem? (i := 140) (by decide +kernel), List.mem_of_getElem? (i := 614) (by decide +kernel), List.mem_of_getElem? (i := 615) (by decide +kernel)⟩
theorem lw_p29 : lw_okq (⟨"TurfHeaps$Row", "become", "(LTurfHeaps$Row;)V"⟩, 5) := ⟨⟨by decide +kernel, by decide +kernel⟩, List.mem_of_getElem? (i := 147) (by decide +kernel), List.mem_of_getElem? (i := 618) (by decide +kernel), List.mem_of_getElem? (i := 619) (by decide +kernel)⟩
theorem lw_p30 : lw_okq (⟨"TurfHeaps$Row", "step", "(I)V"⟩, 5) := ⟨⟨by decide +kernel, by decide +kernel⟩, List.mem_of_getElem? (i := 147) (by decide +kernel), List.mem_of_getElem? (i := 622) (by decide +kernel), List.mem_of_getElem? (i := 623) (by decide +kernel)⟩
theorem lw_p31 : lw_okq (⟨"TurfHeaps$Row", "lower", "(I)I"⟩, 5) := ⟨⟨by decide +kernel, by decide +kernel⟩, List.mem_of_getElem? (i := 147) (by decide +kernel), List.mem_of_getElem? (i := 627) (by decide +kernel), List.mem_of_getElem? (i := 628) (by decide +kernel)⟩
def lw_privs_2 : List (MethodName × Nat) := [(⟨"TurfHeaps", "isCart", "(I)Z"⟩, 16), (⟨"TurfHeaps", "isDay", "(I)Z"⟩, 16), (⟨"TurfHeaps", "noMoor", "()Z"⟩, 16), (⟨"TurfHeaps", "rowOfDay", "(I)LTurfHeaps$Row;"⟩, 16), (⟨"TurfHeaps$Season", "asTold", "(LTurfHeaps$Moor;)V"⟩, 9), (⟨"TurfHeaps$Season", "pass", "(LTurfHeaps$Moor;)V"⟩, 9), (⟨"TurfHeaps$Season", "begin", "(LTurfHeaps$Moor;)V"⟩, 9), (⟨"TurfHeaps$Row", "clear", "()V"⟩, 5), (⟨"TurfHeaps$Row", "lay", "(I)V"⟩, 5), (⟨"TurfHeaps$Season", "arrive", "(LTurfHeaps$Moor;I)V"⟩, 9), (⟨"TurfHeaps$Season", "at", "(I)LTurfHeaps$Row;"⟩, 9), (⟨"TurfHeaps$Row", "dropHighest", "()I"⟩, 5), (⟨"TurfHeaps$Season", "next", "(LTurfHeaps$Moor;I)V"⟩, 9), (⟨"TurfHeaps$Row", "become", "(LTurfHeaps$Row;)V"⟩, 5), (⟨"TurfHeaps$Row", "step", "(I)V"⟩, 5), (⟨"TurfHeaps$Row", "lower", "(I)I"⟩, 5)]
theorem lw_r2 : ∀ q ∈ lw_privs_2, lw_okq q := List.forall_mem_cons.mpr ⟨lw_p16, List.forall_mem_cons.mpr ⟨lw_p17, List.forall_mem_cons.mpr ⟨lw_p18, List.forall_mem_cons.mpr ⟨lw_p19, List.forall_mem_cons.mpr ⟨lw_p20, List.forall_mem_cons.mpr ⟨lw_p21, List.forall_mem_cons.mpr ⟨lw_p22, List.forall_mem_cons.mpr ⟨lw_p23, List.forall_mem_cons.mpr ⟨lw_p24, List.forall_mem_cons.mpr ⟨lw_p25, List.forall_mem_cons.mpr ⟨lw_p26, List.forall_mem_cons.mpr ⟨lw_p27, List.forall_mem_cons.mpr ⟨lw_p28, List.forall_mem_cons.mpr ⟨lw_p29, List.forall_mem_cons.mpr ⟨lw_p30, List.forall_mem_cons.mpr ⟨lw_p31, fun _ h => absurd h List.not_mem_nil⟩⟩⟩⟩⟩⟩⟩⟩⟩⟩⟩⟩⟩⟩⟩⟩
theorem lw_p32 : lw_okq (⟨"TurfHeaps$Row", "heapAt", "(I)I"⟩, 5) := ⟨⟨by decide +kernel, by decide +kernel⟩, List.mem_of_getElem? (i := 147) (by decide +kernel), List.mem_of_getElem? (i := 640) (by decide +kernel), List.mem_of_getElem? (i := 641) (by decide +kernel)⟩
theorem lw_p33 : lw_okq (⟨"TurfHeaps$Row", "heapsOf", "(I)I"⟩, 5) := ⟨⟨by decide +kernel, by decide +kernel⟩, List.mem_of_getElem? (i := 147) (by decide +kernel), List.mem_of_getElem? (i := 652) (by decide +kernel), List.mem_of_getElem? (i := 653) (by decide +kernel)⟩
theorem lw_p34 : lw_okq (⟨"TurfHeaps$Row", "highest", "()I"⟩, 5) := ⟨⟨by decide +kernel, by decide +kernel⟩, List.mem_of_getElem? (i := 147) (by decide +kernel), List.mem_of_getElem? (i := 664) (by decide +kernel), List.mem_of_getElem? (i := 665) (by decide +kernel)⟩
theorem lw_p35 : lw_okq (⟨"TurfHeaps$Row", "lowest", "()I"⟩, 5) := ⟨⟨by decide +kernel, by decide +kernel⟩, List.mem_of_getElem? (i := 147) (by decide +kernel), List.mem_of_getElem? (i := 668) (by decide +kernel), List.mem_of_getElem? (i := 669) (by decide +kernel)⟩
theorem lw_p36 : lw_okq (⟨"TurfHeaps$Row", "oddHeaps", "()I"⟩, 5) := ⟨⟨by decide +kernel, by decide +kernel⟩, List.mem_of_getElem? (i := 147) (by decide +kernel), List.mem_of_getElem? (i := 676) (by decide +kernel), List.mem_of_getElem? (i := 677) (by decide +kernel)⟩
theorem lw_p37 : lw_okq (⟨"TurfHeaps", "isDayAheadOfLast", "(I)Z"⟩, 16) := ⟨⟨by decide +kernel, by decide +kernel⟩, List.mem_of_getElem? (i := 19) (by decide +kernel), List.mem_of_getElem? (i := 684) (by decide +kernel), List.mem_of_getElem? (i := 685) (by decide +kernel)⟩
theorem lw_p38 : lw_okq (⟨"TurfHeaps$Row", "takenBy", "(I)I"⟩, 5) := ⟨⟨by decide +kernel, by decide +kernel⟩, List.mem_of_getElem? (i := 147) (by decide +kernel), List.mem_of_getElem? (i := 688) (by decide +kernel), List.mem_of_getElem? (i := 689) (by decide +kernel)⟩
theorem lw_p39 : lw_okq (⟨"TurfHeaps$Row", "touched", "(II)I"⟩, 5) := ⟨⟨by decide +kernel, by decide +kernel⟩, List.mem_of_getElem? (i := 147) (by decide +kernel), List.mem_of_getElem? (i := 692) (by decide +kernel), List.mem_of_getElem? (i := 693) (by decide +kernel)⟩
theorem lw_p40 : lw_okq (⟨"TurfHeaps$Row", "goneBy", "(I)I"⟩, 5) := ⟨⟨by decide +kernel, by decide +kernel⟩, List.mem_of_getElem? (i := 147) (by decide +kernel), List.mem_of_getElem? (i := 700) (by decide +kernel), List.mem_of_getElem? (i := 701) (by decide +kernel)⟩
theorem lw_p41 : lw_okq (⟨"TurfHeaps", "firstLike", "(I)I"⟩, 16) := ⟨⟨by decide +kernel, by decide +kernel⟩, List.mem_of_getElem? (i := 19) (by decide +kernel), List.mem_of_getElem? (i := 719) (by decide +kernel), List.mem_of_getElem? (i := 720) (by decide +kernel)⟩
theorem lw_p42 : lw_okq (⟨"TurfHeaps$Row", "alike", "(LTurfHeaps$Row;)Z"⟩, 5) := ⟨⟨by decide +kernel, by decide +kernel⟩, List.mem_of_getElem? (i := 147) (by decide +kernel), List.mem_of_getElem? (i := 723) (by decide +kernel), List.mem_of_getElem? (i := 724) (by decide +kernel)⟩
theorem lw_p43 : lw_okq (⟨"TurfHeaps$Row", "isStair", "()Z"⟩, 5) := ⟨⟨by decide +kernel, by decide +kernel⟩, List.mem_of_getElem? (i := 147) (by decide +kernel), List.mem_of_getElem? (i := 739) (by decide +kernel), List.mem_of_getElem? (i := 740) (by decide +kernel)⟩
theorem lw_p44 : lw_okq (⟨"TurfHeaps$Row", "squareSide", "()I"⟩, 5) := ⟨⟨by decide +kernel, by decide +kernel⟩, List.mem_of_getElem? (i := 147) (by decide +kernel), List.mem_of_getElem? (i := 754) (by decide +kernel), List.mem_of_getElem? (i := 755) (by decide +kernel)⟩
theorem lw_p45 : lw_okq (⟨"TurfHeaps$Row", "heapsFrom", "(I)I"⟩, 5) := ⟨⟨by decide +kernel, by decide +kernel⟩, List.mem_of_getElem? (i := 147) (by decide +kernel), List.mem_of_getElem? (i := 758) (by decide +kernel), List.mem_of_getElem? (i := 759) (by decide +kernel)⟩
theorem lw_p46 : lw_okq (⟨"TurfHeaps$Row", "sameTurnedOver", "()Z"⟩, 5) := ⟨⟨by decide +kernel, by decide +kernel⟩, List.mem_of_getElem? (i := 147) (by decide +kernel), List.mem_of_getElem? (i := 771) (by decide +kernel), List.mem_of_getElem? (i := 772) (by decide +kernel)⟩
theorem lw_p47 : lw_okq (⟨"TurfHeaps$Row", "standsTo", "(LTurfHeaps$Row;)I"⟩, 5) := ⟨⟨by decide +kernel, by decide +kernel⟩, List.mem_of_getElem? (i := 147) (by decide +kernel), List.mem_of_getElem? (i := 781) (by decide +kernel), List.mem_of_getElem? (i := 782) (by decide +kernel)⟩
def lw_privs_3 : List (MethodName × Nat) := [(⟨"TurfHeaps$Row", "heapAt", "(I)I"⟩, 5), (⟨"TurfHeaps$Row", "heapsOf", "(I)I"⟩, 5), (⟨"TurfHeaps$Row", "highest", "()I"⟩, 5), (⟨"TurfHeaps$Row", "lowest", "()I"⟩, 5), (⟨"TurfHeaps$Row", "oddHeaps", "()I"⟩, 5), (⟨"TurfHeaps", "isDayAheadOfLast", "(I)Z"⟩, 16), (⟨"TurfHeaps$Row", "takenBy", "(I)I"⟩, 5), (⟨"TurfHeaps$Row", "touched", "(II)I"⟩, 5), (⟨"TurfHeaps$Row", "goneBy", "(I)I"⟩, 5), (⟨"TurfHeaps", "firstLike", "(I)I"⟩, 16), (⟨"TurfHeaps$Row", "alike", "(LTurfHeaps$Row;)Z"⟩, 5), (⟨"TurfHeaps$Row", "isStair", "()Z"⟩, 5), (⟨"TurfHeaps$Row", "squareSide", "()I"⟩, 5), (⟨"TurfHeaps$Row", "heapsFrom", "(I)I"⟩, 5), (⟨"TurfHeaps$Row", "sameTurnedOver", "()Z"⟩, 5), (⟨"TurfHeaps$Row", "standsTo", "(LTurfHeaps$Row;)I"⟩, 5)]
theorem lw_r3 : ∀ q ∈ lw_privs_3, lw_okq q := List.forall_mem_cons.mpr ⟨lw_p32, List.forall_mem_cons.mpr ⟨lw_p33, List.forall_mem_cons.mpr ⟨lw_p34, List.forall_mem_cons.mpr ⟨lw_p35, List.forall_mem_cons.mpr ⟨lw_p36, List.forall_mem_cons.mpr ⟨lw_p37, List.forall_mem_cons.mpr ⟨lw_p38, List.forall_mem_cons.mpr ⟨lw_p39, List.forall_mem_cons.mpr ⟨lw_p40, List.forall_mem_cons.mpr ⟨lw_p41, List.forall_mem_cons.mpr ⟨lw_p42, List.forall_mem_cons.mpr ⟨lw_p43, List.forall_mem_cons.mpr ⟨lw_p44, List.forall_mem_cons.mpr ⟨lw_p45, List.forall_mem_cons.mpr ⟨lw_p46, List.forall_mem_cons.mpr ⟨lw_p47, fun _ h => absurd h List.not_mem_nil⟩⟩⟩⟩⟩⟩⟩⟩⟩⟩⟩⟩⟩⟩⟩⟩
theorem lw_p48 : lw_okq (⟨"TurfHeaps", "roundOf", "(I)LTurfHeaps$Round;"⟩, 16) := ⟨⟨by decide +kernel, by decide +kernel⟩, List.mem_of_getElem? (i := 19) (by decide +kernel), List.mem_of_getElem? (i := 790) (by decide +kernel), List.mem_of_getElem? (i := 791) (by decide +kernel)⟩
theorem lw_p49 : lw_okq (⟨"TurfHeaps$Round", "follow", "(LTurfHeaps$Row;I)V"⟩, 6) := ⟨⟨by decide +kernel, by decide +kernel⟩, List.mem_of_getElem? (i := 216) (by decide +kernel), List.mem_of_getElem? (i := 794) (by decide +kernel), List.mem_of_getElem? (i := 795) (by decide +kernel)⟩
theorem lw_p50 : lw_okq (⟨"TurfHeaps$Round", "turnFrom", "(LTurfHeaps$Row;I)I"⟩, 6) := ⟨⟨by decide +kernel, by decide +kernel⟩, List.mem_of_getElem? (i := 216) (by decide +kernel), List.mem_of_getElem? (i := 798) (by decide +kernel), List.mem_of_getElem? (i := 799) (by decide +kernel)⟩
theorem lw_p51 : lw_okq (⟨"TurfHeaps$Round", "stepsAheadOfRing", "(LTurfHeaps$Row;I)I"⟩, 6) := ⟨⟨by decide +kernel, by decide +kernel⟩, List.mem_of_getElem? (i := 216) (by decide +kernel), List.mem_of_getElem? (i := 805) (by decide +kernel), List.mem_of_getElem? (i := 806) (by decide +kernel)⟩
theorem lw_p52 : lw_okq (⟨"TurfHeaps$Round", "lookForStair", "(I)V"⟩, 6) := ⟨⟨by decide +kernel, by decide +kernel⟩, List.mem_of_getElem? (i := 216) (by decide +kernel), List.mem_of_getElem? (i := 809) (by decide +kernel), List.mem_of_getElem? (i := 810) (by decide +kernel)⟩
theorem lw_p53 : lw_okq (⟨"TurfHeaps", "isOfAll", "(I)Z"⟩, 16) := ⟨⟨by decide +kernel, by decide +kernel⟩, List.mem_of_getElem? (i := 19) (by decide +kernel), List.mem_of_getElem? (i := 837) (by decide +kernel), List.mem_of_getElem? (i := 838) (by decide +kernel)⟩
theorem lw_p54 : lw_okq (⟨"TurfHeaps", "everyOf", "(I)LTurfHeaps$Every;"⟩, 16) := ⟨⟨by decide +kernel, by decide +kernel⟩, List.mem_of_getElem? (i := 19) (by decide +kernel), List.mem_of_getElem? (i := 841) (by decide +kernel), List.mem_of_getElem? (i := 842) (by decide +kernel)⟩
theorem lw_p55 : lw_okq (⟨"TurfHeaps$Every", "workOut", "(II)V"⟩, 15) := ⟨⟨by decide +kernel, by decide +kernel⟩, List.mem_of_getElem? (i := 247) (by decide +kernel), List.mem_of_getElem? (i := 845) (by decide +kernel), List.mem_of_getElem? (i := 846) (by decide +kernel)⟩
theorem lw_p56 : lw_okq (⟨"TurfHeaps$Every", "listRows", "(I)V"⟩, 15) := ⟨⟨by decide +kernel, by decide +kernel⟩, List.mem_of_getElem? (i := 247) (by decide +kernel), List.mem_of_getElem? (i := 849) (by decide +kernel), List.mem_of_getElem? (i := 850) (by decide +kernel)⟩
theorem lw_p57 : lw_okq (⟨"TurfHeaps$Every", "codeOfParts", "(I)J"⟩, 15) := ⟨⟨by decide +kernel, by decide +kernel⟩, List.mem_of_getElem? (i := 247) (by decide +kernel), List.mem_of_getElem? (i := 853) (by decide +kernel), List.mem_of_getElem? (i := 854) (by decide +kernel)⟩
theorem lw_p58 : lw_okq (⟨"TurfHeaps$Every", "nextParts", "(I)I"⟩, 15) := ⟨⟨by decide +kernel, by decide +kernel⟩, List.mem_of_getElem? (i := 247) (by decide +kernel), List.mem_of_getElem? (i := 857) (by decide +kernel), List.mem_of_getElem? (i := 858) (by decide +kernel)⟩
theorem lw_p59 : lw_okq (⟨"TurfHeaps$Every", "linkRows", "(I)V"⟩, 15) := ⟨⟨by decide +kernel, by decide +kernel⟩, List.mem_of_getElem? (i := 247) (by decide +kernel), List.mem_of_getElem? (i := 862) (by decide +kernel), List.mem_of_getElem? (i := 863) (by decide +kernel)⟩
theorem lw_p60 : lw_okq (⟨"TurfHeaps$Every", "fill", "(J)V"⟩, 15) := ⟨⟨by decide +kernel, by decide +kernel⟩, List.mem_of_getElem? (i := 247) (by decide +kernel), List.mem_of_getElem? (i := 866) (by decide +kernel), List.mem_of_getElem? (i := 867) (by decide +kernel)⟩
theorem lw_p61 : lw_okq (⟨"TurfHeaps$Every", "indexOf", "(J)I"⟩, 15) := ⟨⟨by decide +kernel, by decide +kernel⟩, List.mem_of_getElem? (i := 247) (by decide +kernel), List.mem_of_getElem? (i := 880) (by decide +kernel), List.mem_of_getElem? (i := 881) (by decide +kernel)⟩
theorem lw_p62 : lw_okq (⟨"TurfHeaps$Every", "peelTails", "()I"⟩, 15) := ⟨⟨by decide +kernel, by decide +kernel⟩, List.mem_of_getElem? (i := 247) (by decide +kernel), List.mem_of_getElem? (i := 884) (by decide +kernel), List.mem_of_getElem? (i := 885) (by decide +kernel)⟩
theorem lw_p63 : lw_okq (⟨"TurfHeaps$Every", "measureTails", "(I)V"⟩, 15) := ⟨⟨by decide +kernel, by decide +kernel⟩, List.mem_of_getElem? (i := 247) (by decide +kernel), List.mem_of_getElem? (i := 888) (by decide +kernel), List.mem_of_getElem? (i := 889) (by decide +kernel)⟩
def lw_privs_4 : List (MethodName × Nat) := [(⟨"TurfHeaps", "roundOf", "(I)LTurfHeaps$Round;"⟩, 16), (⟨"TurfHeaps$Round", "follow", "(LTurfHeaps$Row;I)V"⟩, 6), (⟨"TurfHeaps$Round", "turnFrom", "(LTurfHeaps$Row;I)I"⟩, 6), (⟨"TurfHeaps$Round", "stepsAheadOfRing", "(LTurfHeaps$Row;I)I"⟩, 6), (⟨"TurfHeaps$Round", "lookForStair", "(I)V"⟩, 6), (⟨"TurfHeaps", "isOfAll", "(I)Z"⟩, 16), (⟨"TurfHeaps", "everyOf", "(I)LTurfHeaps$Every;"⟩, 16), (⟨"TurfHeaps$Every", "workOut", "(II)V"⟩, 15), (⟨"TurfHeaps$Every", "listRows", "(I)V"⟩, 15), (⟨"TurfHeaps$Every", "codeOfParts", "(I)J"⟩, 15), (⟨"TurfHeaps$Every", "nextParts", "(I)I"⟩, 15), (⟨"TurfHeaps$Every", "linkRows", "(I)V"⟩, 15), (⟨"TurfHeaps$Every", "fill", "(J)V"⟩, 15), (⟨"TurfHeaps$Every", "indexOf", "(J)I"⟩, 15), (⟨"TurfHeaps$Every", "peelTails", "()I"⟩, 15), (⟨"TurfHeaps$Every", "measureTails", "(I)V"⟩, 15)]
theorem lw_r4 : ∀ q ∈ lw_privs_4, lw_okq q := List.forall_mem_cons.mpr ⟨lw_p48, List.forall_mem_cons.mpr ⟨lw_p49, List.forall_mem_cons.mpr ⟨lw_p50, List.forall_mem_cons.mpr ⟨lw_p51, List.forall_mem_cons.mpr ⟨lw_p52, List.forall_mem_cons.mpr ⟨lw_p53, List.forall_mem_cons.mpr ⟨lw_p54, List.forall_mem_cons.mpr ⟨lw_p55, List.forall_mem_cons.mpr ⟨lw_p56, List.forall_mem_cons.mpr ⟨lw_p57, List.forall_mem_cons.mpr ⟨lw_p58, List.forall_mem_cons.mpr ⟨lw_p59, List.forall_mem_cons.mpr ⟨lw_p60, List.forall_mem_cons.mpr ⟨lw_p61, List.forall_mem_cons.mpr ⟨lw_p62, List.forall_mem_cons.mpr ⟨lw_p63, fun _ h => absurd h List.not_mem_nil⟩⟩⟩⟩⟩⟩⟩⟩⟩⟩⟩⟩⟩⟩⟩⟩
theorem lw_p64 : lw_okq (⟨"TurfHeaps$Every", "countRings", "()V"⟩, 15) := ⟨⟨by decide +kernel, by decide +kernel⟩, List.mem_of_getElem? (i := 247) (by decide +kernel), List.mem_of_getElem? (i := 893) (by decide +kernel), List.mem_of_getElem? (i := 894) (by decide +kernel)⟩
theorem lw_p65 : lw_okq (⟨"TurfHeaps", "smallRowFault", "(I)I"⟩, 16) := ⟨⟨by decide +kernel, by decide +kernel⟩, List.mem_of_getElem? (i := 19) (by decide +kernel), List.mem_of_getElem? (i := 917) (by decide +kernel), List.mem_of_getElem? (i := 918) (by decide +kernel)⟩
theorem lw_p66 : lw_okq (⟨"TurfHeaps$Slot", "fillSmall", "(LTurfHeaps$Row;)Z"⟩, 4) := ⟨⟨by decide +kernel, by decide +kernel⟩, List.mem_of_getElem? (i := 327) (by decide +kernel), List.mem_of_getElem? (i := 924) (by decide +kernel), List.mem_of_getElem? (i := 925) (by decide +kernel)⟩
theorem lw_p67 : lw_okq (⟨"TurfHeaps$Every", "comersTo", "(LTurfHeaps$Row;)I"⟩, 15) := ⟨⟨by decide +kernel, by decide +kernel⟩, List.mem_of_getElem? (i := 247) (by decide +kernel), List.mem_of_getElem? (i := 930) (by decide +kernel), List.mem_of_getElem? (i := 931) (by decide +kernel)⟩
theorem lw_p68 : lw_okq (⟨"TurfHeaps$Every", "heapOfFirstComer", "(LTurfHeaps$Row;I)I"⟩, 15) := ⟨⟨by decide +kernel, by decide +kernel⟩, List.mem_of_getElem? (i := 247) (by decide +kernel), List.mem_of_getElem? (i := 938) (by decide +kernel), List.mem_of_getElem? (i := 939) (by decide +kernel)⟩
theorem lw_p69 : lw_okq (⟨"TurfHeaps$Every", "tailOf", "(LTurfHeaps$Row;)I"⟩, 15) := ⟨⟨by decide +kernel, by decide +kernel⟩, List.mem_of_getElem? (i := 247) (by decide +kernel), List.mem_of_getElem? (i := 946) (by decide +kernel), List.mem_of_getElem? (i := 947) (by decide +kernel)⟩
theorem lw_p70 : lw_okq (⟨"TurfHeaps", "heapsAtLast", "()I"⟩, 16) := ⟨⟨by decide +kernel, by decide +kernel⟩, List.mem_of_getElem? (i := 19) (by decide +kernel), List.mem_of_getElem? (i := 954) (by decide +kernel), List.mem_of_getElem? (i := 955) (by decide +kernel)⟩
theorem lw_p71 : lw_okq (⟨"TurfHeaps", "heapsWithMore", "(II)I"⟩, 16) := ⟨⟨by decide +kernel, by decide +kernel⟩, List.mem_of_getElem? (i := 19) (by decide +kernel), List.mem_of_getElem? (i := 958) (by decide +kernel), List.mem_of_getElem? (i := 959) (by decide +kernel)⟩
theorem lw_p72 : lw_okq (⟨"TurfHeaps", "heapsWithSet", "(I)I"⟩, 16) := ⟨⟨by decide +kernel, by decide +kernel⟩, List.mem_of_getElem? (i := 19) (by decide +kernel), List.mem_of_getElem? (i := 970) (by decide +kernel), List.mem_of_getElem? (i := 971) (by decide +kernel)⟩
theorem lw_p73 : lw_okq (⟨"TurfHeaps", "seenFault", "(IZ)I"⟩, 16) := ⟨⟨by decide +kernel, by decide +kernel⟩, List.mem_of_getElem? (i := 19) (by decide +kernel), List.mem_of_getElem? (i := 978) (by decide +kernel), List.mem_of_getElem? (i := 979) (by decide +kernel)⟩
theorem lw_p74 : lw_okq (⟨"TurfHeaps$Slot", "isOfThrees", "(I)Z"⟩, 4) := ⟨⟨by decide +kernel, by decide +kernel⟩, List.mem_of_getElem? (i := 327) (by decide +kernel), List.mem_of_getElem? (i := 982) (by decide +kernel), List.mem_of_getElem? (i := 983) (by decide +kernel)⟩
theorem lw_p75 : lw_okq (⟨"TurfHeaps", "lookAt", "(II)LTurfHeaps$Seen;"⟩, 16) := ⟨⟨by decide +kernel, by decide +kernel⟩, List.mem_of_getElem? (i := 19) (by decide +kernel), List.mem_of_getElem? (i := 986) (by decide +kernel), List.mem_of_getElem? (i := 987) (by decide +kernel)⟩
theorem lw_p76 : lw_okq (⟨"TurfHeaps$Seen", "clear", "()V"⟩, 3) := ⟨⟨by decide +kernel, by decide +kernel⟩, List.mem_of_getElem? (i := 307) (by decide +kernel), List.mem_of_getElem? (i := 990) (by decide +kernel), List.mem_of_getElem? (i := 991) (by decide +kernel)⟩
theorem lw_p77 : lw_okq (⟨"TurfHeaps$Slot", "tellsOf", "(LTurfHeaps$Season;)Z"⟩, 4) := ⟨⟨by decide +kernel, by decide +kernel⟩, List.mem_of_getElem? (i := 327) (by decide +kernel), List.mem_of_getElem? (i := 994) (by decide +kernel), List.mem_of_getElem? (i := 995) (by decide +kernel)⟩
theorem lw_p78 : lw_okq (⟨"TurfHeaps$Seen", "keep", "(ILTurfHeaps$Season;)V"⟩, 3) := ⟨⟨by decide +kernel, by decide +kernel⟩, List.mem_of_getElem? (i := 307) (by decide +kernel), List.mem_of_getElem? (i := 1000) (by decide +kernel), List.mem_of_getElem? (i := 1001) (by decide +kernel)⟩
theorem lw_p79 : lw_okq (⟨"TurfHeaps$Seen", "lowest", "()I"⟩, 3) := ⟨⟨by decide +kernel, by decide +kernel⟩, List.mem_of_getElem? (i := 307) (by decide +kernel), List.mem_of_getElem? (i := 1009) (by decide +kernel), List.mem_of_getElem? (i := 1010) (by decide +kernel)⟩
def lw_privs_5 : List (MethodName × Nat) := [(⟨"TurfHeaps$Every", "countRings", "()V"⟩, 15), (⟨"TurfHeaps", "smallRowFault", "(I)I"⟩, 16), (⟨"TurfHeaps$Slot", "fillSmall", "(LTurfHeaps$Row;)Z"⟩, 4), (⟨"TurfHeaps$Every", "comersTo", "(LTurfHeaps$Row;)I"⟩, 15), (⟨"TurfHeaps$Every", "heapOfFirstComer", "(LTurfHeaps$Row;I)I"⟩, 15), (⟨"TurfHeaps$Every", "tailOf", "(LTurfHeaps$Row;)I"⟩, 15), (⟨"TurfHeaps", "heapsAtLast", "()I"⟩, 16), (⟨"TurfHeaps", "heapsWithMore", "(II)I"⟩, 16), (⟨"TurfHeaps", "heapsWithSet", "(I)I"⟩, 16), (⟨"TurfHeaps", "seenFault", "(IZ)I"⟩, 16), (⟨"TurfHeaps$Slot", "isOfThrees", "(I)Z"⟩, 4), (⟨"TurfHeaps", "lookAt", "(II)LTurfHeaps$Seen;"⟩, 16), (⟨"TurfHeaps$Seen", "clear", "()V"⟩, 3), (⟨"TurfHeaps$Slot", "tellsOf", "(LTurfHeaps$Season;)Z"⟩, 4), (⟨"TurfHeaps$Seen", "keep", "(ILTurfHeaps$Season;)V"⟩, 3), (⟨"TurfHeaps$Seen", "lowest", "()I"⟩, 3)]
theorem lw_r5 : ∀ q ∈ lw_privs_5, lw_okq q := List.forall_mem_cons.mpr ⟨lw_p64, List.forall_mem_cons.mpr ⟨lw_p65, List.forall_mem_cons.mpr ⟨lw_p66, List.forall_mem_cons.mpr ⟨lw_p67, List.forall_mem_cons.mpr ⟨lw_p68, List.forall_mem_cons.mpr ⟨lw_p69, List.forall_mem_cons.mpr ⟨lw_p70, List.forall_mem_cons.mpr ⟨lw_p71, List.forall_mem_cons.mpr ⟨lw_p72, List.forall_mem_cons.mpr ⟨lw_p73, List.forall_mem_cons.mpr ⟨lw_p74, List.forall_mem_cons.mpr ⟨lw_p75, List.forall_mem_cons.mpr ⟨lw_p76, List.forall_mem_cons.mpr ⟨lw_p77, List.forall_mem_cons.mpr ⟨lw_p78, List.forall_mem_cons.mpr ⟨lw_p79, fun _ h => absurd h List.not_mem_nil⟩⟩⟩⟩⟩⟩⟩⟩⟩⟩⟩⟩⟩⟩⟩⟩
theorem lw_p80 : lw_okq (⟨"TurfHeaps$Seen", "highest", "()I"⟩, 3) := ⟨⟨by decide +kernel, by decide +kernel⟩, List.mem_of_getElem? (i := 307) (by decide +kernel), List.mem_of_getElem? (i := 1017) (by decide +kernel), List.mem_of_getElem? (i := 1018) (by decide +kernel)⟩
theorem lw_p81 : lw_okq (⟨"TurfHeaps$Seen", "bestDay", "(I)I"⟩, 3) := ⟨⟨by decide +kernel, by decide +kernel⟩, List.mem_of_getElem? (i := 307) (by decide +kernel), List.mem_of_getElem? (i := 1025) (by decide +kernel), List.mem_of_getElem? (i := 1026) (by decide +kernel)⟩
theorem lw_p82 : lw_okq (⟨"TurfHeaps$Seen", "worstOf", "(I)I"⟩, 3) := ⟨⟨by decide +kernel, by decide +kernel⟩, List.mem_of_getElem? (i := 307) (by decide +kernel), List.mem_of_getElem? (i := 1029) (by decide +kernel), List.mem_of_getElem? (i := 1030) (by decide +kernel)⟩
theorem lw_p83 : lw_okq (⟨"TurfHeaps$Seen", "leftAtWorst", "(I)I"⟩, 3) := ⟨⟨by decide +kernel, by decide +kernel⟩, List.mem_of_getElem? (i := 307) (by decide +kernel), List.mem_of_getElem? (i := 1038) (by decide +kernel), List.mem_of_getElem? (i := 1039) (by decide +kernel)⟩
theorem lw_p84 : lw_okq (⟨"TurfHeaps", "passByLaw", "(I)LTurfHeaps$Row;"⟩, 16) := ⟨⟨by decide +kernel, by decide +kernel⟩, List.mem_of_getElem? (i := 19) (by decide +kernel), List.mem_of_getElem? (i := 1047) (by decide +kernel), List.mem_of_getElem? (i := 1048) (by decide +kernel)⟩
theorem lw_p85 : lw_okq (⟨"TurfHeaps", "knowWorths", "()V"⟩, 16) := ⟨⟨by decide +kernel, by decide +kernel⟩, List.mem_of_getElem? (i := 19) (by decide +kernel), List.mem_of_getElem? (i := 1067) (by decide +kernel), List.mem_of_getElem? (i := 1068) (by decide +kernel)⟩
theorem lw_p86 : lw_okq (⟨"TurfHeaps", "gainOverOrders", "(I)I"⟩, 16) := ⟨⟨by decide +kernel, by decide +kernel⟩, List.mem_of_getElem? (i := 19) (by decide +kernel), List.mem_of_getElem? (i := 1071) (by decide +kernel), List.mem_of_getElem? (i := 1072) (by decide +kernel)⟩
theorem lw_p87 : lw_okq (⟨"TurfHeaps$Row", "nimSum", "(I)I"⟩, 5) := ⟨⟨by decide +kernel, by decide +kernel⟩, List.mem_of_getElem? (i := 147) (by decide +kernel), List.mem_of_getElem? (i := 1097) (by decide +kernel), List.mem_of_getElem? (i := 1098) (by decide +kernel)⟩
theorem lw_p88 : lw_okq (⟨"TurfHeaps$Row", "winningTake", "(II)I"⟩, 5) := ⟨⟨by decide +kernel, by decide +kernel⟩, List.mem_of_getElem? (i := 147) (by decide +kernel), List.mem_of_getElem? (i := 1105) (by decide +kernel), List.mem_of_getElem? (i := 1106) (by decide +kernel)⟩
theorem lw_p89 : lw_okq (⟨"TurfHeaps", "passLate", "(IIII)LTurfHeaps$Row;"⟩, 16) := ⟨⟨by decide +kernel, by decide +kernel⟩, List.mem_of_getElem? (i := 19) (by decide +kernel), List.mem_of_getElem? (i := 1118) (by decide +kernel), List.mem_of_getElem? (i := 1119) (by decide +kernel)⟩
theorem lw_p90 : lw_okq (⟨"TurfHeaps", "isChanceDay", "(I)Z"⟩, 16) := ⟨⟨by decide +kernel, by decide +kernel⟩, List.mem_of_getElem? (i := 19) (by decide +kernel), List.mem_of_getElem? (i := 1136) (by decide +kernel), List.mem_of_getElem? (i := 1137) (by decide +kernel)⟩
theorem lw_p91 : lw_okq (⟨"TurfHeaps", "weighHeaps", "(II)J"⟩, 16) := ⟨⟨by decide +kernel, by decide +kernel⟩, List.mem_of_getElem? (i := 19) (by decide +kernel), List.mem_of_getElem? (i := 1141) (by decide +kernel), List.mem_of_getElem? (i := 1142) (by decide +kernel)⟩
theorem lw_p92 : lw_okq (⟨"TurfHeaps", "weightOf", "(II)J"⟩, 16) := ⟨⟨by decide +kernel, by decide +kernel⟩, List.mem_of_getElem? (i := 19) (by decide +kernel), List.mem_of_getElem? (i := 1147) (by decide +kernel), List.mem_of_getElem? (i := 1148) (by decide +kernel)⟩
theorem lw_p93 : lw_okq (⟨"TurfHeaps", "passChoice", "(III)V"⟩, 16) := ⟨⟨by decide +kernel, by decide +kernel⟩, List.mem_of_getElem? (i := 19) (by decide +kernel), List.mem_of_getElem? (i := 1151) (by decide +kernel), List.mem_of_getElem? (i := 1152) (by decide +kernel)⟩
theorem lw_p94 : lw_okq (⟨"TurfHeaps", "act", "(II)I"⟩, 16) := ⟨⟨by decide +kernel, by decide +kernel⟩, List.mem_of_getElem? (i := 19) (by decide +kernel), List.mem_of_getElem? (i := 1171) (by decide +kernel), List.mem_of_getElem? (i := 1172) (by decide +kernel)⟩
theorem lw_p95 : lw_okq (⟨"TurfHeaps", "wetDays", "(J)I"⟩, 16) := ⟨⟨by decide +kernel, by decide +kernel⟩, List.mem_of_getElem? (i := 19) (by decide +kernel), List.mem_of_getElem? (i := 1192) (by decide +kernel), List.mem_of_getElem? (i := 1193) (by decide +kernel)⟩
def lw_privs_6 : List (MethodName × Nat) := [(⟨"TurfHeaps$Seen", "highest", "()I"⟩, 3), (⟨"TurfHeaps$Seen", "bestDay", "(I)I"⟩, 3), (⟨"TurfHeaps$Seen", "worstOf", "(I)I"⟩, 3), (⟨"TurfHeaps$Seen", "leftAtWorst", "(I)I"⟩, 3), (⟨"TurfHeaps", "passByLaw", "(I)LTurfHeaps$Row;"⟩, 16), (⟨"TurfHeaps", "knowWorths", "()V"⟩, 16), (⟨"TurfHeaps", "gainOverOrders", "(I)I"⟩, 16), (⟨"TurfHeaps$Row", "nimSum", "(I)I"⟩, 5), (⟨"TurfHeaps$Row", "winningTake", "(II)I"⟩, 5), (⟨"TurfHeaps", "passLate", "(IIII)LTurfHeaps$Row;"⟩, 16), (⟨"TurfHeaps", "isChanceDay", "(I)Z"⟩, 16), (⟨"TurfHeaps", "weighHeaps", "(II)J"⟩, 16), (⟨"TurfHeaps", "weightOf", "(II)J"⟩, 16), (⟨"TurfHeaps", "passChoice", "(III)V"⟩, 16), (⟨"TurfHeaps", "act", "(II)I"⟩, 16), (⟨"TurfHeaps", "wetDays", "(J)I"⟩, 16)]
theorem lw_r6 : ∀ q ∈ lw_privs_6, lw_okq q := List.forall_mem_cons.mpr ⟨lw_p80, List.forall_mem_cons.mpr ⟨lw_p81, List.forall_mem_cons.mpr ⟨lw_p82, List.forall_mem_cons.mpr ⟨lw_p83, List.forall_mem_cons.mpr ⟨lw_p84, List.forall_mem_cons.mpr ⟨lw_p85, List.forall_mem_cons.mpr ⟨lw_p86, List.forall_mem_cons.mpr ⟨lw_p87, List.forall_mem_cons.mpr ⟨lw_p88, List.forall_mem_cons.mpr ⟨lw_p89, List.forall_mem_cons.mpr ⟨lw_p90, List.forall_mem_cons.mpr ⟨lw_p91, List.forall_mem_cons.mpr ⟨lw_p92, List.forall_mem_cons.mpr ⟨lw_p93, List.forall_mem_cons.mpr ⟨lw_p94, List.forall_mem_cons.mpr ⟨lw_p95, fun _ h => absurd h List.not_mem_nil⟩⟩⟩⟩⟩⟩⟩⟩⟩⟩⟩⟩⟩⟩⟩⟩
theorem lw_p96 : lw_okq (⟨"TurfHeaps", "heapsWithWet", "(I)I"⟩, 16) := ⟨⟨by decide +kernel, by decide +kernel⟩, List.mem_of_getElem? (i := 19) (by decide +kernel), List.mem_of_getElem? (i := 1200) (by decide +kernel), List.mem_of_getElem? (i := 1201) (by decide +kernel)⟩
theorem lw_p97 : lw_okq (⟨"TurfHeaps", "slotsWithRow", "()I"⟩, 16) := ⟨⟨by decide +kernel, by decide +kernel⟩, List.mem_of_getElem? (i := 19) (by decide +kernel), List.mem_of_getElem? (i := 1216) (by decide +kernel), List.mem_of_getElem? (i := 1217) (by decide +kernel)⟩
theorem lw_p98 : lw_okq (⟨"TurfHeaps$Slot", "lay", "(II)V"⟩, 4) := ⟨⟨by decide +kernel, by decide +kernel⟩, List.mem_of_getElem? (i := 327) (by decide +kernel), List.mem_of_getElem? (i := 1232) (by decide +kernel), List.mem_of_getElem? (i := 1233) (by decide +kernel)⟩
theorem lw_p99 : lw_okq (⟨"TurfHeaps$Slot", "reaches", "(II)Z"⟩, 4) := ⟨⟨by decide +kernel, by decide +kernel⟩, List.mem_of_getElem? (i := 327) (by decide +kernel), List.mem_of_getElem? (i := 1247) (by decide +kernel), List.mem_of_getElem? (i := 1248) (by decide +kernel)⟩
theorem lw_p100 : lw_okq (⟨"TurfHeapsModel", "advance", "()V"⟩, 46) := ⟨⟨by decide +kernel, by decide +kernel⟩, List.mem_of_getElem? (i := 1252) (by decide +kernel), List.mem_of_getElem? (i := 1425) (by decide +kernel), List.mem_of_getElem? (i := 1426) (by decide +kernel)⟩
theorem lw_p101 : lw_okq (⟨"TurfHeapsModel", "see", "(I)I"⟩, 46) := ⟨⟨by decide +kernel, by decide +kernel⟩, List.mem_of_getElem? (i := 1252) (by decide +kernel), List.mem_of_getElem? (i := 1429) (by decide +kernel), List.mem_of_getElem? (i := 1430) (by decide +kernel)⟩
theorem lw_p102 : lw_okq (⟨"TurfHeapsModel", "good", "()Z"⟩, 46) := ⟨⟨by decide +kernel, by decide +kernel⟩, List.mem_of_getElem? (i := 1252) (by decide +kernel), List.mem_of_getElem? (i := 1439) (by decide +kernel), List.mem_of_getElem? (i := 1440) (by decide +kernel)⟩
theorem lw_p103 : lw_okq (⟨"TurfHeapsModel", "readLine", "()V"⟩, 46) := ⟨⟨by decide +kernel, by decide +kernel⟩, List.mem_of_getElem? (i := 1252) (by decide +kernel), List.mem_of_getElem? (i := 1443) (by decide +kernel), List.mem_of_getElem? (i := 1444) (by decide +kernel)⟩
theorem lw_p104 : lw_okq (⟨"TurfHeapsModel", "readFirst", "()V"⟩, 46) := ⟨⟨by decide +kernel, by decide +kernel⟩, List.mem_of_getElem? (i := 1252) (by decide +kernel), List.mem_of_getElem? (i := 1447) (by decide +kernel), List.mem_of_getElem? (i := 1448) (by decide +kernel)⟩
theorem lw_p105 : lw_okq (⟨"TurfHeapsModel", "expects", "(Ljava/lang/String;)V"⟩, 46) := ⟨⟨by decide +kernel, by decide +kernel⟩, List.mem_of_getElem? (i := 1252) (by decide +kernel), List.mem_of_getElem? (i := 1452) (by decide +kernel), List.mem_of_getElem? (i := 1453) (by decide +kernel)⟩
theorem lw_p106 : lw_okq (⟨"TurfHeapsModel", "takes", "(Ljava/lang/String;)Z"⟩, 46) := ⟨⟨by decide +kernel, by decide +kernel⟩, List.mem_of_getElem? (i := 1252) (by decide +kernel), List.mem_of_getElem? (i := 1456) (by decide +kernel), List.mem_of_getElem? (i := 1457) (by decide +kernel)⟩
theorem lw_p107 : lw_okq (⟨"TurfHeapsModel", "is", "(Ljava/lang/String;)Z"⟩, 46) := ⟨⟨by decide +kernel, by decide +kernel⟩, List.mem_of_getElem? (i := 1252) (by decide +kernel), List.mem_of_getElem? (i := 1460) (by decide +kernel), List.mem_of_getElem? (i := 1461) (by decide +kernel)⟩
theorem lw_p108 : lw_okq (⟨"TurfHeapsModel", "errs", "(I)V"⟩, 46) := ⟨⟨by decide +kernel, by decide +kernel⟩, List.mem_of_getElem? (i := 1252) (by decide +kernel), List.mem_of_getElem? (i := 1466) (by decide +kernel), List.mem_of_getElem? (i := 1467) (by decide +kernel)⟩
theorem lw_p109 : lw_okq (⟨"TurfHeapsModel", "toldBy", "(Ljava/lang/String;II)I"⟩, 46) := ⟨⟨by decide +kernel, by decide +kernel⟩, List.mem_of_getElem? (i := 1252) (by decide +kernel), List.mem_of_getElem? (i := 1471) (by decide +kernel), List.mem_of_getElem? (i := 1472) (by decide +kernel)⟩
theorem lw_p110 : lw_okq (⟨"TurfHeapsModel", "number", "(II)I"⟩, 46) := ⟨⟨by decide +kernel, by decide +kernel⟩, List.mem_of_getElem? (i := 1252) (by decide +kernel), List.mem_of_getElem? (i := 1475) (by decide +kernel), List.mem_of_getElem? (i := 1476) (by decide +kernel)⟩
theorem lw_p111 : lw_okq (⟨"TurfHeapsModel", "readNext", "()V"⟩, 46) := ⟨⟨by decide +kernel, by decide +kernel⟩, List.mem_of_getElem? (i := 1252) (by decide +kernel), List.mem_of_getElem? (i := 1481) (by decide +kernel), List.mem_of_getElem? (i := 1482) (by decide +kernel)⟩
def lw_privs_7 : List (MethodName × Nat) := [(⟨"TurfHeaps", "heapsWithWet", "(I)I"⟩, 16), (⟨"TurfHeaps", "slotsWithRow", "()I"⟩, 16), (⟨"TurfHeaps$Slot", "lay", "(II)V"⟩, 4), (⟨"TurfHeaps$Slot", "reaches", "(II)Z"⟩, 4), (⟨"TurfHeapsModel", "advance", "()V"⟩, 46), (⟨"TurfHeapsModel", "see", "(I)I"⟩, 46), (⟨"TurfHeapsModel", "good", "()Z"⟩, 46), (⟨"TurfHeapsModel", "readLine", "()V"⟩, 46), (⟨"TurfHeapsModel", "readFirst", "()V"⟩, 46), (⟨"TurfHeapsModel", "expects", "(Ljava/lang/String;)V"⟩, 46), (⟨"TurfHeapsModel", "takes", "(Ljava/lang/String;)Z"⟩, 46), (⟨"TurfHeapsModel", "is", "(Ljava/lang/String;)Z"⟩, 46), (⟨"TurfHeapsModel", "errs", "(I)V"⟩, 46), (⟨"TurfHeapsModel", "toldBy", "(Ljava/lang/String;II)I"⟩, 46), (⟨"TurfHeapsModel", "number", "(II)I"⟩, 46), (⟨"TurfHeapsModel", "readNext", "()V"⟩, 46)]
theorem lw_r7 : ∀ q ∈ lw_privs_7, lw_okq q := List.forall_mem_cons.mpr ⟨lw_p96, List.forall_mem_cons.mpr ⟨lw_p97, List.forall_mem_cons.mpr ⟨lw_p98, List.forall_mem_cons.mpr ⟨lw_p99, List.forall_mem_cons.mpr ⟨lw_p100, List.forall_mem_cons.mpr ⟨lw_p101, List.forall_mem_cons.mpr ⟨lw_p102, List.forall_mem_cons.mpr ⟨lw_p103, List.forall_mem_cons.mpr ⟨lw_p104, List.forall_mem_cons.mpr ⟨lw_p105, List.forall_mem_cons.mpr ⟨lw_p106, List.forall_mem_cons.mpr ⟨lw_p107, List.forall_mem_cons.mpr ⟨lw_p108, List.forall_mem_cons.mpr ⟨lw_p109, List.forall_mem_cons.mpr ⟨lw_p110, List.forall_mem_cons.mpr ⟨lw_p111, fun _ h => absurd h List.not_mem_nil⟩⟩⟩⟩⟩⟩⟩⟩⟩⟩⟩⟩⟩⟩⟩⟩
theorem lw_p112 : lw_okq (⟨"TurfHeapsModel", "isHeap", "(I)Z"⟩, 46) := ⟨⟨by decide +kernel, by decide +kernel⟩, List.mem_of_getElem? (i := 1252) (by decide +kernel), List.mem_of_getElem? (i := 1493) (by decide +kernel), List.mem_of_getElem? (i := 1494) (by decide +kernel)⟩
theorem lw_p113 : lw_okq (⟨"TurfHeapsModel", "isCart", "(I)Z"⟩, 46) := ⟨⟨by decide +kernel, by decide +kernel⟩, List.mem_of_getElem? (i := 1252) (by decide +kernel), List.mem_of_getElem? (i := 1501) (by decide +kernel), List.mem_of_getElem? (i := 1502) (by decide +kernel)⟩
theorem lw_p114 : lw_okq (⟨"TurfHeapsModel", "cartMany", "()I"⟩, 46) := ⟨⟨by decide +kernel, by decide +kernel⟩, List.mem_of_getElem? (i := 1252) (by decide +kernel), List.mem_of_getElem? (i := 1505) (by decide +kernel), List.mem_of_getElem? (i := 1506) (by decide +kernel)⟩
theorem lw_p115 : lw_okq (⟨"TurfHeapsModel", "asksDay", "(I)Z"⟩, 46) := ⟨⟨by decide +kernel, by decide +kernel⟩, List.mem_of_getElem? (i := 1252) (by decide +kernel), List.mem_of_getElem? (i := 1513) (by decide +kernel), List.mem_of_getElem? (i := 1514) (by decide +kernel)⟩
theorem lw_p116 : lw_okq (⟨"TurfHeapsModel", "asksMoor", "()Z"⟩, 46) := ⟨⟨by decide +kernel, by decide +kernel⟩, List.mem_of_getElem? (i := 1252) (by decide +kernel), List.mem_of_getElem? (i := 1517) (by decide +kernel), List.mem_of_getElem? (i := 1518) (by decide +kernel)⟩
theorem lw_p117 : lw_okq (⟨"TurfHeapsModel", "asItIs", "()V"⟩, 46) := ⟨⟨by decide +kernel, by decide +kernel⟩, List.mem_of_getElem? (i := 1252) (by decide +kernel), List.mem_of_getElem? (i := 1521) (by decide +kernel), List.mem_of_getElem? (i := 1522) (by decide +kernel)⟩
theorem lw_p118 : lw_okq (⟨"TurfHeapsModel", "goAll", "()V"⟩, 46) := ⟨⟨by decide +kernel, by decide +kernel⟩, List.mem_of_getElem? (i := 1252) (by decide +kernel), List.mem_of_getElem? (i := 1525) (by decide +kernel), List.mem_of_getElem? (i := 1526) (by decide +kernel)⟩
theorem lw_p119 : lw_okq (⟨"TurfHeapsModel", "empty", "(I)V"⟩, 46) := ⟨⟨by decide +kernel, by decide +kernel⟩, List.mem_of_getElem? (i := 1252) (by decide +kernel), List.mem_of_getElem? (i := 1529) (by decide +kernel), List.mem_of_getElem? (i := 1530) (by decide +kernel)⟩
theorem lw_p120 : lw_okq (⟨"TurfHeapsModel", "lay", "(II)V"⟩, 46) := ⟨⟨by decide +kernel, by decide +kernel⟩, List.mem_of_getElem? (i := 1252) (by decide +kernel), List.mem_of_getElem? (i := 1533) (by decide +kernel), List.mem_of_getElem? (i := 1534) (by decide +kernel)⟩
theorem lw_p121 : lw_okq (⟨"TurfHeapsModel", "manyOf", "(I)I"⟩, 46) := ⟨⟨by decide +kernel, by decide +kernel⟩, List.mem_of_getElem? (i := 1252) (by decide +kernel), List.mem_of_getElem? (i := 1537) (by decide +kernel), List.mem_of_getElem? (i := 1538) (by decide +kernel)⟩
theorem lw_p122 : lw_okq (⟨"TurfHeapsModel", "heightOf", "(II)I"⟩, 46) := ⟨⟨by decide +kernel, by decide +kernel⟩, List.mem_of_getElem? (i := 1252) (by decide +kernel), List.mem_of_getElem? (i := 1541) (by decide +kernel), List.mem_of_getElem? (i := 1542) (by decide +kernel)⟩
theorem lw_p123 : lw_okq (⟨"TurfHeapsModel", "days", "()I"⟩, 46) := ⟨⟨by decide +kernel, by decide +kernel⟩, List.mem_of_getElem? (i := 1252) (by decide +kernel), List.mem_of_getElem? (i := 1545) (by decide +kernel), List.mem_of_getElem? (i := 1546) (by decide +kernel)⟩
theorem lw_p124 : lw_okq (⟨"TurfHeapsModel", "beginDay", "(I)V"⟩, 46) := ⟨⟨by decide +kernel, by decide +kernel⟩, List.mem_of_getElem? (i := 1252) (by decide +kernel), List.mem_of_getElem? (i := 1549) (by decide +kernel), List.mem_of_getElem? (i := 1550) (by decide +kernel)⟩
theorem lw_p125 : lw_okq (⟨"TurfHeapsModel", "takeHighest", "(I)V"⟩, 46) := ⟨⟨by decide +kernel, by decide +kernel⟩, List.mem_of_getElem? (i := 1252) (by decide +kernel), List.mem_of_getElem? (i := 1556) (by decide +kernel), List.mem_of_getElem? (i := 1557) (by decide +kernel)⟩
theorem lw_p126 : lw_okq (⟨"TurfHeapsModel", "copyRow", "(II)V"⟩, 46) := ⟨⟨by decide +kernel, by decide +kernel⟩, List.mem_of_getElem? (i := 1252) (by decide +kernel), List.mem_of_getElem? (i := 1560) (by decide +kernel), List.mem_of_getElem? (i := 1561) (by decide +kernel)⟩
theorem lw_p127 : lw_okq (⟨"TurfHeapsModel", "step", "(I)V"⟩, 46) := ⟨⟨by decide +kernel, by decide +kernel⟩, List.mem_of_getElem? (i := 1252) (by decide +kernel), List.mem_of_getElem? (i := 1564) (by decide +kernel), List.mem_of_getElem? (i := 1565) (by decide +kernel)⟩
def lw_privs_8 : List (MethodName × Nat) := [(⟨"TurfHeapsModel", "isHeap", "(I)Z"⟩, 46), (⟨"TurfHeapsModel", "isCart", "(I)Z"⟩, 46), (⟨"TurfHeapsModel", "cartMany", "()I"⟩, 46), (⟨"TurfHeapsModel", "asksDay", "(I)Z"⟩, 46), (⟨"TurfHeapsModel", "asksMoor", "()Z"⟩, 46), (⟨"TurfHeapsModel", "asItIs", "()V"⟩, 46), (⟨"TurfHeapsModel", "goAll", "()V"⟩, 46), (⟨"TurfHeapsModel", "empty", "(I)V"⟩, 46), (⟨"TurfHeapsModel", "lay", "(II)V"⟩, 46), (⟨"TurfHeapsModel", "manyOf", "(I)I"⟩, 46), (⟨"TurfHeapsModel", "heightOf", "(II)I"⟩, 46), (⟨"TurfHeapsModel", "days", "()I"⟩, 46), (⟨"TurfHeapsModel", "beginDay", "(I)V"⟩, 46), (⟨"TurfHeapsModel", "takeHighest", "(I)V"⟩, 46), (⟨"TurfHeapsModel", "copyRow", "(II)V"⟩, 46), (⟨"TurfHeapsModel", "step", "(I)V"⟩, 46)]
theorem lw_r8 : ∀ q ∈ lw_privs_8, lw_okq q := List.forall_mem_cons.mpr ⟨lw_p112, List.forall_mem_cons.mpr ⟨lw_p113, List.forall_mem_cons.mpr ⟨lw_p114, List.forall_mem_cons.mpr ⟨lw_p115, List.forall_mem_cons.mpr ⟨lw_p116, List.forall_mem_cons.mpr ⟨lw_p117, List.forall_mem_cons.mpr ⟨lw_p118, List.forall_mem_cons.mpr ⟨lw_p119, List.forall_mem_cons.mpr ⟨lw_p120, List.forall_mem_cons.mpr ⟨lw_p121, List.forall_mem_cons.mpr ⟨lw_p122, List.forall_mem_cons.mpr ⟨lw_p123, List.forall_mem_cons.mpr ⟨lw_p124, List.forall_mem_cons.mpr ⟨lw_p125, List.forall_mem_cons.mpr ⟨lw_p126, List.forall_mem_cons.mpr ⟨lw_p127, fun _ h => absurd h List.not_mem_nil⟩⟩⟩⟩⟩⟩⟩⟩⟩⟩⟩⟩⟩⟩⟩⟩
theorem lw_p128 : lw_okq (⟨"TurfHeapsModel", "offHeap", "(II)I"⟩, 46) := ⟨⟨by decide +kernel, by decide +kernel⟩, List.mem_of_getElem? (i := 1252) (by decide +kernel), List.mem_of_getElem? (i := 1568) (by decide +kernel), List.mem_of_getElem? (i := 1569) (by decide +kernel)⟩
theorem lw_p129 : lw_okq (⟨"TurfHeapsModel", "isMoor", "()Z"⟩, 46) := ⟨⟨by decide +kernel, by decide +kernel⟩, List.mem_of_getElem? (i := 1252) (by decide +kernel), List.mem_of_getElem? (i := 1572) (by decide +kernel), List.mem_of_getElem? (i := 1573) (by decide +kernel)⟩
theorem lw_p130 : lw_okq (⟨"TurfHeapsModel", "isDay", "(J)Z"⟩, 46) := ⟨⟨by decide +kernel, by decide +kernel⟩, List.mem_of_getElem? (i := 1252) (by decide +kernel), List.mem_of_getElem? (i := 1576) (by decide +kernel), List.mem_of_getElem? (i := 1577) (by decide +kernel)⟩
theorem lw_p131 : lw_okq (⟨"TurfHeapsModel", "turfsOf", "(I)I"⟩, 46) := ⟨⟨by decide +kernel, by decide +kernel⟩, List.mem_of_getElem? (i := 1252) (by decide +kernel), List.mem_of_getElem? (i := 1588) (by decide +kernel), List.mem_of_getElem? (i := 1589) (by decide +kernel)⟩
theorem lw_p132 : lw_okq (⟨"TurfHeapsModel", "isAhead", "(J)Z"⟩, 46) := ⟨⟨by decide +kernel, by decide +kernel⟩, List.mem_of_getElem? (i := 1252) (by decide +kernel), List.mem_of_getElem? (i := 1613) (by decide +kernel), List.mem_of_getElem? (i := 1614) (by decide +kernel)⟩
theorem lw_p133 : lw_okq (⟨"TurfHeapsModel", "highestOf", "(I)I"⟩, 46) := ⟨⟨by decide +kernel, by decide +kernel⟩, List.mem_of_getElem? (i := 1252) (by decide +kernel), List.mem_of_getElem? (i := 1630) (by decide +kernel), List.mem_of_getElem? (i := 1631) (by decide +kernel)⟩
theorem lw_p134 : lw_okq (⟨"TurfHeapsModel", "firstSame", "(I)I"⟩, 46) := ⟨⟨by decide +kernel, by decide +kernel⟩, List.mem_of_getElem? (i := 1252) (by decide +kernel), List.mem_of_getElem? (i := 1638) (by decide +kernel), List.mem_of_getElem? (i := 1639) (by decide +kernel)⟩
theorem lw_p135 : lw_okq (⟨"TurfHeapsModel", "areSame", "(II)Z"⟩, 46) := ⟨⟨by decide +kernel, by decide +kernel⟩, List.mem_of_getElem? (i := 1252) (by decide +kernel), List.mem_of_getElem? (i := 1642) (by decide +kernel), List.mem_of_getElem? (i := 1643) (by decide +kernel)⟩
theorem lw_p136 : lw_okq (⟨"TurfHeapsModel", "isStair", "(I)Z"⟩, 46) := ⟨⟨by decide +kernel, by decide +kernel⟩, List.mem_of_getElem? (i := 1252) (by decide +kernel), List.mem_of_getElem? (i := 1658) (by decide +kernel), List.mem_of_getElem? (i := 1659) (by decide +kernel)⟩
theorem lw_p137 : lw_okq (⟨"TurfHeapsModel", "turnedHeap", "(II)I"⟩, 46) := ⟨⟨by decide +kernel, by decide +kernel⟩, List.mem_of_getElem? (i := 1252) (by decide +kernel), List.mem_of_getElem? (i := 1674) (by decide +kernel), List.mem_of_getElem? (i := 1675) (by decide +kernel)⟩
theorem lw_p138 : lw_okq (⟨"TurfHeapsModel", "isAbove", "(II)Z"⟩, 46) := ⟨⟨by decide +kernel, by decide +kernel⟩, List.mem_of_getElem? (i := 1252) (by decide +kernel), List.mem_of_getElem? (i := 1686) (by decide +kernel), List.mem_of_getElem? (i := 1687) (by decide +kernel)⟩
theorem lw_p139 : lw_okq (⟨"TurfHeapsModel", "goesRound", "(I)Z"⟩, 46) := ⟨⟨by decide +kernel, by decide +kernel⟩, List.mem_of_getElem? (i := 1252) (by decide +kernel), List.mem_of_getElem? (i := 1694) (by decide +kernel), List.mem_of_getElem? (i := 1695) (by decide +kernel)⟩
theorem lw_p140 : lw_okq (⟨"TurfHeapsModel", "asksAll", "(I)Z"⟩, 46) := ⟨⟨by decide +kernel, by decide +kernel⟩, List.mem_of_getElem? (i := 1252) (by decide +kernel), List.mem_of_getElem? (i := 1719) (by decide +kernel), List.mem_of_getElem? (i := 1720) (by decide +kernel)⟩
theorem lw_p141 : lw_okq (⟨"TurfHeapsModel", "listAll", "(I)V"⟩, 46) := ⟨⟨by decide +kernel, by decide +kernel⟩, List.mem_of_getElem? (i := 1252) (by decide +kernel), List.mem_of_getElem? (i := 1724) (by decide +kernel), List.mem_of_getElem? (i := 1725) (by decide +kernel)⟩
theorem lw_p142 : lw_okq (⟨"TurfHeapsModel", "keepListed", "()V"⟩, 46) := ⟨⟨by decide +kernel, by decide +kernel⟩, List.mem_of_getElem? (i := 1252) (by decide +kernel), List.mem_of_getElem? (i := 1728) (by decide +kernel), List.mem_of_getElem? (i := 1729) (by decide +kernel)⟩
theorem lw_p143 : lw_okq (⟨"TurfHeapsModel", "nextRow", "()Z"⟩, 46) := ⟨⟨by decide +kernel, by decide +kernel⟩, List.mem_of_getElem? (i := 1252) (by decide +kernel), List.mem_of_getElem? (i := 1732) (by decide +kernel), List.mem_of_getElem? (i := 1733) (by decide +kernel)⟩
def lw_privs_9 : List (MethodName × Nat) := [(⟨"TurfHeapsModel", "offHeap", "(II)I"⟩, 46), (⟨"TurfHeapsModel", "isMoor", "()Z"⟩, 46), (⟨"TurfHeapsModel", "isDay", "(J)Z"⟩, 46), (⟨"TurfHeapsModel", "turfsOf", "(I)I"⟩, 46), (⟨"TurfHeapsModel", "isAhead", "(J)Z"⟩, 46), (⟨"TurfHeapsModel", "highestOf", "(I)I"⟩, 46), (⟨"TurfHeapsModel", "firstSame", "(I)I"⟩, 46), (⟨"TurfHeapsModel", "areSame", "(II)Z"⟩, 46), (⟨"TurfHeapsModel", "isStair", "(I)Z"⟩, 46), (⟨"TurfHeapsModel", "turnedHeap", "(II)I"⟩, 46), (⟨"TurfHeapsModel", "isAbove", "(II)Z"⟩, 46), (⟨"TurfHeapsModel", "goesRound", "(I)Z"⟩, 46), (⟨"TurfHeapsModel", "asksAll", "(I)Z"⟩, 46), (⟨"TurfHeapsModel", "listAll", "(I)V"⟩, 46), (⟨"TurfHeapsModel", "keepListed", "()V"⟩, 46), (⟨"TurfHeapsModel", "nextRow", "()Z"⟩, 46)]
theorem lw_r9 : ∀ q ∈ lw_privs_9, lw_okq q := List.forall_mem_cons.mpr ⟨lw_p128, List.forall_mem_cons.mpr ⟨lw_p129, List.forall_mem_cons.mpr ⟨lw_p130, List.forall_mem_cons.mpr ⟨lw_p131, List.forall_mem_cons.mpr ⟨lw_p132, List.forall_mem_cons.mpr ⟨lw_p133, List.forall_mem_cons.mpr ⟨lw_p134, List.forall_mem_cons.mpr ⟨lw_p135, List.forall_mem_cons.mpr ⟨lw_p136, List.forall_mem_cons.mpr ⟨lw_p137, List.forall_mem_cons.mpr ⟨lw_p138, List.forall_mem_cons.mpr ⟨lw_p139, List.forall_mem_cons.mpr ⟨lw_p140, List.forall_mem_cons.mpr ⟨lw_p141, List.forall_mem_cons.mpr ⟨lw_p142, List.forall_mem_cons.mpr ⟨lw_p143, fun _ h => absurd h List.not_mem_nil⟩⟩⟩⟩⟩⟩⟩⟩⟩⟩⟩⟩⟩⟩⟩⟩
theorem lw_p144 : lw_okq (⟨"TurfHeapsModel", "takeListed", "(II)V"⟩, 46) := ⟨⟨by decide +kernel, by decide +kernel⟩, List.mem_of_getElem? (i := 1252) (by decide +kernel), List.mem_of_getElem? (i := 1736) (by decide +kernel), List.mem_of_getElem? (i := 1737) (by decide +kernel)⟩
theorem lw_p145 : lw_okq (⟨"TurfHeapsModel", "findListed", "(I)I"⟩, 46) := ⟨⟨by decide +kernel, by decide +kernel⟩, List.mem_of_getElem? (i := 1252) (by decide +kernel), List.mem_of_getElem? (i := 1740) (by decide +kernel), List.mem_of_getElem? (i := 1741) (by decide +kernel)⟩
theorem lw_p146 : lw_okq (⟨"TurfHeapsModel", "tailFrom", "(I)I"⟩, 46) := ⟨⟨by decide +kernel, by decide +kernel⟩, List.mem_of_getElem? (i := 1252) (by decide +kernel), List.mem_of_getElem? (i := 1744) (by decide +kernel), List.mem_of_getElem? (i := 1745) (by decide +kernel)⟩
theorem lw_p147 : lw_okq (⟨"TurfHeapsModel", "isRinged", "(I)Z"⟩, 46) := ⟨⟨by decide +kernel, by decide +kernel⟩, List.mem_of_getElem? (i := 1252) (by decide +kernel), List.mem_of_getElem? (i := 1748) (by decide +kernel), List.mem_of_getElem? (i := 1749) (by decide +kernel)⟩
theorem lw_p148 : lw_okq (⟨"TurfHeapsModel", "comesTo", "(I)I"⟩, 46) := ⟨⟨by decide +kernel, by decide +kernel⟩, List.mem_of_getElem? (i := 1252) (by decide +kernel), List.mem_of_getElem? (i := 1764) (by decide +kernel), List.mem_of_getElem? (i := 1765) (by decide +kernel)⟩
theorem lw_p149 : lw_okq (⟨"TurfHeapsModel", "askRow", "(I)I"⟩, 46) := ⟨⟨by decide +kernel, by decide +kernel⟩, List.mem_of_getElem? (i := 1252) (by decide +kernel), List.mem_of_getElem? (i := 1776) (by decide +kernel), List.mem_of_getElem? (i := 1777) (by decide +kernel)⟩
theorem lw_p150 : lw_okq (⟨"TurfHeapsModel", "numberAt", "(II)J"⟩, 46) := ⟨⟨by decide +kernel, by decide +kernel⟩, List.mem_of_getElem? (i := 1252) (by decide +kernel), List.mem_of_getElem? (i := 1784) (by decide +kernel), List.mem_of_getElem? (i := 1785) (by decide +kernel)⟩
theorem lw_p151 : lw_okq (⟨"TurfHeapsModel", "lastBy", "(II)I"⟩, 46) := ⟨⟨by decide +kernel, by decide +kernel⟩, List.mem_of_getElem? (i := 1252) (by decide +kernel), List.mem_of_getElem? (i := 1801) (by decide +kernel), List.mem_of_getElem? (i := 1802) (by decide +kernel)⟩
theorem lw_p152 : lw_okq (⟨"TurfHeapsModel", "lastMany", "()I"⟩, 46) := ⟨⟨by decide +kernel, by decide +kernel⟩, List.mem_of_getElem? (i := 1252) (by decide +kernel), List.mem_of_getElem? (i := 1805) (by decide +kernel), List.mem_of_getElem? (i := 1806) (by decide +kernel)⟩
theorem lw_p153 : lw_okq (⟨"TurfHeapsModel", "layFits", "(II)I"⟩, 46) := ⟨⟨by decide +kernel, by decide +kernel⟩, List.mem_of_getElem? (i := 1252) (by decide +kernel), List.mem_of_getElem? (i := 1821) (by decide +kernel), List.mem_of_getElem? (i := 1822) (by decide +kernel)⟩
theorem lw_p154 : lw_okq (⟨"TurfHeapsModel", "askSeen", "(I)I"⟩, 46) := ⟨⟨by decide +kernel, by decide +kernel⟩, List.mem_of_getElem? (i := 1252) (by decide +kernel), List.mem_of_getElem? (i := 1825) (by decide +kernel), List.mem_of_getElem? (i := 1826) (by decide +kernel)⟩
theorem lw_p155 : lw_okq (⟨"TurfHeapsModel", "isSeen", "(I)Z"⟩, 46) := ⟨⟨by decide +kernel, by decide +kernel⟩, List.mem_of_getElem? (i := 1252) (by decide +kernel), List.mem_of_getElem? (i := 1829) (by decide +kernel), List.mem_of_getElem? (i := 1830) (by decide +kernel)⟩
theorem lw_p156 : lw_okq (⟨"TurfHeapsModel", "askOf", "()I"⟩, 46) := ⟨⟨by decide +kernel, by decide +kernel⟩, List.mem_of_getElem? (i := 1252) (by decide +kernel), List.mem_of_getElem? (i := 1845) (by decide +kernel), List.mem_of_getElem? (i := 1846) (by decide +kernel)⟩
theorem lw_p157 : lw_okq (⟨"TurfHeapsModel", "worstIn", "(I)I"⟩, 46) := ⟨⟨by decide +kernel, by decide +kernel⟩, List.mem_of_getElem? (i := 1252) (by decide +kernel), List.mem_of_getElem? (i := 1849) (by decide +kernel), List.mem_of_getElem? (i := 1850) (by decide +kernel)⟩
theorem lw_p158 : lw_okq (⟨"TurfHeapsModel", "lastByLaw", "(I)I"⟩, 46) := ⟨⟨by decide +kernel, by decide +kernel⟩, List.mem_of_getElem? (i := 1252) (by decide +kernel), List.mem_of_getElem? (i := 1865) (by decide +kernel), List.mem_of_getElem? (i := 1866) (by decide +kernel)⟩
theorem lw_p159 : lw_okq (⟨"TurfHeapsModel", "worthOf", "(I)I"⟩, 46) := ⟨⟨by decide +kernel, by decide +kernel⟩, List.mem_of_getElem? (i := 1252) (by decide +kernel), List.mem_of_getElem? (i := 1877) (by decide +kernel), List.mem_of_getElem? (i := 1878) (by decide +kernel)⟩
def lw_privs_10 : List (MethodName × Nat) := [(⟨"TurfHeapsModel", "takeListed", "(II)V"⟩, 46), (⟨"TurfHeapsModel", "findListed", "(I)I"⟩, 46), (⟨"TurfHeapsModel", "tailFrom", "(I)I"⟩, 46), (⟨"TurfHeapsModel", "isRinged", "(I)Z"⟩, 46), (⟨"TurfHeapsModel", "comesTo", "(I)I"⟩, 46), (⟨"TurfHeapsModel", "askRow", "(I)I"⟩, 46), (⟨"TurfHeapsModel", "numberAt", "(II)J"⟩, 46), (⟨"TurfHeapsModel", "lastBy", "(II)I"⟩, 46), (⟨"TurfHeapsModel", "lastMany", "()I"⟩, 46), (⟨"TurfHeapsModel", "layFits", "(II)I"⟩, 46), (⟨"TurfHeapsModel", "askSeen", "(I)I"⟩, 46), (⟨"TurfHeapsModel", "isSeen", "(I)Z"⟩, 46), (⟨"TurfHeapsModel", "askOf", "()I"⟩, 46), (⟨"TurfHeapsModel", "worstIn", "(I)I"⟩, 46), (⟨"TurfHeapsModel", "lastByLaw", "(I)I"⟩, 46), (⟨"TurfHeapsModel", "worthOf", "(I)I"⟩, 46)]
theorem lw_r10 : ∀ q ∈ lw_privs_10, lw_okq q := List.forall_mem_cons.mpr ⟨lw_p144, List.forall_mem_cons.mpr ⟨lw_p145, List.forall_mem_cons.mpr ⟨lw_p146, List.forall_mem_cons.mpr ⟨lw_p147, List.forall_mem_cons.mpr ⟨lw_p148, List.forall_mem_cons.mpr ⟨lw_p149, List.forall_mem_cons.mpr ⟨lw_p150, List.forall_mem_cons.mpr ⟨lw_p151, List.forall_mem_cons.mpr ⟨lw_p152, List.forall_mem_cons.mpr ⟨lw_p153, List.forall_mem_cons.mpr ⟨lw_p154, List.forall_mem_cons.mpr ⟨lw_p155, List.forall_mem_cons.mpr ⟨lw_p156, List.forall_mem_cons.mpr ⟨lw_p157, List.forall_mem_cons.mpr ⟨lw_p158, List.forall_mem_cons.mpr ⟨lw_p159, fun _ h => absurd h List.not_mem_nil⟩⟩⟩⟩⟩⟩⟩⟩⟩⟩⟩⟩⟩⟩⟩⟩
theorem lw_p160 : lw_okq (⟨"TurfHeapsModel", "asksTaking", "(II)Z"⟩, 46) := ⟨⟨by decide +kernel, by decide +kernel⟩, List.mem_of_getElem? (i := 1252) (by decide +kernel), List.mem_of_getElem? (i := 1902) (by decide +kernel), List.mem_of_getElem? (i := 1903) (by decide +kernel)⟩
theorem lw_p161 : lw_okq (⟨"TurfHeapsModel", "taking", "(II)I"⟩, 46) := ⟨⟨by decide +kernel, by decide +kernel⟩, List.mem_of_getElem? (i := 1252) (by decide +kernel), List.mem_of_getElem? (i := 1906) (by decide +kernel), List.mem_of_getElem? (i := 1907) (by decide +kernel)⟩
theorem lw_p162 : lw_okq (⟨"TurfHeapsModel", "isFirstHigh", "(II)Z"⟩, 46) := ⟨⟨by decide +kernel, by decide +kernel⟩, List.mem_of_getElem? (i := 1252) (by decide +kernel), List.mem_of_getElem? (i := 1914) (by decide +kernel), List.mem_of_getElem? (i := 1915) (by decide +kernel)⟩
theorem lw_p163 : lw_okq (⟨"TurfHeapsModel", "isMove", "(IIII)Z"⟩, 46) := ⟨⟨by decide +kernel, by decide +kernel⟩, List.mem_of_getElem? (i := 1252) (by decide +kernel), List.mem_of_getElem? (i := 1918) (by decide +kernel), List.mem_of_getElem? (i := 1919) (by decide +kernel)⟩
theorem lw_p164 : lw_okq (⟨"TurfHeapsModel", "areTwo", "(II)Z"⟩, 46) := ⟨⟨by decide +kernel, by decide +kernel⟩, List.mem_of_getElem? (i := 1252) (by decide +kernel), List.mem_of_getElem? (i := 1930) (by decide +kernel), List.mem_of_getElem? (i := 1931) (by decide +kernel)⟩
theorem lw_p165 : lw_okq (⟨"TurfHeapsModel", "getsBy", "(IIIII)I"⟩, 46) := ⟨⟨by decide +kernel, by decide +kernel⟩, List.mem_of_getElem? (i := 1252) (by decide +kernel), List.mem_of_getElem? (i := 1934) (by decide +kernel), List.mem_of_getElem? (i := 1935) (by decide +kernel)⟩
theorem lw_p166 : lw_okq (⟨"TurfHeapsModel", "isWet", "(II)Z"⟩, 46) := ⟨⟨by decide +kernel, by decide +kernel⟩, List.mem_of_getElem? (i := 1252) (by decide +kernel), List.mem_of_getElem? (i := 1946) (by decide +kernel), List.mem_of_getElem? (i := 1947) (by decide +kernel)⟩
theorem lw_p167 : lw_okq (⟨"TurfHeapsModel", "layWet", "(II)V"⟩, 46) := ⟨⟨by decide +kernel, by decide +kernel⟩, List.mem_of_getElem? (i := 1252) (by decide +kernel), List.mem_of_getElem? (i := 1951) (by decide +kernel), List.mem_of_getElem? (i := 1952) (by decide +kernel)⟩
theorem lw_p168 : lw_okq (⟨"TurfHeapsModel", "keepAct", "(I)I"⟩, 46) := ⟨⟨by decide +kernel, by decide +kernel⟩, List.mem_of_getElem? (i := 1252) (by decide +kernel), List.mem_of_getElem? (i := 1964) (by decide +kernel), List.mem_of_getElem? (i := 1965) (by decide +kernel)⟩
theorem lw_p169 : lw_okq (⟨"TurfHeapsModel", "goDrawn", "(J)V"⟩, 46) := ⟨⟨by decide +kernel, by decide +kernel⟩, List.mem_of_getElem? (i := 1252) (by decide +kernel), List.mem_of_getElem? (i := 1988) (by decide +kernel), List.mem_of_getElem? (i := 1989) (by decide +kernel)⟩
def lw_privs_11 : List (MethodName × Nat) := [(⟨"TurfHeapsModel", "asksTaking", "(II)Z"⟩, 46), (⟨"TurfHeapsModel", "taking", "(II)I"⟩, 46), (⟨"TurfHeapsModel", "isFirstHigh", "(II)Z"⟩, 46), (⟨"TurfHeapsModel", "isMove", "(IIII)Z"⟩, 46), (⟨"TurfHeapsModel", "areTwo", "(II)Z"⟩, 46), (⟨"TurfHeapsModel", "getsBy", "(IIIII)I"⟩, 46), (⟨"TurfHeapsModel", "isWet", "(II)Z"⟩, 46), (⟨"TurfHeapsModel", "layWet", "(II)V"⟩, 46), (⟨"TurfHeapsModel", "keepAct", "(I)I"⟩, 46), (⟨"TurfHeapsModel", "goDrawn", "(J)V"⟩, 46)]
theorem lw_r11 : ∀ q ∈ lw_privs_11, lw_okq q := List.forall_mem_cons.mpr ⟨lw_p160, List.forall_mem_cons.mpr ⟨lw_p161, List.forall_mem_cons.mpr ⟨lw_p162, List.forall_mem_cons.mpr ⟨lw_p163, List.forall_mem_cons.mpr ⟨lw_p164, List.forall_mem_cons.mpr ⟨lw_p165, List.forall_mem_cons.mpr ⟨lw_p166, List.forall_mem_cons.mpr ⟨lw_p167, List.forall_mem_cons.mpr ⟨lw_p168, List.forall_mem_cons.mpr ⟨lw_p169, fun _ h => absurd h List.not_mem_nil⟩⟩⟩⟩⟩⟩⟩⟩⟩⟩
def lw_privs : List (MethodName × Nat) := lw_privs_1 ++ (lw_privs_2 ++ (lw_privs_3 ++ (lw_privs_4 ++ (lw_privs_5 ++ (lw_privs_6 ++ (lw_privs_7 ++ (lw_privs_8 ++ (lw_privs_9 ++ (lw_privs_10 ++ (lw_privs_11))))))))))
def lw_tbl : List Cond := k2_sels lw_privs ++ tables_1
theorem lw_privs_ok : ∀ q ∈ lw_privs, lw_okq q := by
  show ∀ q ∈ lw_privs_1 ++ (lw_privs_2 ++ (lw_privs_3 ++ (lw_privs_4 ++ (lw_privs_5 ++ (lw_privs_6 ++ (lw_privs_7 ++ (lw_privs_8 ++ (lw_privs_9 ++ (lw_privs_10 ++ (lw_privs_11)))))))))), lw_okq q
  exact List.forall_mem_append.mpr ⟨lw_r1, List.forall_mem_append.mpr ⟨lw_r2, List.forall_mem_append.mpr ⟨lw_r3, List.forall_mem_append.mpr ⟨lw_r4, List.forall_mem_append.mpr ⟨lw_r5, List.forall_mem_append.mpr ⟨lw_r6, List.forall_mem_append.mpr ⟨lw_r7, List.forall_mem_append.mpr ⟨lw_r8, List.forall_mem_append.mpr ⟨lw_r9, List.forall_mem_append.mpr ⟨lw_r10, lw_r11⟩⟩⟩⟩⟩⟩⟩⟩⟩⟩
-- ===== end of PART A; then your names; then what follows =====
end
section
def RX0 : String := "TurfHeaps$Every"
def TX0 : u_T := fun k => match k with
  | 0 => ("TurfHeaps$Every", "codes", "[J", true)
  | 1 => ("TurfHeaps$Every", "next", "[I", true)
  | 2 => ("TurfHeaps$Every", "comers", "[I", true)
  | 3 => ("TurfHeaps$Every", "waiting", "[I", true)
  | 4 => ("TurfHeaps$Every", "order", "[I", true)
  | 5 => ("TurfHeaps$Every", "tails", "[I", true)
  | 6 => ("TurfHeaps$Every", "parts", "[I", true)
  | 7 => ("TurfHeaps$Every", "row", "LTurfHeaps$Row;", true)
  | 8 => ("TurfHeaps$Every", "size", "I", false)
  | 9 => ("TurfHeaps$Every", "onRings", "I", false)
  | 10 => ("TurfHeaps$Every", "ringCount", "I", false)
  | 11 => ("TurfHeaps$Every", "notComeTo", "I", false)
  | 12 => ("TurfHeaps$Every", "longestTail", "I", false)
  | 13 => ("TurfHeaps$Every", "ofTurfs", "I", false)
  | _ => ("TurfHeaps$Every", "byLaw", "I", false)
def tyX0 : Nat → FieldType := fun k => match k with
  | 0 => .array .long
  | 1 => .array .int
  | 2 => .array .int
  | 3 => .array .int
  | 4 => .array .int
  | 5 => .array .int
  | 6 => .array .int
  | 7 => .object "TurfHeaps$Row"
  | 8 => .int
  | 9 => .int
  | 10 => .int
  | 11 => .int
  | 12 => .int
  | 13 => .int
  | _ => .int
abbrev wsX00 : List Cond := u_ws RX0 TX0 15
theorem nmX0 : ∀ a, a < 15 → ∀ b, b < 15 → a ≠ b → (TX0 a).2.1 ≠ (TX0 b).2.1 := by decide +kernel
theorem tyX0_ok : ∀ k, k < 15 → parseFieldDescriptor (TX0 k).2.2.1 = some (tyX0 k) := by decide +kernel
abbrev cX0_init : ByteArray := prog_2_method_1_code
def yX0_init : MethodName := ⟨RX0, "<init>", "()V"⟩
abbrev cX0_workOut : ByteArray := prog_2_method_2_code
def yX0_workOut : MethodName := ⟨RX0, "workOut", "(II)V"⟩
abbrev cX0_listRows : ByteArray := prog_2_method_3_code
def yX0_listRows : MethodName := ⟨RX0, "listRows", "(I)V"⟩
abbrev cX0_nextParts : ByteArray := prog_2_method_4_code
def yX0_nextParts : MethodName := ⟨RX0, "nextParts", "(I)I"⟩
abbrev cX0_codeOfParts : ByteArray := prog_2_method_5_code
def yX0_codeOfParts : MethodName := ⟨RX0, "codeOfParts", "(I)J"⟩
abbrev cX0_heapOfCode : ByteArray := prog_2_method_6_code
def yX0_heapOfCode : MethodName := ⟨RX0, "heapOfCode", "(JI)I"⟩
abbrev cX0_codeOf : ByteArray := prog_2_method_7_code
def yX0_codeOf : MethodName := ⟨RX0, "codeOf", "(LTurfHeaps$Row;)J"⟩
abbrev cX0_fill : ByteArray := prog_2_method_8_code
def yX0_fill : MethodName := ⟨RX0, "fill", "(J)V"⟩
abbrev cX0_indexOf : ByteArray := prog_2_method_9_code
def yX0_indexOf : MethodName := ⟨RX0, "indexOf", "(J)I"⟩
abbrev cX0_linkRows : ByteArray := prog_2_method_10_code
def yX0_linkRows : MethodName := ⟨RX0, "linkRows", "(I)V"⟩
abbrev cX0_peelTails : ByteArray := prog_2_method_11_code
def yX0_peelTails : MethodName := ⟨RX0, "peelTails", "()I"⟩
abbrev cX0_measureTails : ByteArray := prog_2_method_12_code
def yX0_measureTails : MethodName := ⟨RX0, "measureTails", "(I)V"⟩
abbrev cX0_countRings : ByteArray := prog_2_method_13_code
def yX0_countRings : MethodName := ⟨RX0, "countRings", "()V"⟩
abbrev cX0_comersTo : ByteArray := prog_2_method_14_code
def yX0_comersTo : MethodName := ⟨RX0, "comersTo", "(LTurfHeaps$Row;)I"⟩
abbrev cX0_tailOf : ByteArray := prog_2_method_15_code
def yX0_tailOf : MethodName := ⟨RX0, "tailOf", "(LTurfHeaps$Row;)I"⟩
abbrev cX0_heapOfFirstComer : ByteArray := prog_2_method_16_code
def yX0_heapOfFirstComer : MethodName := ⟨RX0, "heapOfFirstComer", "(LTurfHeaps$Row;I)I"⟩
def RX1 : String := "TurfHeaps$Moor"
def TX1 : u_T := fun k => match k with
  | 0 => ("TurfHeaps$Moor", "told", "[I", true)
  | 1 => ("TurfHeaps$Moor", "cartTurfs", "[I", true)
  | 2 => ("TurfHeaps$Moor", "cartDay", "[I", true)
  | 3 => ("TurfHeaps$Moor", "actTurfs", "[I", true)
  | 4 => ("TurfHeaps$Moor", "actDay", "[I", true)
  | 5 => ("TurfHeaps$Moor", "days", "I", false)
  | 6 => ("TurfHeaps$Moor", "law", "I", false)
  | 7 => ("TurfHeaps$Moor", "odds", "I", false)
  | 8 => ("TurfHeaps$Moor", "lines", "I", false)
  | 9 => ("TurfHeaps$Moor", "heapsTold", "I", false)
  | 10 => ("TurfHeaps$Moor", "carts", "I", false)
  | 11 => ("TurfHeaps$Moor", "acts", "I", false)
  | _ => ("TurfHeaps$Moor", "kept", "Z", false)
def tyX1 : Nat → FieldType := fun k => match k with
  | 0 => .array .int
  | 1 => .array .int
  | 2 => .array .int
  | 3 => .array .int
  | 4 => .array .int
  | 5 => .int
  | 6 => .int
  | 7 => .int
  | 8 => .int
  | 9 => .int
  | 10 => .int
  | 11 => .int
  | _ => .boolean
abbrev wsX10 : List Cond := u_ws RX1 TX1 13
theorem nmX1 : ∀ a, a < 13 → ∀ b, b < 13 → a ≠ b → (TX1 a).2.1 ≠ (TX1 b).2.1 := by decide +kernel
theorem tyX1_ok : ∀ k, k < 13 → parseFieldDescriptor (TX1 k).2.2.1 = some (tyX1 k) := by decide +kernel
abbrev cX1_init : ByteArray := prog_3_method_1_code
def yX1_init : MethodName := ⟨RX1, "<init>", "()V"⟩
abbrev cX1_clear : ByteArray := prog_3_method_2_code
def yX1_clear : MethodName := ⟨RX1, "clear", "()V"⟩
abbrev cX1_become : ByteArray := prog_3_method_3_code
def yX1_become : MethodName := ⟨RX1, "become", "(LTurfHeaps$Moor;)V"⟩
def RX2 : String := "TurfHeaps$Round"
def TX2 : u_T := fun k => match k with
  | 0 => ("TurfHeaps$Round", "slow", "LTurfHeaps$Row;", true)
  | 1 => ("TurfHeaps$Round", "fast", "LTurfHeaps$Row;", true)
  | 2 => ("TurfHeaps$Round", "steps", "I", false)
  | 3 => ("TurfHeaps$Round", "turn", "I", false)
  | 4 => ("TurfHeaps$Round", "mostHeaps", "I", false)
  | _ => ("TurfHeaps$Round", "firstStair", "I", false)
def tyX2 : Nat → FieldType := fun k => match k with
  | 0 => .object "TurfHeaps$Row"
  | 1 => .object "TurfHeaps$Row"
  | 2 => .int
  | 3 => .int
  | 4 => .int
  | _ => .int
abbrev wsX20 : List Cond := u_ws RX2 TX2 6
theorem nmX2 : ∀ a, a < 6 → ∀ b, b < 6 → a ≠ b → (TX2 a).2.1 ≠ (TX2 b).2.1 := by decide +kernel
theorem tyX2_ok : ∀ k, k < 6 → parseFieldDescriptor (TX2 k).2.2.1 = some (tyX2 k) := by decide +kernel
abbrev cX2_init : ByteArray := prog_4_method_1_code
def yX2_init : MethodName := ⟨RX2, "<init>", "()V"⟩
abbrev cX2_follow : ByteArray := prog_4_method_2_code
def yX2_follow : MethodName := ⟨RX2, "follow", "(LTurfHeaps$Row;I)V"⟩
abbrev cX2_turnFrom : ByteArray := prog_4_method_3_code
def yX2_turnFrom : MethodName := ⟨RX2, "turnFrom", "(LTurfHeaps$Row;I)I"⟩
abbrev cX2_stepsAheadOfRing : ByteArray := prog_4_method_4_code
def yX2_stepsAheadOfRing : MethodName := ⟨RX2, "stepsAheadOfRing", "(LTurfHeaps$Row;I)I"⟩
abbrev cX2_lookForStair : ByteArray := prog_4_method_5_code
def yX2_lookForStair : MethodName := ⟨RX2, "lookForStair", "(I)V"⟩
def RX3 : String := "TurfHeaps$Row"
def TX3 : u_T := fun k => match k with
  | 0 => ("TurfHeaps$Row", "high", "[I", true)
  | 1 => ("TurfHeaps$Row", "times", "[I", true)
  | 2 => ("TurfHeaps$Row", "runs", "I", false)
  | 3 => ("TurfHeaps$Row", "heaps", "I", false)
  | _ => ("TurfHeaps$Row", "turfs", "I", false)
def tyX3 : Nat → FieldType := fun k => match k with
  | 0 => .array .int
  | 1 => .array .int
  | 2 => .int
  | 3 => .int
  | _ => .int
abbrev wsX30 : List Cond := u_ws RX3 TX3 5
theorem nmX3 : ∀ a, a < 5 → ∀ b, b < 5 → a ≠ b → (TX3 a).2.1 ≠ (TX3 b).2.1 := by decide +kernel
theorem tyX3_ok : ∀ k, k < 5 → parseFieldDescriptor (TX3 k).2.2.1 = some (tyX3 k) := by decide +kernel
abbrev cX3_init : ByteArray := prog_5_method_1_code
def yX3_init : MethodName := ⟨RX3, "<init>", "()V"⟩
abbrev cX3_clear : ByteArray := prog_5_method_2_code
def yX3_clear : MethodName := ⟨RX3, "clear", "()V"⟩
abbrev cX3_become : ByteArray := prog_5_method_3_code
def yX3_become : MethodName := ⟨RX3, "become", "(LTurfHeaps$Row;)V"⟩
abbrev cX3_alike : ByteArray := prog_5_method_4_code
def yX3_alike : MethodName := ⟨RX3, "alike", "(LTurfHeaps$Row;)Z"⟩
abbrev cX3_lay : ByteArray := prog_5_method_5_code
def yX3_lay : MethodName := ⟨RX3, "lay", "(I)V"⟩
abbrev cX3_dropHighest : ByteArray := prog_5_method_6_code
def yX3_dropHighest : MethodName := ⟨RX3, "dropHighest", "()I"⟩
abbrev cX3_step : ByteArray := prog_5_method_7_code
def yX3_step : MethodName := ⟨RX3, "step", "(I)V"⟩
abbrev cX3_lower : ByteArray := prog_5_method_8_code
def yX3_lower : MethodName := ⟨RX3, "lower", "(I)I"⟩
abbrev cX3_offEach : ByteArray := prog_5_method_9_code
def yX3_offEach : MethodName := ⟨RX3, "offEach", "(II)I"⟩
abbrev cX3_takenBy : ByteArray := prog_5_method_10_code
def yX3_takenBy : MethodName := ⟨RX3, "takenBy", "(I)I"⟩
abbrev cX3_goneBy : ByteArray := prog_5_method_11_code
def yX3_goneBy : MethodName := ⟨RX3, "goneBy", "(I)I"⟩
abbrev cX3_touched : ByteArray := prog_5_method_12_code
def yX3_touched : MethodName := ⟨RX3, "touched", "(II)I"⟩
abbrev cX3_highest : ByteArray := prog_5_method_13_code
def yX3_highest : MethodName := ⟨RX3, "highest", "()I"⟩
abbrev cX3_lowest : ByteArray := prog_5_method_14_code
def yX3_lowest : MethodName := ⟨RX3, "lowest", "()I"⟩
abbrev cX3_heapAt : ByteArray := prog_5_method_15_code
def yX3_heapAt : MethodName := ⟨RX3, "heapAt", "(I)I"⟩
abbrev cX3_heapsOf : ByteArray := prog_5_method_16_code
def yX3_heapsOf : MethodName := ⟨RX3, "heapsOf", "(I)I"⟩
abbrev cX3_heapsFrom : ByteArray := prog_5_method_17_code
def yX3_heapsFrom : MethodName := ⟨RX3, "heapsFrom", "(I)I"⟩
abbrev cX3_oddHeaps : ByteArray := prog_5_method_18_code
def yX3_oddHeaps : MethodName := ⟨RX3, "oddHeaps", "()I"⟩
abbrev cX3_isStair : ByteArray := prog_5_method_19_code
def yX3_isStair : MethodName := ⟨RX3, "isStair", "()Z"⟩
abbrev cX3_squareSide : ByteArray := prog_5_method_20_code
def yX3_squareSide : MethodName := ⟨RX3, "squareSide", "()I"⟩
abbrev cX3_sameTurnedOver : ByteArray := prog_5_method_21_code
def yX3_sameTurnedOver : MethodName := ⟨RX3, "sameTurnedOver", "()Z"⟩
abbrev cX3_standsTo : ByteArray := prog_5_method_22_code
def yX3_standsTo : MethodName := ⟨RX3, "standsTo", "(LTurfHeaps$Row;)I"⟩
abbrev cX3_nimSum : ByteArray := prog_5_method_23_code
def yX3_nimSum : MethodName := ⟨RX3, "nimSum", "(I)I"⟩
abbrev cX3_winningTake : ByteArray := prog_5_method_24_code
def yX3_winningTake : MethodName := ⟨RX3, "winningTake", "(II)I"⟩
def RX4 : String := "TurfHeaps$Season"
def TX4 : u_T := fun k => match k with
  | 0 => ("TurfHeaps$Season", "rows", "[LTurfHeaps$Row;", true)
  | 1 => ("TurfHeaps$Season", "law", "I", false)
  | 2 => ("TurfHeaps$Season", "set", "I", false)
  | 3 => ("TurfHeaps$Season", "late", "I", false)
  | 4 => ("TurfHeaps$Season", "wet", "I", false)
  | 5 => ("TurfHeaps$Season", "moreDay", "I", false)
  | 6 => ("TurfHeaps$Season", "moreTurfs", "I", false)
  | 7 => ("TurfHeaps$Season", "otherHeap", "I", false)
  | _ => ("TurfHeaps$Season", "otherTurfs", "I", false)
def tyX4 : Nat → FieldType := fun k => match k with
  | 0 => .array (.object "TurfHeaps$Row")
  | 1 => .int
  | 2 => .int
  | 3 => .int
  | 4 => .int
  | 5 => .int
  | 6 => .int
  | 7 => .int
  | _ => .int
abbrev wsX40 : List Cond := u_ws RX4 TX4 9
theorem nmX4 : ∀ a, a < 9 → ∀ b, b < 9 → a ≠ b → (TX4 a).2.1 ≠ (TX4 b).2.1 := by decide +kernel
theorem tyX4_ok : ∀ k, k < 9 → parseFieldDescriptor (TX4 k).2.2.1 = some (tyX4 k) := by decide +kernel
abbrev cX4_init : ByteArray := prog_6_method_1_code
def yX4_init : MethodName := ⟨RX4, "<init>", "()V"⟩
abbrev cX4_asTold : ByteArray := prog_6_method_2_code
def yX4_asTold : MethodName := ⟨RX4, "asTold", "(LTurfHeaps$Moor;)V"⟩
abbrev cX4_at : ByteArray := prog_6_method_3_code
def yX4_at : MethodName := ⟨RX4, "at", "(I)LTurfHeaps$Row;"⟩
abbrev cX4_pass : ByteArray := prog_6_method_4_code
def yX4_pass : MethodName := ⟨RX4, "pass", "(LTurfHeaps$Moor;)V"⟩
abbrev cX4_begin : ByteArray := prog_6_method_5_code
def yX4_begin : MethodName := ⟨RX4, "begin", "(LTurfHeaps$Moor;)V"⟩
abbrev cX4_next : ByteArray := prog_6_method_6_code
def yX4_next : MethodName := ⟨RX4, "next", "(LTurfHeaps$Moor;I)V"⟩
abbrev cX4_arrive : ByteArray := prog_6_method_7_code
def yX4_arrive : MethodName := ⟨RX4, "arrive", "(LTurfHeaps$Moor;I)V"⟩
def RX5 : String := "TurfHeaps$Seen"
def TX5 : u_T := fun k => match k with
  | 0 => ("TurfHeaps$Seen", "turfs", "[I", true)
  | 1 => ("TurfHeaps$Seen", "heaps", "[[I", true)
  | _ => ("TurfHeaps$Seen", "possible", "I", false)
def tyX5 : Nat → FieldType := fun k => match k with
  | 0 => .array .int
  | 1 => .array (.array .int)
  | _ => .int
abbrev wsX50 : List Cond := u_ws RX5 TX5 3
theorem nmX5 : ∀ a, a < 3 → ∀ b, b < 3 → a ≠ b → (TX5 a).2.1 ≠ (TX5 b).2.1 := by decide +kernel
theorem tyX5_ok : ∀ k, k < 3 → parseFieldDescriptor (TX5 k).2.2.1 = some (tyX5 k) := by decide +kernel
abbrev cX5_init : ByteArray := prog_7_method_1_code
def yX5_init : MethodName := ⟨RX5, "<init>", "()V"⟩
abbrev cX5_clear : ByteArray := prog_7_method_2_code
def yX5_clear : MethodName := ⟨RX5, "clear", "()V"⟩
abbrev cX5_keep : ByteArray := prog_7_method_3_code
def yX5_keep : MethodName := ⟨RX5, "keep", "(ILTurfHeaps$Season;)V"⟩
abbrev cX5_lowest : ByteArray := prog_7_method_4_code
def yX5_lowest : MethodName := ⟨RX5, "lowest", "()I"⟩
abbrev cX5_highest : ByteArray := prog_7_method_5_code
def yX5_highest : MethodName := ⟨RX5, "highest", "()I"⟩
abbrev cX5_bestDay : ByteArray := prog_7_method_6_code
def yX5_bestDay : MethodName := ⟨RX5, "bestDay", "(I)I"⟩
abbrev cX5_leftAtWorst : ByteArray := prog_7_method_7_code
def yX5_leftAtWorst : MethodName := ⟨RX5, "leftAtWorst", "(I)I"⟩
abbrev cX5_worstOf : ByteArray := prog_7_method_8_code
def yX5_worstOf : MethodName := ⟨RX5, "worstOf", "(I)I"⟩
def RX6 : String := "TurfHeaps$Slot"
def TX6 : u_T := fun k => match k with
  | 0 => ("TurfHeaps$Slot", "numbers", "[J", true)
  | 1 => ("TurfHeaps$Slot", "has", "Z", false)
  | 2 => ("TurfHeaps$Slot", "width", "I", false)
  | _ => ("TurfHeaps$Slot", "size", "I", false)
def tyX6 : Nat → FieldType := fun k => match k with
  | 0 => .array .long
  | 1 => .boolean
  | 2 => .int
  | _ => .int
abbrev wsX60 : List Cond := u_ws RX6 TX6 4
theorem nmX6 : ∀ a, a < 4 → ∀ b, b < 4 → a ≠ b → (TX6 a).2.1 ≠ (TX6 b).2.1 := by decide +kernel
theorem tyX6_ok : ∀ k, k < 4 → parseFieldDescriptor (TX6 k).2.2.1 = some (tyX6 k) := by decide +kernel
abbrev cX6_init : ByteArray := prog_8_method_1_code
def yX6_init : MethodName := ⟨RX6, "<init>", "()V"⟩
abbrev cX6_lay : ByteArray := prog_8_method_2_code
def yX6_lay : MethodName := ⟨RX6, "lay", "(II)V"⟩
abbrev cX6_reaches : ByteArray := prog_8_method_3_code
def yX6_reaches : MethodName := ⟨RX6, "reaches", "(II)Z"⟩
abbrev cX6_fillSmall : ByteArray := prog_8_method_4_code
def yX6_fillSmall : MethodName := ⟨RX6, "fillSmall", "(LTurfHeaps$Row;)Z"⟩
abbrev cX6_isOfThrees : ByteArray := prog_8_method_5_code
def yX6_isOfThrees : MethodName := ⟨RX6, "isOfThrees", "(I)Z"⟩
abbrev cX6_tellsOf : ByteArray := prog_8_method_6_code
def yX6_tellsOf : MethodName := ⟨RX6, "tellsOf", "(LTurfHeaps$Season;)Z"⟩
def RX7 : String := "TurfHeaps$Tape"
def TX7 : u_T := fun k => match k with
  | 0 => ("TurfHeaps$Tape", "bytes", "[B", true)
  | 1 => ("TurfHeaps$Tape", "size", "I", false)
  | 2 => ("TurfHeaps$Tape", "fault", "I", false)
  | 3 => ("TurfHeaps$Tape", "faultPlace", "I", false)
  | 4 => ("TurfHeaps$Tape", "place", "I", false)
  | 5 => ("TurfHeaps$Tape", "kind", "I", false)
  | _ => ("TurfHeaps$Tape", "start", "I", false)
def tyX7 : Nat → FieldType := fun k => match k with
  | 0 => .array .byte
  | 1 => .int
  | 2 => .int
  | 3 => .int
  | 4 => .int
  | 5 => .int
  | _ => .int
abbrev wsX70 : List Cond := u_ws RX7 TX7 7
theorem nmX7 : ∀ a, a < 7 → ∀ b, b < 7 → a ≠ b → (TX7 a).2.1 ≠ (TX7 b).2.1 := by decide +kernel
theorem tyX7_ok : ∀ k, k < 7 → parseFieldDescriptor (TX7 k).2.2.1 = some (tyX7 k) := by decide +kernel
abbrev cX7_init : ByteArray := prog_9_method_1_code
def yX7_init : MethodName := ⟨RX7, "<init>", "()V"⟩
abbrev cX7_put : ByteArray := prog_9_method_2_code
def yX7_put : MethodName := ⟨RX7, "put", "(I)V"⟩
abbrev cX7_readInto : ByteArray := prog_9_method_3_code
def yX7_readInto : MethodName := ⟨RX7, "readInto", "(LTurfHeaps$Moor;)Z"⟩
abbrev cX7_readLine : ByteArray := prog_9_method_4_code
def yX7_readLine : MethodName := ⟨RX7, "readLine", "(LTurfHeaps$Moor;)V"⟩
abbrev cX7_readFirst : ByteArray := prog_9_method_5_code
def yX7_readFirst : MethodName := ⟨RX7, "readFirst", "(LTurfHeaps$Moor;)V"⟩
abbrev cX7_readHeap : ByteArray := prog_9_method_6_code
def yX7_readHeap : MethodName := ⟨RX7, "readHeap", "(LTurfHeaps$Moor;)V"⟩
abbrev cX7_readCart : ByteArray := prog_9_method_7_code
def yX7_readCart : MethodName := ⟨RX7, "readCart", "(LTurfHeaps$Moor;)V"⟩
abbrev cX7_expect : ByteArray := prog_9_method_8_code
def yX7_expect : MethodName := ⟨RX7, "expect", "(Z)V"⟩
abbrev cX7_expectNumber : ByteArray := prog_9_method_9_code
def yX7_expectNumber : MethodName := ⟨RX7, "expectNumber", "(II)I"⟩
abbrev cX7_fail : ByteArray := prog_9_method_10_code
def yX7_fail : MethodName := ⟨RX7, "fail", "(I)V"⟩
abbrev cX7_nextToken : ByteArray := prog_9_method_11_code
def yX7_nextToken : MethodName := ⟨RX7, "nextToken", "()V"⟩
abbrev cX7_isWord : ByteArray := prog_9_method_12_code
def yX7_isWord : MethodName := ⟨RX7, "isWord", "(Ljava/lang/String;)Z"⟩
abbrev cX7_number : ByteArray := prog_9_method_13_code
def yX7_number : MethodName := ⟨RX7, "number", "()I"⟩
abbrev cX7_isBlank : ByteArray := prog_9_method_14_code
def yX7_isBlank : MethodName := ⟨RX7, "isBlank", "(B)Z"⟩
abbrev cX7_isLetter : ByteArray := prog_9_method_15_code
def yX7_isLetter : MethodName := ⟨RX7, "isLetter", "(B)Z"⟩
abbrev cX7_isDigit : ByteArray := prog_9_method_16_code
def yX7_isDigit : MethodName := ⟨RX7, "isDigit", "(B)Z"⟩
def RX8 : String := "TurfHeaps"
def TX8 : u_T := fun k => match k with
  | 0 => ("TurfHeaps", "tape", "LTurfHeaps$Tape;", true)
  | 1 => ("TurfHeaps", "moor", "LTurfHeaps$Moor;", true)
  | 2 => ("TurfHeaps", "fresh", "LTurfHeaps$Moor;", true)
  | 3 => ("TurfHeaps", "images", "[LTurfHeaps$Moor;", true)
  | 4 => ("TurfHeaps", "slots", "[LTurfHeaps$Slot;", true)
  | 5 => ("TurfHeaps", "now", "LTurfHeaps$Season;", true)
  | 6 => ("TurfHeaps", "varied", "LTurfHeaps$Season;", true)
  | 7 => ("TurfHeaps", "round", "LTurfHeaps$Round;", true)
  | 8 => ("TurfHeaps", "every", "LTurfHeaps$Every;", true)
  | 9 => ("TurfHeaps", "seen", "LTurfHeaps$Seen;", true)
  | 10 => ("TurfHeaps", "loose", "LTurfHeaps$Row;", true)
  | 11 => ("TurfHeaps", "worths", "[I", true)
  | 12 => ("TurfHeaps", "pays", "[I", true)
  | 13 => ("TurfHeaps", "passed", "Z", false)
  | 14 => ("TurfHeaps", "worthsKnown", "Z", false)
  | _ => ("TurfHeaps", "roundDay", "I", false)
def tyX8 : Nat → FieldType := fun k => match k with
  | 0 => .object "TurfHeaps$Tape"
  | 1 => .object "TurfHeaps$Moor"
  | 2 => .object "TurfHeaps$Moor"
  | 3 => .array (.object "TurfHeaps$Moor")
  | 4 => .array (.object "TurfHeaps$Slot")
  | 5 => .object "TurfHeaps$Season"
  | 6 => .object "TurfHeaps$Season"
  | 7 => .object "TurfHeaps$Round"
  | 8 => .object "TurfHeaps$Every"
  | 9 => .object "TurfHeaps$Seen"
  | 10 => .object "TurfHeaps$Row"
  | 11 => .array .int
  | 12 => .array .int
  | 13 => .boolean
  | 14 => .boolean
  | _ => .int
abbrev wsX80 : List Cond := u_ws RX8 TX8 16
theorem nmX8 : ∀ a, a < 16 → ∀ b, b < 16 → a ≠ b → (TX8 a).2.1 ≠ (TX8 b).2.1 := by decide +kernel
theorem tyX8_ok : ∀ k, k < 16 → parseFieldDescriptor (TX8 k).2.2.1 = some (tyX8 k) := by decide +kernel
abbrev cX8_init : ByteArray := prog_1_method_1_code
def yX8_init : MethodName := ⟨RX8, "<init>", "()V"⟩
abbrev cX8_feed : ByteArray := prog_1_method_2_code
def yX8_feed : MethodName := ⟨RX8, "feed", "(IIIII)I"⟩
abbrev cX8_end : ByteArray := prog_1_method_3_code
def yX8_end : MethodName := ⟨RX8, "end", "(I)I"⟩
abbrev cX8_moor : ByteArray := prog_1_method_4_code
def yX8_moor : MethodName := ⟨RX8, "moor", "()I"⟩
abbrev cX8_fault : ByteArray := prog_1_method_5_code
def yX8_fault : MethodName := ⟨RX8, "fault", "(I)I"⟩
abbrev cX8_told : ByteArray := prog_1_method_6_code
def yX8_told : MethodName := ⟨RX8, "told", "(I)I"⟩
abbrev cX8_cart : ByteArray := prog_1_method_7_code
def yX8_cart : MethodName := ⟨RX8, "cart", "(II)I"⟩
abbrev cX8_heaps : ByteArray := prog_1_method_8_code
def yX8_heaps : MethodName := ⟨RX8, "heaps", "(I)I"⟩
abbrev cX8_heap : ByteArray := prog_1_method_9_code
def yX8_heap : MethodName := ⟨RX8, "heap", "(II)I"⟩
abbrev cX8_all : ByteArray := prog_1_method_10_code
def yX8_all : MethodName := ⟨RX8, "all", "(I)I"⟩
abbrev cX8_many : ByteArray := prog_1_method_11_code
def yX8_many : MethodName := ⟨RX8, "many", "(II)I"⟩
abbrev cX8_sorts : ByteArray := prog_1_method_12_code
def yX8_sorts : MethodName := ⟨RX8, "sorts", "(I)I"⟩
abbrev cX8_spread : ByteArray := prog_1_method_13_code
def yX8_spread : MethodName := ⟨RX8, "spread", "(I)I"⟩
abbrev cX8_odd : ByteArray := prog_1_method_14_code
def yX8_odd : MethodName := ⟨RX8, "odd", "(I)I"⟩
abbrev cX8_taken : ByteArray := prog_1_method_15_code
def yX8_taken : MethodName := ⟨RX8, "taken", "(I)I"⟩
abbrev cX8_gone : ByteArray := prog_1_method_16_code
def yX8_gone : MethodName := ⟨RX8, "gone", "(I)I"⟩
abbrev cX8_most : ByteArray := prog_1_method_17_code
def yX8_most : MethodName := ⟨RX8, "most", "()I"⟩
abbrev cX8_peak : ByteArray := prog_1_method_18_code
def yX8_peak : MethodName := ⟨RX8, "peak", "()I"⟩
abbrev cX8_same : ByteArray := prog_1_method_19_code
def yX8_same : MethodName := ⟨RX8, "same", "(I)I"⟩
abbrev cX8_still : ByteArray := prog_1_method_20_code
def yX8_still : MethodName := ⟨RX8, "still", "()I"⟩
abbrev cX8_rows : ByteArray := prog_1_method_21_code
def yX8_rows : MethodName := ⟨RX8, "rows", "()I"⟩
abbrev cX8_stair : ByteArray := prog_1_method_22_code
def yX8_stair : MethodName := ⟨RX8, "stair", "(I)I"⟩
abbrev cX8_stairs : ByteArray := prog_1_method_23_code
def yX8_stairs : MethodName := ⟨RX8, "stairs", "()I"⟩
abbrev cX8_square : ByteArray := prog_1_method_24_code
def yX8_square : MethodName := ⟨RX8, "square", "(I)I"⟩
abbrev cX8_flip : ByteArray := prog_1_method_25_code
def yX8_flip : MethodName := ⟨RX8, "flip", "(II)I"⟩
abbrev cX8_even : ByteArray := prog_1_method_26_code
def yX8_even : MethodName := ⟨RX8, "even", "(I)I"⟩
abbrev cX8_above : ByteArray := prog_1_method_27_code
def yX8_above : MethodName := ⟨RX8, "above", "(II)I"⟩
abbrev cX8_tail : ByteArray := prog_1_method_28_code
def yX8_tail : MethodName := ⟨RX8, "tail", "(I)I"⟩
abbrev cX8_length : ByteArray := prog_1_method_29_code
def yX8_length : MethodName := ⟨RX8, "length", "(I)I"⟩
abbrev cX8_ring : ByteArray := prog_1_method_30_code
def yX8_ring : MethodName := ⟨RX8, "ring", "(I)I"⟩
abbrev cX8_later : ByteArray := prog_1_method_31_code
def yX8_later : MethodName := ⟨RX8, "later", "(III)I"⟩
abbrev cX8_soon : ByteArray := prog_1_method_32_code
def yX8_soon : MethodName := ⟨RX8, "soon", "(I)I"⟩
abbrev cX8_rowsOf : ByteArray := prog_1_method_33_code
def yX8_rowsOf : MethodName := ⟨RX8, "rowsOf", "(I)I"⟩
abbrev cX8_ringed : ByteArray := prog_1_method_34_code
def yX8_ringed : MethodName := ⟨RX8, "ringed", "(I)I"⟩
abbrev cX8_rings : ByteArray := prog_1_method_35_code
def yX8_rings : MethodName := ⟨RX8, "rings", "(I)I"⟩
abbrev cX8_gardens : ByteArray := prog_1_method_36_code
def yX8_gardens : MethodName := ⟨RX8, "gardens", "(I)I"⟩
abbrev cX8_longest : ByteArray := prog_1_method_37_code
def yX8_longest : MethodName := ⟨RX8, "longest", "(I)I"⟩
abbrev cX8_ahead : ByteArray := prog_1_method_38_code
def yX8_ahead : MethodName := ⟨RX8, "ahead", "(I)I"⟩
abbrev cX8_from : ByteArray := prog_1_method_39_code
def yX8_from : MethodName := ⟨RX8, "from", "(II)I"⟩
abbrev cX8_way : ByteArray := prog_1_method_40_code
def yX8_way : MethodName := ⟨RX8, "way", "(I)I"⟩
abbrev cX8_bring : ByteArray := prog_1_method_41_code
def yX8_bring : MethodName := ⟨RX8, "bring", "(II)I"⟩
abbrev cX8_latest : ByteArray := prog_1_method_42_code
def yX8_latest : MethodName := ⟨RX8, "latest", "(I)I"⟩
abbrev cX8_spare : ByteArray := prog_1_method_43_code
def yX8_spare : MethodName := ⟨RX8, "spare", "()I"⟩
abbrev cX8_heights : ByteArray := prog_1_method_44_code
def yX8_heights : MethodName := ⟨RX8, "heights", "(II)I"⟩
abbrev cX8_least : ByteArray := prog_1_method_45_code
def yX8_least : MethodName := ⟨RX8, "least", "(II)I"⟩
abbrev cX8_greatest : ByteArray := prog_1_method_46_code
def yX8_greatest : MethodName := ⟨RX8, "greatest", "(II)I"⟩
abbrev cX8_ask : ByteArray := prog_1_method_47_code
def yX8_ask : MethodName := ⟨RX8, "ask", "(II)I"⟩
abbrev cX8_leaves : ByteArray := prog_1_method_48_code
def yX8_leaves : MethodName := ⟨RX8, "leaves", "(II)I"⟩
abbrev cX8_laws : ByteArray := prog_1_method_49_code
def yX8_laws : MethodName := ⟨RX8, "laws", "(I)I"⟩
abbrev cX8_by : ByteArray := prog_1_method_50_code
def yX8_by : MethodName := ⟨RX8, "by", "(I)I"⟩
abbrev cX8_law : ByteArray := prog_1_method_51_code
def yX8_law : MethodName := ⟨RX8, "law", "()I"⟩
abbrev cX8_worth : ByteArray := prog_1_method_52_code
def yX8_worth : MethodName := ⟨RX8, "worth", "(I)I"⟩
abbrev cX8_share : ByteArray := prog_1_method_53_code
def yX8_share : MethodName := ⟨RX8, "share", "(II)I"⟩
abbrev cX8_wins : ByteArray := prog_1_method_54_code
def yX8_wins : MethodName := ⟨RX8, "wins", "(II)I"⟩
abbrev cX8_moves : ByteArray := prog_1_method_55_code
def yX8_moves : MethodName := ⟨RX8, "moves", "(II)I"⟩
abbrev cX8_move : ByteArray := prog_1_method_56_code
def yX8_move : MethodName := ⟨RX8, "move", "(II)I"⟩
abbrev cX8_rests : ByteArray := prog_1_method_57_code
def yX8_rests : MethodName := ⟨RX8, "rests", "(II)I"⟩
abbrev cX8_gets : ByteArray := prog_1_method_58_code
def yX8_gets : MethodName := ⟨RX8, "gets", "(IIIII)I"⟩
abbrev cX8_chance : ByteArray := prog_1_method_59_code
def yX8_chance : MethodName := ⟨RX8, "chance", "(III)J"⟩
abbrev cX8_mean : ByteArray := prog_1_method_60_code
def yX8_mean : MethodName := ⟨RX8, "mean", "(II)J"⟩
abbrev cX8_brings : ByteArray := prog_1_method_61_code
def yX8_brings : MethodName := ⟨RX8, "brings", "(II)I"⟩
abbrev cX8_away : ByteArray := prog_1_method_62_code
def yX8_away : MethodName := ⟨RX8, "away", "(I)I"⟩
abbrev cX8_undo : ByteArray := prog_1_method_63_code
def yX8_undo : MethodName := ⟨RX8, "undo", "()I"⟩
abbrev cX8_anew : ByteArray := prog_1_method_64_code
def yX8_anew : MethodName := ⟨RX8, "anew", "()I"⟩
abbrev cX8_drawn : ByteArray := prog_1_method_65_code
def yX8_drawn : MethodName := ⟨RX8, "drawn", "(II)I"⟩
abbrev cX8_luck : ByteArray := prog_1_method_66_code
def yX8_luck : MethodName := ⟨RX8, "luck", "(III)I"⟩
abbrev cX8_rate : ByteArray := prog_1_method_67_code
def yX8_rate : MethodName := ⟨RX8, "rate", "(II)I"⟩
abbrev cX8_count : ByteArray := prog_1_method_68_code
def yX8_count : MethodName := ⟨RX8, "count", "(I)I"⟩
abbrev cX8_image : ByteArray := prog_1_method_69_code
def yX8_image : MethodName := ⟨RX8, "image", "(I)I"⟩
abbrev cX8_back : ByteArray := prog_1_method_70_code
def yX8_back : MethodName := ⟨RX8, "back", "(I)I"⟩
abbrev cX8_row : ByteArray := prog_1_method_71_code
def yX8_row : MethodName := ⟨RX8, "row", "(III)I"⟩
abbrev cX8_write : ByteArray := prog_1_method_72_code
def yX8_write : MethodName := ⟨RX8, "write", "(IIJ)I"⟩
abbrev cX8_paste : ByteArray := prog_1_method_73_code
def yX8_paste : MethodName := ⟨RX8, "paste", "(IIIII)I"⟩
abbrev cX8_noMoor : ByteArray := prog_1_method_74_code
def yX8_noMoor : MethodName := ⟨RX8, "noMoor", "()Z"⟩
abbrev cX8_isDay : ByteArray := prog_1_method_75_code
def yX8_isDay : MethodName := ⟨RX8, "isDay", "(I)Z"⟩
abbrev cX8_isDayAheadOfLast : ByteArray := prog_1_method_76_code
def yX8_isDayAheadOfLast : MethodName := ⟨RX8, "isDayAheadOfLast", "(I)Z"⟩
abbrev cX8_isChanceDay : ByteArray := prog_1_method_77_code
def yX8_isChanceDay : MethodName := ⟨RX8, "isChanceDay", "(I)Z"⟩
abbrev cX8_isTold : ByteArray := prog_1_method_78_code
def yX8_isTold : MethodName := ⟨RX8, "isTold", "(I)Z"⟩
abbrev cX8_isCart : ByteArray := prog_1_method_79_code
def yX8_isCart : MethodName := ⟨RX8, "isCart", "(I)Z"⟩
abbrev cX8_isOfAll : ByteArray := prog_1_method_80_code
def yX8_isOfAll : MethodName := ⟨RX8, "isOfAll", "(I)Z"⟩
abbrev cX8_isSlot : ByteArray := prog_1_method_81_code
def yX8_isSlot : MethodName := ⟨RX8, "isSlot", "(I)Z"⟩
abbrev cX8_isWhat : ByteArray := prog_1_method_82_code
def yX8_isWhat : MethodName := ⟨RX8, "isWhat", "(I)Z"⟩
abbrev cX8_asNumber : ByteArray := prog_1_method_83_code
def yX8_asNumber : MethodName := ⟨RX8, "asNumber", "(Z)I"⟩
abbrev cX8_forget : ByteArray := prog_1_method_84_code
def yX8_forget : MethodName := ⟨RX8, "forget", "()V"⟩
abbrev cX8_rowOfDay : ByteArray := prog_1_method_85_code
def yX8_rowOfDay : MethodName := ⟨RX8, "rowOfDay", "(I)LTurfHeaps$Row;"⟩
abbrev cX8_heapsAtLast : ByteArray := prog_1_method_86_code
def yX8_heapsAtLast : MethodName := ⟨RX8, "heapsAtLast", "()I"⟩
abbrev cX8_firstLike : ByteArray := prog_1_method_87_code
def yX8_firstLike : MethodName := ⟨RX8, "firstLike", "(I)I"⟩
abbrev cX8_roundOf : ByteArray := prog_1_method_88_code
def yX8_roundOf : MethodName := ⟨RX8, "roundOf", "(I)LTurfHeaps$Round;"⟩
abbrev cX8_everyOf : ByteArray := prog_1_method_89_code
def yX8_everyOf : MethodName := ⟨RX8, "everyOf", "(I)LTurfHeaps$Every;"⟩
abbrev cX8_heapsWithMore : ByteArray := prog_1_method_90_code
def yX8_heapsWithMore : MethodName := ⟨RX8, "heapsWithMore", "(II)I"⟩
abbrev cX8_heapsWithSet : ByteArray := prog_1_method_91_code
def yX8_heapsWithSet : MethodName := ⟨RX8, "heapsWithSet", "(I)I"⟩
abbrev cX8_heapsWithWet : ByteArray := prog_1_method_92_code
def yX8_heapsWithWet : MethodName := ⟨RX8, "heapsWithWet", "(I)I"⟩
abbrev cX8_passByLaw : ByteArray := prog_1_method_93_code
def yX8_passByLaw : MethodName := ⟨RX8, "passByLaw", "(I)LTurfHeaps$Row;"⟩
abbrev cX8_passLate : ByteArray := prog_1_method_94_code
def yX8_passLate : MethodName := ⟨RX8, "passLate", "(IIII)LTurfHeaps$Row;"⟩
abbrev cX8_payOfFirst : ByteArray := prog_1_method_95_code
def yX8_payOfFirst : MethodName := ⟨RX8, "payOfFirst", "(LTurfHeaps$Row;I)I"⟩
abbrev cX8_payOfSecond : ByteArray := prog_1_method_96_code
def yX8_payOfSecond : MethodName := ⟨RX8, "payOfSecond", "(LTurfHeaps$Row;I)I"⟩
abbrev cX8_act : ByteArray := prog_1_method_97_code
def yX8_act : MethodName := ⟨RX8, "act", "(II)I"⟩
abbrev cX8_gainOverOrders : ByteArray := prog_1_method_98_code
def yX8_gainOverOrders : MethodName := ⟨RX8, "gainOverOrders", "(I)I"⟩
abbrev cX8_knowWorths : ByteArray := prog_1_method_99_code
def yX8_knowWorths : MethodName := ⟨RX8, "knowWorths", "()V"⟩
abbrev cX8_factorial : ByteArray := prog_1_method_100_code
def yX8_factorial : MethodName := ⟨RX8, "factorial", "(I)I"⟩
abbrev cX8_fraction : ByteArray := prog_1_method_101_code
def yX8_fraction : MethodName := ⟨RX8, "fraction", "(JJI)J"⟩
abbrev cX8_commonDivisor : ByteArray := prog_1_method_102_code
def yX8_commonDivisor : MethodName := ⟨RX8, "commonDivisor", "(JJ)J"⟩
abbrev cX8_weighHeaps : ByteArray := prog_1_method_103_code
def yX8_weighHeaps : MethodName := ⟨RX8, "weighHeaps", "(II)J"⟩
abbrev cX8_passChoice : ByteArray := prog_1_method_104_code
def yX8_passChoice : MethodName := ⟨RX8, "passChoice", "(III)V"⟩
abbrev cX8_weightOf : ByteArray := prog_1_method_105_code
def yX8_weightOf : MethodName := ⟨RX8, "weightOf", "(II)J"⟩
abbrev cX8_countOf : ByteArray := prog_1_method_106_code
def yX8_countOf : MethodName := ⟨RX8, "countOf", "(II)I"⟩
abbrev cX8_powerOfTen : ByteArray := prog_1_method_107_code
def yX8_powerOfTen : MethodName := ⟨RX8, "powerOfTen", "(I)J"⟩
abbrev cX8_wetDays : ByteArray := prog_1_method_108_code
def yX8_wetDays : MethodName := ⟨RX8, "wetDays", "(J)I"⟩
abbrev cX8_slotsWithRow : ByteArray := prog_1_method_109_code
def yX8_slotsWithRow : MethodName := ⟨RX8, "slotsWithRow", "()I"⟩
abbrev cX8_cut : ByteArray := prog_1_method_110_code
def yX8_cut : MethodName := ⟨RX8, "cut", "(JI)J"⟩
abbrev cX8_smallRowFault : ByteArray := prog_1_method_111_code
def yX8_smallRowFault : MethodName := ⟨RX8, "smallRowFault", "(I)I"⟩
abbrev cX8_seenFault : ByteArray := prog_1_method_112_code
def yX8_seenFault : MethodName := ⟨RX8, "seenFault", "(IZ)I"⟩
abbrev cX8_lookAt : ByteArray := prog_1_method_113_code
def yX8_lookAt : MethodName := ⟨RX8, "lookAt", "(II)LTurfHeaps$Seen;"⟩
def RX9 : String := "TurfHeapsModel"
def TX9 : u_T := fun k => match k with
  | 0 => ("TurfHeapsModel", "thrown", "I", false)
  | 1 => ("TurfHeapsModel", "world", "[I", true)
  | 2 => ("TurfHeapsModel", "images", "[I", true)
  | 3 => ("TurfHeapsModel", "hasImage", "[Z", true)
  | 4 => ("TurfHeapsModel", "tape", "[B", true)
  | 5 => ("TurfHeapsModel", "taped", "I", false)
  | 6 => ("TurfHeapsModel", "five", "[I", true)
  | 7 => ("TurfHeapsModel", "size", "I", false)
  | 8 => ("TurfHeapsModel", "at", "I", false)
  | 9 => ("TurfHeapsModel", "from", "I", false)
  | 10 => ("TurfHeapsModel", "token", "I", false)
  | 11 => ("TurfHeapsModel", "value", "I", false)
  | 12 => ("TurfHeapsModel", "faultKind", "I", false)
  | 13 => ("TurfHeapsModel", "faultPlace", "I", false)
  | 14 => ("TurfHeapsModel", "fresh", "[I", true)
  | 15 => ("TurfHeapsModel", "store", "[I", true)
  | 16 => ("TurfHeapsModel", "lawNow", "I", false)
  | 17 => ("TurfHeapsModel", "stepTaken", "I", false)
  | 18 => ("TurfHeapsModel", "stepGone", "I", false)
  | 19 => ("TurfHeapsModel", "heapNow", "[I", true)
  | 20 => ("TurfHeapsModel", "cartDay", "[I", true)
  | 21 => ("TurfHeapsModel", "wetSet", "I", false)
  | 22 => ("TurfHeapsModel", "comeSet", "I", false)
  | 23 => ("TurfHeapsModel", "moreDay", "I", false)
  | 24 => ("TurfHeapsModel", "moreTurfs", "I", false)
  | 25 => ("TurfHeapsModel", "takenIn", "[I", true)
  | 26 => ("TurfHeapsModel", "goneIn", "[I", true)
  | 27 => ("TurfHeapsModel", "tailNow", "I", false)
  | 28 => ("TurfHeapsModel", "lengthNow", "I", false)
  | 29 => ("TurfHeapsModel", "listed", "[I", true)
  | 30 => ("TurfHeapsModel", "stepsTo", "[I", true)
  | 31 => ("TurfHeapsModel", "tailsOf", "[I", true)
  | 32 => ("TurfHeapsModel", "listMany", "I", false)
  | 33 => ("TurfHeapsModel", "slotRow", "I", false)
  | 34 => ("TurfHeapsModel", "fit", "[I", true)
  | 35 => ("TurfHeapsModel", "manyBy", "[I", true)
  | 36 => ("TurfHeapsModel", "fitMany", "I", false)
  | 37 => ("TurfHeapsModel", "askWorst", "I", false)
  | 38 => ("TurfHeapsModel", "worthBy", "[I", true)
  | 39 => ("TurfHeapsModel", "oftenAll", "J", false)
  | 40 => ("TurfHeapsModel", "oftenMany", "J", false)
  | 41 => ("TurfHeapsModel", "oftenSum", "J", false)
  | 42 => ("TurfHeapsModel", "many", "[I", true)
  | 43 => ("TurfHeapsModel", "width", "[I", true)
  | 44 => ("TurfHeapsModel", "numbers", "[J", true)
  | _ => ("TurfHeapsModel", "moving", "[J", true)
def tyX9 : Nat → FieldType := fun k => match k with
  | 0 => .int
  | 1 => .array .int
  | 2 => .array .int
  | 3 => .array .boolean
  | 4 => .array .byte
  | 5 => .int
  | 6 => .array .int
  | 7 => .int
  | 8 => .int
  | 9 => .int
  | 10 => .int
  | 11 => .int
  | 12 => .int
  | 13 => .int
  | 14 => .array .int
  | 15 => .array .int
  | 16 => .int
  | 17 => .int
  | 18 => .int
  | 19 => .array .int
  | 20 => .array .int
  | 21 => .int
  | 22 => .int
  | 23 => .int
  | 24 => .int
  | 25 => .array .int
  | 26 => .array .int
  | 27 => .int
  | 28 => .int
  | 29 => .array .int
  | 30 => .array .int
  | 31 => .array .int
  | 32 => .int
  | 33 => .int
  | 34 => .array .int
  | 35 => .array .int
  | 36 => .int
  | 37 => .int
  | 38 => .array .int
  | 39 => .long
  | 40 => .long
  | 41 => .long
  | 42 => .array .int
  | 43 => .array .int
  | 44 => .array .long
  | _ => .array .long
abbrev wsX90 : List Cond := u_ws RX9 TX9 46
theorem nmX9 : ∀ a, a < 46 → ∀ b, b < 46 → a ≠ b → (TX9 a).2.1 ≠ (TX9 b).2.1 := by decide +kernel
theorem tyX9_ok : ∀ k, k < 46 → parseFieldDescriptor (TX9 k).2.2.1 = some (tyX9 k) := by decide +kernel
abbrev cX9_init : ByteArray := prog_11_method_1_code
def yX9_init : MethodName := ⟨RX9, "<init>", "()V"⟩
abbrev cX9_in : ByteArray := prog_11_method_3_code
def yX9_in : MethodName := ⟨RX9, "in", "(JJJ)Z"⟩
abbrev cX9_bits : ByteArray := prog_11_method_4_code
def yX9_bits : MethodName := ⟨RX9, "bits", "(I)I"⟩
abbrev cX9_bit : ByteArray := prog_11_method_5_code
def yX9_bit : MethodName := ⟨RX9, "bit", "(II)I"⟩
abbrev cX9_image : ByteArray := prog_11_method_6_code
def yX9_image : MethodName := ⟨RX9, "image", "(I)I"⟩
abbrev cX9_back : ByteArray := prog_11_method_7_code
def yX9_back : MethodName := ⟨RX9, "back", "(I)I"⟩
abbrev cX9_isMoor : ByteArray := prog_11_method_8_code
def yX9_isMoor : MethodName := ⟨RX9, "isMoor", "()Z"⟩
abbrev cX9_days : ByteArray := prog_11_method_9_code
def yX9_days : MethodName := ⟨RX9, "days", "()I"⟩
abbrev cX9_cartMany : ByteArray := prog_11_method_10_code
def yX9_cartMany : MethodName := ⟨RX9, "cartMany", "()I"⟩
abbrev cX9_isDay : ByteArray := prog_11_method_11_code
def yX9_isDay : MethodName := ⟨RX9, "isDay", "(J)Z"⟩
abbrev cX9_isAhead : ByteArray := prog_11_method_12_code
def yX9_isAhead : MethodName := ⟨RX9, "isAhead", "(J)Z"⟩
abbrev cX9_isHeap : ByteArray := prog_11_method_13_code
def yX9_isHeap : MethodName := ⟨RX9, "isHeap", "(I)Z"⟩
abbrev cX9_isCart : ByteArray := prog_11_method_14_code
def yX9_isCart : MethodName := ⟨RX9, "isCart", "(I)Z"⟩
abbrev cX9_feed : ByteArray := prog_11_method_15_code
def yX9_feed : MethodName := ⟨RX9, "feed", "(IIIII)I"⟩
abbrev cX9_end : ByteArray := prog_11_method_16_code
def yX9_end : MethodName := ⟨RX9, "end", "(I)I"⟩
abbrev cX9_see : ByteArray := prog_11_method_17_code
def yX9_see : MethodName := ⟨RX9, "see", "(I)I"⟩
abbrev cX9_advance : ByteArray := prog_11_method_18_code
def yX9_advance : MethodName := ⟨RX9, "advance", "()V"⟩
abbrev cX9_good : ByteArray := prog_11_method_19_code
def yX9_good : MethodName := ⟨RX9, "good", "()Z"⟩
abbrev cX9_errs : ByteArray := prog_11_method_20_code
def yX9_errs : MethodName := ⟨RX9, "errs", "(I)V"⟩
abbrev cX9_is : ByteArray := prog_11_method_21_code
def yX9_is : MethodName := ⟨RX9, "is", "(Ljava/lang/String;)Z"⟩
abbrev cX9_takes : ByteArray := prog_11_method_22_code
def yX9_takes : MethodName := ⟨RX9, "takes", "(Ljava/lang/String;)Z"⟩
abbrev cX9_expects : ByteArray := prog_11_method_23_code
def yX9_expects : MethodName := ⟨RX9, "expects", "(Ljava/lang/String;)V"⟩
abbrev cX9_number : ByteArray := prog_11_method_24_code
def yX9_number : MethodName := ⟨RX9, "number", "(II)I"⟩
abbrev cX9_toldBy : ByteArray := prog_11_method_25_code
def yX9_toldBy : MethodName := ⟨RX9, "toldBy", "(Ljava/lang/String;II)I"⟩
abbrev cX9_fault : ByteArray := prog_11_method_26_code
def yX9_fault : MethodName := ⟨RX9, "fault", "(I)I"⟩
abbrev cX9_readFirst : ByteArray := prog_11_method_27_code
def yX9_readFirst : MethodName := ⟨RX9, "readFirst", "()V"⟩
abbrev cX9_readNext : ByteArray := prog_11_method_28_code
def yX9_readNext : MethodName := ⟨RX9, "readNext", "()V"⟩
abbrev cX9_readLine : ByteArray := prog_11_method_29_code
def yX9_readLine : MethodName := ⟨RX9, "readLine", "()V"⟩
abbrev cX9_moor : ByteArray := prog_11_method_30_code
def yX9_moor : MethodName := ⟨RX9, "moor", "()I"⟩
abbrev cX9_told : ByteArray := prog_11_method_31_code
def yX9_told : MethodName := ⟨RX9, "told", "(I)I"⟩
abbrev cX9_cart : ByteArray := prog_11_method_32_code
def yX9_cart : MethodName := ⟨RX9, "cart", "(II)I"⟩
abbrev cX9_manyOf : ByteArray := prog_11_method_33_code
def yX9_manyOf : MethodName := ⟨RX9, "manyOf", "(I)I"⟩
abbrev cX9_heightOf : ByteArray := prog_11_method_34_code
def yX9_heightOf : MethodName := ⟨RX9, "heightOf", "(II)I"⟩
abbrev cX9_empty : ByteArray := prog_11_method_35_code
def yX9_empty : MethodName := ⟨RX9, "empty", "(I)V"⟩
abbrev cX9_copyRow : ByteArray := prog_11_method_36_code
def yX9_copyRow : MethodName := ⟨RX9, "copyRow", "(II)V"⟩
abbrev cX9_lay : ByteArray := prog_11_method_37_code
def yX9_lay : MethodName := ⟨RX9, "lay", "(II)V"⟩
abbrev cX9_takeHighest : ByteArray := prog_11_method_38_code
def yX9_takeHighest : MethodName := ⟨RX9, "takeHighest", "(I)V"⟩
abbrev cX9_areSame : ByteArray := prog_11_method_39_code
def yX9_areSame : MethodName := ⟨RX9, "areSame", "(II)Z"⟩
abbrev cX9_turfsOf : ByteArray := prog_11_method_40_code
def yX9_turfsOf : MethodName := ⟨RX9, "turfsOf", "(I)I"⟩
abbrev cX9_highestOf : ByteArray := prog_11_method_41_code
def yX9_highestOf : MethodName := ⟨RX9, "highestOf", "(I)I"⟩
abbrev cX9_offHeap : ByteArray := prog_11_method_42_code
def yX9_offHeap : MethodName := ⟨RX9, "offHeap", "(II)I"⟩
abbrev cX9_step : ByteArray := prog_11_method_43_code
def yX9_step : MethodName := ⟨RX9, "step", "(I)V"⟩
abbrev cX9_isStair : ByteArray := prog_11_method_44_code
def yX9_isStair : MethodName := ⟨RX9, "isStair", "(I)Z"⟩
abbrev cX9_asItIs : ByteArray := prog_11_method_45_code
def yX9_asItIs : MethodName := ⟨RX9, "asItIs", "()V"⟩
abbrev cX9_beginDay : ByteArray := prog_11_method_46_code
def yX9_beginDay : MethodName := ⟨RX9, "beginDay", "(I)V"⟩
abbrev cX9_goAll : ByteArray := prog_11_method_47_code
def yX9_goAll : MethodName := ⟨RX9, "goAll", "()V"⟩
abbrev cX9_asksMoor : ByteArray := prog_11_method_48_code
def yX9_asksMoor : MethodName := ⟨RX9, "asksMoor", "()Z"⟩
abbrev cX9_asksDay : ByteArray := prog_11_method_49_code
def yX9_asksDay : MethodName := ⟨RX9, "asksDay", "(I)Z"⟩
abbrev cX9_lastMany : ByteArray := prog_11_method_50_code
def yX9_lastMany : MethodName := ⟨RX9, "lastMany", "()I"⟩
abbrev cX9_heaps : ByteArray := prog_11_method_51_code
def yX9_heaps : MethodName := ⟨RX9, "heaps", "(I)I"⟩
abbrev cX9_heap : ByteArray := prog_11_method_52_code
def yX9_heap : MethodName := ⟨RX9, "heap", "(II)I"⟩
abbrev cX9_all : ByteArray := prog_11_method_53_code
def yX9_all : MethodName := ⟨RX9, "all", "(I)I"⟩
abbrev cX9_many : ByteArray := prog_11_method_54_code
def yX9_many : MethodName := ⟨RX9, "many", "(II)I"⟩
abbrev cX9_odd : ByteArray := prog_11_method_55_code
def yX9_odd : MethodName := ⟨RX9, "odd", "(I)I"⟩
abbrev cX9_sorts : ByteArray := prog_11_method_56_code
def yX9_sorts : MethodName := ⟨RX9, "sorts", "(I)I"⟩
abbrev cX9_spread : ByteArray := prog_11_method_57_code
def yX9_spread : MethodName := ⟨RX9, "spread", "(I)I"⟩
abbrev cX9_taken : ByteArray := prog_11_method_58_code
def yX9_taken : MethodName := ⟨RX9, "taken", "(I)I"⟩
abbrev cX9_gone : ByteArray := prog_11_method_59_code
def yX9_gone : MethodName := ⟨RX9, "gone", "(I)I"⟩
abbrev cX9_most : ByteArray := prog_11_method_60_code
def yX9_most : MethodName := ⟨RX9, "most", "()I"⟩
abbrev cX9_peak : ByteArray := prog_11_method_61_code
def yX9_peak : MethodName := ⟨RX9, "peak", "()I"⟩
abbrev cX9_firstSame : ByteArray := prog_11_method_62_code
def yX9_firstSame : MethodName := ⟨RX9, "firstSame", "(I)I"⟩
abbrev cX9_same : ByteArray := prog_11_method_63_code
def yX9_same : MethodName := ⟨RX9, "same", "(I)I"⟩
abbrev cX9_still : ByteArray := prog_11_method_64_code
def yX9_still : MethodName := ⟨RX9, "still", "()I"⟩
abbrev cX9_rows : ByteArray := prog_11_method_65_code
def yX9_rows : MethodName := ⟨RX9, "rows", "()I"⟩
abbrev cX9_stair : ByteArray := prog_11_method_66_code
def yX9_stair : MethodName := ⟨RX9, "stair", "(I)I"⟩
abbrev cX9_stairs : ByteArray := prog_11_method_67_code
def yX9_stairs : MethodName := ⟨RX9, "stairs", "()I"⟩
abbrev cX9_square : ByteArray := prog_11_method_68_code
def yX9_square : MethodName := ⟨RX9, "square", "(I)I"⟩
abbrev cX9_turnedHeap : ByteArray := prog_11_method_69_code
def yX9_turnedHeap : MethodName := ⟨RX9, "turnedHeap", "(II)I"⟩
abbrev cX9_flip : ByteArray := prog_11_method_70_code
def yX9_flip : MethodName := ⟨RX9, "flip", "(II)I"⟩
abbrev cX9_even : ByteArray := prog_11_method_71_code
def yX9_even : MethodName := ⟨RX9, "even", "(I)I"⟩
abbrev cX9_isAbove : ByteArray := prog_11_method_72_code
def yX9_isAbove : MethodName := ⟨RX9, "isAbove", "(II)Z"⟩
abbrev cX9_above : ByteArray := prog_11_method_73_code
def yX9_above : MethodName := ⟨RX9, "above", "(II)I"⟩
abbrev cX9_goesRound : ByteArray := prog_11_method_74_code
def yX9_goesRound : MethodName := ⟨RX9, "goesRound", "(I)Z"⟩
abbrev cX9_tail : ByteArray := prog_11_method_75_code
def yX9_tail : MethodName := ⟨RX9, "tail", "(I)I"⟩
abbrev cX9_length : ByteArray := prog_11_method_76_code
def yX9_length : MethodName := ⟨RX9, "length", "(I)I"⟩
abbrev cX9_ring : ByteArray := prog_11_method_77_code
def yX9_ring : MethodName := ⟨RX9, "ring", "(I)I"⟩
abbrev cX9_later : ByteArray := prog_11_method_78_code
def yX9_later : MethodName := ⟨RX9, "later", "(III)I"⟩
abbrev cX9_soon : ByteArray := prog_11_method_79_code
def yX9_soon : MethodName := ⟨RX9, "soon", "(I)I"⟩
abbrev cX9_keepListed : ByteArray := prog_11_method_80_code
def yX9_keepListed : MethodName := ⟨RX9, "keepListed", "()V"⟩
abbrev cX9_takeListed : ByteArray := prog_11_method_81_code
def yX9_takeListed : MethodName := ⟨RX9, "takeListed", "(II)V"⟩
abbrev cX9_findListed : ByteArray := prog_11_method_82_code
def yX9_findListed : MethodName := ⟨RX9, "findListed", "(I)I"⟩
abbrev cX9_nextRow : ByteArray := prog_11_method_83_code
def yX9_nextRow : MethodName := ⟨RX9, "nextRow", "()Z"⟩
abbrev cX9_listAll : ByteArray := prog_11_method_84_code
def yX9_listAll : MethodName := ⟨RX9, "listAll", "(I)V"⟩
abbrev cX9_isRinged : ByteArray := prog_11_method_85_code
def yX9_isRinged : MethodName := ⟨RX9, "isRinged", "(I)Z"⟩
abbrev cX9_tailFrom : ByteArray := prog_11_method_86_code
def yX9_tailFrom : MethodName := ⟨RX9, "tailFrom", "(I)I"⟩
abbrev cX9_comesTo : ByteArray := prog_11_method_87_code
def yX9_comesTo : MethodName := ⟨RX9, "comesTo", "(I)I"⟩
abbrev cX9_asksAll : ByteArray := prog_11_method_88_code
def yX9_asksAll : MethodName := ⟨RX9, "asksAll", "(I)Z"⟩
abbrev cX9_rowsOf : ByteArray := prog_11_method_89_code
def yX9_rowsOf : MethodName := ⟨RX9, "rowsOf", "(I)I"⟩
abbrev cX9_ringed : ByteArray := prog_11_method_90_code
def yX9_ringed : MethodName := ⟨RX9, "ringed", "(I)I"⟩
abbrev cX9_rings : ByteArray := prog_11_method_91_code
def yX9_rings : MethodName := ⟨RX9, "rings", "(I)I"⟩
abbrev cX9_gardens : ByteArray := prog_11_method_92_code
def yX9_gardens : MethodName := ⟨RX9, "gardens", "(I)I"⟩
abbrev cX9_longest : ByteArray := prog_11_method_93_code
def yX9_longest : MethodName := ⟨RX9, "longest", "(I)I"⟩
abbrev cX9_numberAt : ByteArray := prog_11_method_94_code
def yX9_numberAt : MethodName := ⟨RX9, "numberAt", "(II)J"⟩
abbrev cX9_askRow : ByteArray := prog_11_method_95_code
def yX9_askRow : MethodName := ⟨RX9, "askRow", "(I)I"⟩
abbrev cX9_ahead : ByteArray := prog_11_method_96_code
def yX9_ahead : MethodName := ⟨RX9, "ahead", "(I)I"⟩
abbrev cX9_from : ByteArray := prog_11_method_97_code
def yX9_from : MethodName := ⟨RX9, "from", "(II)I"⟩
abbrev cX9_way : ByteArray := prog_11_method_98_code
def yX9_way : MethodName := ⟨RX9, "way", "(I)I"⟩
abbrev cX9_lastBy : ByteArray := prog_11_method_99_code
def yX9_lastBy : MethodName := ⟨RX9, "lastBy", "(II)I"⟩
abbrev cX9_bring : ByteArray := prog_11_method_100_code
def yX9_bring : MethodName := ⟨RX9, "bring", "(II)I"⟩
abbrev cX9_latest : ByteArray := prog_11_method_101_code
def yX9_latest : MethodName := ⟨RX9, "latest", "(I)I"⟩
abbrev cX9_spare : ByteArray := prog_11_method_102_code
def yX9_spare : MethodName := ⟨RX9, "spare", "()I"⟩
abbrev cX9_askSeen : ByteArray := prog_11_method_103_code
def yX9_askSeen : MethodName := ⟨RX9, "askSeen", "(I)I"⟩
abbrev cX9_isSeen : ByteArray := prog_11_method_104_code
def yX9_isSeen : MethodName := ⟨RX9, "isSeen", "(I)Z"⟩
abbrev cX9_layFits : ByteArray := prog_11_method_105_code
def yX9_layFits : MethodName := ⟨RX9, "layFits", "(II)I"⟩
abbrev cX9_heights : ByteArray := prog_11_method_106_code
def yX9_heights : MethodName := ⟨RX9, "heights", "(II)I"⟩
abbrev cX9_least : ByteArray := prog_11_method_107_code
def yX9_least : MethodName := ⟨RX9, "least", "(II)I"⟩
abbrev cX9_greatest : ByteArray := prog_11_method_108_code
def yX9_greatest : MethodName := ⟨RX9, "greatest", "(II)I"⟩
abbrev cX9_worstIn : ByteArray := prog_11_method_109_code
def yX9_worstIn : MethodName := ⟨RX9, "worstIn", "(I)I"⟩
abbrev cX9_askOf : ByteArray := prog_11_method_110_code
def yX9_askOf : MethodName := ⟨RX9, "askOf", "()I"⟩
abbrev cX9_ask : ByteArray := prog_11_method_111_code
def yX9_ask : MethodName := ⟨RX9, "ask", "(II)I"⟩
abbrev cX9_leaves : ByteArray := prog_11_method_112_code
def yX9_leaves : MethodName := ⟨RX9, "leaves", "(II)I"⟩
abbrev cX9_laws : ByteArray := prog_11_method_113_code
def yX9_laws : MethodName := ⟨RX9, "laws", "(I)I"⟩
abbrev cX9_lastByLaw : ByteArray := prog_11_method_114_code
def yX9_lastByLaw : MethodName := ⟨RX9, "lastByLaw", "(I)I"⟩
abbrev cX9_by : ByteArray := prog_11_method_115_code
def yX9_by : MethodName := ⟨RX9, "by", "(I)I"⟩
abbrev cX9_law : ByteArray := prog_11_method_116_code
def yX9_law : MethodName := ⟨RX9, "law", "()I"⟩
abbrev cX9_worthOf : ByteArray := prog_11_method_117_code
def yX9_worthOf : MethodName := ⟨RX9, "worthOf", "(I)I"⟩
abbrev cX9_worth : ByteArray := prog_11_method_118_code
def yX9_worth : MethodName := ⟨RX9, "worth", "(I)I"⟩
abbrev cX9_factorial : ByteArray := prog_11_method_119_code
def yX9_factorial : MethodName := ⟨RX9, "factorial", "(I)I"⟩
abbrev cX9_divisor : ByteArray := prog_11_method_120_code
def yX9_divisor : MethodName := ⟨RX9, "divisor", "(JJ)J"⟩
abbrev cX9_part : ByteArray := prog_11_method_121_code
def yX9_part : MethodName := ⟨RX9, "part", "(JJI)J"⟩
abbrev cX9_share : ByteArray := prog_11_method_122_code
def yX9_share : MethodName := ⟨RX9, "share", "(II)I"⟩
abbrev cX9_taking : ByteArray := prog_11_method_123_code
def yX9_taking : MethodName := ⟨RX9, "taking", "(II)I"⟩
abbrev cX9_asksTaking : ByteArray := prog_11_method_124_code
def yX9_asksTaking : MethodName := ⟨RX9, "asksTaking", "(II)Z"⟩
abbrev cX9_wins : ByteArray := prog_11_method_125_code
def yX9_wins : MethodName := ⟨RX9, "wins", "(II)I"⟩
abbrev cX9_isMove : ByteArray := prog_11_method_126_code
def yX9_isMove : MethodName := ⟨RX9, "isMove", "(IIII)Z"⟩
abbrev cX9_isFirstHigh : ByteArray := prog_11_method_127_code
def yX9_isFirstHigh : MethodName := ⟨RX9, "isFirstHigh", "(II)Z"⟩
abbrev cX9_moves : ByteArray := prog_11_method_128_code
def yX9_moves : MethodName := ⟨RX9, "moves", "(II)I"⟩
abbrev cX9_move : ByteArray := prog_11_method_129_code
def yX9_move : MethodName := ⟨RX9, "move", "(II)I"⟩
abbrev cX9_getsBy : ByteArray := prog_11_method_130_code
def yX9_getsBy : MethodName := ⟨RX9, "getsBy", "(IIIII)I"⟩
abbrev cX9_areTwo : ByteArray := prog_11_method_131_code
def yX9_areTwo : MethodName := ⟨RX9, "areTwo", "(II)Z"⟩
abbrev cX9_rests : ByteArray := prog_11_method_132_code
def yX9_rests : MethodName := ⟨RX9, "rests", "(II)I"⟩
abbrev cX9_gets : ByteArray := prog_11_method_133_code
def yX9_gets : MethodName := ⟨RX9, "gets", "(IIIII)I"⟩
abbrev cX9_layWet : ByteArray := prog_11_method_134_code
def yX9_layWet : MethodName := ⟨RX9, "layWet", "(II)V"⟩
abbrev cX9_isWet : ByteArray := prog_11_method_135_code
def yX9_isWet : MethodName := ⟨RX9, "isWet", "(II)Z"⟩
abbrev cX9_chance : ByteArray := prog_11_method_136_code
def yX9_chance : MethodName := ⟨RX9, "chance", "(III)J"⟩
abbrev cX9_mean : ByteArray := prog_11_method_137_code
def yX9_mean : MethodName := ⟨RX9, "mean", "(II)J"⟩
abbrev cX9_keepAct : ByteArray := prog_11_method_138_code
def yX9_keepAct : MethodName := ⟨RX9, "keepAct", "(I)I"⟩
abbrev cX9_brings : ByteArray := prog_11_method_139_code
def yX9_brings : MethodName := ⟨RX9, "brings", "(II)I"⟩
abbrev cX9_away : ByteArray := prog_11_method_140_code
def yX9_away : MethodName := ⟨RX9, "away", "(I)I"⟩
abbrev cX9_undo : ByteArray := prog_11_method_141_code
def yX9_undo : MethodName := ⟨RX9, "undo", "()I"⟩
abbrev cX9_anew : ByteArray := prog_11_method_142_code
def yX9_anew : MethodName := ⟨RX9, "anew", "()I"⟩
abbrev cX9_goDrawn : ByteArray := prog_11_method_143_code
def yX9_goDrawn : MethodName := ⟨RX9, "goDrawn", "(J)V"⟩
abbrev cX9_isSeed : ByteArray := prog_11_method_144_code
def yX9_isSeed : MethodName := ⟨RX9, "isSeed", "(I)Z"⟩
abbrev cX9_drawn : ByteArray := prog_11_method_145_code
def yX9_drawn : MethodName := ⟨RX9, "drawn", "(II)I"⟩
abbrev cX9_luck : ByteArray := prog_11_method_146_code
def yX9_luck : MethodName := ⟨RX9, "luck", "(III)I"⟩
abbrev cX9_rate : ByteArray := prog_11_method_147_code
def yX9_rate : MethodName := ⟨RX9, "rate", "(II)I"⟩
abbrev cX9_count : ByteArray := prog_11_method_148_code
def yX9_count : MethodName := ⟨RX9, "count", "(I)I"⟩
abbrev cX9_isSlot : ByteArray := prog_11_method_149_code
def yX9_isSlot : MethodName := ⟨RX9, "isSlot", "(I)Z"⟩
abbrev cX9_clipped : ByteArray := prog_11_method_150_code
def yX9_clipped : MethodName := ⟨RX9, "clipped", "(JI)J"⟩
abbrev cX9_row : ByteArray := prog_11_method_151_code
def yX9_row : MethodName := ⟨RX9, "row", "(III)I"⟩
abbrev cX9_write : ByteArray := prog_11_method_152_code
def yX9_write : MethodName := ⟨RX9, "write", "(IIJ)I"⟩
abbrev cX9_paste : ByteArray := prog_11_method_153_code
def yX9_paste : MethodName := ⟨RX9, "paste", "(IIIII)I"⟩
def RL : String := "TurfHeapsLaw"
abbrev cL_law : ByteArray := code
def yL_law : MethodName := ⟨RL, "law", "([I)Z"⟩
end
section
/-! the static world: 217 cells, z + 0 .. z + 216; kinds 0 .. 9 classes X0 .. X9, 10 byte[], 11 int[], 12 long[], 13 boolean[], 14 Moor[], 15 Row[], 16 Slot[], 17 int[][] -/
def hpKs : List Nat := [8, 7, 10, 1, 11, 11, 11, 11, 11, 1, 11, 11, 11, 11, 11, 14, 16, 4, 15, 3, 11, 11, 3, 11, 11, 3, 11, 11, 3, 11, 11, 3, 11, 11, 3, 11, 11, 3, 11, 11, 3, 11, 11, 3, 11, 11, 3, 11, 11, 3, 11, 11, 3, 11, 11, 3, 11, 11, 3, 11, 11, 3, 11, 11, 3, 11, 11, 3, 11, 11, 4, 15, 3, 11, 11, 3, 11, 11, 3, 11, 11, 3, 11, 11, 3, 11, 11, 3, 11, 11, 3, 11, 11, 3, 11, 11, 3, 11, 11, 3, 11, 11, 3, 11, 11, 3, 11, 11, 3, 11, 11, 3, 11, 11, 3, 11, 11, 3, 11, 11, 3, 11, 11, 2, 3, 11, 11, 3, 11, 11, 0, 12, 11, 11, 11, 11, 11, 11, 3, 11, 11, 5, 11, 17, 11, 11, 11, 11, 11, 11, 11, 11, 11, 11, 11, 11, 11, 11, 11, 11, 11, 11, 11, 11, 3, 11, 11, 11, 11, 1, 11, 11, 11, 11, 11, 1, 11, 11, 11, 11, 11, 1, 11, 11, 11, 11, 11, 6, 12, 6, 12, 6, 12, 6, 12, 9, 11, 11, 13, 10, 11, 11, 11, 11, 11, 11, 11, 11, 11, 11, 11, 11, 11, 11, 11, 12, 12]
def hpLs : List Nat := [0, 0, 500, 0, 8, 6, 6, 20, 20, 0, 8, 6, 6, 20, 20, 3, 4, 0, 17, 0, 40, 40, 0, 40, 40, 0, 40, 40, 0, 40, 40, 0, 40, 40, 0, 40, 40, 0, 40, 40, 0, 40, 40, 0, 40, 40, 0, 40, 40, 0, 40, 40, 0, 40, 40, 0, 40, 40, 0, 40, 40, 0, 40, 40, 0, 40, 40, 0, 40, 40, 0, 17, 0, 40, 40, 0, 40, 40, 0, 40, 40, 0, 40, 40, 0, 40, 40, 0, 40, 40, 0, 40, 40, 0, 40, 40, 0, 40, 40, 0, 40, 40, 0, 40, 40, 0, 40, 40, 0, 40, 40, 0, 40, 40, 0, 40, 40, 0, 40, 40, 0, 40, 40, 0, 0, 40, 40, 0, 40, 40, 0, 135, 135, 135, 135, 135, 135, 14, 0, 40, 40, 0, 20, 20, 17, 17, 17, 17, 17, 17, 17, 17, 17, 17, 17, 17, 17, 17, 17, 17, 17, 17, 17, 17, 0, 40, 40, 64, 8, 0, 8, 6, 6, 20, 20, 0, 8, 6, 6, 20, 20, 0, 8, 6, 6, 20, 20, 0, 60, 0, 60, 0, 60, 0, 60, 0, 47, 141, 3, 500, 5, 47, 14721, 8, 6, 16, 16, 2025, 135, 135, 20, 340, 64, 4, 4, 240, 60]
def hpkd (k : Nat) : Nat := hpKs.getD k 99
def hpln (k : Nat) : Nat := hpLs.getD k 0
def hpr8 : List Nat := [1, 3, 9, 15, 16, 17, 70, 123, 130, 141, 164, 167, 168, 0, 0, 0]
def hpr9 : List Nat := [0, 196, 197, 198, 199, 0, 200, 0, 0, 0, 0, 0, 0, 0, 201, 202, 0, 0, 0, 203, 204, 0, 0, 0, 0, 205, 206, 0, 0, 207, 208, 209, 0, 0, 210, 211, 0, 0, 212, 0, 0, 0, 213, 214, 215, 216]
def hprf (k i : Nat) : Nat := if hpkd k = 15 then k + 1 + 3 * i else if hpkd k = 2 then k + 1 + 3 * i else if hpkd k = 14 then 169 + 6 * i else if hpkd k = 16 then 187 + 2 * i else if hpkd k = 8 then hpr8.getD i 0 else if hpkd k = 9 then hpr9.getD i 0 else k + 1 + i
def hpfks : List (List Nat) := [[1, 1, 1, 1, 1, 1, 1, 1, 0, 0, 0, 0, 0, 0, 0], [1, 1, 1, 1, 1, 0, 0, 0, 0, 0, 0, 0, 0], [1, 1, 0, 0, 0, 0], [1, 1, 0, 0, 0], [1, 0, 0, 0, 0, 0, 0, 0, 0], [1, 1, 0], [1, 0, 0, 0], [1, 0, 0, 0, 0, 0, 0], [1, 1, 1, 1, 1, 1, 1, 1, 1, 1, 1, 1, 1, 0, 0, 0], [0, 1, 1, 1, 1, 0, 1, 0, 0, 0, 0, 0, 0, 0, 1, 1, 0, 0, 0, 1, 1, 0, 0, 0, 0, 1, 1, 0, 0, 1, 1, 1, 0, 0, 1, 1, 0, 0, 1, 2, 2, 2, 1, 1, 1, 1]]
def hpfk (c i : Nat) : Nat := (hpfks.getD c []).getD i 0
def hpnf (c : Nat) : Nat := (hpfks.getD c []).length
abbrev hpCl : List vw_C := [(RX0, TX0, 15), (RX1, TX1, 13), (RX2, TX2, 6), (RX3, TX3, 5), (RX4, TX4, 9), (RX5, TX5, 3), (RX6, TX6, 4), (RX7, TX7, 7), (RX8, TX8, 16), (RX9, TX9, 46)]
end
section
/-! the memory: ints as integers, by cell and place -/
abbrev hpMem : Type := Nat → Nat → Int
def hpI (a : Int) : Int32 := Int32.ofInt a
def hpJ (a : Int) : Int64 := Int64.ofInt a
theorem hpI_add (a b : Int) : hpI a + hpI b = hpI (a + b) := (Int32.ofInt_add a b).symm
theorem hpI_sub (a b : Int) : hpI a - hpI b = hpI (a - b) := (Int32.ofInt_sub a b).symm
theorem hpI_mul (a b : Int) : hpI a * hpI b = hpI (a * b) := (Int32.ofInt_mul a b).symm
theorem hpJ_add (a b : Int) : hpJ a + hpJ b = hpJ (a + b) := (Int64.ofInt_add a b).symm
theorem hpJ_mul (a b : Int) : hpJ a * hpJ b = hpJ (a * b) := (Int64.ofInt_mul a b).symm
/-- within an int's bounds, a long's -/
def hpR (a : Int) : Prop := -2147483648 ≤ a ∧ a < 2147483648
def hpRL (a : Int) : Prop := -9223372036854775808 ≤ a ∧ a < 9223372036854775808
theorem hpI_toInt {a : Int} (h : hpR a) : (hpI a).toInt = a := Int32.toInt_ofInt_of_le h.1 h.2
theorem hpJ_toInt {a : Int} (h : hpRL a) : (hpJ a).toInt = a := Int64.toInt_ofInt_of_le h.1 h.2
theorem hpI_of (x : Int32) : hpI x.toInt = x := Int32.ofInt_toInt x
theorem hpJ_of (x : Int64) : hpJ x.toInt = x := Int64.ofInt_toInt x
theorem hpR_of (x : Int32) : hpR x.toInt := ⟨Int32.le_toInt x, Int32.toInt_lt x⟩
theorem hpRL_of (x : Int64) : hpRL x.toInt := ⟨Int64.le_toInt x, Int64.toInt_lt x⟩
theorem hpI_lt {a b : Int} (ha : hpR a) (hb : hpR b) : hpI a < hpI b ↔ a < b := by rw [Int32.lt_iff_toInt_lt, hpI_toInt ha, hpI_toInt hb]
theorem hpI_le {a b : Int} (ha : hpR a) (hb : hpR b) : hpI a ≤ hpI b ↔ a ≤ b := by rw [Int32.le_iff_toInt_le, hpI_toInt ha, hpI_toInt hb]
theorem hpI_eq {a b : Int} (ha : hpR a) (hb : hpR b) : hpI a = hpI b ↔ a = b := by rw [← Int32.toInt_inj, hpI_toInt ha, hpI_toInt hb]
theorem hpJ_lt {a b : Int} (ha : hpRL a) (hb : hpRL b) : hpJ a < hpJ b ↔ a < b := by rw [Int64.lt_iff_toInt_lt, hpJ_toInt ha, hpJ_toInt hb]
theorem hpJ_le {a b : Int} (ha : hpRL a) (hb : hpRL b) : hpJ a ≤ hpJ b ↔ a ≤ b := by rw [Int64.le_iff_toInt_le, hpJ_toInt ha, hpJ_toInt hb]
theorem hpJ_eq {a b : Int} (ha : hpRL a) (hb : hpRL b) : hpJ a = hpJ b ↔ a = b := by rw [← Int64.toInt_inj, hpJ_toInt ha, hpJ_toInt hb]
theorem hpI_0 : hpI 0 = 0 := by decide
theorem hpR_0 : hpR 0 := ⟨by decide, by decide⟩
theorem hpI_clamp {a : Int} (h : hpR a) : (hpI a).toNatClampNeg = a.toNat := by
  show (hpI a).toInt.toNat = a.toNat
  rw [hpI_toInt h]
theorem hpI_in {a : Int} {n : Nat} (h0 : 0 ≤ a) (h1 : a < n) (hn : n < 2147483648) : vp_in (hpI a) n := by
  rw [vp_in_iff, hpI_toInt ⟨by omega, by omega⟩]
  exact ⟨h0, h1⟩
/-- a row of numbers, one of them changed; a memory, one number changed -/
def hpu (r : Nat → Int) (i : Nat) (a : Int) : Nat → Int := fun j => if j = i then a else r j
def hpw (σ : hpMem) (k i : Nat) (a : Int) : hpMem := fun j => if j = k then hpu (σ k) i a else σ j
theorem hpw_row {σ : hpMem} {k i : Nat} {a : Int} : hpw σ k i a k = hpu (σ k) i a := if_pos rfl
theorem hpw_ne {σ : hpMem} {k i j : Nat} {a : Int} (h : j ≠ k) : hpw σ k i a j = σ j := if_neg h
theorem hpw_eq {σ : hpMem} {k i : Nat} {a : Int} : hpw σ k i a k i = a := by simp [hpw, hpu]
theorem hpw_ni {σ : hpMem} {k i j : Nat} {a : Int} (h : j ≠ i) : hpw σ k i a k j = σ k j := by simp [hpw, hpu, h]
theorem hpw_nk {σ : hpMem} {k i j n : Nat} {a : Int} (h : j ≠ k) : hpw σ k i a j n = σ j n := by rw [hpw_ne h]
/-- what stands in a field of the object at cell k -/
def hpfv (z k : Nat) (r : Nat → Int) (i : Nat) : Value := if hpfk (hpkd k) i = 1 then .ref (z + hprf k i) else if hpfk (hpkd k) i = 2 then .long (hpJ (r i)) else .int (hpI (r i))
def hpE (z : Nat) (cy : Nat → ClassId) (k : Nat) (r : Nat → Int) : va_E :=
  if hpkd k < 10 then .inr (hpkd k, (List.range (hpnf (hpkd k))).map (hpfv z k r))
  else if hpkd k = 12 then .inl (cy 12, hpln k, .inr (.inl (fun i => hpJ (r i))))
  else if hpkd k < 14 then .inl (cy (hpkd k), hpln k, .inl (fun i => hpI (r i)))
  else .inl (cy (hpkd k), hpln k, .inr (.inr (.inr (.inr (fun i => some (z + hprf k i))))))
def hpW (z : Nat) (cy : Nat → ClassId) (σ : hpMem) : va_W := (List.range 217).map (fun k => (z + k, hpE z cy k (σ k)))
abbrev hpTy (cy : Nat → ClassId) : List (ClassId × FieldType) := [(cy 10, .byte), (cy 11, .int), (cy 12, .long), (cy 13, .boolean), (cy 14, .object RX1), (cy 15, .object RX3), (cy 16, .object RX6), (cy 17, .array .int)]
theorem hpkd_lt {k c : Nat} (h : hpkd k = c) (hc : c < 99) : k < 217 := by
  rcases Nat.lt_or_ge k 217 with q | q
  · exact q
  · have e : hpkd k = 99 := by
      unfold hpkd
      rw [List.getD_eq_getElem?_getD, List.getElem?_eq_none (by show hpKs.length ≤ k; exact Nat.le_trans (by decide +kernel : hpKs.length ≤ 217) q)]
      rfl
    omega
theorem hpW_get {z : Nat} {cy : Nat → ClassId} {σ : hpMem} {k : Nat} (h : k < 217) : (hpW z cy σ)[k]? = some (z + k, hpE z cy k (σ k)) := by
  unfold hpW
  rw [List.getElem?_map, List.getElem?_range h]
  rfl
theorem hpW_inv {z : Nat} {cy : Nat → ClassId} {σ : hpMem} {k : Nat} {q : Nat × va_E} (h : (hpW z cy σ)[k]? = some q) : k < 217 ∧ q = (z + k, hpE z cy k (σ k)) := by
  rcases Nat.lt_or_ge k 217 with g | g
  · rw [hpW_get g] at h
    exact ⟨g, (Option.some.inj h).symm⟩
  · unfold hpW at h
    rw [List.getElem?_map, List.getElem?_eq_none (by rw [List.length_range]; exact g)] at h
    cases h
theorem hpW_D {z : Nat} {cy : Nat → ClassId} {σ : hpMem} : va_D (fun q => z ≤ q) (hpW z cy σ) := by
  refine ⟨fun i j x y hi hj e => ?_, fun k q h => ?_⟩
  · obtain ⟨-, rfl⟩ := hpW_inv hi
    obtain ⟨-, rfl⟩ := hpW_inv hj
    have e : z + i = z + j := e
    omega
  · obtain ⟨-, rfl⟩ := hpW_inv h
    exact Nat.le_add_right z k
theorem hpW_set {z : Nat} {cy : Nat → ClassId} {σ τ : hpMem} {k : Nat} {e : va_E} (he : hpE z cy k (τ k) = e) (ho : ∀ j, j ≠ k → τ j = σ j) : (hpW z cy σ).set k (z + k, e) = hpW z cy τ := by
  apply List.ext_getElem?
  intro i
  rw [List.getElem?_set]
  by_cases h : k = i
  · subst h
    rw [if_pos rfl]
    by_cases hk : k < 217
    · rw [hpW_get hk, if_pos (by unfold hpW; rw [List.length_map, List.length_range]; exact hk), he]
    · have hn : ∀ ρ : hpMem, (hpW z cy ρ)[k]? = none := fun ρ => by unfold hpW; rw [List.getElem?_map, List.getElem?_eq_none (by rw [List.length_range]; omega)]; rfl
      rw [hn τ, if_neg (by unfold hpW; rw [List.length_map, List.length_range]; exact hk)]
  · rw [if_neg h]
    by_cases hi : i < 217
    · rw [hpW_get hi, hpW_get hi, ho i (fun q => h q.symm)]
    · have hn : ∀ ρ : hpMem, (hpW z cy ρ)[i]? = none := fun ρ => by unfold hpW; rw [List.getElem?_map, List.getElem?_eq_none (by rw [List.length_range]; omega)]; rfl
      rw [hn, hn]
theorem hpE_o {z : Nat} {cy : Nat → ClassId} {k ci : Nat} {r : Nat → Int} (hk : hpkd k = ci) (hc : ci < 10) : hpE z cy k r = .inr (ci, (List.range (hpnf ci)).map (hpfv z k r)) := by
  subst hk
  exact if_pos hc
theorem hpE_i {z : Nat} {cy : Nat → ClassId} {k ci : Nat} {r : Nat → Int} (hk : hpkd k = ci) (hc : ci = 10 ∨ ci = 11 ∨ ci = 13) : hpE z cy k r = .inl (cy ci, hpln k, .inl (fun i => hpI (r i))) := by
  subst hk
  unfold hpE
  rw [if_neg (by omega), if_neg (by omega), if_pos (by omega)]
theorem hpE_l {z : Nat} {cy : Nat → ClassId} {k : Nat} {r : Nat → Int} (hk : hpkd k = 12) : hpE z cy k r = .inl (cy 12, hpln k, .inr (.inl (fun i => hpJ (r i)))) := by
  unfold hpE
  rw [if_neg (by omega), if_pos hk]
theorem hpE_q {z : Nat} {cy : Nat → ClassId} {k ci : Nat} {r : Nat → Int} (hk : hpkd k = ci) (hc : 14 ≤ ci) : hpE z cy k r = .inl (cy ci, hpln k, .inr (.inr (.inr (.inr (fun i => some (z + hprf k i)))))) := by
  subst hk
  unfold hpE
  rw [if_neg (by omega), if_neg (by omega), if_neg (by omega)]
theorem hp_fget {z k N i : Nat} {r : Nat → Int} (h : i < N) : ((List.range N).map (hpfv z k r))[i]? = some (hpfv z k r i) := by
  rw [List.getElem?_map, List.getElem?_range h]
  rfl
theorem hp_fset {z k N i : Nat} {r : Nat → Int} {a : Int} {v : Value} (hv : hpfv z k (hpu r i a) i = v) : ((List.range N).map (hpfv z k r)).set i v = (List.range N).map (hpfv z k (hpu r i a)) := by
  apply List.ext_getElem?
  intro j
  rw [List.getElem?_set, List.getElem?_map, List.getElem?_map]
  by_cases h : i = j
  · subst h
    rw [if_pos rfl]
    by_cases hi : i < N
    · rw [if_pos (by rw [List.length_map, List.length_range]; exact hi), List.getElem?_range hi, ← hv]
      rfl
    · rw [if_neg (by rw [List.length_map, List.length_range]; exact hi), List.getElem?_eq_none (by rw [List.length_range]; omega)]
      rfl
  · rw [if_neg h]
    by_cases hj : j < N
    · rw [List.getElem?_range hj]
      show some (hpfv z k r j) = some (hpfv z k (hpu r i a) j)
      have e : hpu r i a j = r j := if_neg (fun q => h q.symm)
      unfold hpfv
      rw [e]
    · rw [List.getElem?_eq_none (by rw [List.length_range]; omega)]
      rfl
/-! the words: those that stand at every state, and the nest's links -/
def hpT : List Cond := lw_tbl.filter goodWord
theorem hpT_of {w : Cond} (i : Nat) (h : tables_1[i]? = some w) (hg : goodWord w = true) : w ∈ hpT := List.mem_filter.mpr ⟨List.mem_append_right _ (List.mem_of_getElem? h), hg⟩
theorem hpT_sel {q : MethodName × Nat} (i : Nat) (h : lw_privs[i]? = some q) : Cond.selects q.1.cls q.1 q.1 ∈ hpT := List.mem_filter.mpr ⟨List.mem_append_left _ (List.mem_map.mpr ⟨q, List.mem_of_getElem? h, rfl⟩), rfl⟩
def hpNest (w : Cond) : Bool := match w with
  | .fieldLinkNest .. => true
  | .methodLinkNest .. => true
  | _ => false
def hpN (U : State) : Prop := ∀ w ∈ tables_1, hpNest w = true → va_Nw w U
theorem hpN.warm {s U : State} (hW : s.WarmedH U.vm) (h : hpN s) : hpN U := by
  intro w hw hn
  have h0 := h w hw hn
  cases w with
  | fieldLinkNest a i b n d x => exact va_Nw.warmF hW h0
  | methodLinkNest a i x y => exact va_Nw.warmM hW h0
  | _ => simp [hpNest] at hn
theorem hpN_of {U : State} {w : Cond} (i : Nat) (h : tables_1[i]? = some w) (hn : hpNest w = true) (hN : hpN U) : va_Nw w U := hN w (List.mem_of_getElem? h) hn
theorem hp_goodT {x : Cond} : GoodIn (x :: hpT) hpT := fun w hw => ⟨List.mem_cons_of_mem _ hw, good_of_word (List.mem_filter.mp hw).2⟩
theorem hp_good {x y : Cond} (hy : y ∈ hpT) : GoodIn (x :: hpT) (y :: hpT) := fun w hw => by
  rcases List.mem_cons.mp hw with h | h
  · subst h
    exact hp_goodT _ hy
  · exact hp_goodT _ h
/-- what a method's body stands on -/
def hpC (p : Program) (s : State) (m : MethodId) (args : Array Value) (c : Code) (cc : ByteArray) (nL : Nat) (own : String) (D : va_G) (cy : Nat → ClassId) : Prop :=
  p.tables.exec = Jvm.exec ∧ c.code = cc ∧ c.maxLocals = nL ∧ s.vm.findClass own = some m.cls ∧ (∀ w ∈ hpT, w.before args s = true) ∧ hpN s ∧ va_K D hpCl (hpTy cy) s
/-- the machine at pc with the memory σ, the locals lv, the stack st, comes to Q -/
def hpV (p : Program) (l : Launch) (e : Env) (R : Room) (s : State) (m : MethodId) (args : Array Value) (below : List Frame) (meth : Method) (c : Code) (cells slots nL : Nat) (D : va_G) (cy : Nat → ClassId) (z : Nat) (H0 : Heap) (Q : State → Prop) (σ : hpMem) (pc : Nat) (lv : List (Nat × Value)) (st : List Value) : Prop :=
  ∀ (H : Heap) (locs : List Loc) (ls : Array Slot), lv_has ls nL lv → va_P D hpCl (hpW z cy σ) H → va_S (fun q => z ≤ q) H0 H locs → W p l e R s m args below meth c H locs cells slots Q (F0 m pc ls st)
def hpPre (D : va_G) (cy : Nat → ClassId) (z : Nat) (σ : hpMem) (U : State) : Prop := va_P D hpCl (hpW z cy σ) U.heap ∧ va_K D hpCl (hpTy cy) U ∧ hpN U
def hpQ (D : va_G) (cy : Nat → ClassId) (z : Nat) (post : Option Value → hpMem → Prop) : Array Value → State → Outcome → State → Prop := fun _ st oc t => (∃ (r : Option Value) (τ : hpMem), oc = .returned r ∧ post r τ ∧ va_P D hpCl (hpW z cy τ) t.heap) ∧ va_F (fun q => z ≤ q) st t
/-- a method's contract, from the memory σ and the arguments av -/
def hpM (l : Launch) (D : va_G) (cy : Nat → ClassId) (z : Nat) (y : MethodName) (bytes : ByteArray) (maxL : Nat) (ret : Option FieldType) (rm : Room) (av : List Value) (σ : hpMem) (post : Option Value → hpMem → Prop) : Prop :=
  Met l y (Cond.code y bytes maxL ret :: hpT) rm (va_Pc av (hpPre D cy z σ)) (hpQ D cy z post) 0 0 (fun q => z ≤ q)
theorem hp_met {l : Launch} {D : va_G} {cy : Nat → ClassId} {z : Nat} {y : MethodName} {bytes : ByteArray} {maxL : Nat} {ret : Option FieldType} {rm : Room} {av : List Value} {σ : hpMem} {post : Option Value → hpMem → Prop} (hy : plainName y.cls = true) (hlen : (lg_sl av).length ≤ maxL)
    (h : ∀ (p : Program) (e : Env) (s : State) (m : MethodId) (below : List Frame) (meth : Method) (c : Code), hpC p s m av.toArray c bytes maxL y.cls D cy → meth.sig.returnType = ret → meth.locks = false →
      hpV p l e rm s m av.toArray below meth c 0 0 maxL D cy z s.heap (MQ below (hpQ D cy z post) av.toArray s 0 0 (fun q => z ≤ q)) σ 0 (lv_args 0 av) []) : hpM l D cy z y bytes maxL ret rm av σ post := by
  unfold hpM
  refine Met.ofW (cc := bytes) (maxL := maxL) (ret := ret) hy rfl ?_
  intro p e s m args below meth c s₁ B hml hv
  obtain ⟨rfl, hP, hK, hN⟩ := hv
  have hts := atoms_spec (ws := Cond.code y bytes maxL ret :: hpT) B.pre
  have hown : s.vm.findClass y.cls = some m.cls := findClass_of_methodNamed B.named
  have hl := lv_entry av (n := maxL) hlen
  rw [lg_entry_eq]
  exact h p e s m below meth c ⟨B.exec, B.bytes, hml, hown, fun w hw => hts w (List.mem_cons_of_mem _ hw), hN, hK⟩ B.returns B.notSynchronized s.heap [] _ hl hP va_S.rf
end
section
section HPR
variable {p : Program} {l : Launch} {e : Env} {R : Room} {s : State} {m : MethodId} {args : Array Value} {below : List Frame} {meth : Method} {c : Code} {cells slots nL : Nat} {D : va_G} {cy : Nat → ClassId} {z : Nat} {H0 : Heap} {Q : State → Prop} {σ : hpMem} {pc : Nat} {lv lv' : List (Nat × Value)} {st : List Value} {cc : ByteArray} {own : String}
theorem h_iconst (C : hpC p s m args c cc nL own D cy) {n : Int} (d : decode cc pc = .ok (.iconst n, 1)) (k : hpV p l e R s m args below meth c cells slots nL D cy z H0 Q σ (pc + 1) lv (.int (hpI n) :: st)) : hpV p l e R s m args below meth c cells slots nL D cy z H0 Q σ pc lv (st) := fun H locs ls hl hP hS => lv_iconst C.1 C.2.1 d rfl (k H locs ls hl hP hS)
theorem h_bipush (C : hpC p s m args c cc nL own D cy) {n : Int} (d : decode cc pc = .ok (.bipush n, 2)) (hn : (Int8.ofInt n).toInt32 = hpI n) (k : hpV p l e R s m args below meth c cells slots nL D cy z H0 Q σ (pc + 2) lv (.int (hpI n) :: st)) : hpV p l e R s m args below meth c cells slots nL D cy z H0 Q σ pc lv st := fun H locs ls hl hP hS => lv_bipush C.1 C.2.1 d hn (k H locs ls hl hP hS)
theorem h_sipush (C : hpC p s m args c cc nL own D cy) {n : Int} (d : decode cc pc = .ok (.sipush n, 3)) (hn : (Int16.ofInt n).toInt32 = hpI n) (k : hpV p l e R s m args below meth c cells slots nL D cy z H0 Q σ (pc + 3) lv (.int (hpI n) :: st)) : hpV p l e R s m args below meth c cells slots nL D cy z H0 Q σ pc lv st := fun H locs ls hl hP hS => lv_sipush C.1 C.2.1 d hn (k H locs ls hl hP hS)
theorem h_lconst (C : hpC p s m args c cc nL own D cy) {n : Fin 2} (a : Int) (d : decode cc pc = .ok (.lconst n, 1)) (hn : Int64.ofNat (n : Nat) = hpJ a) (k : hpV p l e R s m args below meth c cells slots nL D cy z H0 Q σ (pc + 1) lv (.long (hpJ a) :: st)) : hpV p l e R s m args below meth c cells slots nL D cy z H0 Q σ pc lv st := fun H locs ls hl hP hS => lv_lconst C.1 C.2.1 d hn (k H locs ls hl hP hS)
theorem h_ldc (C : hpC p s m args c cc nL own D cy) {v : Int32} {idx : Nat} (a : Int) (hw : Cond.constant own idx v ∈ hpT) (hn : v = hpI a) (d : decode cc pc = .ok (.ldc idx, 2)) (k : hpV p l e R s m args below meth c cells slots nL D cy z H0 Q σ (pc + 2) lv (.int (hpI a) :: st)) : hpV p l e R s m args below meth c cells slots nL D cy z H0 Q σ pc lv st := fun H locs ls hl hP hS => lv_ldc C.1 C.2.1 C.2.2.2.1 (C.2.2.2.2.1 _ hw) d (by rw [hn]; exact (k H locs ls hl hP hS))
theorem h_ldcw (C : hpC p s m args c cc nL own D cy) {v : Int32} {idx : Nat} (a : Int) (hw : Cond.constant own idx v ∈ hpT) (hn : v = hpI a) (d : decode cc pc = .ok (.ldc_w idx, 3)) (k : hpV p l e R s m args below meth c cells slots nL D cy z H0 Q σ (pc + 3) lv (.int (hpI a) :: st)) : hpV p l e R s m args below meth c cells slots nL D cy z H0 Q σ pc lv st := fun H locs ls hl hP hS => lv_ldcw C.1 C.2.1 C.2.2.2.1 (C.2.2.2.2.1 _ hw) d (by rw [hn]; exact (k H locs ls hl hP hS))
theorem h_ldc2 (C : hpC p s m args c cc nL own D cy) {v : Int64} {idx : Nat} (a : Int) (hw : Cond.constantLong own idx v ∈ hpT) (hn : v = hpJ a) (d : decode cc pc = .ok (.ldc2_w idx, 3)) (k : hpV p l e R s m args below meth c cells slots nL D cy z H0 Q σ (pc + 3) lv (.long (hpJ a) :: st)) : hpV p l e R s m args below meth c cells slots nL D cy z H0 Q σ pc lv st := fun H locs ls hl hP hS => lv_ldc2 C.1 C.2.1 C.2.2.2.1 (C.2.2.2.2.1 _ hw) d (by rw [hn]; exact (k H locs ls hl hP hS))
theorem h_iload_n (C : hpC p s m args c cc nL own D cy) {a : Int} {j : Fin 4} {i : Nat} (d : decode cc pc = .ok (.iload_n j, 1)) (q : Nat) (hj : (j : Nat) = i) (hq : lv[q]? = some (i, .int (hpI a))) (k : hpV p l e R s m args below meth c cells slots nL D cy z H0 Q σ (pc + 1) lv (.int (hpI a) :: st)) : hpV p l e R s m args below meth c cells slots nL D cy z H0 Q σ pc lv st := fun H locs ls hl hP hS => lv_iload_n C.1 C.2.1 d hj (lv_at hl q hq) (k H locs ls hl hP hS)
theorem h_iload (C : hpC p s m args c cc nL own D cy) {a : Int} {i : Nat} (d : decode cc pc = .ok (.iload i, 2)) (q : Nat) (hq : lv[q]? = some (i, .int (hpI a))) (k : hpV p l e R s m args below meth c cells slots nL D cy z H0 Q σ (pc + 2) lv (.int (hpI a) :: st)) : hpV p l e R s m args below meth c cells slots nL D cy z H0 Q σ pc lv st := fun H locs ls hl hP hS => lv_iload C.1 C.2.1 d (lv_at hl q hq) (k H locs ls hl hP hS)
theorem h_istore_n (C : hpC p s m args c cc nL own D cy) {a : Int} {j : Fin 4} {i : Nat} (d : decode cc pc = .ok (.istore_n j, 1)) (hj : (j : Nat) = i) (hn : i < nL) (hl' : (i, Value.int (hpI a)) :: lv.filter (fun q => !(q.1 == i) && !(q.1 + 1 == i && q.2.category == 2)) = lv') (k : hpV p l e R s m args below meth c cells slots nL D cy z H0 Q σ (pc + 1) lv' st) : hpV p l e R s m args below meth c cells slots nL D cy z H0 Q σ pc lv (.int (hpI a) :: st) := fun H locs ls hl hP hS => lv_istore_n C.1 C.2.1 d hj hl hn hl' (fun ls2 hl2 => k H locs ls2 hl2 hP hS)
theorem h_istore (C : hpC p s m args c cc nL own D cy) {a : Int} {i : Nat} (d : decode cc pc = .ok (.istore i, 2)) (hn : i < nL) (hl' : (i, Value.int (hpI a)) :: lv.filter (fun q => !(q.1 == i) && !(q.1 + 1 == i && q.2.category == 2)) = lv') (k : hpV p l e R s m args below meth c cells slots nL D cy z H0 Q σ (pc + 2) lv' st) : hpV p l e R s m args below meth c cells slots nL D cy z H0 Q σ pc lv (.int (hpI a) :: st) := fun H locs ls hl hP hS => lv_istore C.1 C.2.1 d hl hn hl' (fun ls2 hl2 => k H locs ls2 hl2 hP hS)
theorem h_lload_n (C : hpC p s m args c cc nL own D cy) {a : Int} {j : Fin 4} {i : Nat} (d : decode cc pc = .ok (.lload_n j, 1)) (q : Nat) (hj : (j : Nat) = i) (hq : lv[q]? = some (i, .long (hpJ a))) (k : hpV p l e R s m args below meth c cells slots nL D cy z H0 Q σ (pc + 1) lv (.long (hpJ a) :: st)) : hpV p l e R s m args below meth c cells slots nL D cy z H0 Q σ pc lv st := fun H locs ls hl hP hS => lv_lload_n C.1 C.2.1 d hj (lv_at hl q hq) (k H locs ls hl hP hS)
theorem h_lload (C : hpC p s m args c cc nL own D cy) {a : Int} {i : Nat} (d : decode cc pc = .ok (.lload i, 2)) (q : Nat) (hq : lv[q]? = some (i, .long (hpJ a))) (k : hpV p l e R s m args below meth c cells slots nL D cy z H0 Q σ (pc + 2) lv (.long (hpJ a) :: st)) : hpV p l e R s m args below meth c cells slots nL D cy z H0 Q σ pc lv st := fun H locs ls hl hP hS => lv_lload C.1 C.2.1 d (lv_at hl q hq) (k H locs ls hl hP hS)
theorem h_lstore_n (C : hpC p s m args c cc nL own D cy) {a : Int} {j : Fin 4} {i : Nat} (d : decode cc pc = .ok (.lstore_n j, 1)) (hj : (j : Nat) = i) (hn : i + 1 < nL) (hl' : (i, Value.long (hpJ a)) :: lv.filter (fun q => !(q.1 == i) && (!(q.1 == i + 1) && !(q.1 + 1 == i && q.2.category == 2))) = lv') (k : hpV p l e R s m args below meth c cells slots nL D cy z H0 Q σ (pc + 1) lv' st) : hpV p l e R s m args below meth c cells slots nL D cy z H0 Q σ pc lv (.long (hpJ a) :: st) := fun H locs ls hl hP hS => lv_lstore_n C.1 C.2.1 d hj hl hn hl' (fun ls2 hl2 => k H locs ls2 hl2 hP hS)
theorem h_lstore (C : hpC p s m args c cc nL own D cy) {a : Int} {i : Nat} (d : decode cc pc = .ok (.lstore i, 2)) (hn : i + 1 < nL) (hl' : (i, Value.long (hpJ a)) :: lv.filter (fun q => !(q.1 == i) && (!(q.1 == i + 1) && !(q.1 + 1 == i && q.2.category == 2))) = lv') (k : hpV p l e R s m args below meth c cells slots nL D cy z H0 Q σ (pc + 2) lv' st) : hpV p l e R s m args below meth c cells slots nL D cy z H0 Q σ pc lv (.long (hpJ a) :: st) := fun H locs ls hl hP hS => lv_lstore C.1 C.2.1 d hl hn hl' (fun ls2 hl2 => k H locs ls2 hl2 hP hS)
theorem h_aload_n (C : hpC p s m args c cc nL own D cy) {a : Nat} {j : Fin 4} {i : Nat} (d : decode cc pc = .ok (.aload_n j, 1)) (q : Nat) (hj : (j : Nat) = i) (hq : lv[q]? = some (i, .ref a)) (k : hpV p l e R s m args below meth c cells slots nL D cy z H0 Q σ (pc + 1) lv (.ref a :: st)) : hpV p l e R s m args below meth c cells slots nL D cy z H0 Q σ pc lv st := fun H locs ls hl hP hS => lv_aload_n C.1 C.2.1 d hj (lv_at hl q hq) (k H locs ls hl hP hS)
theorem h_aload (C : hpC p s m args c cc nL own D cy) {a : Nat} {i : Nat} (d : decode cc pc = .ok (.aload i, 2)) (q : Nat) (hq : lv[q]? = some (i, .ref a)) (k : hpV p l e R s m args below meth c cells slots nL D cy z H0 Q σ (pc + 2) lv (.ref a :: st)) : hpV p l e R s m args below meth c cells slots nL D cy z H0 Q σ pc lv st := fun H locs ls hl hP hS => lv_aload C.1 C.2.1 d (lv_at hl q hq) (k H locs ls hl hP hS)
theorem h_astore_n (C : hpC p s m args c cc nL own D cy) {a : Nat} {j : Fin 4} {i : Nat} (d : decode cc pc = .ok (.astore_n j, 1)) (hj : (j : Nat) = i) (hn : i < nL) (hl' : (i, Value.ref a) :: lv.filter (fun q => !(q.1 == i) && !(q.1 + 1 == i && q.2.category == 2)) = lv') (k : hpV p l e R s m args below meth c cells slots nL D cy z H0 Q σ (pc + 1) lv' st) : hpV p l e R s m args below meth c cells slots nL D cy z H0 Q σ pc lv (.ref a :: st) := fun H locs ls hl hP hS => lv_astore_n C.1 C.2.1 d hj hl hn hl' (fun ls2 hl2 => k H locs ls2 hl2 hP hS)
theorem h_astore (C : hpC p s m args c cc nL own D cy) {a : Nat} {i : Nat} (d : decode cc pc = .ok (.astore i, 2)) (hn : i < nL) (hl' : (i, Value.ref a) :: lv.filter (fun q => !(q.1 == i) && !(q.1 + 1 == i && q.2.category == 2)) = lv') (k : hpV p l e R s m args below meth c cells slots nL D cy z H0 Q σ (pc + 2) lv' st) : hpV p l e R s m args below meth c cells slots nL D cy z H0 Q σ pc lv (.ref a :: st) := fun H locs ls hl hP hS => lv_astore C.1 C.2.1 d hl hn hl' (fun ls2 hl2 => k H locs ls2 hl2 hP hS)
theorem h_iinc (C : hpC p s m args c cc nL own D cy) {a b n : Int} {i : Nat} (d : decode cc pc = .ok (.iinc i n, 3)) (q : Nat) (hq : lv[q]? = some (i, .int (hpI a))) (hr : a + n = b) (hn : i < nL) (hl' : (i, Value.int (hpI b)) :: lv.filter (fun q => !(q.1 == i) && !(q.1 + 1 == i && q.2.category == 2)) = lv') (k : hpV p l e R s m args below meth c cells slots nL D cy z H0 Q σ (pc + 3) lv' st) : hpV p l e R s m args below meth c cells slots nL D cy z H0 Q σ pc lv st := fun H locs ls hl hP hS => lv_iinc C.1 C.2.1 d hl hq (by rw [← hr]; exact hpI_add a n) hn hl' (fun ls2 hl2 => k H locs ls2 hl2 hP hS)
theorem h_iadd (C : hpC p s m args c cc nL own D cy) {a b r : Int} (d : decode cc pc = .ok (.iadd, 1)) (hr : a + b = r) (k : hpV p l e R s m args below meth c cells slots nL D cy z H0 Q σ (pc + 1) lv (.int (hpI r) :: st)) : hpV p l e R s m args below meth c cells slots nL D cy z H0 Q σ pc lv (.int (hpI b) :: .int (hpI a) :: st) := fun H locs ls hl hP hS => lv_iadd C.1 C.2.1 d (by rw [hpI_add, hr]; exact (k H locs ls hl hP hS))
theorem h_isub (C : hpC p s m args c cc nL own D cy) {a b r : Int} (d : decode cc pc = .ok (.isub, 1)) (hr : a - b = r) (k : hpV p l e R s m args below meth c cells slots nL D cy z H0 Q σ (pc + 1) lv (.int (hpI r) :: st)) : hpV p l e R s m args below meth c cells slots nL D cy z H0 Q σ pc lv (.int (hpI b) :: .int (hpI a) :: st) := fun H locs ls hl hP hS => lv_isub C.1 C.2.1 d (by rw [hpI_sub, hr]; exact (k H locs ls hl hP hS))
theorem h_imul (C : hpC p s m args c cc nL own D cy) {a b r : Int} (d : decode cc pc = .ok (.imul, 1)) (hr : a * b = r) (k : hpV p l e R s m args below meth c cells slots nL D cy z H0 Q σ (pc + 1) lv (.int (hpI r) :: st)) : hpV p l e R s m args below meth c cells slots nL D cy z H0 Q σ pc lv (.int (hpI b) :: .int (hpI a) :: st) := fun H locs ls hl hP hS => lv_imul C.1 C.2.1 d (by rw [hpI_mul, hr]; exact (k H locs ls hl hP hS))
theorem h_ladd (C : hpC p s m args c cc nL own D cy) {a b r : Int} (d : decode cc pc = .ok (.ladd, 1)) (hr : a + b = r) (k : hpV p l e R s m args below meth c cells slots nL D cy z H0 Q σ (pc + 1) lv (.long (hpJ r) :: st)) : hpV p l e R s m args below meth c cells slots nL D cy z H0 Q σ pc lv (.long (hpJ b) :: .long (hpJ a) :: st) := fun H locs ls hl hP hS => lv_ladd C.1 C.2.1 d (by rw [hpJ_add, hr]; exact (k H locs ls hl hP hS))
theorem h_lmul (C : hpC p s m args c cc nL own D cy) {a b r : Int} (d : decode cc pc = .ok (.lmul, 1)) (hr : a * b = r) (k : hpV p l e R s m args below meth c cells slots nL D cy z H0 Q σ (pc + 1) lv (.long (hpJ r) :: st)) : hpV p l e R s m args below meth c cells slots nL D cy z H0 Q σ pc lv (.long (hpJ b) :: .long (hpJ a) :: st) := fun H locs ls hl hP hS => lv_lmul C.1 C.2.1 d (by rw [hpJ_mul, hr]; exact (k H locs ls hl hP hS))
theorem hpI_div {a b : Int} (ha : 0 ≤ a) (ha2 : a < 2147483648) (hb : 0 < b) (hb2 : b < 2147483648) : hpI a / hpI b = hpI (a / b) := by
  have h1 : 0 ≤ a / b := Int.ediv_nonneg ha (by omega)
  have h2 : a / b ≤ a := Int.ediv_le_self b ha
  have hne : hpI b ≠ -1 := fun q => by
    have h3 := congrArg Int32.toInt q
    rw [hpI_toInt ⟨by omega, hb2⟩] at h3
    have h4 : (-1 : Int32).toInt = -1 := by decide
    omega
  rw [← Int32.toInt_inj, Int32.toInt_div_of_ne_right _ _ hne, hpI_toInt ⟨by omega, ha2⟩, hpI_toInt ⟨by omega, hb2⟩, hpI_toInt ⟨by omega, by omega⟩, Int.tdiv_eq_ediv_of_nonneg ha]
theorem hpI_ne0 {b : Int} (hb : hpR b) (h : b ≠ 0) : ¬ hpI b = 0 := fun q => h ((hpI_eq hb hpR_0).mp (by rw [q, hpI_0]))
theorem h_idiv (C : hpC p s m args c cc nL own D cy) {a b : Int} (d : decode cc pc = .ok (.idiv, 1)) (ha : 0 ≤ a) (ha2 : a < 2147483648) (hb : 0 < b) (hb2 : b < 2147483648) (k : hpV p l e R s m args below meth c cells slots nL D cy z H0 Q σ (pc + 1) lv (.int (hpI (a / b)) :: st)) : hpV p l e R s m args below meth c cells slots nL D cy z H0 Q σ pc lv (.int (hpI b) :: .int (hpI a) :: st) := fun H locs ls hl hP hS => lv_idiv C.1 C.2.1 d (hpI_ne0 ⟨by omega, hb2⟩ (by omega)) (by rw [hpI_div ha ha2 hb hb2]; exact (k H locs ls hl hP hS))
theorem h_irem (C : hpC p s m args c cc nL own D cy) {a b : Int} (d : decode cc pc = .ok (.irem, 1)) (ha : 0 ≤ a) (ha2 : a < 2147483648) (hb : 0 < b) (hb2 : b < 2147483648) (k : hpV p l e R s m args below meth c cells slots nL D cy z H0 Q σ (pc + 1) lv (.int (hpI (a % b)) :: st)) : hpV p l e R s m args below meth c cells slots nL D cy z H0 Q σ pc lv (.int (hpI b) :: .int (hpI a) :: st) := fun H locs ls hl hP hS => lv_irem C.1 C.2.1 d (hpI_ne0 ⟨by omega, hb2⟩ (by omega)) (by rw [hpI_div ha ha2 hb hb2, hpI_mul, hpI_sub, show a - a / b * b = a % b by rw [Int.emod_def, Int.mul_comm]]; exact (k H locs ls hl hP hS))
theorem hp_anyI {x : Int32} (k : ∀ r : Int, hpR r → hpV p l e R s m args below meth c cells slots nL D cy z H0 Q σ pc lv (.int (hpI r) :: st)) : hpV p l e R s m args below meth c cells slots nL D cy z H0 Q σ pc lv (.int x :: st) := by
  have h := k x.toInt (hpR_of x)
  rw [hpI_of] at h
  exact h
theorem hp_anyL {x : Int64} (k : ∀ r : Int, hpRL r → hpV p l e R s m args below meth c cells slots nL D cy z H0 Q σ pc lv (.long (hpJ r) :: st)) : hpV p l e R s m args below meth c cells slots nL D cy z H0 Q σ pc lv (.long x :: st) := by
  have h := k x.toInt (hpRL_of x)
  rw [hpJ_of] at h
  exact h
theorem h_iand_any (C : hpC p s m args c cc nL own D cy) {x y : Int32} (d : decode cc pc = .ok (.iand, 1)) (k : ∀ r : Int, hpR r → hpV p l e R s m args below meth c cells slots nL D cy z H0 Q σ (pc + 1) lv (.int (hpI r) :: st)) : hpV p l e R s m args below meth c cells slots nL D cy z H0 Q σ pc lv (.int y :: .int x :: st) := fun H locs ls hl hP hS => lv_iand C.1 C.2.1 d (hp_anyI k H locs ls hl hP hS)
theorem h_ior_any (C : hpC p s m args c cc nL own D cy) {x y : Int32} (d : decode cc pc = .ok (.ior, 1)) (k : ∀ r : Int, hpR r → hpV p l e R s m args below meth c cells slots nL D cy z H0 Q σ (pc + 1) lv (.int (hpI r) :: st)) : hpV p l e R s m args below meth c cells slots nL D cy z H0 Q σ pc lv (.int y :: .int x :: st) := fun H locs ls hl hP hS => lv_ior C.1 C.2.1 d (hp_anyI k H locs ls hl hP hS)
theorem h_ixor_any (C : hpC p s m args c cc nL own D cy) {x y : Int32} (d : decode cc pc = .ok (.ixor, 1)) (k : ∀ r : Int, hpR r → hpV p l e R s m args below meth c cells slots nL D cy z H0 Q σ (pc + 1) lv (.int (hpI r) :: st)) : hpV p l e R s m args below meth c cells slots nL D cy z H0 Q σ pc lv (.int y :: .int x :: st) := fun H locs ls hl hP hS => lv_ixor C.1 C.2.1 d (hp_anyI k H locs ls hl hP hS)
theorem h_ishl_any (C : hpC p s m args c cc nL own D cy) {x y : Int32} (d : decode cc pc = .ok (.ishl, 1)) (k : ∀ r : Int, hpR r → hpV p l e R s m args below meth c cells slots nL D cy z H0 Q σ (pc + 1) lv (.int (hpI r) :: st)) : hpV p l e R s m args below meth c cells slots nL D cy z H0 Q σ pc lv (.int y :: .int x :: st) := fun H locs ls hl hP hS => lv_ishl C.1 C.2.1 d (hp_anyI k H locs ls hl hP hS)
theorem h_ishr_any (C : hpC p s m args c cc nL own D cy) {x y : Int32} (d : decode cc pc = .ok (.ishr, 1)) (k : ∀ r : Int, hpR r → hpV p l e R s m args below meth c cells slots nL D cy z H0 Q σ (pc + 1) lv (.int (hpI r) :: st)) : hpV p l e R s m args below meth c cells slots nL D cy z H0 Q σ pc lv (.int y :: .int x :: st) := fun H locs ls hl hP hS => lv_ishr C.1 C.2.1 d (hp_anyI k H locs ls hl hP hS)
theorem h_land_any (C : hpC p s m args c cc nL own D cy) {x y : Int64} (d : decode cc pc = .ok (.land, 1)) (k : ∀ r : Int, hpRL r → hpV p l e R s m args below meth c cells slots nL D cy z H0 Q σ (pc + 1) lv (.long (hpJ r) :: st)) : hpV p l e R s m args below meth c cells slots nL D cy z H0 Q σ pc lv (.long y :: .long x :: st) := fun H locs ls hl hP hS => lv_land C.1 C.2.1 d (hp_anyL k H locs ls hl hP hS)
theorem h_lor_any (C : hpC p s m args c cc nL own D cy) {x y : Int64} (d : decode cc pc = .ok (.lor, 1)) (k : ∀ r : Int, hpRL r → hpV p l e R s m args below meth c cells slots nL D cy z H0 Q σ (pc + 1) lv (.long (hpJ r) :: st)) : hpV p l e R s m args below meth c cells slots nL D cy z H0 Q σ pc lv (.long y :: .long x :: st) := fun H locs ls hl hP hS => lv_lor C.1 C.2.1 d (hp_anyL k H locs ls hl hP hS)
theorem h_lshl_any (C : hpC p s m args c cc nL own D cy) {x : Int64} {y : Int32} (d : decode cc pc = .ok (.lshl, 1)) (k : ∀ r : Int, hpRL r → hpV p l e R s m args below meth c cells slots nL D cy z H0 Q σ (pc + 1) lv (.long (hpJ r) :: st)) : hpV p l e R s m args below meth c cells slots nL D cy z H0 Q σ pc lv (.int y :: .long x :: st) := fun H locs ls hl hP hS => lv_lshl C.1 C.2.1 d rfl (hp_anyL k H locs ls hl hP hS)
theorem h_lshr_any (C : hpC p s m args c cc nL own D cy) {x : Int64} {y : Int32} (d : decode cc pc = .ok (.lshr, 1)) (k : ∀ r : Int, hpRL r → hpV p l e R s m args below meth c cells slots nL D cy z H0 Q σ (pc + 1) lv (.long (hpJ r) :: st)) : hpV p l e R s m args below meth c cells slots nL D cy z H0 Q σ pc lv (.int y :: .long x :: st) := fun H locs ls hl hP hS => lv_lshr C.1 C.2.1 d rfl (hp_anyL k H locs ls hl hP hS)
theorem hp_and127 (x : Int32) : 0 ≤ (x &&& 127).toInt ∧ (x &&& 127).toInt ≤ 127 := by
  obtain ⟨j, h1, h2⟩ := pk_andE x (m := 127) 7 (by decide)
  rw [h2, nI_toInt (by omega)]
  omega
theorem h_and127 (C : hpC p s m args c cc nL own D cy) {x : Int32} (d : decode cc pc = .ok (.iand, 1)) (k : ∀ r : Int, 0 ≤ r → r ≤ 127 → hpV p l e R s m args below meth c cells slots nL D cy z H0 Q σ (pc + 1) lv (.int (hpI r) :: st)) : hpV p l e R s m args below meth c cells slots nL D cy z H0 Q σ pc lv (.int (hpI 127) :: .int x :: st) := fun H locs ls hl hP hS => lv_iand C.1 C.2.1 d (by have h := k _ (hp_and127 x).1 (hp_and127 x).2 H locs ls hl hP hS; rw [hpI_of] at h; exact h)
theorem h_i2b (C : hpC p s m args c cc nL own D cy) {x : Int32} (d : decode cc pc = .ok (.i2b, 1)) (k : ∀ r : Int, -128 ≤ r → r < 128 → hpV p l e R s m args below meth c cells slots nL D cy z H0 Q σ (pc + 1) lv (.int (hpI r) :: st)) : hpV p l e R s m args below meth c cells slots nL D cy z H0 Q σ pc lv (.int x :: st) := fun H locs ls hl hP hS => lv_i2b C.1 C.2.1 d rfl (by have h := k x.toInt8.toInt (Int8.le_toInt _) (Int8.toInt_lt _) H locs ls hl hP hS; rw [show hpI x.toInt8.toInt = x.toInt8.toInt32 from rfl] at h; exact h)
theorem h_i2l (C : hpC p s m args c cc nL own D cy) {a : Int} (d : decode cc pc = .ok (.i2l, 1)) (ha : hpR a) (k : hpV p l e R s m args below meth c cells slots nL D cy z H0 Q σ (pc + 1) lv (.long (hpJ a) :: st)) : hpV p l e R s m args below meth c cells slots nL D cy z H0 Q σ pc lv (.int (hpI a) :: st) := fun H locs ls hl hP hS => lv_i2l C.1 C.2.1 d (by show Int64.ofInt (hpI a).toInt = Int64.ofInt a; rw [hpI_toInt ha]) (k H locs ls hl hP hS)
theorem h_l2i (C : hpC p s m args c cc nL own D cy) {a : Int} (d : decode cc pc = .ok (.l2i, 1)) (k : hpV p l e R s m args below meth c cells slots nL D cy z H0 Q σ (pc + 1) lv (.int (hpI a) :: st)) : hpV p l e R s m args below meth c cells slots nL D cy z H0 Q σ pc lv (.long (hpJ a) :: st) := fun H locs ls hl hP hS => lv_l2i C.1 C.2.1 d Int64.toInt32_ofInt (k H locs ls hl hP hS)
theorem hp_cmp {a b : Int} (ha : hpRL a) (hb : hpRL b) : ∃ r : Int, hpI r = lg_cmp (hpJ a) (hpJ b) ∧ (r = -1 ∧ a < b ∨ r = 0 ∧ a = b ∨ r = 1 ∧ b < a) := by
  rcases Int.lt_trichotomy a b with h | h | h
  · refine ⟨-1, ?_, Or.inl ⟨rfl, h⟩⟩
    unfold lg_cmp
    rw [if_neg (by rw [gt_iff_lt, hpJ_lt hb ha]; omega), if_neg (by rw [hpJ_eq ha hb]; omega)]
    rfl
  · refine ⟨0, ?_, Or.inr (Or.inl ⟨rfl, h⟩)⟩
    unfold lg_cmp
    rw [if_neg (by rw [gt_iff_lt, hpJ_lt hb ha]; omega), if_pos (by rw [h])]
    rfl
  · refine ⟨1, ?_, Or.inr (Or.inr ⟨rfl, h⟩)⟩
    unfold lg_cmp
    rw [if_pos (by rw [gt_iff_lt, hpJ_lt hb ha]; exact h)]
    rfl
theorem h_lcmp (C : hpC p s m args c cc nL own D cy) {a b : Int} (d : decode cc pc = .ok (.lcmp, 1)) (ha : hpRL a) (hb : hpRL b) (k : ∀ r : Int, (r = -1 ∧ a < b ∨ r = 0 ∧ a = b ∨ r = 1 ∧ b < a) → hpV p l e R s m args below meth c cells slots nL D cy z H0 Q σ (pc + 1) lv (.int (hpI r) :: st)) : hpV p l e R s m args below meth c cells slots nL D cy z H0 Q σ pc lv (.long (hpJ b) :: .long (hpJ a) :: st) := fun H locs ls hl hP hS => by
  obtain ⟨r, h1, h2⟩ := hp_cmp ha hb
  refine W.lcmp C.1 C.2.1 d ?_
  rw [← h1]
  exact k r h2 H locs ls hl hP hS
theorem h_dup (C : hpC p s m args c cc nL own D cy) {va : Value} (hv : va.category = 1) (d : decode cc pc = .ok (.dup, 1)) (k : hpV p l e R s m args below meth c cells slots nL D cy z H0 Q σ (pc + 1) lv (va :: va :: st)) : hpV p l e R s m args below meth c cells slots nL D cy z H0 Q σ pc lv (va :: st) := fun H locs ls hl hP hS => lv_dup C.1 C.2.1 d hv (k H locs ls hl hP hS)
theorem h_pop (C : hpC p s m args c cc nL own D cy) {va : Value} (hv : va.category = 1) (d : decode cc pc = .ok (.pop, 1)) (k : hpV p l e R s m args below meth c cells slots nL D cy z H0 Q σ (pc + 1) lv (st)) : hpV p l e R s m args below meth c cells slots nL D cy z H0 Q σ pc lv (va :: st) := fun H locs ls hl hP hS => lv_pop C.1 C.2.1 d hv (k H locs ls hl hP hS)
theorem h_dup2 (C : hpC p s m args c cc nL own D cy) {va vb : Value} (hva : va.category = 1) (hvb : vb.category = 1) (d : decode cc pc = .ok (.dup2, 1)) (k : hpV p l e R s m args below meth c cells slots nL D cy z H0 Q σ (pc + 1) lv (va :: vb :: va :: vb :: st)) : hpV p l e R s m args below meth c cells slots nL D cy z H0 Q σ pc lv (va :: vb :: st) := fun H locs ls hl hP hS => lv_dup2_11 C.1 C.2.1 d hva hvb (k H locs ls hl hP hS)
theorem h_icmp_eq (C : hpC p s m args c cc nL own D cy) {a b off : Int} {tgt : Nat} (d : decode cc pc = .ok (.if_icmp .eq off, 3)) (ht : (pc : Int) + off = (tgt : Int)) (ha : hpR a) (hb : hpR b) (kt : a = b → hpV p l e R s m args below meth c cells slots nL D cy z H0 Q σ tgt lv st) (kf : ¬ (a = b) → hpV p l e R s m args below meth c cells slots nL D cy z H0 Q σ (pc + 3) lv st) : hpV p l e R s m args below meth c cells slots nL D cy z H0 Q σ pc lv (.int (hpI b) :: .int (hpI a) :: st) := fun H locs ls hl hP hS => lv_icmp_eq C.1 C.2.1 d ht (fun h => kt ((hpI_eq ha hb).mp h) H locs ls hl hP hS) (fun h => kf (fun q => h ((hpI_eq ha hb).mpr q)) H locs ls hl hP hS)
theorem h_if_eq (C : hpC p s m args c cc nL own D cy) {a off : Int} {tgt : Nat} (d : decode cc pc = .ok (.ifCond .eq off, 3)) (ht : (pc : Int) + off = (tgt : Int)) (ha : hpR a) (kt : a = 0 → hpV p l e R s m args below meth c cells slots nL D cy z H0 Q σ tgt lv st) (kf : ¬ (a = 0) → hpV p l e R s m args below meth c cells slots nL D cy z H0 Q σ (pc + 3) lv st) : hpV p l e R s m args below meth c cells slots nL D cy z H0 Q σ pc lv (.int (hpI a) :: st) := fun H locs ls hl hP hS => by
  have e := (hpI_eq ha hpR_0)
  rw [hpI_0] at e
  exact lv_if_eq C.1 C.2.1 d ht (fun h => kt (e.mp h) H locs ls hl hP hS) (fun h => kf (fun q => h (e.mpr q)) H locs ls hl hP hS)
theorem h_icmp_ne (C : hpC p s m args c cc nL own D cy) {a b off : Int} {tgt : Nat} (d : decode cc pc = .ok (.if_icmp .ne off, 3)) (ht : (pc : Int) + off = (tgt : Int)) (ha : hpR a) (hb : hpR b) (kt : ¬ a = b → hpV p l e R s m args below meth c cells slots nL D cy z H0 Q σ tgt lv st) (kf : a = b → hpV p l e R s m args below meth c cells slots nL D cy z H0 Q σ (pc + 3) lv st) : hpV p l e R s m args below meth c cells slots nL D cy z H0 Q σ pc lv (.int (hpI b) :: .int (hpI a) :: st) := fun H locs ls hl hP hS => lv_icmp_ne C.1 C.2.1 d ht (fun h => kt (fun q => h ((hpI_eq ha hb).mpr q)) H locs ls hl hP hS) (fun h => kf ((hpI_eq ha hb).mp h) H locs ls hl hP hS)
theorem h_if_ne (C : hpC p s m args c cc nL own D cy) {a off : Int} {tgt : Nat} (d : decode cc pc = .ok (.ifCond .ne off, 3)) (ht : (pc : Int) + off = (tgt : Int)) (ha : hpR a) (kt : ¬ a = 0 → hpV p l e R s m args below meth c cells slots nL D cy z H0 Q σ tgt lv st) (kf : a = 0 → hpV p l e R s m args below meth c cells slots nL D cy z H0 Q σ (pc + 3) lv st) : hpV p l e R s m args below meth c cells slots nL D cy z H0 Q σ pc lv (.int (hpI a) :: st) := fun H locs ls hl hP hS => by
  have e := hpI_eq ha hpR_0
  rw [hpI_0] at e
  exact lv_if_ne C.1 C.2.1 d ht (fun h => kt (fun q => h (e.mpr q)) H locs ls hl hP hS) (fun h => kf (e.mp h) H locs ls hl hP hS)
theorem h_icmp_lt (C : hpC p s m args c cc nL own D cy) {a b off : Int} {tgt : Nat} (d : decode cc pc = .ok (.if_icmp .lt off, 3)) (ht : (pc : Int) + off = (tgt : Int)) (ha : hpR a) (hb : hpR b) (kt : a < b → hpV p l e R s m args below meth c cells slots nL D cy z H0 Q σ tgt lv st) (kf : ¬ (a < b) → hpV p l e R s m args below meth c cells slots nL D cy z H0 Q σ (pc + 3) lv st) : hpV p l e R s m args below meth c cells slots nL D cy z H0 Q σ pc lv (.int (hpI b) :: .int (hpI a) :: st) := fun H locs ls hl hP hS => lv_icmp_lt C.1 C.2.1 d ht (fun h => kt ((hpI_lt ha hb).mp h) H locs ls hl hP hS) (fun h => kf (fun q => h ((hpI_lt ha hb).mpr q)) H locs ls hl hP hS)
theorem h_if_lt (C : hpC p s m args c cc nL own D cy) {a off : Int} {tgt : Nat} (d : decode cc pc = .ok (.ifCond .lt off, 3)) (ht : (pc : Int) + off = (tgt : Int)) (ha : hpR a) (kt : a < 0 → hpV p l e R s m args below meth c cells slots nL D cy z H0 Q σ tgt lv st) (kf : ¬ (a < 0) → hpV p l e R s m args below meth c cells slots nL D cy z H0 Q σ (pc + 3) lv st) : hpV p l e R s m args below meth c cells slots nL D cy z H0 Q σ pc lv (.int (hpI a) :: st) := fun H locs ls hl hP hS => by
  have e := (hpI_lt ha hpR_0)
  rw [hpI_0] at e
  exact lv_if_lt C.1 C.2.1 d ht (fun h => kt (e.mp h) H locs ls hl hP hS) (fun h => kf (fun q => h (e.mpr q)) H locs ls hl hP hS)
theorem h_icmp_ge (C : hpC p s m args c cc nL own D cy) {a b off : Int} {tgt : Nat} (d : decode cc pc = .ok (.if_icmp .ge off, 3)) (ht : (pc : Int) + off = (tgt : Int)) (ha : hpR a) (hb : hpR b) (kt : b ≤ a → hpV p l e R s m args below meth c cells slots nL D cy z H0 Q σ tgt lv st) (kf : ¬ (b ≤ a) → hpV p l e R s m args below meth c cells slots nL D cy z H0 Q σ (pc + 3) lv st) : hpV p l e R s m args below meth c cells slots nL D cy z H0 Q σ pc lv (.int (hpI b) :: .int (hpI a) :: st) := fun H locs ls hl hP hS => lv_icmp_ge C.1 C.2.1 d ht (fun h => kt ((hpI_le hb ha).mp h) H locs ls hl hP hS) (fun h => kf (fun q => h ((hpI_le hb ha).mpr q)) H locs ls hl hP hS)
theorem h_if_ge (C : hpC p s m args c cc nL own D cy) {a off : Int} {tgt : Nat} (d : decode cc pc = .ok (.ifCond .ge off, 3)) (ht : (pc : Int) + off = (tgt : Int)) (ha : hpR a) (kt : 0 ≤ a → hpV p l e R s m args below meth c cells slots nL D cy z H0 Q σ tgt lv st) (kf : ¬ (0 ≤ a) → hpV p l e R s m args below meth c cells slots nL D cy z H0 Q σ (pc + 3) lv st) : hpV p l e R s m args below meth c cells slots nL D cy z H0 Q σ pc lv (.int (hpI a) :: st) := fun H locs ls hl hP hS => by
  have e := (hpI_le hpR_0 ha)
  rw [hpI_0] at e
  exact lv_if_ge C.1 C.2.1 d ht (fun h => kt (e.mp h) H locs ls hl hP hS) (fun h => kf (fun q => h (e.mpr q)) H locs ls hl hP hS)
theorem h_icmp_gt (C : hpC p s m args c cc nL own D cy) {a b off : Int} {tgt : Nat} (d : decode cc pc = .ok (.if_icmp .gt off, 3)) (ht : (pc : Int) + off = (tgt : Int)) (ha : hpR a) (hb : hpR b) (kt : b < a → hpV p l e R s m args below meth c cells slots nL D cy z H0 Q σ tgt lv st) (kf : ¬ (b < a) → hpV p l e R s m args below meth c cells slots nL D cy z H0 Q σ (pc + 3) lv st) : hpV p l e R s m args below meth c cells slots nL D cy z H0 Q σ pc lv (.int (hpI b) :: .int (hpI a) :: st) := fun H locs ls hl hP hS => lv_icmp_gt C.1 C.2.1 d ht (fun h => kt ((hpI_lt hb ha).mp h) H locs ls hl hP hS) (fun h => kf (fun q => h ((hpI_lt hb ha).mpr q)) H locs ls hl hP hS)
theorem h_if_gt (C : hpC p s m args c cc nL own D cy) {a off : Int} {tgt : Nat} (d : decode cc pc = .ok (.ifCond .gt off, 3)) (ht : (pc : Int) + off = (tgt : Int)) (ha : hpR a) (kt : 0 < a → hpV p l e R s m args below meth c cells slots nL D cy z H0 Q σ tgt lv st) (kf : ¬ (0 < a) → hpV p l e R s m args below meth c cells slots nL D cy z H0 Q σ (pc + 3) lv st) : hpV p l e R s m args below meth c cells slots nL D cy z H0 Q σ pc lv (.int (hpI a) :: st) := fun H locs ls hl hP hS => by
  have e := (hpI_lt hpR_0 ha)
  rw [hpI_0] at e
  exact lv_if_gt C.1 C.2.1 d ht (fun h => kt (e.mp h) H locs ls hl hP hS) (fun h => kf (fun q => h (e.mpr q)) H locs ls hl hP hS)
theorem h_icmp_le (C : hpC p s m args c cc nL own D cy) {a b off : Int} {tgt : Nat} (d : decode cc pc = .ok (.if_icmp .le off, 3)) (ht : (pc : Int) + off = (tgt : Int)) (ha : hpR a) (hb : hpR b) (kt : a ≤ b → hpV p l e R s m args below meth c cells slots nL D cy z H0 Q σ tgt lv st) (kf : ¬ (a ≤ b) → hpV p l e R s m args below meth c cells slots nL D cy z H0 Q σ (pc + 3) lv st) : hpV p l e R s m args below meth c cells slots nL D cy z H0 Q σ pc lv (.int (hpI b) :: .int (hpI a) :: st) := fun H locs ls hl hP hS => lv_icmp_le C.1 C.2.1 d ht (fun h => kt ((hpI_le ha hb).mp h) H locs ls hl hP hS) (fun h => kf (fun q => h ((hpI_le ha hb).mpr q)) H locs ls hl hP hS)
theorem h_if_le (C : hpC p s m args c cc nL own D cy) {a off : Int} {tgt : Nat} (d : decode cc pc = .ok (.ifCond .le off, 3)) (ht : (pc : Int) + off = (tgt : Int)) (ha : hpR a) (kt : a ≤ 0 → hpV p l e R s m args below meth c cells slots nL D cy z H0 Q σ tgt lv st) (kf : ¬ (a ≤ 0) → hpV p l e R s m args below meth c cells slots nL D cy z H0 Q σ (pc + 3) lv st) : hpV p l e R s m args below meth c cells slots nL D cy z H0 Q σ pc lv (.int (hpI a) :: st) := fun H locs ls hl hP hS => by
  have e := (hpI_le ha hpR_0)
  rw [hpI_0] at e
  exact lv_if_le C.1 C.2.1 d ht (fun h => kt (e.mp h) H locs ls hl hP hS) (fun h => kf (fun q => h (e.mpr q)) H locs ls hl hP hS)
theorem h_goto (C : hpC p s m args c cc nL own D cy) {off : Int} {tgt : Nat} (d : decode cc pc = .ok (.goto off, 3)) (ht : (pc : Int) + off = (tgt : Int)) (k : hpV p l e R s m args below meth c cells slots nL D cy z H0 Q σ tgt lv st) : hpV p l e R s m args below meth c cells slots nL D cy z H0 Q σ pc lv st := fun H locs ls hl hP hS => lv_goto C.1 C.2.1 d ht (k H locs ls hl hP hS)
theorem h_tableOut (C : hpC p s m args c cc nL own D cy) {a dflt lo hi : Int} {offs : Array Int} {len tgt : Nat} (d : decode cc pc = .ok (.tableswitch dflt lo hi offs, len)) (ha : hpR a) (h : a < lo ∨ hi < a) (ht : (pc : Int) + dflt = (tgt : Int)) (k : hpV p l e R s m args below meth c cells slots nL D cy z H0 Q σ tgt lv st) : hpV p l e R s m args below meth c cells slots nL D cy z H0 Q σ pc lv (.int (hpI a) :: st) := fun H locs ls hl hP hS => lv_tableOut C.1 C.2.1 d (by rw [hpI_toInt ha]; exact h) ht (k H locs ls hl hP hS)
theorem h_tableIn (C : hpC p s m args c cc nL own D cy) {a dflt lo hi off : Int} {offs : Array Int} {len tgt : Nat} (d : decode cc pc = .ok (.tableswitch dflt lo hi offs, len)) (ha : hpR a) (h1 : ¬ a < lo) (h2 : ¬ hi < a) (ho : offs[(a - lo).toNat]? = some off) (ht : (pc : Int) + off = (tgt : Int)) (k : hpV p l e R s m args below meth c cells slots nL D cy z H0 Q σ tgt lv st) : hpV p l e R s m args below meth c cells slots nL D cy z H0 Q σ pc lv (.int (hpI a) :: st) := fun H locs ls hl hP hS => lv_tableIn C.1 C.2.1 d (by rw [hpI_toInt ha]; exact h1) (by rw [hpI_toInt ha]; exact h2) (by rw [hpI_toInt ha]; exact ho) ht (k H locs ls hl hP hS)
theorem h_ireturn {post : Option Value → hpMem → Prop} (C : hpC p s m args c cc nL own D cy) {a : Int} (hr : meth.sig.returnType = some .int) (hk : meth.locks = false) (d : decode cc pc = .ok (.ireturn, 1)) (hp : post (some (.int (hpI a))) σ) : hpV p l e R s m args below meth c cells slots nL D cy z s.heap (MQ below (hpQ D cy z post) args s cells slots (fun q => z ≤ q)) σ pc lv ([.int (hpI a)]) := fun H locs ls hl hP hS => W.iret C.1 C.2.1 hr (fun t ht _ => ⟨⟨_, σ, rfl, hp, by rw [ht]; exact hP⟩, hS.F ht⟩) (fun q hq => hS.2.2 q hq) d hk
theorem h_zreturn {post : Option Value → hpMem → Prop} (C : hpC p s m args c cc nL own D cy) {a : Int} (ha : a = 0 ∨ a = 1) (hr : meth.sig.returnType = some .boolean) (hk : meth.locks = false) (d : decode cc pc = .ok (.ireturn, 1)) (hp : post (some (.int (hpI a))) σ) : hpV p l e R s m args below meth c cells slots nL D cy z s.heap (MQ below (hpQ D cy z post) args s cells slots (fun q => z ≤ q)) σ pc lv ([.int (hpI a)]) := fun H locs ls hl hP hS => W.zret C.1 C.2.1 hr (by rcases ha with rfl | rfl <;> decide) (fun t ht _ => ⟨⟨_, σ, rfl, hp, by rw [ht]; exact hP⟩, hS.F ht⟩) (fun q hq => hS.2.2 q hq) d hk
theorem h_lreturn {post : Option Value → hpMem → Prop} (C : hpC p s m args c cc nL own D cy) {a : Int} (hr : meth.sig.returnType = some .long) (hk : meth.locks = false) (d : decode cc pc = .ok (.lreturn, 1)) (hp : post (some (.long (hpJ a))) σ) : hpV p l e R s m args below meth c cells slots nL D cy z s.heap (MQ below (hpQ D cy z post) args s cells slots (fun q => z ≤ q)) σ pc lv ([.long (hpJ a)]) := fun H locs ls hl hP hS => W.lret C.1 C.2.1 hr (fun t ht _ => ⟨⟨_, σ, rfl, hp, by rw [ht]; exact hP⟩, hS.F ht⟩) (fun q hq => hS.2.2 q hq) d hk
theorem h_return {post : Option Value → hpMem → Prop} (C : hpC p s m args c cc nL own D cy)  (hr : meth.sig.returnType = none) (hk : meth.locks = false) (d : decode cc pc = .ok (.return_, 1)) (hp : post (none) σ) : hpV p l e R s m args below meth c cells slots nL D cy z s.heap (MQ below (hpQ D cy z post) args s cells slots (fun q => z ≤ q)) σ pc lv ([]) := fun H locs ls hl hP hS => W.vret C.1 C.2.1 hr (fun t ht _ => ⟨⟨_, σ, rfl, hp, by rw [ht]; exact hP⟩, hS.F ht⟩) (fun q hq => hS.2.2 q hq) d hk
theorem h_areturn {post : Option Value → hpMem → Prop} (C : hpC p s m args c cc nL own D cy) {a : Nat} {rt : FieldType} (hrt : (∃ n, rt = .object n) ∨ ∃ t, rt = .array t) (hr : meth.sig.returnType = some rt) (hk : meth.locks = false) (d : decode cc pc = .ok (.areturn, 1)) (hp : post (some (.ref a)) σ) : hpV p l e R s m args below meth c cells slots nL D cy z s.heap (MQ below (hpQ D cy z post) args s cells slots (fun q => z ≤ q)) σ pc lv [.ref a] := fun H locs ls hl hP hS => W.aret C.1 C.2.1 hr hrt (Or.inr ⟨a, rfl⟩) (fun t ht _ => ⟨⟨_, σ, rfl, hp, by rw [ht]; exact hP⟩, hS.F ht⟩) (fun q hq => hS.2.2 q hq) d hk
end HPR
end
section
section HPH
variable {p : Program} {l : Launch} {e : Env} {R : Room} {s : State} {m : MethodId} {args : Array Value} {below : List Frame} {meth : Method} {c : Code} {cells slots nL : Nat} {D : va_G} {cy : Nat → ClassId} {z : Nat} {H0 : Heap} {Q : State → Prop} {σ : hpMem} {pc : Nat} {lv : List (Nat × Value)} {st : List Value} {cc : ByteArray} {own : String}
/-- what is fixed of a class: its number, its name, its fields -/
def hpO (ci : Nat) (Cn : String) (T : u_T) (N : Nat) (ty : Nat → FieldType) : Prop := hpCl[ci]? = some (Cn, T, N) ∧ ci < 10 ∧ hpnf ci = N ∧ (∀ w ∈ u_ws Cn T N, w ∈ hpT) ∧ (∀ k, k < N → parseFieldDescriptor (T k).2.2.1 = some (ty k)) ∧ (∀ a, a < N → ∀ b, b < N → a ≠ b → (T a).2.1 ≠ (T b).2.1)
theorem hp_obj {z k ci N : Nat} {Cn : String} {T : u_T} {ty : Nat → FieldType} {σ : hpMem} {cy : Nat → ClassId} (O : hpO ci Cn T N ty) (hk : hpkd k = ci) : (hpW z cy σ)[k]? = some (z + k, .inr (ci, (List.range N).map (hpfv z k (σ k)))) := by
  rw [hpW_get (hpkd_lt hk (by have := O.2.1; omega)), hpE_o hk O.2.1, O.2.2.1]
theorem h_get {v : Value} {ci k N idx : Nat} {Cn : String} {T : u_T} {ty : Nat → FieldType} (C : hpC p s m args c cc nL own D cy) (O : hpO ci Cn T N ty) (i : Nat) (hk : hpkd k = ci) (hi : i < N) (hw : Cond.fieldLink own idx (T i).1 (T i).2.1 (T i).2.2.1 ∈ hpT) (d : decode cc pc = .ok (.getfield idx, 3)) (hv : hpfv z k (σ k) i = v)
    (kk : hpV p l e R s m args below meth c cells slots nL D cy z H0 Q σ (pc + 3) lv (v :: st)) : hpV p l e R s m args below meth c cells slots nL D cy z H0 Q σ pc lv (.ref (z + k) :: st) := fun H locs ls hl hP hS =>
  va_get C.1 C.2.1 C.2.2.2.2.1 O.2.2.2.1 C.2.2.2.1 C.2.2.2.2.2.2 hP k (hp_obj O hk) O.1 i hi (C.2.2.2.2.1 _ hw) (fun _ h => h) (by rw [hp_fget hi, hv]) d (kk H locs ls hl hP hS)
theorem h_getN {v : Value} {ci k N idx : Nat} {Cn host : String} {T : u_T} {ty : Nat → FieldType} (C : hpC p s m args c cc nL own D cy) (O : hpO ci Cn T N ty) (i : Nat) (hk : hpkd k = ci) (hi : i < N) (hw : hpN s → va_Nw (.fieldLinkNest own idx (T i).1 (T i).2.1 (T i).2.2.1 host) s) (d : decode cc pc = .ok (.getfield idx, 3)) (hv : hpfv z k (σ k) i = v)
    (kk : hpV p l e R s m args below meth c cells slots nL D cy z H0 Q σ (pc + 3) lv (v :: st)) : hpV p l e R s m args below meth c cells slots nL D cy z H0 Q σ pc lv (.ref (z + k) :: st) := fun H locs ls hl hP hS =>
  va_getN C.1 C.2.1 C.2.2.2.2.1 O.2.2.2.1 C.2.2.2.1 C.2.2.2.2.2.2 hP k (hp_obj O hk) O.1 i hi (va_Nw.use rfl (hw C.2.2.2.2.2.1)) (fun _ h => h) (by rw [hp_fget hi, hv]) d (kk H locs ls hl hP hS)
theorem hp_fvR {z k i k' : Nat} {r : Nat → Int} (hf : hpfk (hpkd k) i = 1) (hr : hprf k i = k') : hpfv z k r i = .ref (z + k') := by unfold hpfv; rw [if_pos hf, hr]
theorem hp_fvI {z k i : Nat} {r : Nat → Int} {a : Int} (hf : hpfk (hpkd k) i = 0) (hr : r i = a) : hpfv z k r i = .int (hpI a) := by unfold hpfv; rw [if_neg (by omega), if_neg (by omega), hr]
theorem hp_fvJ {z k i : Nat} {r : Nat → Int} {a : Int} (hf : hpfk (hpkd k) i = 2) (hr : r i = a) : hpfv z k r i = .long (hpJ a) := by unfold hpfv; rw [if_neg (by omega), if_pos hf, hr]
theorem hp_setO {z k ci N i : Nat} {Cn : String} {T : u_T} {ty : Nat → FieldType} {σ : hpMem} {cy : Nat → ClassId} {a : Int} {v : Value} (O : hpO ci Cn T N ty) (hk : hpkd k = ci) (hv : hpfv z k (hpu (σ k) i a) i = v) : (hpW z cy σ).set k (z + k, .inr (ci, ((List.range N).map (hpfv z k (σ k))).set i v)) = hpW z cy (hpw σ k i a) := by
  refine hpW_set ?_ (fun j hj => hpw_ne hj)
  rw [hpw_row, hpE_o hk O.2.1, O.2.2.1, hp_fset hv]
theorem hpu_at {r : Nat → Int} {i : Nat} {a : Int} : hpu r i a i = a := if_pos rfl
theorem h_put {v : Value} {a : Int} {ci k N idx : Nat} {Cn : String} {T : u_T} {ty : Nat → FieldType} (C : hpC p s m args c cc nL own D cy) (O : hpO ci Cn T N ty) (i : Nat) (hk : hpkd k = ci) (hi : i < N) (hfin : (T i).2.2.2 = false) (hw : Cond.fieldLink own idx (T i).1 (T i).2.1 (T i).2.2.1 ∈ hpT) (d : decode cc pc = .ok (.putfield idx, 3)) (hn : narrow (ty i) v = v) (hfit : fits (ty i) v = true) (hv : hpfv z k (hpu (σ k) i a) i = v)
    (kk : hpV p l e R s m args below meth c cells slots nL D cy z H0 Q (hpw σ k i a) (pc + 3) lv st) : hpV p l e R s m args below meth c cells slots nL D cy z H0 Q σ pc lv (v :: .ref (z + k) :: st) := fun H locs ls hl hP hS =>
  va_put C.1 C.2.1 C.2.2.2.2.1 O.2.2.2.1 ty O.2.2.2.2.1 O.2.2.2.2.2 C.2.2.2.1 C.2.2.2.2.2.2 hP hpW_D hS k (hp_obj O hk) O.1 i hi (C.2.2.2.2.1 _ hw) (fun _ h => h) hfin (O.2.2.2.2.1 i hi) hn hfit (by rw [List.length_map, List.length_range]; exact hi) d (fun H1 locs1 hP1 _ hS1 => kk H1 locs1 ls hl (by rw [hp_setO O hk hv] at hP1; exact hP1) hS1)
theorem h_putN {v : Value} {a : Int} {ci k N idx : Nat} {Cn host : String} {T : u_T} {ty : Nat → FieldType} (C : hpC p s m args c cc nL own D cy) (O : hpO ci Cn T N ty) (i : Nat) (hk : hpkd k = ci) (hi : i < N) (hfin : (T i).2.2.2 = false) (hw : hpN s → va_Nw (.fieldLinkNest own idx (T i).1 (T i).2.1 (T i).2.2.1 host) s) (d : decode cc pc = .ok (.putfield idx, 3)) (hn : narrow (ty i) v = v) (hfit : fits (ty i) v = true) (hv : hpfv z k (hpu (σ k) i a) i = v)
    (kk : hpV p l e R s m args below meth c cells slots nL D cy z H0 Q (hpw σ k i a) (pc + 3) lv st) : hpV p l e R s m args below meth c cells slots nL D cy z H0 Q σ pc lv (v :: .ref (z + k) :: st) := fun H locs ls hl hP hS =>
  va_putN C.1 C.2.1 C.2.2.2.2.1 O.2.2.2.1 ty O.2.2.2.2.1 O.2.2.2.2.2 C.2.2.2.1 C.2.2.2.2.2.2 hP hpW_D hS k (hp_obj O hk) O.1 i hi (va_Nw.use rfl (hw C.2.2.2.2.2.1)) (fun _ h => h) hfin (O.2.2.2.2.1 i hi) hn hfit (by rw [List.length_map, List.length_range]; exact hi) d (fun H1 locs1 hP1 _ hS1 => kk H1 locs1 ls hl (by rw [hp_setO O hk hv] at hP1; exact hP1) hS1)
/-! arrays -/
theorem hp_arrI {z k ci : Nat} {σ : hpMem} {cy : Nat → ClassId} (hk : hpkd k = ci) (hc : ci = 10 ∨ ci = 11 ∨ ci = 13) : (hpW z cy σ)[k]? = some (z + k, .inl (cy ci, hpln k, .inl (fun i => hpI (σ k i)))) := by rw [hpW_get (hpkd_lt hk (by omega)), hpE_i hk hc]
theorem hp_arrL {z k : Nat} {σ : hpMem} {cy : Nat → ClassId} (hk : hpkd k = 12) : (hpW z cy σ)[k]? = some (z + k, .inl (cy 12, hpln k, .inr (.inl (fun i => hpJ (σ k i))))) := by rw [hpW_get (hpkd_lt hk (by omega)), hpE_l hk]
theorem hp_arrQ {z k ci : Nat} {σ : hpMem} {cy : Nat → ClassId} (hk : hpkd k = ci) (hc : 14 ≤ ci) (h2 : ci < 99) : (hpW z cy σ)[k]? = some (z + k, .inl (cy ci, hpln k, .inr (.inr (.inr (.inr (fun i => some (z + hprf k i))))))) := by rw [hpW_get (hpkd_lt hk h2), hpE_q hk hc]
theorem hp_ix {a : Int} {i n : Nat} (hi : (i : Int) = a) (h : i < n) (hn : n < 2147483648) : vp_in (hpI a) n := hpI_in (by omega) (by omega) hn
theorem hp_ixn {a : Int} {i n : Nat} (hi : (i : Int) = a) (h : i < n) (hn : n < 2147483648) : (hpI a).toNatClampNeg = i := by rw [hpI_clamp ⟨by omega, by omega⟩]; omega
theorem hp_lnb (k : Nat) : hpln k < 2147483648 := by
  unfold hpln
  rcases Nat.lt_or_ge k 217 with q | q
  · have h : ∀ j, j < 217 → hpLs.getD j 0 < 2147483648 := by decide +kernel
    exact h k q
  · rw [List.getD_eq_getElem?_getD, List.getElem?_eq_none (Nat.le_trans (by decide +kernel : hpLs.length ≤ 217) q)]
    decide
theorem h_iaload {a b : Int} {k : Nat} (C : hpC p s m args c cc nL own D cy) (d : decode cc pc = .ok (.iaload, 1)) (hk : hpkd k = 11) (i : Nat) (hi : (i : Int) = a) (h : i < hpln k) (hb : σ k i = b) (kk : hpV p l e R s m args below meth c cells slots nL D cy z H0 Q σ (pc + 1) lv (.int (hpI b) :: st)) : hpV p l e R s m args below meth c cells slots nL D cy z H0 Q σ pc lv (.int (hpI a) :: .ref (z + k) :: st) := fun H locs ls hl hP hS =>
  va_iald C.1 C.2.1 C.2.2.2.2.2.2 hP k 1 (hp_arrI hk (by omega)) rfl (hp_ix hi h (hp_lnb k)) d (by rw [hp_ixn hi h (hp_lnb k), hb]; exact kk H locs ls hl hP hS)
theorem h_baload {a b : Int} {k : Nat} (C : hpC p s m args c cc nL own D cy) (d : decode cc pc = .ok (.baload, 1)) (hk : hpkd k = 10) (i : Nat) (hi : (i : Int) = a) (h : i < hpln k) (hb : σ k i = b) (kk : hpV p l e R s m args below meth c cells slots nL D cy z H0 Q σ (pc + 1) lv (.int (hpI b) :: st)) : hpV p l e R s m args below meth c cells slots nL D cy z H0 Q σ pc lv (.int (hpI a) :: .ref (z + k) :: st) := fun H locs ls hl hP hS =>
  va_bald C.1 C.2.1 C.2.2.2.2.2.2 hP k 0 (hp_arrI hk (by omega)) rfl (hp_ix hi h (hp_lnb k)) d (by rw [hp_ixn hi h (hp_lnb k), hb]; exact kk H locs ls hl hP hS)
theorem h_zaload {a b : Int} {k : Nat} (C : hpC p s m args c cc nL own D cy) (d : decode cc pc = .ok (.baload, 1)) (hk : hpkd k = 13) (i : Nat) (hi : (i : Int) = a) (h : i < hpln k) (hb : σ k i = b) (kk : hpV p l e R s m args below meth c cells slots nL D cy z H0 Q σ (pc + 1) lv (.int (hpI b) :: st)) : hpV p l e R s m args below meth c cells slots nL D cy z H0 Q σ pc lv (.int (hpI a) :: .ref (z + k) :: st) := fun H locs ls hl hP hS =>
  va_zald C.1 C.2.1 C.2.2.2.2.2.2 hP k 3 (hp_arrI hk (by omega)) rfl (hp_ix hi h (hp_lnb k)) d (by rw [hp_ixn hi h (hp_lnb k), hb]; exact kk H locs ls hl hP hS)
theorem h_laload {a b : Int} {k : Nat} (C : hpC p s m args c cc nL own D cy) (d : decode cc pc = .ok (.laload, 1)) (hk : hpkd k = 12) (i : Nat) (hi : (i : Int) = a) (h : i < hpln k) (hb : σ k i = b) (kk : hpV p l e R s m args below meth c cells slots nL D cy z H0 Q σ (pc + 1) lv (.long (hpJ b) :: st)) : hpV p l e R s m args below meth c cells slots nL D cy z H0 Q σ pc lv (.int (hpI a) :: .ref (z + k) :: st) := fun H locs ls hl hP hS =>
  va_lald C.1 C.2.1 C.2.2.2.2.2.2 hP k 2 (hp_arrL hk) rfl (hp_ix hi h (hp_lnb k)) d (by rw [hp_ixn hi h (hp_lnb k), hb]; exact kk H locs ls hl hP hS)
theorem h_aaload {a : Int} {k ci k' t0 : Nat} {Cn : String} (C : hpC p s m args c cc nL own D cy) (d : decode cc pc = .ok (.aaload, 1)) (hk : hpkd k = ci) (hc : 14 ≤ ci) (h2 : ci < 99) (ht : (hpTy cy)[t0]? = some (cy ci, .object Cn)) (i : Nat) (hi : (i : Int) = a) (h : i < hpln k) (hb : hprf k i = k') (kk : hpV p l e R s m args below meth c cells slots nL D cy z H0 Q σ (pc + 1) lv (.ref (z + k') :: st)) : hpV p l e R s m args below meth c cells slots nL D cy z H0 Q σ pc lv (.int (hpI a) :: .ref (z + k) :: st) := fun H locs ls hl hP hS =>
  va_aldq C.1 C.2.1 C.2.2.2.2.2.2 hP k t0 (hp_arrQ hk hc h2) ht (hp_ix hi h (hp_lnb k)) d (by rw [hp_ixn hi h (hp_lnb k), hb]; exact kk H locs ls hl hP hS)
theorem hp_updI {r : Nat → Int} {i : Nat} {b : Int} : upd (fun j => hpI (r j)) i (hpI b) = fun j => hpI (hpu r i b j) := by
  funext j
  unfold upd hpu
  by_cases h : j = i
  · rw [if_pos h, if_pos h]
  · rw [if_neg h, if_neg h]
theorem hp_updL {r : Nat → Int} {i : Nat} {b : Int} : vp_updL (fun j => hpJ (r j)) i (hpJ b) = fun j => hpJ (hpu r i b j) := by
  funext j
  unfold vp_updL hpu
  by_cases h : j = i
  · rw [if_pos h, if_pos h]
  · rw [if_neg h, if_neg h]
theorem hp_setI {z k ci i : Nat} {σ : hpMem} {cy : Nat → ClassId} {b : Int} (hk : hpkd k = ci) (hc : ci = 10 ∨ ci = 11 ∨ ci = 13) : (hpW z cy σ).set k (z + k, .inl (cy ci, hpln k, .inl (fun j => hpI (hpu (σ k) i b j)))) = hpW z cy (hpw σ k i b) := hpW_set (by rw [hpw_row, hpE_i hk hc]) (fun j hj => hpw_ne hj)
theorem hp_setL {z k i : Nat} {σ : hpMem} {cy : Nat → ClassId} {b : Int} (hk : hpkd k = 12) : (hpW z cy σ).set k (z + k, .inl (cy 12, hpln k, .inr (.inl (fun j => hpJ (hpu (σ k) i b j))))) = hpW z cy (hpw σ k i b) := hpW_set (by rw [hpw_row, hpE_l hk]) (fun j hj => hpw_ne hj)
theorem h_iastore {a b : Int} {k : Nat} (C : hpC p s m args c cc nL own D cy) (d : decode cc pc = .ok (.iastore, 1)) (hk : hpkd k = 11) (i : Nat) (hi : (i : Int) = a) (h : i < hpln k) (kk : hpV p l e R s m args below meth c cells slots nL D cy z H0 Q (hpw σ k i b) (pc + 1) lv st) : hpV p l e R s m args below meth c cells slots nL D cy z H0 Q σ pc lv (.int (hpI b) :: .int (hpI a) :: .ref (z + k) :: st) := fun H locs ls hl hP hS =>
  va_iast C.1 C.2.1 C.2.2.2.2.2.2 hP hpW_D hS k 1 (hp_arrI hk (by omega)) rfl (hp_ix hi h (hp_lnb k)) d (fun H1 locs1 hP1 _ hS1 => kk H1 locs1 ls hl (by rw [hp_ixn hi h (hp_lnb k), hp_updI, hp_setI hk (by omega)] at hP1; exact hP1) hS1)
theorem hp_nb {b : Int} (h1 : -128 ≤ b) (h2 : b < 128) : vp_nar .byte (hpI b) = hpI b := by
  rw [vp_nar_byte, ← Int32.toInt_inj]
  show (Int32.ofInt (hpI b).toInt8.toInt).toInt = _
  have e : (hpI b).toInt8.toInt = b := by
    show (Int32.ofInt b).toInt8.toInt = b
    rw [Int32.toInt8_ofInt, Int8.toInt_ofInt_of_le h1 h2]
  rw [e]
  rfl
theorem h_bastore {a b : Int} {k : Nat} (C : hpC p s m args c cc nL own D cy) (d : decode cc pc = .ok (.bastore, 1)) (hk : hpkd k = 10) (h1 : -128 ≤ b) (h2 : b < 128) (i : Nat) (hi : (i : Int) = a) (h : i < hpln k) (kk : hpV p l e R s m args below meth c cells slots nL D cy z H0 Q (hpw σ k i b) (pc + 1) lv st) : hpV p l e R s m args below meth c cells slots nL D cy z H0 Q σ pc lv (.int (hpI b) :: .int (hpI a) :: .ref (z + k) :: st) := fun H locs ls hl hP hS =>
  va_bast C.1 C.2.1 C.2.2.2.2.2.2 hP hpW_D hS k 0 (hp_arrI hk (by omega)) rfl (hp_ix hi h (hp_lnb k)) d (fun H1 locs1 hP1 _ hS1 => kk H1 locs1 ls hl (by rw [hp_ixn hi h (hp_lnb k), hp_nb h1 h2, hp_updI, hp_setI hk (by omega)] at hP1; exact hP1) hS1)
theorem h_zastore {a b : Int} {k : Nat} (C : hpC p s m args c cc nL own D cy) (d : decode cc pc = .ok (.bastore, 1)) (hk : hpkd k = 13) (h1 : b = 0 ∨ b = 1) (i : Nat) (hi : (i : Int) = a) (h : i < hpln k) (kk : hpV p l e R s m args below meth c cells slots nL D cy z H0 Q (hpw σ k i b) (pc + 1) lv st) : hpV p l e R s m args below meth c cells slots nL D cy z H0 Q σ pc lv (.int (hpI b) :: .int (hpI a) :: .ref (z + k) :: st) := fun H locs ls hl hP hS =>
  va_zast C.1 C.2.1 C.2.2.2.2.2.2 hP hpW_D hS k 3 (hp_arrI hk (by omega)) rfl (hp_ix hi h (hp_lnb k)) d (fun H1 locs1 hP1 _ hS1 => kk H1 locs1 ls hl (by rw [hp_ixn hi h (hp_lnb k), show vp_nar .boolean (hpI b) = hpI b by (rcases h1 with rfl | rfl <;> decide), hp_updI, hp_setI hk (by omega)] at hP1; exact hP1) hS1)
theorem h_lastore {a b : Int} {k : Nat} (C : hpC p s m args c cc nL own D cy) (d : decode cc pc = .ok (.lastore, 1)) (hk : hpkd k = 12) (i : Nat) (hi : (i : Int) = a) (h : i < hpln k) (kk : hpV p l e R s m args below meth c cells slots nL D cy z H0 Q (hpw σ k i b) (pc + 1) lv st) : hpV p l e R s m args below meth c cells slots nL D cy z H0 Q σ pc lv (.long (hpJ b) :: .int (hpI a) :: .ref (z + k) :: st) := fun H locs ls hl hP hS =>
  va_last C.1 C.2.1 C.2.2.2.2.2.2 hP hpW_D hS k 2 (hp_arrL hk) rfl (hp_ix hi h (hp_lnb k)) d (fun H1 locs1 hP1 _ hS1 => kk H1 locs1 ls hl (by rw [hp_ixn hi h (hp_lnb k), hp_updL, hp_setL hk] at hP1; exact hP1) hS1)
/-- numbers of a row put over those of another -/
def hpcp (f g : Nat → Int) (sp dp n : Nat) : Nat → Int := fun j => if dp ≤ j ∧ j < dp + n then f (sp + (j - dp)) else g j
def hpwr (σ : hpMem) (k : Nat) (r : Nat → Int) : hpMem := fun j => if j = k then r else σ j
theorem hp_cpy {f g : Nat → Int} {sp dp n : Nat} : va_cpy (fun j => hpI (f j)) (fun j => hpI (g j)) sp dp n = fun j => hpI (hpcp f g sp dp n j) := by
  funext j
  by_cases h : dp ≤ j ∧ j < dp + n
  · rw [pk_cpy_in h.1 h.2]
    unfold hpcp
    rw [if_pos h]
  · rw [pk_cpy_out (by omega)]
    unfold hpcp
    rw [if_neg h]
theorem h_copyI {sp dp n : Int} {k k' idx : Nat} (C : hpC p s m args c cc nL own D cy) (w1 : Cond.methodLink own idx arraycopyName ∈ hpT) (w2 : Cond.native arraycopyName ∈ hpT) (w3 : Cond.static arraycopyName ∈ hpT) (w4 : Cond.initialized "java/lang/System" ∈ hpT) (d : decode cc pc = .ok (.invokestatic idx, 3)) (hk : hpkd k = 11) (hk' : hpkd k' = 11) (i j q : Nat) (hi : (i : Int) = sp) (hj : (j : Int) = dp) (hq : (q : Int) = n) (h1 : i + q ≤ hpln k) (h2 : j + q ≤ hpln k')
    (hf : 1 ≤ R.frames) (hlo : (st.map fun v => v.category).sum + (nativeFrameWords "java/lang/System" "arraycopy" 5 + 11) ≤ R.locals) (kk : hpV p l e R s m args below meth c cells slots nL D cy z H0 Q (hpwr σ k' (hpcp (σ k) (σ k') i j q)) (pc + 3) lv st) : hpV p l e R s m args below meth c cells slots nL D cy z H0 Q σ pc lv (.int (hpI n) :: .int (hpI dp) :: .ref (z + k') :: .int (hpI sp) :: .ref (z + k) :: st) := fun H locs ls hl hP hS => by
  have b1 := hp_lnb k
  have b2 := hp_lnb k'
  have rs : hpR sp := ⟨by omega, by omega⟩
  have rd : hpR dp := ⟨by omega, by omega⟩
  have rn : hpR n := ⟨by omega, by omega⟩
  have e1 : (hpI sp).toNatClampNeg = i := by rw [hpI_clamp rs]; omega
  have e2 : (hpI dp).toNatClampNeg = j := by rw [hpI_clamp rd]; omega
  have e3 : (hpI n).toNatClampNeg = q := by rw [hpI_clamp rn]; omega
  have g : ∀ {a : Int}, hpR a → 0 ≤ a → ¬ hpI a < 0 := fun {a} ha h0 hh => by rw [← hpI_0, hpI_lt ha hpR_0] at hh; omega
  refine va_copyi C.1 C.2.1 (C.2.2.1.trans hl.1.symm) C.2.2.2.1 (C.2.2.2.2.1 _ w1) (C.2.2.2.2.1 _ w2) (C.2.2.2.2.1 _ w3) (C.2.2.2.2.1 _ w4) C.2.2.2.2.2.2 hP hpW_D hS k k' 1 1 (hp_arrI hk (by omega)) (hp_arrI hk' (by omega)) rfl rfl rfl (g rs (by omega)) (g rd (by omega)) (g rn (by omega)) (by rw [e1, e3]; exact h1) (by rw [e2, e3]; exact h2) (fun _ _ => rfl) hf hlo d (fun H1 locs1 hP1 _ hS1 => kk H1 locs1 ls hl ?_ hS1)
  rw [e1, e2, e3, hp_cpy, hpW_set (τ := hpwr σ k' (hpcp (σ k) (σ k') i j q)) (by unfold hpwr; rw [if_pos rfl, hpE_i hk' (by omega)]) (fun j hj => if_neg hj)] at hP1
  exact hP1
/-! calls -/
/-- what is fixed of a method of the class ci -/
def hpY (y : MethodName) (bytes : ByteArray) (maxL : Nat) (ret : Option FieldType) (n ci : Nat) : Prop := (∃ (T : u_T) (N : Nat) (ty : Nat → FieldType), hpO ci y.cls T N ty) ∧ Cond.instanceMethod y ∈ hpT ∧ Cond.selects y.cls y y ∈ hpT ∧ Cond.initialized y.cls ∈ hpT ∧ Cond.code y bytes maxL ret ∈ hpT ∧ y.cls ≠ "java/lang/invoke/MethodHandle" ∧ y.cls ≠ "java/lang/invoke/VarHandle" ∧ (parseMethodDescriptor y.desc).map (fun d => d.parameters.length) = some n
def hpYS (y : MethodName) (bytes : ByteArray) (maxL : Nat) (ret : Option FieldType) (n : Nat) : Prop := Cond.static y ∈ hpT ∧ Cond.initialized y.cls ∈ hpT ∧ Cond.code y bytes maxL ret ∈ hpT ∧ y.cls ≠ "java/lang/invoke/MethodHandle" ∧ y.cls ≠ "java/lang/invoke/VarHandle" ∧ (parseMethodDescriptor y.desc).map (fun d => d.parameters.length) = some n
theorem hp_run {y : MethodName} {bytes : ByteArray} {maxL : Nat} {ret : Option FieldType} {rm : Room} {a : Array Value} {post : Option Value → hpMem → Prop} {H : Heap} {locs : List Loc} {ls : Array Slot} {st0 rest : List Value} (hl : lv_has ls nL lv) (hS : va_S (fun q => z ≤ q) H0 H locs)
    (hr : va_Run p l e R s m args below meth c H locs cells slots 0 0 (F0 m pc ls st0) rest (hpQ D cy z post a) (fun q => z ≤ q)) (kk : ∀ (r : Option Value) (τ : hpMem), post r τ → hpV p l e R s m args below meth c cells slots nL D cy z H0 Q τ (pc + 3) lv (r.toList ++ rest)) : W p l e R s m args below meth c H locs cells slots Q (F0 m pc ls st0) := by
  intro T hT X
  obtain ⟨v, st₀, t, T', L, h0, X', hL, e1, e2, ⟨⟨r, τ, hv, hp, hb⟩, hz, hk⟩, stp⟩ := hr T hT X
  cases hv
  rw [h0] at hz hk
  obtain ⟨t2, a1, b1⟩ := kk v τ hp T'.heap (locs ++ L) ls hl (by rw [e1]; exact hb)
    ⟨Nat.le_trans hS.1 (by rw [e1]; exact hz), fun q h1 h2 => by rw [e1, hk q (Nat.lt_of_lt_of_le h1 hS.1) h2]; exact hS.2.1 q h1 h2, fun q hq => by
      rcases List.mem_append.mp hq with h | h
      · exact hS.2.2 q h
      · exact hL q h⟩ T' rfl X'
  exact ⟨t2, stp t2 a1, b1⟩
theorem hp_blind {av : List Value} {σ : hpMem} : FrameBlind (va_Pc av (hpPre D cy z σ)) := fun a U g mk q => by
  obtain ⟨q0, qP, qK, qN⟩ := q
  exact ⟨q0, qP, va_K.moved (u := U) (U := U.calling g mk a) (Vm.Alike.refl U.vm) qK, fun w hw hn => va_Nw.same (u := U) (U := U.calling g mk a) (by cases w <;> first | rfl | (simp [hpNest] at hn)) rfl (qN w hw hn)⟩
theorem h_callV {y : MethodName} {bytes : ByteArray} {maxL : Nat} {ret : Option FieldType} {rm : Room} {k ci n idx : Nat} {As rest : List Value} {post : Option Value → hpMem → Prop} (C : hpC p s m args c cc nL own D cy) (Y : hpY y bytes maxL ret n ci) (w : Cond.methodLink own idx y ∈ hpT) (hM : hpM l D cy z y bytes maxL ret rm (.ref (z + k) :: As) σ post) (hk : hpkd k = ci) (hn : As.length = n) (hst : st = As.reverse ++ .ref (z + k) :: rest) (hR : rm.cells = 0 ∧ rm.slots = 0 ∧ rm.frames + 1 ≤ R.frames ∧ 8 + (maxL + 11) + rm.locals ≤ R.locals) (hf : cells ≤ R.cells ∧ slots ≤ R.slots) (hw8 : (rest.map fun v => v.category).sum ≤ 8) (d : decode cc pc = .ok (.invokevirtual idx, 3))
    (kk : ∀ (r : Option Value) (τ : hpMem), post r τ → hpV p l e R s m args below meth c cells slots nL D cy z H0 Q τ (pc + 3) lv (r.toList ++ rest)) : hpV p l e R s m args below meth c cells slots nL D cy z H0 Q σ pc lv st := fun H locs ls hl hP hS => by
  obtain ⟨⟨T, N, ty, O⟩, y1, y2, y3, y4, y5, y6, y7⟩ := Y
  have hts : ∀ w ∈ (Cond.initialized y.cls :: hpT), w.before args s = true := fun w hw => by
    rcases List.mem_cons.mp hw with h | h
    · subst h; exact C.2.2.2.2.1 _ y3
    · exact C.2.2.2.2.1 _ h
  refine hp_run (y := y) (bytes := bytes) (maxL := maxL) (ret := ret) (rm := rm) hl hS (va_runV (C := y.cls) (Ts := Cond.initialized y.cls :: hpT) (As := As) (rest := rest) ⟨C.1, C.2.1, C.2.2.1, C.2.2.2.1, hts⟩ hM (cwV n hts ?_ rfl hR.1 hR.2.1 ⟨rfl, y5, y6, y7⟩ hR.2.2) ⟨hp_blind, va_recv C.2.2.2.2.2.2 hP O.1 (hp_obj O hk), fun U hU hW => ⟨rfl, by rw [hU]; exact hP, va_K.moved hW.alike C.2.2.2.2.2.2, C.2.2.2.2.2.1.warm hW⟩⟩ rfl hn hl.1 hst (lv_room hw8) d hf) kk
  intro w' hw'
  unfold wsV at hw'
  rcases List.mem_append.mp hw' with h | h
  · simp only [List.mem_cons, List.not_mem_nil, or_false] at h
    rcases h with h | h | h | h <;> (subst h; exact hp_goodT _ (by assumption))
  · exact hp_good y4 _ h
theorem h_callVN {y : MethodName} {bytes : ByteArray} {maxL : Nat} {ret : Option FieldType} {rm : Room} {k ci n idx : Nat} {host : String} {As rest : List Value} {post : Option Value → hpMem → Prop} (C : hpC p s m args c cc nL own D cy) (Y : hpY y bytes maxL ret n ci) (w : hpN s → va_Nw (.methodLinkNest own idx y host) s) (hM : hpM l D cy z y bytes maxL ret rm (.ref (z + k) :: As) σ post) (hk : hpkd k = ci) (hn : As.length = n) (hst : st = As.reverse ++ .ref (z + k) :: rest) (hR : rm.cells = 0 ∧ rm.slots = 0 ∧ rm.frames + 1 ≤ R.frames ∧ 8 + (maxL + 11) + rm.locals ≤ R.locals) (hf : cells ≤ R.cells ∧ slots ≤ R.slots) (hw8 : (rest.map fun v => v.category).sum ≤ 8) (d : decode cc pc = .ok (.invokevirtual idx, 3))
    (kk : ∀ (r : Option Value) (τ : hpMem), post r τ → hpV p l e R s m args below meth c cells slots nL D cy z H0 Q τ (pc + 3) lv (r.toList ++ rest)) : hpV p l e R s m args below meth c cells slots nL D cy z H0 Q σ pc lv st := fun H locs ls hl hP hS => by
  obtain ⟨⟨T, N, ty, O⟩, y1, y2, y3, y4, y5, y6, y7⟩ := Y
  have hts : ∀ w ∈ (Cond.initialized y.cls :: hpT), w.before args s = true := fun w hw => by
    rcases List.mem_cons.mp hw with h | h
    · subst h; exact C.2.2.2.2.1 _ y3
    · exact C.2.2.2.2.1 _ h
  exact hp_run (y := y) (bytes := bytes) (maxL := maxL) (ret := ret) (rm := rm) hl hS (va_runVN (C := y.cls) (Ts := Cond.initialized y.cls :: hpT) (As := As) (rest := rest) ⟨C.1, C.2.1, C.2.2.1, C.2.2.2.1, hts⟩ hM ⟨va_cnB n hts (hp_good y4) rfl hR.1 hR.2.1 (w C.2.2.2.2.2.1) (C.2.2.2.2.1 _ y3) ⟨y5, y6, y7⟩ hR.2.2, C.2.2.2.2.1 _ y1, C.2.2.2.2.1 _ y2⟩ ⟨hp_blind, va_recv C.2.2.2.2.2.2 hP O.1 (hp_obj O hk), fun U hU hW => ⟨rfl, by rw [hU]; exact hP, va_K.moved hW.alike C.2.2.2.2.2.2, C.2.2.2.2.2.1.warm hW⟩⟩ rfl hn hl.1 hst (lv_room hw8) d hf) kk
theorem h_callS {y : MethodName} {bytes : ByteArray} {maxL : Nat} {ret : Option FieldType} {rm : Room} {n idx : Nat} {As rest : List Value} {post : Option Value → hpMem → Prop} (C : hpC p s m args c cc nL own D cy) (Y : hpYS y bytes maxL ret n) (ho : y.cls = own) (w : Cond.methodLink own idx y ∈ hpT) (hM : hpM l D cy z y bytes maxL ret rm As σ post) (hn : As.length = n) (hst : st = As.reverse ++ rest) (hR : rm.cells = 0 ∧ rm.slots = 0 ∧ rm.frames + 1 ≤ R.frames ∧ 8 + (maxL + 11) + rm.locals ≤ R.locals) (hf : cells ≤ R.cells ∧ slots ≤ R.slots) (hw8 : (rest.map fun v => v.category).sum ≤ 8) (d : decode cc pc = .ok (.invokestatic idx, 3))
    (kk : ∀ (r : Option Value) (τ : hpMem), post r τ → hpV p l e R s m args below meth c cells slots nL D cy z H0 Q τ (pc + 3) lv (r.toList ++ rest)) : hpV p l e R s m args below meth c cells slots nL D cy z H0 Q σ pc lv st := fun H locs ls hl hP hS => by
  obtain ⟨y1, y3, y4, y5, y6, y7⟩ := Y
  subst ho
  have hts : ∀ w ∈ (Cond.initialized y.cls :: hpT), w.before args s = true := fun w hw => by
    rcases List.mem_cons.mp hw with h | h
    · subst h; exact C.2.2.2.2.1 _ y3
    · exact C.2.2.2.2.1 _ h
  refine hp_run (y := y) (bytes := bytes) (maxL := maxL) (ret := ret) (rm := rm) hl hS (va_runS (Ts := Cond.initialized y.cls :: hpT) (As := As) (rest := rest) ⟨C.1, C.2.1, C.2.2.1, C.2.2.2.1, hts⟩ hM (cwS n hts ?_ rfl hR.1 hR.2.1 ⟨rfl, y5, y6, y7⟩ hR.2.2) ⟨hp_blind, fun U hU hW => ⟨rfl, by rw [hU]; exact hP, va_K.moved hW.alike C.2.2.2.2.2.2, C.2.2.2.2.2.1.warm hW⟩⟩ rfl hn hl.1 hst (lv_room hw8) d hf) kk
  intro w' hw'
  unfold wsS at hw'
  rcases List.mem_append.mp hw' with h | h
  · simp only [List.mem_cons, List.not_mem_nil, or_false] at h
    rcases h with h | h | h <;> (subst h; exact hp_goodT _ (by assumption))
  · exact hp_good y4 _ h
end HPH
end
